section
theorem xr_59_0 : X_row 59 0 = some (0, (.lload_n 0, 1), (0, 0, 0)) := by decide +kernel
theorem xr_59_1 : X_row 59 1 = some (1, (.ldc2_w 95, 3), (1918987883, 560, 0)) := by decide +kernel
theorem xr_59_4 : X_row 59 4 = some (4, (.lcmp, 1), (0, 0, 0)) := by decide +kernel
theorem xr_59_5 : X_row 59 5 = some (5, (.ifCond .eq 51, 3), (0, 0, 0)) := by decide +kernel
theorem xr_59_8 : X_row 59 8 = some (8, (.lload_n 0, 1), (0, 0, 0)) := by decide +kernel
theorem xr_59_9 : X_row 59 9 = some (9, (.ldc2_w 97, 3), (32766990153442674, 561, 0)) := by decide +kernel
theorem xr_59_12 : X_row 59 12 = some (12, (.lcmp, 1), (0, 0, 0)) := by decide +kernel
theorem xr_59_13 : X_row 59 13 = some (13, (.ifCond .eq 43, 3), (0, 0, 0)) := by decide +kernel
theorem xr_59_16 : X_row 59 16 = some (16, (.lload_n 0, 1), (0, 0, 0)) := by decide +kernel
theorem xr_59_17 : X_row 59 17 = some (17, (.ldc2_w 99, 3), (1802071652, 562, 0)) := by decide +kernel
theorem xr_59_20 : X_row 59 20 = some (20, (.lcmp, 1), (0, 0, 0)) := by decide +kernel
theorem xr_59_21 : X_row 59 21 = some (21, (.ifCond .eq 35, 3), (0, 0, 0)) := by decide +kernel
theorem xr_59_24 : X_row 59 24 = some (24, (.lload_n 0, 1), (0, 0, 0)) := by decide +kernel
theorem xr_59_25 : X_row 59 25 = some (25, (.ldc2_w 101, 3), (504363246962, 563, 0)) := by decide +kernel
theorem xr_59_28 : X_row 59 28 = some (28, (.lcmp, 1), (0, 0, 0)) := by decide +kernel
theorem xr_59_29 : X_row 59 29 = some (29, (.ifCond .eq 27, 3), (0, 0, 0)) := by decide +kernel
theorem xr_59_32 : X_row 59 32 = some (32, (.lload_n 0, 1), (0, 0, 0)) := by decide +kernel
theorem xr_59_33 : X_row 59 33 = some (33, (.ldc2_w 103, 3), (2003792484, 564, 0)) := by decide +kernel
theorem xr_59_36 : X_row 59 36 = some (36, (.lcmp, 1), (0, 0, 0)) := by decide +kernel
theorem xr_59_37 : X_row 59 37 = some (37, (.ifCond .eq 19, 3), (0, 0, 0)) := by decide +kernel
theorem xr_59_40 : X_row 59 40 = some (40, (.lload_n 0, 1), (0, 0, 0)) := by decide +kernel
theorem xr_59_41 : X_row 59 41 = some (41, (.ldc2_w 105, 3), (1818584692, 565, 0)) := by decide +kernel
theorem xr_59_44 : X_row 59 44 = some (44, (.lcmp, 1), (0, 0, 0)) := by decide +kernel
theorem xr_59_45 : X_row 59 45 = some (45, (.ifCond .eq 11, 3), (0, 0, 0)) := by decide +kernel
theorem xr_59_48 : X_row 59 48 = some (48, (.lload_n 0, 1), (0, 0, 0)) := by decide +kernel
theorem xr_59_49 : X_row 59 49 = some (49, (.ldc2_w 107, 3), (491394656372, 566, 0)) := by decide +kernel
theorem xr_59_52 : X_row 59 52 = some (52, (.lcmp, 1), (0, 0, 0)) := by decide +kernel
theorem xr_59_53 : X_row 59 53 = some (53, (.ifCond .ne 7, 3), (0, 0, 0)) := by decide +kernel
theorem xr_59_56 : X_row 59 56 = some (56, (.iconst 1, 1), (0, 0, 0)) := by decide +kernel
theorem xr_59_57 : X_row 59 57 = some (57, (.goto 4, 3), (0, 0, 0)) := by decide +kernel
theorem xr_59_60 : X_row 59 60 = some (60, (.iconst 0, 1), (0, 0, 0)) := by decide +kernel
theorem xr_59_61 : X_row 59 61 = some (61, (.ireturn, 1), (0, 0, 0)) := by decide +kernel
theorem xr_60_0 : X_row 60 0 = some (0, (.iload_n 0, 1), (0, 0, 0)) := by decide +kernel
theorem xr_60_1 : X_row 60 1 = some (1, (.bipush 97, 2), (0, 0, 0)) := by decide +kernel
theorem xr_60_3 : X_row 60 3 = some (3, (.if_icmp .lt 13, 3), (0, 0, 0)) := by decide +kernel
theorem xr_60_6 : X_row 60 6 = some (6, (.iload_n 0, 1), (0, 0, 0)) := by decide +kernel
theorem xr_60_7 : X_row 60 7 = some (7, (.bipush 122, 2), (0, 0, 0)) := by decide +kernel
theorem xr_60_9 : X_row 60 9 = some (9, (.if_icmp .gt 7, 3), (0, 0, 0)) := by decide +kernel
theorem xr_60_12 : X_row 60 12 = some (12, (.iconst 1, 1), (0, 0, 0)) := by decide +kernel
theorem xr_60_13 : X_row 60 13 = some (13, (.goto 4, 3), (0, 0, 0)) := by decide +kernel
theorem xr_60_16 : X_row 60 16 = some (16, (.iconst 0, 1), (0, 0, 0)) := by decide +kernel
theorem xr_60_17 : X_row 60 17 = some (17, (.ireturn, 1), (0, 0, 0)) := by decide +kernel
theorem xr_61_0 : X_row 61 0 = some (0, (.iload_n 0, 1), (0, 0, 0)) := by decide +kernel
theorem xr_61_1 : X_row 61 1 = some (1, (.invokestatic 60, 3), (60, 6, 0)) := by decide +kernel
theorem xr_61_4 : X_row 61 4 = some (4, (.ifCond .ne 10, 3), (0, 0, 0)) := by decide +kernel
theorem xr_61_7 : X_row 61 7 = some (7, (.iload_n 0, 1), (0, 0, 0)) := by decide +kernel
theorem xr_61_8 : X_row 61 8 = some (8, (.invokestatic 66, 3), (132, 13, 0)) := by decide +kernel
theorem xr_61_11 : X_row 61 11 = some (11, (.ifCond .eq 7, 3), (0, 0, 0)) := by decide +kernel
theorem xr_61_14 : X_row 61 14 = some (14, (.iconst 1, 1), (0, 0, 0)) := by decide +kernel
theorem xr_61_15 : X_row 61 15 = some (15, (.goto 4, 3), (0, 0, 0)) := by decide +kernel
theorem xr_61_18 : X_row 61 18 = some (18, (.iconst 0, 1), (0, 0, 0)) := by decide +kernel
theorem xr_61_19 : X_row 61 19 = some (19, (.ireturn, 1), (0, 0, 0)) := by decide +kernel
theorem xr_62_0 : X_row 62 0 = some (0, (.iload_n 0, 1), (0, 0, 0)) := by decide +kernel
theorem xr_62_1 : X_row 62 1 = some (1, (.bipush 33, 2), (0, 0, 0)) := by decide +kernel
theorem xr_62_3 : X_row 62 3 = some (3, (.if_icmp .lt 31, 3), (0, 0, 0)) := by decide +kernel
theorem xr_62_6 : X_row 62 6 = some (6, (.iload_n 0, 1), (0, 0, 0)) := by decide +kernel
theorem xr_62_7 : X_row 62 7 = some (7, (.bipush 126, 2), (0, 0, 0)) := by decide +kernel
theorem xr_62_9 : X_row 62 9 = some (9, (.if_icmp .gt 25, 3), (0, 0, 0)) := by decide +kernel
theorem xr_62_12 : X_row 62 12 = some (12, (.iload_n 0, 1), (0, 0, 0)) := by decide +kernel
theorem xr_62_13 : X_row 62 13 = some (13, (.bipush 34, 2), (0, 0, 0)) := by decide +kernel
theorem xr_62_15 : X_row 62 15 = some (15, (.if_icmp .eq 19, 3), (0, 0, 0)) := by decide +kernel
theorem xr_62_18 : X_row 62 18 = some (18, (.iload_n 0, 1), (0, 0, 0)) := by decide +kernel
theorem xr_62_19 : X_row 62 19 = some (19, (.bipush 40, 2), (0, 0, 0)) := by decide +kernel
theorem xr_62_21 : X_row 62 21 = some (21, (.if_icmp .eq 13, 3), (0, 0, 0)) := by decide +kernel
theorem xr_62_24 : X_row 62 24 = some (24, (.iload_n 0, 1), (0, 0, 0)) := by decide +kernel
theorem xr_62_25 : X_row 62 25 = some (25, (.bipush 41, 2), (0, 0, 0)) := by decide +kernel
theorem xr_62_27 : X_row 62 27 = some (27, (.if_icmp .eq 7, 3), (0, 0, 0)) := by decide +kernel
theorem xr_62_30 : X_row 62 30 = some (30, (.iconst 1, 1), (0, 0, 0)) := by decide +kernel
theorem xr_62_31 : X_row 62 31 = some (31, (.goto 4, 3), (0, 0, 0)) := by decide +kernel
theorem xr_62_34 : X_row 62 34 = some (34, (.iconst 0, 1), (0, 0, 0)) := by decide +kernel
theorem xr_62_35 : X_row 62 35 = some (35, (.ireturn, 1), (0, 0, 0)) := by decide +kernel
theorem xr_63_0 : X_row 63 0 = some (0, (.iload_n 0, 1), (0, 0, 0)) := by decide +kernel
theorem xr_63_1 : X_row 63 1 = some (1, (.lookupswitch 101 #[(37, 99), (42, 99), (43, 99), (45, 99), (47, 99), (58, 99), (59, 99), (60, 99), (61, 99), (64, 99), (95, 99)], 99), (0, 0, 0)) := by decide +kernel
theorem xr_63_100 : X_row 63 100 = some (100, (.iconst 1, 1), (0, 0, 0)) := by decide +kernel
theorem xr_63_101 : X_row 63 101 = some (101, (.ireturn, 1), (0, 0, 0)) := by decide +kernel
theorem xr_63_102 : X_row 63 102 = some (102, (.iconst 0, 1), (0, 0, 0)) := by decide +kernel
theorem xr_63_103 : X_row 63 103 = some (103, (.ireturn, 1), (0, 0, 0)) := by decide +kernel
theorem xr_92_0 : X_row 92 0 = some (0, (.bipush 24, 2), (0, 0, 0)) := by decide +kernel
theorem xr_92_2 : X_row 92 2 = some (2, (.istore_n 2, 1), (0, 0, 0)) := by decide +kernel
theorem xr_92_3 : X_row 92 3 = some (3, (.iload_n 2, 1), (0, 0, 0)) := by decide +kernel
theorem xr_92_4 : X_row 92 4 = some (4, (.ifCond .lt 42, 3), (0, 0, 0)) := by decide +kernel
theorem xr_92_7 : X_row 92 7 = some (7, (.aload_n 0, 1), (0, 0, 0)) := by decide +kernel
theorem xr_92_8 : X_row 92 8 = some (8, (.getfield 15, 3), (7, 1, 2)) := by decide +kernel
theorem xr_92_11 : X_row 92 11 = some (11, (.sipush 2000, 3), (0, 0, 0)) := by decide +kernel
theorem xr_92_14 : X_row 92 14 = some (14, (.if_icmp .ge 32, 3), (0, 0, 0)) := by decide +kernel
theorem xr_92_17 : X_row 92 17 = some (17, (.aload_n 0, 1), (0, 0, 0)) := by decide +kernel
theorem xr_92_18 : X_row 92 18 = some (18, (.getfield 9, 3), (7, 0, 0)) := by decide +kernel
theorem xr_92_21 : X_row 92 21 = some (21, (.aload_n 0, 1), (0, 0, 0)) := by decide +kernel
theorem xr_92_22 : X_row 92 22 = some (22, (.getfield 15, 3), (7, 1, 2)) := by decide +kernel
theorem xr_92_25 : X_row 92 25 = some (25, (.iload_n 1, 1), (0, 0, 0)) := by decide +kernel
theorem xr_92_26 : X_row 92 26 = some (26, (.iload_n 2, 1), (0, 0, 0)) := by decide +kernel
theorem xr_92_27 : X_row 92 27 = some (27, (.ishr, 1), (0, 0, 0)) := by decide +kernel
theorem xr_92_28 : X_row 92 28 = some (28, (.i2b, 1), (0, 0, 0)) := by decide +kernel
theorem xr_92_29 : X_row 92 29 = some (29, (.bastore, 1), (0, 0, 0)) := by decide +kernel
theorem xr_92_30 : X_row 92 30 = some (30, (.aload_n 0, 1), (0, 0, 0)) := by decide +kernel
theorem xr_92_31 : X_row 92 31 = some (31, (.dup, 1), (0, 0, 0)) := by decide +kernel
theorem xr_92_32 : X_row 92 32 = some (32, (.getfield 15, 3), (7, 1, 2)) := by decide +kernel
theorem xr_92_35 : X_row 92 35 = some (35, (.iconst 1, 1), (0, 0, 0)) := by decide +kernel
theorem xr_92_36 : X_row 92 36 = some (36, (.iadd, 1), (0, 0, 0)) := by decide +kernel
theorem xr_92_37 : X_row 92 37 = some (37, (.putfield 15, 3), (7, 1, 2)) := by decide +kernel
theorem xr_92_40 : X_row 92 40 = some (40, (.iinc 2 (-8), 3), (0, 0, 0)) := by decide +kernel
theorem xr_92_43 : X_row 92 43 = some (43, (.goto (-40), 3), (0, 0, 0)) := by decide +kernel
theorem xr_92_46 : X_row 92 46 = some (46, (.return_, 1), (0, 0, 0)) := by decide +kernel
theorem xr_93_0 : X_row 93 0 = some (0, (.iload_n 1, 1), (0, 0, 0)) := by decide +kernel
theorem xr_93_1 : X_row 93 1 = some (1, (.ifCond .lt 24, 3), (0, 0, 0)) := by decide +kernel
theorem xr_93_4 : X_row 93 4 = some (4, (.iload_n 1, 1), (0, 0, 0)) := by decide +kernel
theorem xr_93_5 : X_row 93 5 = some (5, (.aload_n 0, 1), (0, 0, 0)) := by decide +kernel
theorem xr_93_6 : X_row 93 6 = some (6, (.getfield 15, 3), (7, 1, 2)) := by decide +kernel
theorem xr_93_9 : X_row 93 9 = some (9, (.if_icmp .ge 16, 3), (0, 0, 0)) := by decide +kernel
theorem xr_93_12 : X_row 93 12 = some (12, (.aload_n 0, 1), (0, 0, 0)) := by decide +kernel
theorem xr_93_13 : X_row 93 13 = some (13, (.getfield 9, 3), (7, 0, 0)) := by decide +kernel
theorem xr_93_16 : X_row 93 16 = some (16, (.iload_n 1, 1), (0, 0, 0)) := by decide +kernel
theorem xr_93_17 : X_row 93 17 = some (17, (.baload, 1), (0, 0, 0)) := by decide +kernel
theorem xr_93_18 : X_row 93 18 = some (18, (.sipush 255, 3), (0, 0, 0)) := by decide +kernel
theorem xr_93_21 : X_row 93 21 = some (21, (.iand, 1), (0, 0, 0)) := by decide +kernel
theorem xr_93_22 : X_row 93 22 = some (22, (.goto 4, 3), (0, 0, 0)) := by decide +kernel
theorem xr_93_25 : X_row 93 25 = some (25, (.iconst (-1), 1), (0, 0, 0)) := by decide +kernel
theorem xr_93_26 : X_row 93 26 = some (26, (.ireturn, 1), (0, 0, 0)) := by decide +kernel
theorem xr_132_0 : X_row 132 0 = some (0, (.iload_n 0, 1), (0, 0, 0)) := by decide +kernel
theorem xr_132_1 : X_row 132 1 = some (1, (.bipush 48, 2), (0, 0, 0)) := by decide +kernel
theorem xr_132_3 : X_row 132 3 = some (3, (.if_icmp .lt 13, 3), (0, 0, 0)) := by decide +kernel
theorem xr_132_6 : X_row 132 6 = some (6, (.iload_n 0, 1), (0, 0, 0)) := by decide +kernel
theorem xr_132_7 : X_row 132 7 = some (7, (.bipush 57, 2), (0, 0, 0)) := by decide +kernel
theorem xr_132_9 : X_row 132 9 = some (9, (.if_icmp .gt 7, 3), (0, 0, 0)) := by decide +kernel
theorem xr_132_12 : X_row 132 12 = some (12, (.iconst 1, 1), (0, 0, 0)) := by decide +kernel
theorem xr_132_13 : X_row 132 13 = some (13, (.goto 4, 3), (0, 0, 0)) := by decide +kernel
theorem xr_132_16 : X_row 132 16 = some (16, (.iconst 0, 1), (0, 0, 0)) := by decide +kernel
theorem xr_132_17 : X_row 132 17 = some (17, (.ireturn, 1), (0, 0, 0)) := by decide +kernel
theorem xr_133_0 : X_row 133 0 = some (0, (.iload_n 0, 1), (0, 0, 0)) := by decide +kernel
theorem xr_133_1 : X_row 133 1 = some (1, (.bipush 32, 2), (0, 0, 0)) := by decide +kernel
theorem xr_133_3 : X_row 133 3 = some (3, (.if_icmp .eq 9, 3), (0, 0, 0)) := by decide +kernel
theorem xr_133_6 : X_row 133 6 = some (6, (.iload_n 0, 1), (0, 0, 0)) := by decide +kernel
theorem xr_133_7 : X_row 133 7 = some (7, (.bipush 10, 2), (0, 0, 0)) := by decide +kernel
theorem xr_133_9 : X_row 133 9 = some (9, (.if_icmp .ne 7, 3), (0, 0, 0)) := by decide +kernel
theorem xr_133_12 : X_row 133 12 = some (12, (.iconst 1, 1), (0, 0, 0)) := by decide +kernel
theorem xr_133_13 : X_row 133 13 = some (13, (.goto 4, 3), (0, 0, 0)) := by decide +kernel
theorem xr_133_16 : X_row 133 16 = some (16, (.iconst 0, 1), (0, 0, 0)) := by decide +kernel
theorem xr_133_17 : X_row 133 17 = some (17, (.ireturn, 1), (0, 0, 0)) := by decide +kernel
theorem xn_59 : X_nL 59 = 2 := by decide +kernel
theorem xf_59 : X_na 59 = 1 ∧ X_ci 59 = 3 ∧ X_rt 59 = (some .boolean) := by decide +kernel
theorem xn_60 : X_nL 60 = 1 := by decide +kernel
theorem xf_60 : X_na 60 = 1 ∧ X_ci 60 = 3 ∧ X_rt 60 = (some .boolean) := by decide +kernel
theorem xn_61 : X_nL 61 = 1 := by decide +kernel
theorem xf_61 : X_na 61 = 1 ∧ X_ci 61 = 3 ∧ X_rt 61 = (some .boolean) := by decide +kernel
theorem xn_62 : X_nL 62 = 1 := by decide +kernel
theorem xf_62 : X_na 62 = 1 ∧ X_ci 62 = 3 ∧ X_rt 62 = (some .boolean) := by decide +kernel
theorem xn_63 : X_nL 63 = 1 := by decide +kernel
theorem xf_63 : X_na 63 = 1 ∧ X_ci 63 = 3 ∧ X_rt 63 = (some .boolean) := by decide +kernel
theorem xn_92 : X_nL 92 = 3 := by decide +kernel
theorem xf_92 : X_na 92 = 1 ∧ X_ci 92 = 7 ∧ X_rt 92 = none := by decide +kernel
theorem xn_93 : X_nL 93 = 2 := by decide +kernel
theorem xf_93 : X_na 93 = 1 ∧ X_ci 93 = 7 ∧ X_rt 93 = (some .int) := by decide +kernel
theorem xn_132 : X_nL 132 = 1 := by decide +kernel
theorem xf_132 : X_na 132 = 1 ∧ X_ci 132 = 10 ∧ X_rt 132 = (some .boolean) := by decide +kernel
theorem xn_133 : X_nL 133 = 1 := by decide +kernel
theorem xf_133 : X_na 133 = 1 ∧ X_ci 133 = 10 ∧ X_rt 133 = (some .boolean) := by decide +kernel
theorem c_byteAt (sc : X_Sc) (S : X_S) (len pl : Int) (tb : Int → Int) (h2 : S.1 2 = .inr (7, [.ref 3, .int (iI len)])) (h3 : S.1 3 = .inl (.byte, 2000, .inl fun k : Nat => iI (tb (k : Int)))) (hl : 0 ≤ len ∧ len ≤ 2000) (hp : -2147483648 ≤ pl ∧ pl ≤ 2147483647) : X_T sc 93 (0, [(0, .ref 2), (1, .int (iI pl))], [], S) (fun v S' => v = some (.int (iI (X_at tb len pl))) ∧ S' = S) := by
  refine T_p xr_93_0 xn_93 (pc' := 1) (ls' := [(0, .ref 2), (1, .int (iI pl))]) (st' := [.int (iI pl)]) rfl ?_
  refine T_zif_lt xr_93_1 (t := 25) (pc' := 4) rfl rfl (fun c1 => ?_) (fun c1 => ?_)
  · skip
    have c1 : pl < 0 := c1
    refine T_p xr_93_25 xn_93 (pc' := 26) (ls' := [(0, .ref 2), (1, .int (iI pl))]) (st' := [.int (iI (-1))]) rfl ?_
    refine T_iret xr_93_26 xf_93.2.2 rfl ?_
    exact ⟨by rw [X_at_out (by omega)], rfl⟩
  · skip
    have c1 : ¬ (pl < 0) := c1
    refine T_p xr_93_4 xn_93 (pc' := 5) (ls' := [(0, .ref 2), (1, .int (iI pl))]) (st' := [.int (iI pl)]) rfl ?_
    refine T_p xr_93_5 xn_93 (pc' := 6) (ls' := [(0, .ref 2), (1, .int (iI pl))]) (st' := [.ref 2, .int (iI pl)]) rfl ?_
    refine T_get xr_93_6 h2 rfl (v := .int (iI len)) rfl (pc' := 9) rfl ?_
    refine T_zicmp_ge xr_93_9 (t := 25) (pc' := 12) rfl rfl (fun c2 => ?_) (fun c2 => ?_)
    · skip
      have c2 : len ≤ pl := c2
      refine T_p xr_93_25 xn_93 (pc' := 26) (ls' := [(0, .ref 2), (1, .int (iI pl))]) (st' := [.int (iI (-1))]) rfl ?_
      refine T_iret xr_93_26 xf_93.2.2 rfl ?_
      exact ⟨by rw [X_at_out (by omega)], rfl⟩
    · skip
      have c2 : ¬ (len ≤ pl) := c2
      refine T_p xr_93_12 xn_93 (pc' := 13) (ls' := [(0, .ref 2), (1, .int (iI pl))]) (st' := [.ref 2]) rfl ?_
      refine T_get xr_93_13 h2 rfl (v := .ref 3) rfl (pc' := 16) rfl ?_
      refine T_p xr_93_16 xn_93 (pc' := 17) (ls' := [(0, .ref 2), (1, .int (iI pl))]) (st' := [.int (iI pl), .ref 3]) rfl ?_
      refine T_zbald xr_93_17 h3 (pc' := 18) rfl ?_
      refine T_p xr_93_18 xn_93 (pc' := 21) (ls' := [(0, .ref 2), (1, .int (iI pl))]) (st' := [.int (iI 255), .int (iI (tb pl))]) rfl ?_
      refine T_zop xr_93_21 (pc' := 22) rfl (z := (tb pl) % 256) (iI_m255 _) ?_
      refine T_p xr_93_22 xn_93 (pc' := 26) (ls' := [(0, .ref 2), (1, .int (iI pl))]) (st' := [.int (iI ((tb pl) % 256))]) rfl ?_
      refine T_iret xr_93_26 xf_93.2.2 rfl ?_
      exact ⟨by rw [X_at_in (by omega)], rfl⟩
/-- four bytes behind what is there -/
def X_ap4 (tb : Int → Int) (len w : Int) : Int → Int := (X_ug (X_ug (X_ug (X_ug tb len (X_by (((iI ((iI w >>> (iI 24 &&& 31)).toInt)).toInt8.toInt32).toInt))) (len + 1) (X_by (((iI ((iI w >>> (iI 16 &&& 31)).toInt)).toInt8.toInt32).toInt))) (len + 2) (X_by (((iI ((iI w >>> (iI 8 &&& 31)).toInt)).toInt8.toInt32).toInt))) (len + 3) (X_by (((iI ((iI w >>> (iI 0 &&& 31)).toInt)).toInt8.toInt32).toInt)))
theorem c_append (sc : X_Sc) (S : X_S) (len w : Int) (tb : Int → Int) (h2 : S.1 2 = .inr (7, [.ref 3, .int (iI len)])) (h3 : S.1 3 = .inl (.byte, 2000, .inl fun k : Nat => iI (tb (k : Int)))) (hl : 0 ≤ len ∧ len + 4 ≤ 2000) :
    X_T sc 92 (0, [(0, .ref 2), (1, .int (iI w))], [], S) (fun v S' => v = none ∧ S'.1 2 = .inr (7, [.ref 3, .int (iI (len + 4))]) ∧ S'.1 3 = .inl (.byte, 2000, .inl fun k : Nat => iI (X_ap4 tb len w (k : Int))) ∧ X_Fr (fun r => r = 2 ∨ r = 3) S S') := by
  refine T_p xr_92_0 xn_92 (pc' := 2) (ls' := [(0, .ref 2), (1, .int (iI w))]) (st' := [.int (iI 24)]) rfl ?_
  refine T_p xr_92_2 xn_92 (pc' := 3) (ls' := [(2, .int (iI 24)), (0, .ref 2), (1, .int (iI w))]) (st' := []) rfl ?_
  refine T_p xr_92_3 xn_92 (pc' := 4) (ls' := [(2, .int (iI 24)), (0, .ref 2), (1, .int (iI w))]) (st' := [.int (iI 24)]) rfl ?_
  refine T_zif_ltf xr_92_4 (t := 46) (pc' := 7) rfl rfl (by decide) ?_
  refine T_p xr_92_7 xn_92 (pc' := 8) (ls' := [(2, .int (iI 24)), (0, .ref 2), (1, .int (iI w))]) (st' := [.ref 2]) rfl ?_
  refine T_get xr_92_8 h2 rfl (v := .int (iI len)) rfl (pc' := 11) rfl ?_
  refine T_p xr_92_11 xn_92 (pc' := 14) (ls' := [(2, .int (iI 24)), (0, .ref 2), (1, .int (iI w))]) (st' := [.int (iI 2000), .int (iI len)]) rfl ?_
  refine T_zicmp_ge xr_92_14 (t := 46) (pc' := 17) rfl rfl (fun c3 => ?_) (fun c3 => ?_)
  · skip
    have c3 : 2000 ≤ len := c3
    exact (show False by omega).elim
  · skip
    have c3 : ¬ (2000 ≤ len) := c3
    refine T_p xr_92_17 xn_92 (pc' := 18) (ls' := [(2, .int (iI 24)), (0, .ref 2), (1, .int (iI w))]) (st' := [.ref 2]) rfl ?_
    refine T_get xr_92_18 h2 rfl (v := .ref 3) rfl (pc' := 21) rfl ?_
    refine T_p xr_92_21 xn_92 (pc' := 22) (ls' := [(2, .int (iI 24)), (0, .ref 2), (1, .int (iI w))]) (st' := [.ref 2, .ref 3]) rfl ?_
    refine T_get xr_92_22 h2 rfl (v := .int (iI len)) rfl (pc' := 25) rfl ?_
    refine T_p xr_92_25 xn_92 (pc' := 26) (ls' := [(2, .int (iI 24)), (0, .ref 2), (1, .int (iI w))]) (st' := [.int (iI w), .int (iI len), .ref 3]) rfl ?_
    refine T_p xr_92_26 xn_92 (pc' := 27) (ls' := [(2, .int (iI 24)), (0, .ref 2), (1, .int (iI w))]) (st' := [.int (iI 24), .int (iI w), .int (iI len), .ref 3]) rfl ?_
    refine T_zop xr_92_27 (pc' := 28) rfl (z := (iI w >>> (iI 24 &&& 31)).toInt) (iI_of _) ?_
    refine T_zop xr_92_28 (pc' := 29) rfl (z := ((iI ((iI w >>> (iI 24 &&& 31)).toInt)).toInt8.toInt32).toInt) (iI_of _) ?_
    refine T_zbast xr_92_29 h3 (pc' := 30) rfl (fun S4 h5 n6 e7 => ?_)
    refine T_p xr_92_30 xn_92 (pc' := 31) (ls' := [(2, .int (iI 24)), (0, .ref 2), (1, .int (iI w))]) (st' := [.ref 2]) rfl ?_
    refine T_p xr_92_31 xn_92 (pc' := 32) (ls' := [(2, .int (iI 24)), (0, .ref 2), (1, .int (iI w))]) (st' := [.ref 2, .ref 2]) rfl ?_
    have h8 := (n6 2 (by decide)).trans (h2)
    refine T_get xr_92_32 h8 rfl (v := .int (iI len)) rfl (pc' := 35) rfl ?_
    refine T_p xr_92_35 xn_92 (pc' := 36) (ls' := [(2, .int (iI 24)), (0, .ref 2), (1, .int (iI w))]) (st' := [.int (iI 1), .int (iI len), .ref 2]) rfl ?_
    refine T_ziadd xr_92_36 (z := len + 1) rfl (pc' := 37) rfl ?_
    refine T_put xr_92_37 h8 rfl (Nat.le_of_ble_eq_true rfl) rfl (fs' := [.ref 3, .int (iI (len + 1))]) rfl (pc' := 40) rfl (fun S9 h10 n11 e12 => ?_)
    refine T_ziinc xr_92_40 xn_92 (a := 24) (z := 16) rfl (Nat.le_of_ble_eq_true rfl) rfl (ls' := [(2, .int (iI 16)), (0, .ref 2), (1, .int (iI w))]) rfl (pc' := 43) rfl ?_
    refine T_p xr_92_43 xn_92 (pc' := 3) (ls' := [(2, .int (iI 16)), (0, .ref 2), (1, .int (iI w))]) (st' := []) rfl ?_
    refine T_p xr_92_3 xn_92 (pc' := 4) (ls' := [(2, .int (iI 16)), (0, .ref 2), (1, .int (iI w))]) (st' := [.int (iI 16)]) rfl ?_
    refine T_zif_ltf xr_92_4 (t := 46) (pc' := 7) rfl rfl (by decide) ?_
    refine T_p xr_92_7 xn_92 (pc' := 8) (ls' := [(2, .int (iI 16)), (0, .ref 2), (1, .int (iI w))]) (st' := [.ref 2]) rfl ?_
    refine T_get xr_92_8 h10 rfl (v := .int (iI (len + 1))) rfl (pc' := 11) rfl ?_
    refine T_p xr_92_11 xn_92 (pc' := 14) (ls' := [(2, .int (iI 16)), (0, .ref 2), (1, .int (iI w))]) (st' := [.int (iI 2000), .int (iI (len + 1))]) rfl ?_
    refine T_zicmp_ge xr_92_14 (t := 46) (pc' := 17) rfl rfl (fun c13 => ?_) (fun c13 => ?_)
    · skip
      have c13 : 2000 ≤ (len + 1) := c13
      exact (show False by omega).elim
    · skip
      have c13 : ¬ (2000 ≤ (len + 1)) := c13
      refine T_p xr_92_17 xn_92 (pc' := 18) (ls' := [(2, .int (iI 16)), (0, .ref 2), (1, .int (iI w))]) (st' := [.ref 2]) rfl ?_
      refine T_get xr_92_18 h10 rfl (v := .ref 3) rfl (pc' := 21) rfl ?_
      refine T_p xr_92_21 xn_92 (pc' := 22) (ls' := [(2, .int (iI 16)), (0, .ref 2), (1, .int (iI w))]) (st' := [.ref 2, .ref 3]) rfl ?_
      refine T_get xr_92_22 h10 rfl (v := .int (iI (len + 1))) rfl (pc' := 25) rfl ?_
      refine T_p xr_92_25 xn_92 (pc' := 26) (ls' := [(2, .int (iI 16)), (0, .ref 2), (1, .int (iI w))]) (st' := [.int (iI w), .int (iI (len + 1)), .ref 3]) rfl ?_
      refine T_p xr_92_26 xn_92 (pc' := 27) (ls' := [(2, .int (iI 16)), (0, .ref 2), (1, .int (iI w))]) (st' := [.int (iI 16), .int (iI w), .int (iI (len + 1)), .ref 3]) rfl ?_
      refine T_zop xr_92_27 (pc' := 28) rfl (z := (iI w >>> (iI 16 &&& 31)).toInt) (iI_of _) ?_
      refine T_zop xr_92_28 (pc' := 29) rfl (z := ((iI ((iI w >>> (iI 16 &&& 31)).toInt)).toInt8.toInt32).toInt) (iI_of _) ?_
      have h14 := (n11 3 (by decide)).trans (h5)
      refine T_zbast xr_92_29 h14 (pc' := 30) rfl (fun S15 h16 n17 e18 => ?_)
      refine T_p xr_92_30 xn_92 (pc' := 31) (ls' := [(2, .int (iI 16)), (0, .ref 2), (1, .int (iI w))]) (st' := [.ref 2]) rfl ?_
      refine T_p xr_92_31 xn_92 (pc' := 32) (ls' := [(2, .int (iI 16)), (0, .ref 2), (1, .int (iI w))]) (st' := [.ref 2, .ref 2]) rfl ?_
      have h19 := (n17 2 (by decide)).trans (h10)
      refine T_get xr_92_32 h19 rfl (v := .int (iI (len + 1))) rfl (pc' := 35) rfl ?_
      refine T_p xr_92_35 xn_92 (pc' := 36) (ls' := [(2, .int (iI 16)), (0, .ref 2), (1, .int (iI w))]) (st' := [.int (iI 1), .int (iI (len + 1)), .ref 2]) rfl ?_
      refine T_ziadd xr_92_36 (z := len + 2) (by omega) (pc' := 37) rfl ?_
      refine T_put xr_92_37 h19 rfl (Nat.le_of_ble_eq_true rfl) rfl (fs' := [.ref 3, .int (iI (len + 2))]) rfl (pc' := 40) rfl (fun S20 h21 n22 e23 => ?_)
      refine T_ziinc xr_92_40 xn_92 (a := 16) (z := 8) rfl (Nat.le_of_ble_eq_true rfl) rfl (ls' := [(2, .int (iI 8)), (0, .ref 2), (1, .int (iI w))]) rfl (pc' := 43) rfl ?_
      refine T_p xr_92_43 xn_92 (pc' := 3) (ls' := [(2, .int (iI 8)), (0, .ref 2), (1, .int (iI w))]) (st' := []) rfl ?_
      refine T_p xr_92_3 xn_92 (pc' := 4) (ls' := [(2, .int (iI 8)), (0, .ref 2), (1, .int (iI w))]) (st' := [.int (iI 8)]) rfl ?_
      refine T_zif_ltf xr_92_4 (t := 46) (pc' := 7) rfl rfl (by decide) ?_
      refine T_p xr_92_7 xn_92 (pc' := 8) (ls' := [(2, .int (iI 8)), (0, .ref 2), (1, .int (iI w))]) (st' := [.ref 2]) rfl ?_
      refine T_get xr_92_8 h21 rfl (v := .int (iI (len + 2))) rfl (pc' := 11) rfl ?_
      refine T_p xr_92_11 xn_92 (pc' := 14) (ls' := [(2, .int (iI 8)), (0, .ref 2), (1, .int (iI w))]) (st' := [.int (iI 2000), .int (iI (len + 2))]) rfl ?_
      refine T_zicmp_ge xr_92_14 (t := 46) (pc' := 17) rfl rfl (fun c24 => ?_) (fun c24 => ?_)
      · skip
        have c24 : 2000 ≤ (len + 2) := c24
        exact (show False by omega).elim
      · skip
        have c24 : ¬ (2000 ≤ (len + 2)) := c24
        refine T_p xr_92_17 xn_92 (pc' := 18) (ls' := [(2, .int (iI 8)), (0, .ref 2), (1, .int (iI w))]) (st' := [.ref 2]) rfl ?_
        refine T_get xr_92_18 h21 rfl (v := .ref 3) rfl (pc' := 21) rfl ?_
        refine T_p xr_92_21 xn_92 (pc' := 22) (ls' := [(2, .int (iI 8)), (0, .ref 2), (1, .int (iI w))]) (st' := [.ref 2, .ref 3]) rfl ?_
        refine T_get xr_92_22 h21 rfl (v := .int (iI (len + 2))) rfl (pc' := 25) rfl ?_
        refine T_p xr_92_25 xn_92 (pc' := 26) (ls' := [(2, .int (iI 8)), (0, .ref 2), (1, .int (iI w))]) (st' := [.int (iI w), .int (iI (len + 2)), .ref 3]) rfl ?_
        refine T_p xr_92_26 xn_92 (pc' := 27) (ls' := [(2, .int (iI 8)), (0, .ref 2), (1, .int (iI w))]) (st' := [.int (iI 8), .int (iI w), .int (iI (len + 2)), .ref 3]) rfl ?_
        refine T_zop xr_92_27 (pc' := 28) rfl (z := (iI w >>> (iI 8 &&& 31)).toInt) (iI_of _) ?_
        refine T_zop xr_92_28 (pc' := 29) rfl (z := ((iI ((iI w >>> (iI 8 &&& 31)).toInt)).toInt8.toInt32).toInt) (iI_of _) ?_
        have h25 := (n22 3 (by decide)).trans (h16)
        refine T_zbast xr_92_29 h25 (pc' := 30) rfl (fun S26 h27 n28 e29 => ?_)
        refine T_p xr_92_30 xn_92 (pc' := 31) (ls' := [(2, .int (iI 8)), (0, .ref 2), (1, .int (iI w))]) (st' := [.ref 2]) rfl ?_
        refine T_p xr_92_31 xn_92 (pc' := 32) (ls' := [(2, .int (iI 8)), (0, .ref 2), (1, .int (iI w))]) (st' := [.ref 2, .ref 2]) rfl ?_
        have h30 := (n28 2 (by decide)).trans (h21)
        refine T_get xr_92_32 h30 rfl (v := .int (iI (len + 2))) rfl (pc' := 35) rfl ?_
        refine T_p xr_92_35 xn_92 (pc' := 36) (ls' := [(2, .int (iI 8)), (0, .ref 2), (1, .int (iI w))]) (st' := [.int (iI 1), .int (iI (len + 2)), .ref 2]) rfl ?_
        refine T_ziadd xr_92_36 (z := len + 3) (by omega) (pc' := 37) rfl ?_
        refine T_put xr_92_37 h30 rfl (Nat.le_of_ble_eq_true rfl) rfl (fs' := [.ref 3, .int (iI (len + 3))]) rfl (pc' := 40) rfl (fun S31 h32 n33 e34 => ?_)
        refine T_ziinc xr_92_40 xn_92 (a := 8) (z := 0) rfl (Nat.le_of_ble_eq_true rfl) rfl (ls' := [(2, .int (iI 0)), (0, .ref 2), (1, .int (iI w))]) rfl (pc' := 43) rfl ?_
        refine T_p xr_92_43 xn_92 (pc' := 3) (ls' := [(2, .int (iI 0)), (0, .ref 2), (1, .int (iI w))]) (st' := []) rfl ?_
        refine T_p xr_92_3 xn_92 (pc' := 4) (ls' := [(2, .int (iI 0)), (0, .ref 2), (1, .int (iI w))]) (st' := [.int (iI 0)]) rfl ?_
        refine T_zif_ltf xr_92_4 (t := 46) (pc' := 7) rfl rfl (by decide) ?_
        refine T_p xr_92_7 xn_92 (pc' := 8) (ls' := [(2, .int (iI 0)), (0, .ref 2), (1, .int (iI w))]) (st' := [.ref 2]) rfl ?_
        refine T_get xr_92_8 h32 rfl (v := .int (iI (len + 3))) rfl (pc' := 11) rfl ?_
        refine T_p xr_92_11 xn_92 (pc' := 14) (ls' := [(2, .int (iI 0)), (0, .ref 2), (1, .int (iI w))]) (st' := [.int (iI 2000), .int (iI (len + 3))]) rfl ?_
        refine T_zicmp_ge xr_92_14 (t := 46) (pc' := 17) rfl rfl (fun c35 => ?_) (fun c35 => ?_)
        · skip
          have c35 : 2000 ≤ (len + 3) := c35
          exact (show False by omega).elim
        · skip
          have c35 : ¬ (2000 ≤ (len + 3)) := c35
          refine T_p xr_92_17 xn_92 (pc' := 18) (ls' := [(2, .int (iI 0)), (0, .ref 2), (1, .int (iI w))]) (st' := [.ref 2]) rfl ?_
          refine T_get xr_92_18 h32 rfl (v := .ref 3) rfl (pc' := 21) rfl ?_
          refine T_p xr_92_21 xn_92 (pc' := 22) (ls' := [(2, .int (iI 0)), (0, .ref 2), (1, .int (iI w))]) (st' := [.ref 2, .ref 3]) rfl ?_
          refine T_get xr_92_22 h32 rfl (v := .int (iI (len + 3))) rfl (pc' := 25) rfl ?_
          refine T_p xr_92_25 xn_92 (pc' := 26) (ls' := [(2, .int (iI 0)), (0, .ref 2), (1, .int (iI w))]) (st' := [.int (iI w), .int (iI (len + 3)), .ref 3]) rfl ?_
          refine T_p xr_92_26 xn_92 (pc' := 27) (ls' := [(2, .int (iI 0)), (0, .ref 2), (1, .int (iI w))]) (st' := [.int (iI 0), .int (iI w), .int (iI (len + 3)), .ref 3]) rfl ?_
          refine T_zop xr_92_27 (pc' := 28) rfl (z := (iI w >>> (iI 0 &&& 31)).toInt) (iI_of _) ?_
          refine T_zop xr_92_28 (pc' := 29) rfl (z := ((iI ((iI w >>> (iI 0 &&& 31)).toInt)).toInt8.toInt32).toInt) (iI_of _) ?_
          have h36 := (n33 3 (by decide)).trans (h27)
          refine T_zbast xr_92_29 h36 (pc' := 30) rfl (fun S37 h38 n39 e40 => ?_)
          refine T_p xr_92_30 xn_92 (pc' := 31) (ls' := [(2, .int (iI 0)), (0, .ref 2), (1, .int (iI w))]) (st' := [.ref 2]) rfl ?_
          refine T_p xr_92_31 xn_92 (pc' := 32) (ls' := [(2, .int (iI 0)), (0, .ref 2), (1, .int (iI w))]) (st' := [.ref 2, .ref 2]) rfl ?_
          have h41 := (n39 2 (by decide)).trans (h32)
          refine T_get xr_92_32 h41 rfl (v := .int (iI (len + 3))) rfl (pc' := 35) rfl ?_
          refine T_p xr_92_35 xn_92 (pc' := 36) (ls' := [(2, .int (iI 0)), (0, .ref 2), (1, .int (iI w))]) (st' := [.int (iI 1), .int (iI (len + 3)), .ref 2]) rfl ?_
          refine T_ziadd xr_92_36 (z := len + 4) (by omega) (pc' := 37) rfl ?_
          refine T_put xr_92_37 h41 rfl (Nat.le_of_ble_eq_true rfl) rfl (fs' := [.ref 3, .int (iI (len + 4))]) rfl (pc' := 40) rfl (fun S42 h43 n44 e45 => ?_)
          refine T_ziinc xr_92_40 xn_92 (a := 0) (z := (-8)) rfl (Nat.le_of_ble_eq_true rfl) rfl (ls' := [(2, .int (iI (-8))), (0, .ref 2), (1, .int (iI w))]) rfl (pc' := 43) rfl ?_
          refine T_p xr_92_43 xn_92 (pc' := 3) (ls' := [(2, .int (iI (-8))), (0, .ref 2), (1, .int (iI w))]) (st' := []) rfl ?_
          refine T_p xr_92_3 xn_92 (pc' := 4) (ls' := [(2, .int (iI (-8))), (0, .ref 2), (1, .int (iI w))]) (st' := [.int (iI (-8))]) rfl ?_
          refine T_zif_ltt xr_92_4 (t := 46) rfl (by decide) ?_
          refine T_vret xr_92_46 xf_92.2.2 ?_
          have h46 := (n44 3 (by decide)).trans (h38)
          exact ⟨rfl, h43, h46, ((((((((X_Fr.rf).tr (X_Fr.of n6 e7 (by first | decide | exact ⟨Nat.le_add_right _ _, Nat.add_le_add_left (by decide) _⟩ | omega))).tr (X_Fr.of n11 e12 (by first | decide | exact ⟨Nat.le_add_right _ _, Nat.add_le_add_left (by decide) _⟩ | omega))).tr (X_Fr.of n17 e18 (by first | decide | exact ⟨Nat.le_add_right _ _, Nat.add_le_add_left (by decide) _⟩ | omega))).tr (X_Fr.of n22 e23 (by first | decide | exact ⟨Nat.le_add_right _ _, Nat.add_le_add_left (by decide) _⟩ | omega))).tr (X_Fr.of n28 e29 (by first | decide | exact ⟨Nat.le_add_right _ _, Nat.add_le_add_left (by decide) _⟩ | omega))).tr (X_Fr.of n33 e34 (by first | decide | exact ⟨Nat.le_add_right _ _, Nat.add_le_add_left (by decide) _⟩ | omega))).tr (X_Fr.of n39 e40 (by first | decide | exact ⟨Nat.le_add_right _ _, Nat.add_le_add_left (by decide) _⟩ | omega))).tr (X_Fr.of n44 e45 (by first | decide | exact ⟨Nat.le_add_right _ _, Nat.add_le_add_left (by decide) _⟩ | omega))⟩
theorem c_isDigit (sc : X_Sc) (S : X_S) (c : Int) (hc : -1 ≤ c ∧ c ≤ 255) : X_T sc 132 (0, [(0, .int (iI c))], [], S) (fun v S' => v = some (.int (iI (bI (X_isD c)))) ∧ S' = S) := by
  refine T_p xr_132_0 xn_132 (pc' := 1) (ls' := [(0, .int (iI c))]) (st' := [.int (iI c)]) rfl ?_
  refine T_p xr_132_1 xn_132 (pc' := 3) (ls' := [(0, .int (iI c))]) (st' := [.int (iI 48), .int (iI c)]) rfl ?_
  refine T_zicmp_lt xr_132_3 (t := 16) (pc' := 6) rfl rfl (fun c47 => ?_) (fun c47 => ?_)
  · skip
    have c47 : c < 48 := c47
    refine T_p xr_132_16 xn_132 (pc' := 17) (ls' := [(0, .int (iI c))]) (st' := [.int (iI 0)]) rfl ?_
    refine T_iret xr_132_17 xf_132.2.2 (by decide) ?_
    exact ⟨by rw [bI_f (by unfold X_isD; omega)], rfl⟩
  · skip
    have c47 : ¬ (c < 48) := c47
    refine T_p xr_132_6 xn_132 (pc' := 7) (ls' := [(0, .int (iI c))]) (st' := [.int (iI c)]) rfl ?_
    refine T_p xr_132_7 xn_132 (pc' := 9) (ls' := [(0, .int (iI c))]) (st' := [.int (iI 57), .int (iI c)]) rfl ?_
    refine T_zicmp_gt xr_132_9 (t := 16) (pc' := 12) rfl rfl (fun c48 => ?_) (fun c48 => ?_)
    · skip
      have c48 : 57 < c := c48
      refine T_p xr_132_16 xn_132 (pc' := 17) (ls' := [(0, .int (iI c))]) (st' := [.int (iI 0)]) rfl ?_
      refine T_iret xr_132_17 xf_132.2.2 (by decide) ?_
      exact ⟨by rw [bI_f (by unfold X_isD; omega)], rfl⟩
    · skip
      have c48 : ¬ (57 < c) := c48
      refine T_p xr_132_12 xn_132 (pc' := 13) (ls' := [(0, .int (iI c))]) (st' := [.int (iI 1)]) rfl ?_
      refine T_p xr_132_13 xn_132 (pc' := 17) (ls' := [(0, .int (iI c))]) (st' := [.int (iI 1)]) rfl ?_
      refine T_iret xr_132_17 xf_132.2.2 (by decide) ?_
      exact ⟨by rw [bI_t (by unfold X_isD; omega)], rfl⟩
theorem c_isBlank (sc : X_Sc) (S : X_S) (c : Int) (hc : -1 ≤ c ∧ c ≤ 255) : X_T sc 133 (0, [(0, .int (iI c))], [], S) (fun v S' => v = some (.int (iI (bI (X_isBl c)))) ∧ S' = S) := by
  refine T_p xr_133_0 xn_133 (pc' := 1) (ls' := [(0, .int (iI c))]) (st' := [.int (iI c)]) rfl ?_
  refine T_p xr_133_1 xn_133 (pc' := 3) (ls' := [(0, .int (iI c))]) (st' := [.int (iI 32), .int (iI c)]) rfl ?_
  refine T_zicmp_eq xr_133_3 (t := 12) (pc' := 6) rfl rfl (fun c49 => ?_) (fun c49 => ?_)
  · skip
    have c49 : c = 32 := c49
    refine T_p xr_133_12 xn_133 (pc' := 13) (ls' := [(0, .int (iI c))]) (st' := [.int (iI 1)]) rfl ?_
    refine T_p xr_133_13 xn_133 (pc' := 17) (ls' := [(0, .int (iI c))]) (st' := [.int (iI 1)]) rfl ?_
    refine T_iret xr_133_17 xf_133.2.2 (by decide) ?_
    exact ⟨by rw [bI_t (by unfold X_isBl; omega)], rfl⟩
  · skip
    have c49 : ¬ (c = 32) := c49
    refine T_p xr_133_6 xn_133 (pc' := 7) (ls' := [(0, .int (iI c))]) (st' := [.int (iI c)]) rfl ?_
    refine T_p xr_133_7 xn_133 (pc' := 9) (ls' := [(0, .int (iI c))]) (st' := [.int (iI 10), .int (iI c)]) rfl ?_
    refine T_zicmp_ne xr_133_9 (t := 16) (pc' := 12) rfl rfl (fun c50 => ?_) (fun c50 => ?_)
    · skip
      have c50 : ¬ c = 10 := c50
      refine T_p xr_133_16 xn_133 (pc' := 17) (ls' := [(0, .int (iI c))]) (st' := [.int (iI 0)]) rfl ?_
      refine T_iret xr_133_17 xf_133.2.2 (by decide) ?_
      exact ⟨by rw [bI_f (by unfold X_isBl; omega)], rfl⟩
    · skip
      have c50 : ¬ (¬ c = 10) := c50
      refine T_p xr_133_12 xn_133 (pc' := 13) (ls' := [(0, .int (iI c))]) (st' := [.int (iI 1)]) rfl ?_
      refine T_p xr_133_13 xn_133 (pc' := 17) (ls' := [(0, .int (iI c))]) (st' := [.int (iI 1)]) rfl ?_
      refine T_iret xr_133_17 xf_133.2.2 (by decide) ?_
      exact ⟨by rw [bI_t (by unfold X_isBl; omega)], rfl⟩
theorem c_isLetter (sc : X_Sc) (S : X_S) (c : Int) (hc : -1 ≤ c ∧ c ≤ 255) : X_T sc 60 (0, [(0, .int (iI c))], [], S) (fun v S' => v = some (.int (iI (bI (X_isL c)))) ∧ S' = S) := by
  refine T_p xr_60_0 xn_60 (pc' := 1) (ls' := [(0, .int (iI c))]) (st' := [.int (iI c)]) rfl ?_
  refine T_p xr_60_1 xn_60 (pc' := 3) (ls' := [(0, .int (iI c))]) (st' := [.int (iI 97), .int (iI c)]) rfl ?_
  refine T_zicmp_lt xr_60_3 (t := 16) (pc' := 6) rfl rfl (fun c51 => ?_) (fun c51 => ?_)
  · skip
    have c51 : c < 97 := c51
    refine T_p xr_60_16 xn_60 (pc' := 17) (ls' := [(0, .int (iI c))]) (st' := [.int (iI 0)]) rfl ?_
    refine T_iret xr_60_17 xf_60.2.2 (by decide) ?_
    exact ⟨by rw [bI_f (by unfold X_isL; omega)], rfl⟩
  · skip
    have c51 : ¬ (c < 97) := c51
    refine T_p xr_60_6 xn_60 (pc' := 7) (ls' := [(0, .int (iI c))]) (st' := [.int (iI c)]) rfl ?_
    refine T_p xr_60_7 xn_60 (pc' := 9) (ls' := [(0, .int (iI c))]) (st' := [.int (iI 122), .int (iI c)]) rfl ?_
    refine T_zicmp_gt xr_60_9 (t := 16) (pc' := 12) rfl rfl (fun c52 => ?_) (fun c52 => ?_)
    · skip
      have c52 : 122 < c := c52
      refine T_p xr_60_16 xn_60 (pc' := 17) (ls' := [(0, .int (iI c))]) (st' := [.int (iI 0)]) rfl ?_
      refine T_iret xr_60_17 xf_60.2.2 (by decide) ?_
      exact ⟨by rw [bI_f (by unfold X_isL; omega)], rfl⟩
    · skip
      have c52 : ¬ (122 < c) := c52
      refine T_p xr_60_12 xn_60 (pc' := 13) (ls' := [(0, .int (iI c))]) (st' := [.int (iI 1)]) rfl ?_
      refine T_p xr_60_13 xn_60 (pc' := 17) (ls' := [(0, .int (iI c))]) (st' := [.int (iI 1)]) rfl ?_
      refine T_iret xr_60_17 xf_60.2.2 (by decide) ?_
      exact ⟨by rw [bI_t (by unfold X_isL; omega)], rfl⟩
theorem c_isLD (sc : X_Sc) (S : X_S) (c : Int) (hc : -1 ≤ c ∧ c ≤ 255) : X_T sc 61 (0, [(0, .int (iI c))], [], S) (fun v S' => v = some (.int (iI (bI (X_isLD c)))) ∧ S' = S) := by
  refine T_p xr_61_0 xn_61 (pc' := 1) (ls' := [(0, .int (iI c))]) (st' := [.int (iI c)]) rfl ?_
  refine T_cs xr_61_1 (by decide) xf_60.1 xn_60 (as := [.int (iI c)]) (r := []) rfl (Nat.le_of_ble_eq_true rfl) (Nat.le_of_ble_eq_true rfl) (pc' := 4) rfl (ls' := [(0, .int (iI c))]) rfl ?_
  refine T_mono (c_isLetter sc S c (by omega)) (fun v54 S55 h53 => ?_)
  obtain ⟨h56, h57⟩ := h53
  rw [h56, h57]
  show X_T sc 61 (4, [(0, .int (iI c))], [.int (iI (bI (X_isL c)))], S) _
  refine T_bif_ne xr_61_4 (t := 14) (pc' := 7) rfl rfl (fun c58 => ?_) (fun c58 => ?_)
  · skip
    have c58 : (X_isL c) := c58
    refine T_p xr_61_14 xn_61 (pc' := 15) (ls' := [(0, .int (iI c))]) (st' := [.int (iI 1)]) rfl ?_
    refine T_p xr_61_15 xn_61 (pc' := 19) (ls' := [(0, .int (iI c))]) (st' := [.int (iI 1)]) rfl ?_
    refine T_iret xr_61_19 xf_61.2.2 (by decide) ?_
    exact ⟨by rw [bI_t (by unfold X_isLD; first | exact Or.inl (by assumption) | exact Or.inr (by assumption) | (rintro (h | h) <;> contradiction))], rfl⟩
  · skip
    have c58 : ¬ (X_isL c) := c58
    refine T_p xr_61_7 xn_61 (pc' := 8) (ls' := [(0, .int (iI c))]) (st' := [.int (iI c)]) rfl ?_
    refine T_cs xr_61_8 (by decide) xf_132.1 xn_132 (as := [.int (iI c)]) (r := []) rfl (Nat.le_of_ble_eq_true rfl) (Nat.le_of_ble_eq_true rfl) (pc' := 11) rfl (ls' := [(0, .int (iI c))]) rfl ?_
    refine T_mono (c_isDigit sc S c (by omega)) (fun v60 S61 h59 => ?_)
    obtain ⟨h62, h63⟩ := h59
    rw [h62, h63]
    show X_T sc 61 (11, [(0, .int (iI c))], [.int (iI (bI (X_isD c)))], S) _
    refine T_bif_eq xr_61_11 (t := 18) (pc' := 14) rfl rfl (fun c64 => ?_) (fun c64 => ?_)
    · skip
      have c64 : ¬ (X_isD c) := c64
      refine T_p xr_61_18 xn_61 (pc' := 19) (ls' := [(0, .int (iI c))]) (st' := [.int (iI 0)]) rfl ?_
      refine T_iret xr_61_19 xf_61.2.2 (by decide) ?_
      exact ⟨by rw [bI_f (by unfold X_isLD; first | exact Or.inl (by assumption) | exact Or.inr (by assumption) | (rintro (h | h) <;> contradiction))], rfl⟩
    · skip
      have c64 : (X_isD c) := c64
      refine T_p xr_61_14 xn_61 (pc' := 15) (ls' := [(0, .int (iI c))]) (st' := [.int (iI 1)]) rfl ?_
      refine T_p xr_61_15 xn_61 (pc' := 19) (ls' := [(0, .int (iI c))]) (st' := [.int (iI 1)]) rfl ?_
      refine T_iret xr_61_19 xf_61.2.2 (by decide) ?_
      exact ⟨by rw [bI_t (by unfold X_isLD; first | exact Or.inl (by assumption) | exact Or.inr (by assumption) | (rintro (h | h) <;> contradiction))], rfl⟩
theorem c_isPB (sc : X_Sc) (S : X_S) (c : Int) (hc : -1 ≤ c ∧ c ≤ 255) : X_T sc 62 (0, [(0, .int (iI c))], [], S) (fun v S' => v = some (.int (iI (bI (X_isPB c)))) ∧ S' = S) := by
  refine T_p xr_62_0 xn_62 (pc' := 1) (ls' := [(0, .int (iI c))]) (st' := [.int (iI c)]) rfl ?_
  refine T_p xr_62_1 xn_62 (pc' := 3) (ls' := [(0, .int (iI c))]) (st' := [.int (iI 33), .int (iI c)]) rfl ?_
  refine T_zicmp_lt xr_62_3 (t := 34) (pc' := 6) rfl rfl (fun c65 => ?_) (fun c65 => ?_)
  · skip
    have c65 : c < 33 := c65
    refine T_p xr_62_34 xn_62 (pc' := 35) (ls' := [(0, .int (iI c))]) (st' := [.int (iI 0)]) rfl ?_
    refine T_iret xr_62_35 xf_62.2.2 (by decide) ?_
    exact ⟨by rw [bI_f (by unfold X_isPB; omega)], rfl⟩
  · skip
    have c65 : ¬ (c < 33) := c65
    refine T_p xr_62_6 xn_62 (pc' := 7) (ls' := [(0, .int (iI c))]) (st' := [.int (iI c)]) rfl ?_
    refine T_p xr_62_7 xn_62 (pc' := 9) (ls' := [(0, .int (iI c))]) (st' := [.int (iI 126), .int (iI c)]) rfl ?_
    refine T_zicmp_gt xr_62_9 (t := 34) (pc' := 12) rfl rfl (fun c66 => ?_) (fun c66 => ?_)
    · skip
      have c66 : 126 < c := c66
      refine T_p xr_62_34 xn_62 (pc' := 35) (ls' := [(0, .int (iI c))]) (st' := [.int (iI 0)]) rfl ?_
      refine T_iret xr_62_35 xf_62.2.2 (by decide) ?_
      exact ⟨by rw [bI_f (by unfold X_isPB; omega)], rfl⟩
    · skip
      have c66 : ¬ (126 < c) := c66
      refine T_p xr_62_12 xn_62 (pc' := 13) (ls' := [(0, .int (iI c))]) (st' := [.int (iI c)]) rfl ?_
      refine T_p xr_62_13 xn_62 (pc' := 15) (ls' := [(0, .int (iI c))]) (st' := [.int (iI 34), .int (iI c)]) rfl ?_
      refine T_zicmp_eq xr_62_15 (t := 34) (pc' := 18) rfl rfl (fun c67 => ?_) (fun c67 => ?_)
      · skip
        have c67 : c = 34 := c67
        refine T_p xr_62_34 xn_62 (pc' := 35) (ls' := [(0, .int (iI c))]) (st' := [.int (iI 0)]) rfl ?_
        refine T_iret xr_62_35 xf_62.2.2 (by decide) ?_
        exact ⟨by rw [bI_f (by unfold X_isPB; omega)], rfl⟩
      · skip
        have c67 : ¬ (c = 34) := c67
        refine T_p xr_62_18 xn_62 (pc' := 19) (ls' := [(0, .int (iI c))]) (st' := [.int (iI c)]) rfl ?_
        refine T_p xr_62_19 xn_62 (pc' := 21) (ls' := [(0, .int (iI c))]) (st' := [.int (iI 40), .int (iI c)]) rfl ?_
        refine T_zicmp_eq xr_62_21 (t := 34) (pc' := 24) rfl rfl (fun c68 => ?_) (fun c68 => ?_)
        · skip
          have c68 : c = 40 := c68
          refine T_p xr_62_34 xn_62 (pc' := 35) (ls' := [(0, .int (iI c))]) (st' := [.int (iI 0)]) rfl ?_
          refine T_iret xr_62_35 xf_62.2.2 (by decide) ?_
          exact ⟨by rw [bI_f (by unfold X_isPB; omega)], rfl⟩
        · skip
          have c68 : ¬ (c = 40) := c68
          refine T_p xr_62_24 xn_62 (pc' := 25) (ls' := [(0, .int (iI c))]) (st' := [.int (iI c)]) rfl ?_
          refine T_p xr_62_25 xn_62 (pc' := 27) (ls' := [(0, .int (iI c))]) (st' := [.int (iI 41), .int (iI c)]) rfl ?_
          refine T_zicmp_eq xr_62_27 (t := 34) (pc' := 30) rfl rfl (fun c69 => ?_) (fun c69 => ?_)
          · skip
            have c69 : c = 41 := c69
            refine T_p xr_62_34 xn_62 (pc' := 35) (ls' := [(0, .int (iI c))]) (st' := [.int (iI 0)]) rfl ?_
            refine T_iret xr_62_35 xf_62.2.2 (by decide) ?_
            exact ⟨by rw [bI_f (by unfold X_isPB; omega)], rfl⟩
          · skip
            have c69 : ¬ (c = 41) := c69
            refine T_p xr_62_30 xn_62 (pc' := 31) (ls' := [(0, .int (iI c))]) (st' := [.int (iI 1)]) rfl ?_
            refine T_p xr_62_31 xn_62 (pc' := 35) (ls' := [(0, .int (iI c))]) (st' := [.int (iI 1)]) rfl ?_
            refine T_iret xr_62_35 xf_62.2.2 (by decide) ?_
            exact ⟨by rw [bI_t (by unfold X_isPB; omega)], rfl⟩
theorem c_isSign (sc : X_Sc) (S : X_S) (c : Int) (hc : -1 ≤ c ∧ c ≤ 255) : X_T sc 63 (0, [(0, .int (iI c))], [], S) (fun v S' => v = some (.int (iI (bI (X_isSg c)))) ∧ S' = S) := by
  refine T_p xr_63_0 xn_63 (pc' := 1) (ls' := [(0, .int (iI c))]) (st' := [.int (iI c)]) rfl ?_
  have hct : (iI c).toInt = c := iI_t (by omega) (by omega)
  by_cases h : X_isSg c
  · refine T_p xr_63_1 xn_63 (pc' := 100) (ls' := [(0, .int (iI c))]) (st' := []) ?_ ?_
    · have e : X_tg 1 (Op.lookupswitch.offset [(37, 99), (42, 99), (43, 99), (45, 99), (47, 99), (58, 99), (59, 99), (60, 99), (61, 99), (64, 99), (95, 99)] 101 c) = some 100 := by
        unfold X_isSg at h
        rcases h with h | h | h | h | h | h | h | h | h | h | h <;> subst h <;> rfl
      simp only [X_pstep, hct]
      rw [e]
    · refine T_p xr_63_100 xn_63 (pc' := 101) (ls' := [(0, .int (iI c))]) (st' := [.int (iI 1)]) rfl ?_
      exact T_iret xr_63_101 xf_63.2.2 (by decide) ⟨by rw [bI_t h], rfl⟩
  · refine T_p xr_63_1 xn_63 (pc' := 102) (ls' := [(0, .int (iI c))]) (st' := []) ?_ ?_
    · have e : X_tg 1 (Op.lookupswitch.offset [(37, 99), (42, 99), (43, 99), (45, 99), (47, 99), (58, 99), (59, 99), (60, 99), (61, 99), (64, 99), (95, 99)] 101 c) = some 102 := by
        unfold X_isSg at h
        simp only [not_or] at h
        obtain ⟨a1, a2, a3, a4, a5, a6, a7, a8, a9, a10, a11⟩ := h
        simp only [Op.lookupswitch.offset]
        rw [if_neg (by omega), if_neg (by omega), if_neg (by omega), if_neg (by omega), if_neg (by omega), if_neg (by omega), if_neg (by omega), if_neg (by omega), if_neg (by omega), if_neg (by omega), if_neg (by omega)]
        rfl
      simp only [X_pstep, hct]
      rw [e]
    · refine T_p xr_63_102 xn_63 (pc' := 103) (ls' := [(0, .int (iI c))]) (st' := [.int (iI 0)]) rfl ?_
      exact T_iret xr_63_103 xf_63.2.2 (by decide) ⟨by rw [bI_f h], rfl⟩
theorem c_isRes (sc : X_Sc) (S : X_S) (n : Int64) : X_T sc 59 (0, [(0, .long n)], [], S) (fun v S' => v = some (.int (iI (bI (X_res n)))) ∧ S' = S) := by
  refine T_p xr_59_0 xn_59 (pc' := 1) (ls' := [(0, .long n)]) (st' := [.long n]) rfl ?_
  refine T_p xr_59_1 xn_59 (pc' := 4) (ls' := [(0, .long n)]) (st' := [.long (Int64.ofNat 1918987883), .long n]) rfl ?_
  refine T_lc_eq xr_59_4 xr_59_5 (t := 56) (pc' := 8) rfl rfl (fun c70 => ?_) (fun c70 => ?_)
  · skip
    have c70 : n = (Int64.ofNat 1918987883) := c70
    refine T_p xr_59_56 xn_59 (pc' := 57) (ls' := [(0, .long n)]) (st' := [.int (iI 1)]) rfl ?_
    refine T_p xr_59_57 xn_59 (pc' := 61) (ls' := [(0, .long n)]) (st' := [.int (iI 1)]) rfl ?_
    refine T_iret xr_59_61 xf_59.2.2 (by decide) ?_
    exact ⟨by rw [bI_t (by unfold X_res; first | (left; assumption) | (left; exact Classical.not_not.mp (by assumption)) | (right; left; assumption) | (right; left; exact Classical.not_not.mp (by assumption)) | (right; right; left; assumption) | (right; right; left; exact Classical.not_not.mp (by assumption)) | (right; right; right; left; assumption) | (right; right; right; left; exact Classical.not_not.mp (by assumption)) | (right; right; right; right; left; assumption) | (right; right; right; right; left; exact Classical.not_not.mp (by assumption)) | (right; right; right; right; right; left; assumption) | (right; right; right; right; right; left; exact Classical.not_not.mp (by assumption)) | (right; right; right; right; right; right; assumption) | (right; right; right; right; right; right; exact Classical.not_not.mp (by assumption)))], rfl⟩
  · skip
    have c70 : ¬ (n = (Int64.ofNat 1918987883)) := c70
    refine T_p xr_59_8 xn_59 (pc' := 9) (ls' := [(0, .long n)]) (st' := [.long n]) rfl ?_
    refine T_p xr_59_9 xn_59 (pc' := 12) (ls' := [(0, .long n)]) (st' := [.long (Int64.ofNat 32766990153442674), .long n]) rfl ?_
    refine T_lc_eq xr_59_12 xr_59_13 (t := 56) (pc' := 16) rfl rfl (fun c71 => ?_) (fun c71 => ?_)
    · skip
      have c71 : n = (Int64.ofNat 32766990153442674) := c71
      refine T_p xr_59_56 xn_59 (pc' := 57) (ls' := [(0, .long n)]) (st' := [.int (iI 1)]) rfl ?_
      refine T_p xr_59_57 xn_59 (pc' := 61) (ls' := [(0, .long n)]) (st' := [.int (iI 1)]) rfl ?_
      refine T_iret xr_59_61 xf_59.2.2 (by decide) ?_
      exact ⟨by rw [bI_t (by unfold X_res; first | (left; assumption) | (left; exact Classical.not_not.mp (by assumption)) | (right; left; assumption) | (right; left; exact Classical.not_not.mp (by assumption)) | (right; right; left; assumption) | (right; right; left; exact Classical.not_not.mp (by assumption)) | (right; right; right; left; assumption) | (right; right; right; left; exact Classical.not_not.mp (by assumption)) | (right; right; right; right; left; assumption) | (right; right; right; right; left; exact Classical.not_not.mp (by assumption)) | (right; right; right; right; right; left; assumption) | (right; right; right; right; right; left; exact Classical.not_not.mp (by assumption)) | (right; right; right; right; right; right; assumption) | (right; right; right; right; right; right; exact Classical.not_not.mp (by assumption)))], rfl⟩
    · skip
      have c71 : ¬ (n = (Int64.ofNat 32766990153442674)) := c71
      refine T_p xr_59_16 xn_59 (pc' := 17) (ls' := [(0, .long n)]) (st' := [.long n]) rfl ?_
      refine T_p xr_59_17 xn_59 (pc' := 20) (ls' := [(0, .long n)]) (st' := [.long (Int64.ofNat 1802071652), .long n]) rfl ?_
      refine T_lc_eq xr_59_20 xr_59_21 (t := 56) (pc' := 24) rfl rfl (fun c72 => ?_) (fun c72 => ?_)
      · skip
        have c72 : n = (Int64.ofNat 1802071652) := c72
        refine T_p xr_59_56 xn_59 (pc' := 57) (ls' := [(0, .long n)]) (st' := [.int (iI 1)]) rfl ?_
        refine T_p xr_59_57 xn_59 (pc' := 61) (ls' := [(0, .long n)]) (st' := [.int (iI 1)]) rfl ?_
        refine T_iret xr_59_61 xf_59.2.2 (by decide) ?_
        exact ⟨by rw [bI_t (by unfold X_res; first | (left; assumption) | (left; exact Classical.not_not.mp (by assumption)) | (right; left; assumption) | (right; left; exact Classical.not_not.mp (by assumption)) | (right; right; left; assumption) | (right; right; left; exact Classical.not_not.mp (by assumption)) | (right; right; right; left; assumption) | (right; right; right; left; exact Classical.not_not.mp (by assumption)) | (right; right; right; right; left; assumption) | (right; right; right; right; left; exact Classical.not_not.mp (by assumption)) | (right; right; right; right; right; left; assumption) | (right; right; right; right; right; left; exact Classical.not_not.mp (by assumption)) | (right; right; right; right; right; right; assumption) | (right; right; right; right; right; right; exact Classical.not_not.mp (by assumption)))], rfl⟩
      · skip
        have c72 : ¬ (n = (Int64.ofNat 1802071652)) := c72
        refine T_p xr_59_24 xn_59 (pc' := 25) (ls' := [(0, .long n)]) (st' := [.long n]) rfl ?_
        refine T_p xr_59_25 xn_59 (pc' := 28) (ls' := [(0, .long n)]) (st' := [.long (Int64.ofNat 504363246962), .long n]) rfl ?_
        refine T_lc_eq xr_59_28 xr_59_29 (t := 56) (pc' := 32) rfl rfl (fun c73 => ?_) (fun c73 => ?_)
        · skip
          have c73 : n = (Int64.ofNat 504363246962) := c73
          refine T_p xr_59_56 xn_59 (pc' := 57) (ls' := [(0, .long n)]) (st' := [.int (iI 1)]) rfl ?_
          refine T_p xr_59_57 xn_59 (pc' := 61) (ls' := [(0, .long n)]) (st' := [.int (iI 1)]) rfl ?_
          refine T_iret xr_59_61 xf_59.2.2 (by decide) ?_
          exact ⟨by rw [bI_t (by unfold X_res; first | (left; assumption) | (left; exact Classical.not_not.mp (by assumption)) | (right; left; assumption) | (right; left; exact Classical.not_not.mp (by assumption)) | (right; right; left; assumption) | (right; right; left; exact Classical.not_not.mp (by assumption)) | (right; right; right; left; assumption) | (right; right; right; left; exact Classical.not_not.mp (by assumption)) | (right; right; right; right; left; assumption) | (right; right; right; right; left; exact Classical.not_not.mp (by assumption)) | (right; right; right; right; right; left; assumption) | (right; right; right; right; right; left; exact Classical.not_not.mp (by assumption)) | (right; right; right; right; right; right; assumption) | (right; right; right; right; right; right; exact Classical.not_not.mp (by assumption)))], rfl⟩
        · skip
          have c73 : ¬ (n = (Int64.ofNat 504363246962)) := c73
          refine T_p xr_59_32 xn_59 (pc' := 33) (ls' := [(0, .long n)]) (st' := [.long n]) rfl ?_
          refine T_p xr_59_33 xn_59 (pc' := 36) (ls' := [(0, .long n)]) (st' := [.long (Int64.ofNat 2003792484), .long n]) rfl ?_
          refine T_lc_eq xr_59_36 xr_59_37 (t := 56) (pc' := 40) rfl rfl (fun c74 => ?_) (fun c74 => ?_)
          · skip
            have c74 : n = (Int64.ofNat 2003792484) := c74
            refine T_p xr_59_56 xn_59 (pc' := 57) (ls' := [(0, .long n)]) (st' := [.int (iI 1)]) rfl ?_
            refine T_p xr_59_57 xn_59 (pc' := 61) (ls' := [(0, .long n)]) (st' := [.int (iI 1)]) rfl ?_
            refine T_iret xr_59_61 xf_59.2.2 (by decide) ?_
            exact ⟨by rw [bI_t (by unfold X_res; first | (left; assumption) | (left; exact Classical.not_not.mp (by assumption)) | (right; left; assumption) | (right; left; exact Classical.not_not.mp (by assumption)) | (right; right; left; assumption) | (right; right; left; exact Classical.not_not.mp (by assumption)) | (right; right; right; left; assumption) | (right; right; right; left; exact Classical.not_not.mp (by assumption)) | (right; right; right; right; left; assumption) | (right; right; right; right; left; exact Classical.not_not.mp (by assumption)) | (right; right; right; right; right; left; assumption) | (right; right; right; right; right; left; exact Classical.not_not.mp (by assumption)) | (right; right; right; right; right; right; assumption) | (right; right; right; right; right; right; exact Classical.not_not.mp (by assumption)))], rfl⟩
          · skip
            have c74 : ¬ (n = (Int64.ofNat 2003792484)) := c74
            refine T_p xr_59_40 xn_59 (pc' := 41) (ls' := [(0, .long n)]) (st' := [.long n]) rfl ?_
            refine T_p xr_59_41 xn_59 (pc' := 44) (ls' := [(0, .long n)]) (st' := [.long (Int64.ofNat 1818584692), .long n]) rfl ?_
            refine T_lc_eq xr_59_44 xr_59_45 (t := 56) (pc' := 48) rfl rfl (fun c75 => ?_) (fun c75 => ?_)
            · skip
              have c75 : n = (Int64.ofNat 1818584692) := c75
              refine T_p xr_59_56 xn_59 (pc' := 57) (ls' := [(0, .long n)]) (st' := [.int (iI 1)]) rfl ?_
              refine T_p xr_59_57 xn_59 (pc' := 61) (ls' := [(0, .long n)]) (st' := [.int (iI 1)]) rfl ?_
              refine T_iret xr_59_61 xf_59.2.2 (by decide) ?_
              exact ⟨by rw [bI_t (by unfold X_res; first | (left; assumption) | (left; exact Classical.not_not.mp (by assumption)) | (right; left; assumption) | (right; left; exact Classical.not_not.mp (by assumption)) | (right; right; left; assumption) | (right; right; left; exact Classical.not_not.mp (by assumption)) | (right; right; right; left; assumption) | (right; right; right; left; exact Classical.not_not.mp (by assumption)) | (right; right; right; right; left; assumption) | (right; right; right; right; left; exact Classical.not_not.mp (by assumption)) | (right; right; right; right; right; left; assumption) | (right; right; right; right; right; left; exact Classical.not_not.mp (by assumption)) | (right; right; right; right; right; right; assumption) | (right; right; right; right; right; right; exact Classical.not_not.mp (by assumption)))], rfl⟩
            · skip
              have c75 : ¬ (n = (Int64.ofNat 1818584692)) := c75
              refine T_p xr_59_48 xn_59 (pc' := 49) (ls' := [(0, .long n)]) (st' := [.long n]) rfl ?_
              refine T_p xr_59_49 xn_59 (pc' := 52) (ls' := [(0, .long n)]) (st' := [.long (Int64.ofNat 491394656372), .long n]) rfl ?_
              refine T_lc_ne xr_59_52 xr_59_53 (t := 60) (pc' := 56) rfl rfl (fun c76 => ?_) (fun c76 => ?_)
              · skip
                have c76 : ¬ n = (Int64.ofNat 491394656372) := c76
                refine T_p xr_59_60 xn_59 (pc' := 61) (ls' := [(0, .long n)]) (st' := [.int (iI 0)]) rfl ?_
                refine T_iret xr_59_61 xf_59.2.2 (by decide) ?_
                exact ⟨by rw [bI_f (by unfold X_res; rintro (h | h | h | h | h | h | h) <;> contradiction)], rfl⟩
              · skip
                have c76 : ¬ (¬ n = (Int64.ofNat 491394656372)) := c76
                refine T_p xr_59_56 xn_59 (pc' := 57) (ls' := [(0, .long n)]) (st' := [.int (iI 1)]) rfl ?_
                refine T_p xr_59_57 xn_59 (pc' := 61) (ls' := [(0, .long n)]) (st' := [.int (iI 1)]) rfl ?_
                refine T_iret xr_59_61 xf_59.2.2 (by decide) ?_
                exact ⟨by rw [bI_t (by unfold X_res; first | (left; assumption) | (left; exact Classical.not_not.mp (by assumption)) | (right; left; assumption) | (right; left; exact Classical.not_not.mp (by assumption)) | (right; right; left; assumption) | (right; right; left; exact Classical.not_not.mp (by assumption)) | (right; right; right; left; assumption) | (right; right; right; left; exact Classical.not_not.mp (by assumption)) | (right; right; right; right; left; assumption) | (right; right; right; right; left; exact Classical.not_not.mp (by assumption)) | (right; right; right; right; right; left; assumption) | (right; right; right; right; right; left; exact Classical.not_not.mp (by assumption)) | (right; right; right; right; right; right; assumption) | (right; right; right; right; right; right; exact Classical.not_not.mp (by assumption)))], rfl⟩
end
section
theorem xr_53_0 : X_row 53 0 = some (0, (.aload_n 0, 1), (0, 0, 0)) := by decide +kernel
theorem xr_53_1 : X_row 53 1 = some (1, (.iconst 0, 1), (0, 0, 0)) := by decide +kernel
theorem xr_53_2 : X_row 53 2 = some (2, (.putfield 41, 3), (3, 1, 4)) := by decide +kernel
theorem xr_53_5 : X_row 53 5 = some (5, (.aload_n 0, 1), (0, 0, 0)) := by decide +kernel
theorem xr_53_6 : X_row 53 6 = some (6, (.iconst 0, 1), (0, 0, 0)) := by decide +kernel
theorem xr_53_7 : X_row 53 7 = some (7, (.putfield 38, 3), (3, 2, 6)) := by decide +kernel
theorem xr_53_10 : X_row 53 10 = some (10, (.aload_n 0, 1), (0, 0, 0)) := by decide +kernel
theorem xr_53_11 : X_row 53 11 = some (11, (.iconst 0, 1), (0, 0, 0)) := by decide +kernel
theorem xr_53_12 : X_row 53 12 = some (12, (.putfield 26, 3), (3, 6, 14)) := by decide +kernel
theorem xr_53_15 : X_row 53 15 = some (15, (.iconst 1, 1), (0, 0, 0)) := by decide +kernel
theorem xr_53_16 : X_row 53 16 = some (16, (.istore_n 1, 1), (0, 0, 0)) := by decide +kernel
theorem xr_53_17 : X_row 53 17 = some (17, (.iload_n 1, 1), (0, 0, 0)) := by decide +kernel
theorem xr_53_18 : X_row 53 18 = some (18, (.ifCond .eq 148, 3), (0, 0, 0)) := by decide +kernel
theorem xr_53_21 : X_row 53 21 = some (21, (.aload_n 0, 1), (0, 0, 0)) := by decide +kernel
theorem xr_53_22 : X_row 53 22 = some (22, (.getfield 38, 3), (3, 2, 6)) := by decide +kernel
theorem xr_53_25 : X_row 53 25 = some (25, (.sipush 2000, 3), (0, 0, 0)) := by decide +kernel
theorem xr_53_28 : X_row 53 28 = some (28, (.if_icmp .gt 138, 3), (0, 0, 0)) := by decide +kernel
theorem xr_53_31 : X_row 53 31 = some (31, (.aload_n 0, 1), (0, 0, 0)) := by decide +kernel
theorem xr_53_32 : X_row 53 32 = some (32, (.getfield 41, 3), (3, 1, 4)) := by decide +kernel
theorem xr_53_35 : X_row 53 35 = some (35, (.aload_n 0, 1), (0, 0, 0)) := by decide +kernel
theorem xr_53_36 : X_row 53 36 = some (36, (.getfield 22, 3), (3, 0, 2)) := by decide +kernel
theorem xr_53_39 : X_row 53 39 = some (39, (.getfield 44, 3), (7, 1, 1)) := by decide +kernel
theorem xr_53_42 : X_row 53 42 = some (42, (.if_icmp .ge 33, 3), (0, 0, 0)) := by decide +kernel
theorem xr_53_45 : X_row 53 45 = some (45, (.aload_n 0, 1), (0, 0, 0)) := by decide +kernel
theorem xr_53_46 : X_row 53 46 = some (46, (.getfield 22, 3), (3, 0, 2)) := by decide +kernel
theorem xr_53_49 : X_row 53 49 = some (49, (.aload_n 0, 1), (0, 0, 0)) := by decide +kernel
theorem xr_53_50 : X_row 53 50 = some (50, (.getfield 41, 3), (3, 1, 4)) := by decide +kernel
theorem xr_53_53 : X_row 53 53 = some (53, (.invokevirtual 49, 3), (93, 0, 0)) := by decide +kernel
theorem xr_53_56 : X_row 53 56 = some (56, (.invokestatic 53, 3), (133, 3, 0)) := by decide +kernel
theorem xr_53_59 : X_row 53 59 = some (59, (.ifCond .eq 16, 3), (0, 0, 0)) := by decide +kernel
theorem xr_53_62 : X_row 53 62 = some (62, (.aload_n 0, 1), (0, 0, 0)) := by decide +kernel
theorem xr_53_63 : X_row 53 63 = some (63, (.dup, 1), (0, 0, 0)) := by decide +kernel
theorem xr_53_64 : X_row 53 64 = some (64, (.getfield 41, 3), (3, 1, 4)) := by decide +kernel
theorem xr_53_67 : X_row 53 67 = some (67, (.iconst 1, 1), (0, 0, 0)) := by decide +kernel
theorem xr_53_68 : X_row 53 68 = some (68, (.iadd, 1), (0, 0, 0)) := by decide +kernel
theorem xr_53_69 : X_row 53 69 = some (69, (.putfield 41, 3), (3, 1, 4)) := by decide +kernel
theorem xr_53_72 : X_row 53 72 = some (72, (.goto (-41), 3), (0, 0, 0)) := by decide +kernel
theorem xr_53_75 : X_row 53 75 = some (75, (.aload_n 0, 1), (0, 0, 0)) := by decide +kernel
theorem xr_53_76 : X_row 53 76 = some (76, (.getfield 15, 3), (3, 4, 10)) := by decide +kernel
theorem xr_53_79 : X_row 53 79 = some (79, (.aload_n 0, 1), (0, 0, 0)) := by decide +kernel
theorem xr_53_80 : X_row 53 80 = some (80, (.getfield 38, 3), (3, 2, 6)) := by decide +kernel
theorem xr_53_83 : X_row 53 83 = some (83, (.aload_n 0, 1), (0, 0, 0)) := by decide +kernel
theorem xr_53_84 : X_row 53 84 = some (84, (.getfield 41, 3), (3, 1, 4)) := by decide +kernel
theorem xr_53_87 : X_row 53 87 = some (87, (.iastore, 1), (0, 0, 0)) := by decide +kernel
theorem xr_53_88 : X_row 53 88 = some (88, (.aload_n 0, 1), (0, 0, 0)) := by decide +kernel
theorem xr_53_89 : X_row 53 89 = some (89, (.getfield 18, 3), (3, 5, 12)) := by decide +kernel
theorem xr_53_92 : X_row 53 92 = some (92, (.aload_n 0, 1), (0, 0, 0)) := by decide +kernel
theorem xr_53_93 : X_row 53 93 = some (93, (.getfield 38, 3), (3, 2, 6)) := by decide +kernel
theorem xr_53_96 : X_row 53 96 = some (96, (.lconst 0, 1), (0, 0, 0)) := by decide +kernel
theorem xr_53_97 : X_row 53 97 = some (97, (.lastore, 1), (0, 0, 0)) := by decide +kernel
theorem xr_53_98 : X_row 53 98 = some (98, (.aload_n 0, 1), (0, 0, 0)) := by decide +kernel
theorem xr_53_99 : X_row 53 99 = some (99, (.getfield 9, 3), (3, 3, 8)) := by decide +kernel
theorem xr_53_102 : X_row 53 102 = some (102, (.aload_n 0, 1), (0, 0, 0)) := by decide +kernel
theorem xr_53_103 : X_row 53 103 = some (103, (.getfield 38, 3), (3, 2, 6)) := by decide +kernel
theorem xr_53_106 : X_row 53 106 = some (106, (.aload_n 0, 1), (0, 0, 0)) := by decide +kernel
theorem xr_53_107 : X_row 53 107 = some (107, (.aload_n 0, 1), (0, 0, 0)) := by decide +kernel
theorem xr_53_108 : X_row 53 108 = some (108, (.getfield 22, 3), (3, 0, 2)) := by decide +kernel
theorem xr_53_111 : X_row 53 111 = some (111, (.aload_n 0, 1), (0, 0, 0)) := by decide +kernel
theorem xr_53_112 : X_row 53 112 = some (112, (.getfield 41, 3), (3, 1, 4)) := by decide +kernel
theorem xr_53_115 : X_row 53 115 = some (115, (.invokevirtual 49, 3), (93, 0, 0)) := by decide +kernel
theorem xr_53_118 : X_row 53 118 = some (118, (.invokevirtual 57, 3), (54, 4, 0)) := by decide +kernel
theorem xr_53_121 : X_row 53 121 = some (121, (.iastore, 1), (0, 0, 0)) := by decide +kernel
theorem xr_53_122 : X_row 53 122 = some (122, (.aload_n 0, 1), (0, 0, 0)) := by decide +kernel
theorem xr_53_123 : X_row 53 123 = some (123, (.getfield 9, 3), (3, 3, 8)) := by decide +kernel
theorem xr_53_126 : X_row 53 126 = some (126, (.aload_n 0, 1), (0, 0, 0)) := by decide +kernel
theorem xr_53_127 : X_row 53 127 = some (127, (.getfield 38, 3), (3, 2, 6)) := by decide +kernel
theorem xr_53_130 : X_row 53 130 = some (130, (.iaload, 1), (0, 0, 0)) := by decide +kernel
theorem xr_53_131 : X_row 53 131 = some (131, (.ifCond .eq 20, 3), (0, 0, 0)) := by decide +kernel
theorem xr_53_134 : X_row 53 134 = some (134, (.aload_n 0, 1), (0, 0, 0)) := by decide +kernel
theorem xr_53_135 : X_row 53 135 = some (135, (.getfield 9, 3), (3, 3, 8)) := by decide +kernel
theorem xr_53_138 : X_row 53 138 = some (138, (.aload_n 0, 1), (0, 0, 0)) := by decide +kernel
theorem xr_53_139 : X_row 53 139 = some (139, (.getfield 38, 3), (3, 2, 6)) := by decide +kernel
theorem xr_53_142 : X_row 53 142 = some (142, (.iaload, 1), (0, 0, 0)) := by decide +kernel
theorem xr_53_143 : X_row 53 143 = some (143, (.iconst 1, 1), (0, 0, 0)) := by decide +kernel
theorem xr_53_144 : X_row 53 144 = some (144, (.if_icmp .eq 7, 3), (0, 0, 0)) := by decide +kernel
theorem xr_53_147 : X_row 53 147 = some (147, (.iconst 1, 1), (0, 0, 0)) := by decide +kernel
theorem xr_53_148 : X_row 53 148 = some (148, (.goto 4, 3), (0, 0, 0)) := by decide +kernel
theorem xr_53_151 : X_row 53 151 = some (151, (.iconst 0, 1), (0, 0, 0)) := by decide +kernel
theorem xr_53_152 : X_row 53 152 = some (152, (.istore_n 1, 1), (0, 0, 0)) := by decide +kernel
theorem xr_53_153 : X_row 53 153 = some (153, (.aload_n 0, 1), (0, 0, 0)) := by decide +kernel
theorem xr_53_154 : X_row 53 154 = some (154, (.dup, 1), (0, 0, 0)) := by decide +kernel
theorem xr_53_155 : X_row 53 155 = some (155, (.getfield 38, 3), (3, 2, 6)) := by decide +kernel
theorem xr_53_158 : X_row 53 158 = some (158, (.iconst 1, 1), (0, 0, 0)) := by decide +kernel
theorem xr_53_159 : X_row 53 159 = some (159, (.iadd, 1), (0, 0, 0)) := by decide +kernel
theorem xr_53_160 : X_row 53 160 = some (160, (.putfield 38, 3), (3, 2, 6)) := by decide +kernel
theorem xr_53_163 : X_row 53 163 = some (163, (.goto (-146), 3), (0, 0, 0)) := by decide +kernel
theorem xr_53_166 : X_row 53 166 = some (166, (.return_, 1), (0, 0, 0)) := by decide +kernel
theorem xr_54_0 : X_row 54 0 = some (0, (.iload_n 1, 1), (0, 0, 0)) := by decide +kernel
theorem xr_54_1 : X_row 54 1 = some (1, (.iconst (-1), 1), (0, 0, 0)) := by decide +kernel
theorem xr_54_2 : X_row 54 2 = some (2, (.if_icmp .ne 5, 3), (0, 0, 0)) := by decide +kernel
theorem xr_54_5 : X_row 54 5 = some (5, (.iconst 0, 1), (0, 0, 0)) := by decide +kernel
theorem xr_54_6 : X_row 54 6 = some (6, (.ireturn, 1), (0, 0, 0)) := by decide +kernel
theorem xr_54_7 : X_row 54 7 = some (7, (.iload_n 1, 1), (0, 0, 0)) := by decide +kernel
theorem xr_54_8 : X_row 54 8 = some (8, (.invokestatic 60, 3), (60, 6, 0)) := by decide +kernel
theorem xr_54_11 : X_row 54 11 = some (11, (.ifCond .eq 8, 3), (0, 0, 0)) := by decide +kernel
theorem xr_54_14 : X_row 54 14 = some (14, (.aload_n 0, 1), (0, 0, 0)) := by decide +kernel
theorem xr_54_15 : X_row 54 15 = some (15, (.invokevirtual 63, 3), (55, 8, 0)) := by decide +kernel
theorem xr_54_18 : X_row 54 18 = some (18, (.ireturn, 1), (0, 0, 0)) := by decide +kernel
theorem xr_54_19 : X_row 54 19 = some (19, (.iload_n 1, 1), (0, 0, 0)) := by decide +kernel
theorem xr_54_20 : X_row 54 20 = some (20, (.invokestatic 66, 3), (132, 13, 0)) := by decide +kernel
theorem xr_54_23 : X_row 54 23 = some (23, (.ifCond .eq 8, 3), (0, 0, 0)) := by decide +kernel
theorem xr_54_26 : X_row 54 26 = some (26, (.aload_n 0, 1), (0, 0, 0)) := by decide +kernel
theorem xr_54_27 : X_row 54 27 = some (27, (.invokevirtual 69, 3), (56, 16, 0)) := by decide +kernel
theorem xr_54_30 : X_row 54 30 = some (30, (.ireturn, 1), (0, 0, 0)) := by decide +kernel
theorem xr_54_31 : X_row 54 31 = some (31, (.iload_n 1, 1), (0, 0, 0)) := by decide +kernel
theorem xr_54_32 : X_row 54 32 = some (32, (.bipush 34, 2), (0, 0, 0)) := by decide +kernel
theorem xr_54_34 : X_row 54 34 = some (34, (.if_icmp .ne 10, 3), (0, 0, 0)) := by decide +kernel
theorem xr_54_37 : X_row 54 37 = some (37, (.aload_n 0, 1), (0, 0, 0)) := by decide +kernel
theorem xr_54_38 : X_row 54 38 = some (38, (.invokevirtual 72, 3), (57, 18, 0)) := by decide +kernel
theorem xr_54_41 : X_row 54 41 = some (41, (.goto 8, 3), (0, 0, 0)) := by decide +kernel
theorem xr_54_44 : X_row 54 44 = some (44, (.aload_n 0, 1), (0, 0, 0)) := by decide +kernel
theorem xr_54_45 : X_row 54 45 = some (45, (.iload_n 1, 1), (0, 0, 0)) := by decide +kernel
theorem xr_54_46 : X_row 54 46 = some (46, (.invokevirtual 75, 3), (58, 22, 0)) := by decide +kernel
theorem xr_54_49 : X_row 54 49 = some (49, (.ireturn, 1), (0, 0, 0)) := by decide +kernel
theorem xr_55_0 : X_row 55 0 = some (0, (.lconst 0, 1), (0, 0, 0)) := by decide +kernel
theorem xr_55_1 : X_row 55 1 = some (1, (.lstore_n 1, 1), (0, 0, 0)) := by decide +kernel
theorem xr_55_2 : X_row 55 2 = some (2, (.aload_n 0, 1), (0, 0, 0)) := by decide +kernel
theorem xr_55_3 : X_row 55 3 = some (3, (.getfield 41, 3), (3, 1, 4)) := by decide +kernel
theorem xr_55_6 : X_row 55 6 = some (6, (.aload_n 0, 1), (0, 0, 0)) := by decide +kernel
theorem xr_55_7 : X_row 55 7 = some (7, (.getfield 22, 3), (3, 0, 2)) := by decide +kernel
theorem xr_55_10 : X_row 55 10 = some (10, (.getfield 44, 3), (7, 1, 1)) := by decide +kernel
theorem xr_55_13 : X_row 55 13 = some (13, (.if_icmp .ge 51, 3), (0, 0, 0)) := by decide +kernel
theorem xr_55_16 : X_row 55 16 = some (16, (.aload_n 0, 1), (0, 0, 0)) := by decide +kernel
theorem xr_55_17 : X_row 55 17 = some (17, (.getfield 22, 3), (3, 0, 2)) := by decide +kernel
theorem xr_55_20 : X_row 55 20 = some (20, (.aload_n 0, 1), (0, 0, 0)) := by decide +kernel
theorem xr_55_21 : X_row 55 21 = some (21, (.getfield 41, 3), (3, 1, 4)) := by decide +kernel
theorem xr_55_24 : X_row 55 24 = some (24, (.invokevirtual 49, 3), (93, 0, 0)) := by decide +kernel
theorem xr_55_27 : X_row 55 27 = some (27, (.invokestatic 78, 3), (61, 10, 0)) := by decide +kernel
theorem xr_55_30 : X_row 55 30 = some (30, (.ifCond .eq 34, 3), (0, 0, 0)) := by decide +kernel
theorem xr_55_33 : X_row 55 33 = some (33, (.lload_n 1, 1), (0, 0, 0)) := by decide +kernel
theorem xr_55_34 : X_row 55 34 = some (34, (.bipush 8, 2), (0, 0, 0)) := by decide +kernel
theorem xr_55_36 : X_row 55 36 = some (36, (.lshl, 1), (0, 0, 0)) := by decide +kernel
theorem xr_55_37 : X_row 55 37 = some (37, (.aload_n 0, 1), (0, 0, 0)) := by decide +kernel
theorem xr_55_38 : X_row 55 38 = some (38, (.getfield 22, 3), (3, 0, 2)) := by decide +kernel
theorem xr_55_41 : X_row 55 41 = some (41, (.aload_n 0, 1), (0, 0, 0)) := by decide +kernel
theorem xr_55_42 : X_row 55 42 = some (42, (.getfield 41, 3), (3, 1, 4)) := by decide +kernel
theorem xr_55_45 : X_row 55 45 = some (45, (.invokevirtual 49, 3), (93, 0, 0)) := by decide +kernel
theorem xr_55_48 : X_row 55 48 = some (48, (.i2l, 1), (0, 0, 0)) := by decide +kernel
theorem xr_55_49 : X_row 55 49 = some (49, (.lor, 1), (0, 0, 0)) := by decide +kernel
theorem xr_55_50 : X_row 55 50 = some (50, (.lstore_n 1, 1), (0, 0, 0)) := by decide +kernel
theorem xr_55_51 : X_row 55 51 = some (51, (.aload_n 0, 1), (0, 0, 0)) := by decide +kernel
theorem xr_55_52 : X_row 55 52 = some (52, (.dup, 1), (0, 0, 0)) := by decide +kernel
theorem xr_55_53 : X_row 55 53 = some (53, (.getfield 41, 3), (3, 1, 4)) := by decide +kernel
theorem xr_55_56 : X_row 55 56 = some (56, (.iconst 1, 1), (0, 0, 0)) := by decide +kernel
theorem xr_55_57 : X_row 55 57 = some (57, (.iadd, 1), (0, 0, 0)) := by decide +kernel
theorem xr_55_58 : X_row 55 58 = some (58, (.putfield 41, 3), (3, 1, 4)) := by decide +kernel
theorem xr_55_61 : X_row 55 61 = some (61, (.goto (-59), 3), (0, 0, 0)) := by decide +kernel
theorem xr_55_64 : X_row 55 64 = some (64, (.aload_n 0, 1), (0, 0, 0)) := by decide +kernel
theorem xr_55_65 : X_row 55 65 = some (65, (.getfield 41, 3), (3, 1, 4)) := by decide +kernel
theorem xr_55_68 : X_row 55 68 = some (68, (.aload_n 0, 1), (0, 0, 0)) := by decide +kernel
theorem xr_55_69 : X_row 55 69 = some (69, (.getfield 15, 3), (3, 4, 10)) := by decide +kernel
theorem xr_55_72 : X_row 55 72 = some (72, (.aload_n 0, 1), (0, 0, 0)) := by decide +kernel
theorem xr_55_73 : X_row 55 73 = some (73, (.getfield 38, 3), (3, 2, 6)) := by decide +kernel
theorem xr_55_76 : X_row 55 76 = some (76, (.iaload, 1), (0, 0, 0)) := by decide +kernel
theorem xr_55_77 : X_row 55 77 = some (77, (.isub, 1), (0, 0, 0)) := by decide +kernel
theorem xr_55_78 : X_row 55 78 = some (78, (.bipush 8, 2), (0, 0, 0)) := by decide +kernel
theorem xr_55_80 : X_row 55 80 = some (80, (.if_icmp .le 5, 3), (0, 0, 0)) := by decide +kernel
theorem xr_55_83 : X_row 55 83 = some (83, (.iconst 1, 1), (0, 0, 0)) := by decide +kernel
theorem xr_55_84 : X_row 55 84 = some (84, (.ireturn, 1), (0, 0, 0)) := by decide +kernel
theorem xr_55_85 : X_row 55 85 = some (85, (.aload_n 0, 1), (0, 0, 0)) := by decide +kernel
theorem xr_55_86 : X_row 55 86 = some (86, (.getfield 18, 3), (3, 5, 12)) := by decide +kernel
theorem xr_55_89 : X_row 55 89 = some (89, (.aload_n 0, 1), (0, 0, 0)) := by decide +kernel
theorem xr_55_90 : X_row 55 90 = some (90, (.getfield 38, 3), (3, 2, 6)) := by decide +kernel
theorem xr_55_93 : X_row 55 93 = some (93, (.lload_n 1, 1), (0, 0, 0)) := by decide +kernel
theorem xr_55_94 : X_row 55 94 = some (94, (.lastore, 1), (0, 0, 0)) := by decide +kernel
theorem xr_55_95 : X_row 55 95 = some (95, (.lload_n 1, 1), (0, 0, 0)) := by decide +kernel
theorem xr_55_96 : X_row 55 96 = some (96, (.invokestatic 81, 3), (59, 14, 0)) := by decide +kernel
theorem xr_55_99 : X_row 55 99 = some (99, (.ifCond .eq 7, 3), (0, 0, 0)) := by decide +kernel
theorem xr_55_102 : X_row 55 102 = some (102, (.iconst 3, 1), (0, 0, 0)) := by decide +kernel
theorem xr_55_103 : X_row 55 103 = some (103, (.goto 4, 3), (0, 0, 0)) := by decide +kernel
theorem xr_55_106 : X_row 55 106 = some (106, (.iconst 2, 1), (0, 0, 0)) := by decide +kernel
theorem xr_55_107 : X_row 55 107 = some (107, (.ireturn, 1), (0, 0, 0)) := by decide +kernel
theorem xr_56_0 : X_row 56 0 = some (0, (.lconst 0, 1), (0, 0, 0)) := by decide +kernel
theorem xr_56_1 : X_row 56 1 = some (1, (.lstore_n 1, 1), (0, 0, 0)) := by decide +kernel
theorem xr_56_2 : X_row 56 2 = some (2, (.aload_n 0, 1), (0, 0, 0)) := by decide +kernel
theorem xr_56_3 : X_row 56 3 = some (3, (.getfield 41, 3), (3, 1, 4)) := by decide +kernel
theorem xr_56_6 : X_row 56 6 = some (6, (.aload_n 0, 1), (0, 0, 0)) := by decide +kernel
theorem xr_56_7 : X_row 56 7 = some (7, (.getfield 22, 3), (3, 0, 2)) := by decide +kernel
theorem xr_56_10 : X_row 56 10 = some (10, (.getfield 44, 3), (7, 1, 1)) := by decide +kernel
theorem xr_56_13 : X_row 56 13 = some (13, (.if_icmp .ge 56, 3), (0, 0, 0)) := by decide +kernel
theorem xr_56_16 : X_row 56 16 = some (16, (.aload_n 0, 1), (0, 0, 0)) := by decide +kernel
theorem xr_56_17 : X_row 56 17 = some (17, (.getfield 22, 3), (3, 0, 2)) := by decide +kernel
theorem xr_56_20 : X_row 56 20 = some (20, (.aload_n 0, 1), (0, 0, 0)) := by decide +kernel
theorem xr_56_21 : X_row 56 21 = some (21, (.getfield 41, 3), (3, 1, 4)) := by decide +kernel
theorem xr_56_24 : X_row 56 24 = some (24, (.invokevirtual 49, 3), (93, 0, 0)) := by decide +kernel
theorem xr_56_27 : X_row 56 27 = some (27, (.invokestatic 66, 3), (132, 13, 0)) := by decide +kernel
theorem xr_56_30 : X_row 56 30 = some (30, (.ifCond .eq 39, 3), (0, 0, 0)) := by decide +kernel
theorem xr_56_33 : X_row 56 33 = some (33, (.lload_n 1, 1), (0, 0, 0)) := by decide +kernel
theorem xr_56_34 : X_row 56 34 = some (34, (.ldc2_w 85, 3), (10, 571, 0)) := by decide +kernel
theorem xr_56_37 : X_row 56 37 = some (37, (.lmul, 1), (0, 0, 0)) := by decide +kernel
theorem xr_56_38 : X_row 56 38 = some (38, (.aload_n 0, 1), (0, 0, 0)) := by decide +kernel
theorem xr_56_39 : X_row 56 39 = some (39, (.getfield 22, 3), (3, 0, 2)) := by decide +kernel
theorem xr_56_42 : X_row 56 42 = some (42, (.aload_n 0, 1), (0, 0, 0)) := by decide +kernel
theorem xr_56_43 : X_row 56 43 = some (43, (.getfield 41, 3), (3, 1, 4)) := by decide +kernel
theorem xr_56_46 : X_row 56 46 = some (46, (.invokevirtual 49, 3), (93, 0, 0)) := by decide +kernel
theorem xr_56_49 : X_row 56 49 = some (49, (.i2l, 1), (0, 0, 0)) := by decide +kernel
theorem xr_56_50 : X_row 56 50 = some (50, (.ladd, 1), (0, 0, 0)) := by decide +kernel
theorem xr_56_51 : X_row 56 51 = some (51, (.ldc2_w 87, 3), (48, 572, 0)) := by decide +kernel
theorem xr_56_54 : X_row 56 54 = some (54, (.lsub, 1), (0, 0, 0)) := by decide +kernel
theorem xr_56_55 : X_row 56 55 = some (55, (.lstore_n 1, 1), (0, 0, 0)) := by decide +kernel
theorem xr_56_56 : X_row 56 56 = some (56, (.aload_n 0, 1), (0, 0, 0)) := by decide +kernel
theorem xr_56_57 : X_row 56 57 = some (57, (.dup, 1), (0, 0, 0)) := by decide +kernel
theorem xr_56_58 : X_row 56 58 = some (58, (.getfield 41, 3), (3, 1, 4)) := by decide +kernel
theorem xr_56_61 : X_row 56 61 = some (61, (.iconst 1, 1), (0, 0, 0)) := by decide +kernel
theorem xr_56_62 : X_row 56 62 = some (62, (.iadd, 1), (0, 0, 0)) := by decide +kernel
theorem xr_56_63 : X_row 56 63 = some (63, (.putfield 41, 3), (3, 1, 4)) := by decide +kernel
theorem xr_56_66 : X_row 56 66 = some (66, (.goto (-64), 3), (0, 0, 0)) := by decide +kernel
theorem xr_56_69 : X_row 56 69 = some (69, (.aload_n 0, 1), (0, 0, 0)) := by decide +kernel
theorem xr_56_70 : X_row 56 70 = some (70, (.getfield 41, 3), (3, 1, 4)) := by decide +kernel
theorem xr_56_73 : X_row 56 73 = some (73, (.aload_n 0, 1), (0, 0, 0)) := by decide +kernel
theorem xr_56_74 : X_row 56 74 = some (74, (.getfield 15, 3), (3, 4, 10)) := by decide +kernel
theorem xr_56_77 : X_row 56 77 = some (77, (.aload_n 0, 1), (0, 0, 0)) := by decide +kernel
theorem xr_56_78 : X_row 56 78 = some (78, (.getfield 38, 3), (3, 2, 6)) := by decide +kernel
theorem xr_56_81 : X_row 56 81 = some (81, (.iaload, 1), (0, 0, 0)) := by decide +kernel
theorem xr_56_82 : X_row 56 82 = some (82, (.isub, 1), (0, 0, 0)) := by decide +kernel
theorem xr_56_83 : X_row 56 83 = some (83, (.istore_n 3, 1), (0, 0, 0)) := by decide +kernel
theorem xr_56_84 : X_row 56 84 = some (84, (.iload_n 3, 1), (0, 0, 0)) := by decide +kernel
theorem xr_56_85 : X_row 56 85 = some (85, (.bipush 9, 2), (0, 0, 0)) := by decide +kernel
theorem xr_56_87 : X_row 56 87 = some (87, (.if_icmp .gt 20, 3), (0, 0, 0)) := by decide +kernel
theorem xr_56_90 : X_row 56 90 = some (90, (.aload_n 0, 1), (0, 0, 0)) := by decide +kernel
theorem xr_56_91 : X_row 56 91 = some (91, (.getfield 22, 3), (3, 0, 2)) := by decide +kernel
theorem xr_56_94 : X_row 56 94 = some (94, (.aload_n 0, 1), (0, 0, 0)) := by decide +kernel
theorem xr_56_95 : X_row 56 95 = some (95, (.getfield 41, 3), (3, 1, 4)) := by decide +kernel
theorem xr_56_98 : X_row 56 98 = some (98, (.invokevirtual 49, 3), (93, 0, 0)) := by decide +kernel
theorem xr_56_101 : X_row 56 101 = some (101, (.invokestatic 60, 3), (60, 6, 0)) := by decide +kernel
theorem xr_56_104 : X_row 56 104 = some (104, (.ifCond .eq 5, 3), (0, 0, 0)) := by decide +kernel
theorem xr_56_107 : X_row 56 107 = some (107, (.iconst 1, 1), (0, 0, 0)) := by decide +kernel
theorem xr_56_108 : X_row 56 108 = some (108, (.ireturn, 1), (0, 0, 0)) := by decide +kernel
theorem xr_56_109 : X_row 56 109 = some (109, (.aload_n 0, 1), (0, 0, 0)) := by decide +kernel
theorem xr_56_110 : X_row 56 110 = some (110, (.getfield 18, 3), (3, 5, 12)) := by decide +kernel
theorem xr_56_113 : X_row 56 113 = some (113, (.aload_n 0, 1), (0, 0, 0)) := by decide +kernel
theorem xr_56_114 : X_row 56 114 = some (114, (.getfield 38, 3), (3, 2, 6)) := by decide +kernel
theorem xr_56_117 : X_row 56 117 = some (117, (.lload_n 1, 1), (0, 0, 0)) := by decide +kernel
theorem xr_56_118 : X_row 56 118 = some (118, (.lastore, 1), (0, 0, 0)) := by decide +kernel
theorem xr_56_119 : X_row 56 119 = some (119, (.iload_n 3, 1), (0, 0, 0)) := by decide +kernel
theorem xr_56_120 : X_row 56 120 = some (120, (.iconst 1, 1), (0, 0, 0)) := by decide +kernel
theorem xr_56_121 : X_row 56 121 = some (121, (.if_icmp .ne 7, 3), (0, 0, 0)) := by decide +kernel
theorem xr_56_124 : X_row 56 124 = some (124, (.iconst 5, 1), (0, 0, 0)) := by decide +kernel
theorem xr_56_125 : X_row 56 125 = some (125, (.goto 4, 3), (0, 0, 0)) := by decide +kernel
theorem xr_56_128 : X_row 56 128 = some (128, (.iconst 4, 1), (0, 0, 0)) := by decide +kernel
theorem xr_56_129 : X_row 56 129 = some (129, (.ireturn, 1), (0, 0, 0)) := by decide +kernel
theorem xr_57_0 : X_row 57 0 = some (0, (.iconst 1, 1), (0, 0, 0)) := by decide +kernel
theorem xr_57_1 : X_row 57 1 = some (1, (.istore_n 1, 1), (0, 0, 0)) := by decide +kernel
theorem xr_57_2 : X_row 57 2 = some (2, (.lconst 0, 1), (0, 0, 0)) := by decide +kernel
theorem xr_57_3 : X_row 57 3 = some (3, (.lstore_n 2, 1), (0, 0, 0)) := by decide +kernel
theorem xr_57_4 : X_row 57 4 = some (4, (.aload_n 0, 1), (0, 0, 0)) := by decide +kernel
theorem xr_57_5 : X_row 57 5 = some (5, (.dup, 1), (0, 0, 0)) := by decide +kernel
theorem xr_57_6 : X_row 57 6 = some (6, (.getfield 41, 3), (3, 1, 4)) := by decide +kernel
theorem xr_57_9 : X_row 57 9 = some (9, (.iconst 1, 1), (0, 0, 0)) := by decide +kernel
theorem xr_57_10 : X_row 57 10 = some (10, (.iadd, 1), (0, 0, 0)) := by decide +kernel
theorem xr_57_11 : X_row 57 11 = some (11, (.putfield 41, 3), (3, 1, 4)) := by decide +kernel
theorem xr_57_14 : X_row 57 14 = some (14, (.aload_n 0, 1), (0, 0, 0)) := by decide +kernel
theorem xr_57_15 : X_row 57 15 = some (15, (.getfield 41, 3), (3, 1, 4)) := by decide +kernel
theorem xr_57_18 : X_row 57 18 = some (18, (.aload_n 0, 1), (0, 0, 0)) := by decide +kernel
theorem xr_57_19 : X_row 57 19 = some (19, (.getfield 22, 3), (3, 0, 2)) := by decide +kernel
theorem xr_57_22 : X_row 57 22 = some (22, (.getfield 44, 3), (7, 1, 1)) := by decide +kernel
theorem xr_57_25 : X_row 57 25 = some (25, (.if_icmp .ge 78, 3), (0, 0, 0)) := by decide +kernel
theorem xr_57_28 : X_row 57 28 = some (28, (.aload_n 0, 1), (0, 0, 0)) := by decide +kernel
theorem xr_57_29 : X_row 57 29 = some (29, (.getfield 22, 3), (3, 0, 2)) := by decide +kernel
theorem xr_57_32 : X_row 57 32 = some (32, (.aload_n 0, 1), (0, 0, 0)) := by decide +kernel
theorem xr_57_33 : X_row 57 33 = some (33, (.getfield 41, 3), (3, 1, 4)) := by decide +kernel
theorem xr_57_36 : X_row 57 36 = some (36, (.invokevirtual 49, 3), (93, 0, 0)) := by decide +kernel
theorem xr_57_39 : X_row 57 39 = some (39, (.invokestatic 89, 3), (62, 20, 0)) := by decide +kernel
theorem xr_57_42 : X_row 57 42 = some (42, (.ifCond .eq 61, 3), (0, 0, 0)) := by decide +kernel
theorem xr_57_45 : X_row 57 45 = some (45, (.iload_n 1, 1), (0, 0, 0)) := by decide +kernel
theorem xr_57_46 : X_row 57 46 = some (46, (.ifCond .eq 24, 3), (0, 0, 0)) := by decide +kernel
theorem xr_57_49 : X_row 57 49 = some (49, (.aload_n 0, 1), (0, 0, 0)) := by decide +kernel
theorem xr_57_50 : X_row 57 50 = some (50, (.getfield 22, 3), (3, 0, 2)) := by decide +kernel
theorem xr_57_53 : X_row 57 53 = some (53, (.aload_n 0, 1), (0, 0, 0)) := by decide +kernel
theorem xr_57_54 : X_row 57 54 = some (54, (.getfield 41, 3), (3, 1, 4)) := by decide +kernel
theorem xr_57_57 : X_row 57 57 = some (57, (.invokevirtual 49, 3), (93, 0, 0)) := by decide +kernel
theorem xr_57_60 : X_row 57 60 = some (60, (.invokestatic 66, 3), (132, 13, 0)) := by decide +kernel
theorem xr_57_63 : X_row 57 63 = some (63, (.ifCond .eq 7, 3), (0, 0, 0)) := by decide +kernel
theorem xr_57_66 : X_row 57 66 = some (66, (.iconst 1, 1), (0, 0, 0)) := by decide +kernel
theorem xr_57_67 : X_row 57 67 = some (67, (.goto 4, 3), (0, 0, 0)) := by decide +kernel
theorem xr_57_70 : X_row 57 70 = some (70, (.iconst 0, 1), (0, 0, 0)) := by decide +kernel
theorem xr_57_71 : X_row 57 71 = some (71, (.istore_n 1, 1), (0, 0, 0)) := by decide +kernel
theorem xr_57_72 : X_row 57 72 = some (72, (.lload_n 2, 1), (0, 0, 0)) := by decide +kernel
theorem xr_57_73 : X_row 57 73 = some (73, (.bipush 8, 2), (0, 0, 0)) := by decide +kernel
theorem xr_57_75 : X_row 57 75 = some (75, (.lshl, 1), (0, 0, 0)) := by decide +kernel
theorem xr_57_76 : X_row 57 76 = some (76, (.aload_n 0, 1), (0, 0, 0)) := by decide +kernel
theorem xr_57_77 : X_row 57 77 = some (77, (.getfield 22, 3), (3, 0, 2)) := by decide +kernel
theorem xr_57_80 : X_row 57 80 = some (80, (.aload_n 0, 1), (0, 0, 0)) := by decide +kernel
theorem xr_57_81 : X_row 57 81 = some (81, (.getfield 41, 3), (3, 1, 4)) := by decide +kernel
theorem xr_57_84 : X_row 57 84 = some (84, (.invokevirtual 49, 3), (93, 0, 0)) := by decide +kernel
theorem xr_57_87 : X_row 57 87 = some (87, (.i2l, 1), (0, 0, 0)) := by decide +kernel
theorem xr_57_88 : X_row 57 88 = some (88, (.lor, 1), (0, 0, 0)) := by decide +kernel
theorem xr_57_89 : X_row 57 89 = some (89, (.lstore_n 2, 1), (0, 0, 0)) := by decide +kernel
theorem xr_57_90 : X_row 57 90 = some (90, (.aload_n 0, 1), (0, 0, 0)) := by decide +kernel
theorem xr_57_91 : X_row 57 91 = some (91, (.dup, 1), (0, 0, 0)) := by decide +kernel
theorem xr_57_92 : X_row 57 92 = some (92, (.getfield 41, 3), (3, 1, 4)) := by decide +kernel
theorem xr_57_95 : X_row 57 95 = some (95, (.iconst 1, 1), (0, 0, 0)) := by decide +kernel
theorem xr_57_96 : X_row 57 96 = some (96, (.iadd, 1), (0, 0, 0)) := by decide +kernel
theorem xr_57_97 : X_row 57 97 = some (97, (.putfield 41, 3), (3, 1, 4)) := by decide +kernel
theorem xr_57_100 : X_row 57 100 = some (100, (.goto (-86), 3), (0, 0, 0)) := by decide +kernel
theorem xr_57_103 : X_row 57 103 = some (103, (.aload_n 0, 1), (0, 0, 0)) := by decide +kernel
theorem xr_57_104 : X_row 57 104 = some (104, (.getfield 41, 3), (3, 1, 4)) := by decide +kernel
theorem xr_57_107 : X_row 57 107 = some (107, (.aload_n 0, 1), (0, 0, 0)) := by decide +kernel
theorem xr_57_108 : X_row 57 108 = some (108, (.getfield 15, 3), (3, 4, 10)) := by decide +kernel
theorem xr_57_111 : X_row 57 111 = some (111, (.aload_n 0, 1), (0, 0, 0)) := by decide +kernel
theorem xr_57_112 : X_row 57 112 = some (112, (.getfield 38, 3), (3, 2, 6)) := by decide +kernel
theorem xr_57_115 : X_row 57 115 = some (115, (.iaload, 1), (0, 0, 0)) := by decide +kernel
theorem xr_57_116 : X_row 57 116 = some (116, (.isub, 1), (0, 0, 0)) := by decide +kernel
theorem xr_57_117 : X_row 57 117 = some (117, (.iconst 1, 1), (0, 0, 0)) := by decide +kernel
theorem xr_57_118 : X_row 57 118 = some (118, (.isub, 1), (0, 0, 0)) := by decide +kernel
theorem xr_57_119 : X_row 57 119 = some (119, (.istore 4, 2), (0, 0, 0)) := by decide +kernel
theorem xr_57_121 : X_row 57 121 = some (121, (.aload_n 0, 1), (0, 0, 0)) := by decide +kernel
theorem xr_57_122 : X_row 57 122 = some (122, (.getfield 22, 3), (3, 0, 2)) := by decide +kernel
theorem xr_57_125 : X_row 57 125 = some (125, (.aload_n 0, 1), (0, 0, 0)) := by decide +kernel
theorem xr_57_126 : X_row 57 126 = some (126, (.getfield 41, 3), (3, 1, 4)) := by decide +kernel
theorem xr_57_129 : X_row 57 129 = some (129, (.invokevirtual 49, 3), (93, 0, 0)) := by decide +kernel
theorem xr_57_132 : X_row 57 132 = some (132, (.bipush 34, 2), (0, 0, 0)) := by decide +kernel
theorem xr_57_134 : X_row 57 134 = some (134, (.if_icmp .ne 14, 3), (0, 0, 0)) := by decide +kernel
theorem xr_57_137 : X_row 57 137 = some (137, (.iload 4, 2), (0, 0, 0)) := by decide +kernel
theorem xr_57_139 : X_row 57 139 = some (139, (.bipush 8, 2), (0, 0, 0)) := by decide +kernel
theorem xr_57_141 : X_row 57 141 = some (141, (.if_icmp .gt 7, 3), (0, 0, 0)) := by decide +kernel
theorem xr_57_144 : X_row 57 144 = some (144, (.iload_n 1, 1), (0, 0, 0)) := by decide +kernel
theorem xr_57_145 : X_row 57 145 = some (145, (.ifCond .eq 5, 3), (0, 0, 0)) := by decide +kernel
theorem xr_57_148 : X_row 57 148 = some (148, (.iconst 1, 1), (0, 0, 0)) := by decide +kernel
theorem xr_57_149 : X_row 57 149 = some (149, (.ireturn, 1), (0, 0, 0)) := by decide +kernel
theorem xr_57_150 : X_row 57 150 = some (150, (.aload_n 0, 1), (0, 0, 0)) := by decide +kernel
theorem xr_57_151 : X_row 57 151 = some (151, (.dup, 1), (0, 0, 0)) := by decide +kernel
theorem xr_57_152 : X_row 57 152 = some (152, (.getfield 41, 3), (3, 1, 4)) := by decide +kernel
theorem xr_57_155 : X_row 57 155 = some (155, (.iconst 1, 1), (0, 0, 0)) := by decide +kernel
theorem xr_57_156 : X_row 57 156 = some (156, (.iadd, 1), (0, 0, 0)) := by decide +kernel
theorem xr_57_157 : X_row 57 157 = some (157, (.putfield 41, 3), (3, 1, 4)) := by decide +kernel
theorem xr_57_160 : X_row 57 160 = some (160, (.aload_n 0, 1), (0, 0, 0)) := by decide +kernel
theorem xr_57_161 : X_row 57 161 = some (161, (.getfield 18, 3), (3, 5, 12)) := by decide +kernel
theorem xr_57_164 : X_row 57 164 = some (164, (.aload_n 0, 1), (0, 0, 0)) := by decide +kernel
theorem xr_57_165 : X_row 57 165 = some (165, (.getfield 38, 3), (3, 2, 6)) := by decide +kernel
theorem xr_57_168 : X_row 57 168 = some (168, (.lload_n 2, 1), (0, 0, 0)) := by decide +kernel
theorem xr_57_169 : X_row 57 169 = some (169, (.lastore, 1), (0, 0, 0)) := by decide +kernel
theorem xr_57_170 : X_row 57 170 = some (170, (.bipush 6, 2), (0, 0, 0)) := by decide +kernel
theorem xr_57_172 : X_row 57 172 = some (172, (.ireturn, 1), (0, 0, 0)) := by decide +kernel
theorem xr_58_0 : X_row 58 0 = some (0, (.aload_n 0, 1), (0, 0, 0)) := by decide +kernel
theorem xr_58_1 : X_row 58 1 = some (1, (.dup, 1), (0, 0, 0)) := by decide +kernel
theorem xr_58_2 : X_row 58 2 = some (2, (.getfield 41, 3), (3, 1, 4)) := by decide +kernel
theorem xr_58_5 : X_row 58 5 = some (5, (.iconst 1, 1), (0, 0, 0)) := by decide +kernel
theorem xr_58_6 : X_row 58 6 = some (6, (.iadd, 1), (0, 0, 0)) := by decide +kernel
theorem xr_58_7 : X_row 58 7 = some (7, (.putfield 41, 3), (3, 1, 4)) := by decide +kernel
theorem xr_58_10 : X_row 58 10 = some (10, (.iload_n 1, 1), (0, 0, 0)) := by decide +kernel
theorem xr_58_11 : X_row 58 11 = some (11, (.bipush 95, 2), (0, 0, 0)) := by decide +kernel
theorem xr_58_13 : X_row 58 13 = some (13, (.if_icmp .ne 24, 3), (0, 0, 0)) := by decide +kernel
theorem xr_58_16 : X_row 58 16 = some (16, (.aload_n 0, 1), (0, 0, 0)) := by decide +kernel
theorem xr_58_17 : X_row 58 17 = some (17, (.getfield 22, 3), (3, 0, 2)) := by decide +kernel
theorem xr_58_20 : X_row 58 20 = some (20, (.aload_n 0, 1), (0, 0, 0)) := by decide +kernel
theorem xr_58_21 : X_row 58 21 = some (21, (.getfield 41, 3), (3, 1, 4)) := by decide +kernel
theorem xr_58_24 : X_row 58 24 = some (24, (.invokevirtual 49, 3), (93, 0, 0)) := by decide +kernel
theorem xr_58_27 : X_row 58 27 = some (27, (.invokestatic 78, 3), (61, 10, 0)) := by decide +kernel
theorem xr_58_30 : X_row 58 30 = some (30, (.ifCond .eq 7, 3), (0, 0, 0)) := by decide +kernel
theorem xr_58_33 : X_row 58 33 = some (33, (.iconst 1, 1), (0, 0, 0)) := by decide +kernel
theorem xr_58_34 : X_row 58 34 = some (34, (.goto 4, 3), (0, 0, 0)) := by decide +kernel
theorem xr_58_37 : X_row 58 37 = some (37, (.iconst 0, 1), (0, 0, 0)) := by decide +kernel
theorem xr_58_38 : X_row 58 38 = some (38, (.istore_n 2, 1), (0, 0, 0)) := by decide +kernel
theorem xr_58_39 : X_row 58 39 = some (39, (.iload_n 1, 1), (0, 0, 0)) := by decide +kernel
theorem xr_58_40 : X_row 58 40 = some (40, (.invokestatic 92, 3), (63, 24, 0)) := by decide +kernel
theorem xr_58_43 : X_row 58 43 = some (43, (.ifCond .eq 11, 3), (0, 0, 0)) := by decide +kernel
theorem xr_58_46 : X_row 58 46 = some (46, (.iload_n 2, 1), (0, 0, 0)) := by decide +kernel
theorem xr_58_47 : X_row 58 47 = some (47, (.ifCond .ne 7, 3), (0, 0, 0)) := by decide +kernel
theorem xr_58_50 : X_row 58 50 = some (50, (.iload_n 1, 1), (0, 0, 0)) := by decide +kernel
theorem xr_58_51 : X_row 58 51 = some (51, (.goto 4, 3), (0, 0, 0)) := by decide +kernel
theorem xr_58_54 : X_row 58 54 = some (54, (.iconst 1, 1), (0, 0, 0)) := by decide +kernel
theorem xr_58_55 : X_row 58 55 = some (55, (.ireturn, 1), (0, 0, 0)) := by decide +kernel
theorem xn_53 : X_nL 53 = 2 := by decide +kernel
theorem xf_53 : X_na 53 = 0 ∧ X_ci 53 = 3 ∧ X_rt 53 = none := by decide +kernel
theorem xn_54 : X_nL 54 = 2 := by decide +kernel
theorem xf_54 : X_na 54 = 1 ∧ X_ci 54 = 3 ∧ X_rt 54 = (some .int) := by decide +kernel
theorem xn_55 : X_nL 55 = 3 := by decide +kernel
theorem xf_55 : X_na 55 = 0 ∧ X_ci 55 = 3 ∧ X_rt 55 = (some .int) := by decide +kernel
theorem xn_56 : X_nL 56 = 4 := by decide +kernel
theorem xf_56 : X_na 56 = 0 ∧ X_ci 56 = 3 ∧ X_rt 56 = (some .int) := by decide +kernel
theorem xn_57 : X_nL 57 = 5 := by decide +kernel
theorem xf_57 : X_na 57 = 0 ∧ X_ci 57 = 3 ∧ X_rt 57 = (some .int) := by decide +kernel
theorem xn_58 : X_nL 58 = 3 := by decide +kernel
theorem xf_58 : X_na 58 = 1 ∧ X_ci 58 = 3 ∧ X_rt 58 = (some .int) := by decide +kernel
theorem c_takeName_l (sc : X_Sc) (len : Int) (tb : Int → Int) (cnt cur a0 : Int) (so pl : Int → Int) (ct : Int → Int64) (hl : 0 ≤ len ∧ len ≤ 2000) (Q : Option Value → X_S → Prop) : ∀ (n : Nat) (S : X_S) (at_ : Int) (ht : C_tp S len tb) (hx : C_lx S at_ cnt cur so pl ct) (ha : a0 ≤ at_ ∧ 0 ≤ at_ ∧ at_ ≤ len) (hn : len - at_ ≤ n)
    (hex : ∀ S' : X_S, C_tp S' len tb → C_lx S' (X_se X_isLD tb len at_) cnt cur so pl ct → X_Fr (fun r => r = 497) S S' → X_T sc 55 (64, [(1, .long (X_pk tb len a0 ((X_se X_isLD tb len at_) - a0).toNat)), (0, .ref 497)], [], S') Q), X_T sc 55 (2, [(1, .long (X_pk tb len a0 (at_ - a0).toNat)), (0, .ref 497)], [], S) Q := by
  intro n
  induction n with
  | zero =>
    intro S at_ ht hx ha hn hex
    refine T_p xr_55_2 xn_55 (pc' := 3) (ls' := [(1, .long (X_pk tb len a0 (at_ - a0).toNat)), (0, .ref 497)]) (st' := [.ref 497]) rfl ?_
    refine T_get xr_55_3 hx.1 rfl (v := .int (iI at_)) rfl (pc' := 6) rfl ?_
    refine T_p xr_55_6 xn_55 (pc' := 7) (ls' := [(1, .long (X_pk tb len a0 (at_ - a0).toNat)), (0, .ref 497)]) (st' := [.ref 497, .int (iI at_)]) rfl ?_
    refine T_get xr_55_7 hx.1 rfl (v := .ref 2) rfl (pc' := 10) rfl ?_
    refine T_get xr_55_10 ht.1 rfl (v := .int (iI len)) rfl (pc' := 13) rfl ?_
    refine T_zicmp_ge xr_55_13 (t := 64) (pc' := 16) rfl rfl (fun c105 => ?_) (fun c105 => ?_)
    · skip
      have c105 : len ≤ at_ := c105
      have e2 : X_se X_isLD tb len at_ = at_ := X_se_no (by first | omega | (intro h; exact absurd h.2 (by assumption)))
      have kk := hex S ⟨ht.1, ht.2.1, hl⟩ (by rw [e2]; exact ⟨hx.1, hx.2.1, hx.2.2.1, hx.2.2.2⟩) (X_Fr.rf)
      (try rw [e2] at kk)
      exact kk
    · skip
      have c105 : ¬ (len ≤ at_) := c105
      exact (show False by omega).elim
  | succ n ih =>
    intro S at_ ht hx ha hn hex
    refine T_p xr_55_2 xn_55 (pc' := 3) (ls' := [(1, .long (X_pk tb len a0 (at_ - a0).toNat)), (0, .ref 497)]) (st' := [.ref 497]) rfl ?_
    refine T_get xr_55_3 hx.1 rfl (v := .int (iI at_)) rfl (pc' := 6) rfl ?_
    refine T_p xr_55_6 xn_55 (pc' := 7) (ls' := [(1, .long (X_pk tb len a0 (at_ - a0).toNat)), (0, .ref 497)]) (st' := [.ref 497, .int (iI at_)]) rfl ?_
    refine T_get xr_55_7 hx.1 rfl (v := .ref 2) rfl (pc' := 10) rfl ?_
    refine T_get xr_55_10 ht.1 rfl (v := .int (iI len)) rfl (pc' := 13) rfl ?_
    refine T_zicmp_ge xr_55_13 (t := 64) (pc' := 16) rfl rfl (fun c77 => ?_) (fun c77 => ?_)
    · skip
      have c77 : len ≤ at_ := c77
      have e2 : X_se X_isLD tb len at_ = at_ := X_se_no (by first | omega | (intro h; exact absurd h.2 (by assumption)))
      have kk := hex S ⟨ht.1, ht.2.1, hl⟩ (by rw [e2]; exact ⟨hx.1, hx.2.1, hx.2.2.1, hx.2.2.2⟩) (X_Fr.rf)
      (try rw [e2] at kk)
      exact kk
    · skip
      have c77 : ¬ (len ≤ at_) := c77
      refine T_p xr_55_16 xn_55 (pc' := 17) (ls' := [(1, .long (X_pk tb len a0 (at_ - a0).toNat)), (0, .ref 497)]) (st' := [.ref 497]) rfl ?_
      refine T_get xr_55_17 hx.1 rfl (v := .ref 2) rfl (pc' := 20) rfl ?_
      refine T_p xr_55_20 xn_55 (pc' := 21) (ls' := [(1, .long (X_pk tb len a0 (at_ - a0).toNat)), (0, .ref 497)]) (st' := [.ref 497, .ref 2]) rfl ?_
      refine T_get xr_55_21 hx.1 rfl (v := .int (iI at_)) rfl (pc' := 24) rfl ?_
      refine T_cv (S := S) (q := 2) xr_55_24 xf_93.1 xf_93.2.1 xn_93 (as := [.int (iI at_)]) (r := []) rfl ht.1 (Nat.le_of_ble_eq_true rfl) (Nat.le_of_ble_eq_true rfl) (pc' := 27) rfl (ls' := [(0, .ref 2), (1, .int (iI at_))]) rfl ?_
      refine T_mono (c_byteAt sc S len at_ tb ht.1 ht.2.1 hl (by omega)) (fun v79 S80 h78 => ?_)
      obtain ⟨h81, h82⟩ := h78
      rw [h81, h82]
      show X_T sc 55 (27, [(1, .long (X_pk tb len a0 (at_ - a0).toNat)), (0, .ref 497)], [.int (iI (X_at tb len at_))], S) _
      have r83 := X_at_r tb len at_
      refine T_cs xr_55_27 (by decide) xf_61.1 xn_61 (as := [.int (iI (X_at tb len at_))]) (r := []) rfl (Nat.le_of_ble_eq_true rfl) (Nat.le_of_ble_eq_true rfl) (pc' := 30) rfl (ls' := [(0, .int (iI (X_at tb len at_)))]) rfl ?_
      refine T_mono (c_isLD sc S (X_at tb len at_) (X_at_r tb len at_)) (fun v85 S86 h84 => ?_)
      obtain ⟨h87, h88⟩ := h84
      rw [h87, h88]
      show X_T sc 55 (30, [(1, .long (X_pk tb len a0 (at_ - a0).toNat)), (0, .ref 497)], [.int (iI (bI (X_isLD (X_at tb len at_))))], S) _
      refine T_bif_eq xr_55_30 (t := 64) (pc' := 33) rfl rfl (fun c89 => ?_) (fun c89 => ?_)
      · skip
        have c89 : ¬ (X_isLD (X_at tb len at_)) := c89
        have e2 : X_se X_isLD tb len at_ = at_ := X_se_no (by first | omega | (intro h; exact absurd h.2 (by assumption)))
        have kk := hex S ⟨ht.1, ht.2.1, hl⟩ (by rw [e2]; exact ⟨hx.1, hx.2.1, hx.2.2.1, hx.2.2.2⟩) (X_Fr.rf)
        (try rw [e2] at kk)
        exact kk
      · skip
        have c89 : (X_isLD (X_at tb len at_)) := c89
        refine T_p xr_55_33 xn_55 (pc' := 34) (ls' := [(1, .long (X_pk tb len a0 (at_ - a0).toNat)), (0, .ref 497)]) (st' := [.long (X_pk tb len a0 (at_ - a0).toNat)]) rfl ?_
        refine T_p xr_55_34 xn_55 (pc' := 36) (ls' := [(1, .long (X_pk tb len a0 (at_ - a0).toNat)), (0, .ref 497)]) (st' := [.int (iI 8), .long (X_pk tb len a0 (at_ - a0).toNat)]) rfl ?_
        refine T_p xr_55_36 xn_55 (pc' := 37) (ls' := [(1, .long (X_pk tb len a0 (at_ - a0).toNat)), (0, .ref 497)]) (st' := [.long ((X_pk tb len a0 (at_ - a0).toNat) <<< ((iI 8).toInt64 &&& 63))]) rfl ?_
        refine T_p xr_55_37 xn_55 (pc' := 38) (ls' := [(1, .long (X_pk tb len a0 (at_ - a0).toNat)), (0, .ref 497)]) (st' := [.ref 497, .long ((X_pk tb len a0 (at_ - a0).toNat) <<< ((iI 8).toInt64 &&& 63))]) rfl ?_
        refine T_get xr_55_38 hx.1 rfl (v := .ref 2) rfl (pc' := 41) rfl ?_
        refine T_p xr_55_41 xn_55 (pc' := 42) (ls' := [(1, .long (X_pk tb len a0 (at_ - a0).toNat)), (0, .ref 497)]) (st' := [.ref 497, .ref 2, .long ((X_pk tb len a0 (at_ - a0).toNat) <<< ((iI 8).toInt64 &&& 63))]) rfl ?_
        refine T_get xr_55_42 hx.1 rfl (v := .int (iI at_)) rfl (pc' := 45) rfl ?_
        refine T_cv (S := S) (q := 2) xr_55_45 xf_93.1 xf_93.2.1 xn_93 (as := [.int (iI at_)]) (r := [.long ((X_pk tb len a0 (at_ - a0).toNat) <<< ((iI 8).toInt64 &&& 63))]) rfl ht.1 (Nat.le_of_ble_eq_true rfl) (Nat.le_of_ble_eq_true rfl) (pc' := 48) rfl (ls' := [(0, .ref 2), (1, .int (iI at_))]) rfl ?_
        refine T_mono (c_byteAt sc S len at_ tb ht.1 ht.2.1 hl (by omega)) (fun v91 S92 h90 => ?_)
        obtain ⟨h93, h94⟩ := h90
        rw [h93, h94]
        show X_T sc 55 (48, [(1, .long (X_pk tb len a0 (at_ - a0).toNat)), (0, .ref 497)], [.int (iI (X_at tb len at_)), .long ((X_pk tb len a0 (at_ - a0).toNat) <<< ((iI 8).toInt64 &&& 63))], S) _
        have r95 := X_at_r tb len at_
        refine T_p xr_55_48 xn_55 (pc' := 49) (ls' := [(1, .long (X_pk tb len a0 (at_ - a0).toNat)), (0, .ref 497)]) (st' := [.long ((iI (X_at tb len at_)).toInt64), .long ((X_pk tb len a0 (at_ - a0).toNat) <<< ((iI 8).toInt64 &&& 63))]) rfl ?_
        refine T_p xr_55_49 xn_55 (pc' := 50) (ls' := [(1, .long (X_pk tb len a0 (at_ - a0).toNat)), (0, .ref 497)]) (st' := [.long (((X_pk tb len a0 (at_ - a0).toNat) <<< ((iI 8).toInt64 &&& 63)) ||| ((iI (X_at tb len at_)).toInt64))]) rfl ?_
        refine T_le (y := (X_pk tb len a0 (at_ + 1 - a0).toNat)) (X_pk_go (by omega)) ?_
        refine T_p xr_55_50 xn_55 (pc' := 51) (ls' := [(1, .long (X_pk tb len a0 (at_ + 1 - a0).toNat)), (0, .ref 497)]) (st' := []) rfl ?_
        refine T_p xr_55_51 xn_55 (pc' := 52) (ls' := [(1, .long (X_pk tb len a0 (at_ + 1 - a0).toNat)), (0, .ref 497)]) (st' := [.ref 497]) rfl ?_
        refine T_p xr_55_52 xn_55 (pc' := 53) (ls' := [(1, .long (X_pk tb len a0 (at_ + 1 - a0).toNat)), (0, .ref 497)]) (st' := [.ref 497, .ref 497]) rfl ?_
        refine T_get xr_55_53 hx.1 rfl (v := .int (iI at_)) rfl (pc' := 56) rfl ?_
        refine T_p xr_55_56 xn_55 (pc' := 57) (ls' := [(1, .long (X_pk tb len a0 (at_ + 1 - a0).toNat)), (0, .ref 497)]) (st' := [.int (iI 1), .int (iI at_), .ref 497]) rfl ?_
        refine T_ziadd xr_55_57 (z := at_ + 1) rfl (pc' := 58) rfl ?_
        refine T_put xr_55_58 hx.1 rfl (Nat.le_of_ble_eq_true rfl) rfl (fs' := [.ref 2, .int (iI (at_ + 1)), .int (iI cnt), .ref 498, .ref 499, .ref 500, .int (iI cur)]) rfl (pc' := 61) rfl (fun S96 h97 n98 e99 => ?_)
        refine T_p xr_55_61 xn_55 (pc' := 2) (ls' := [(1, .long (X_pk tb len a0 (at_ + 1 - a0).toNat)), (0, .ref 497)]) (st' := []) rfl ?_
        have e2 : X_se X_isLD tb len at_ = X_se X_isLD tb len (at_ + 1) := X_se_go (by omega) (by assumption)
        have h100 := (n98 2 (by decide)).trans (ht.1)
        have h101 := (n98 3 (by decide)).trans (ht.2.1)
        have h102 := (n98 498 (by decide)).trans (hx.2.1)
        have h103 := (n98 499 (by decide)).trans (hx.2.2.1)
        have h104 := (n98 500 (by decide)).trans (hx.2.2.2)
        refine ih S96 (at_ + 1) ⟨h100, h101, hl⟩ ⟨h97, h102, h103, h104⟩ (by omega) (by omega) (fun S' k1 k2 k3 => ?_)
        have kk := hex S' k1 (by rw [e2]; exact k2) (((X_Fr.rf).tr (X_Fr.of n98 e99 (by first | decide | exact ⟨Nat.le_add_right _ _, Nat.add_le_add_left (by decide) _⟩ | omega))).tr k3)
        (try rw [e2] at kk)
        exact kk
theorem c_takeNumber_l (sc : X_Sc) (len : Int) (tb : Int → Int) (cnt cur a0 : Int) (so pl : Int → Int) (ct : Int → Int64) (hl : 0 ≤ len ∧ len ≤ 2000) (Q : Option Value → X_S → Prop) : ∀ (n : Nat) (S : X_S) (at_ : Int) (ht : C_tp S len tb) (hx : C_lx S at_ cnt cur so pl ct) (ha : a0 ≤ at_ ∧ 0 ≤ at_ ∧ at_ ≤ len) (hn : len - at_ ≤ n)
    (hex : ∀ S' : X_S, C_tp S' len tb → C_lx S' (X_se X_isD tb len at_) cnt cur so pl ct → X_Fr (fun r => r = 497) S S' → X_T sc 56 (69, [(1, .long (iL (X_dv tb len a0 ((X_se X_isD tb len at_) - a0).toNat))), (0, .ref 497)], [], S') Q), X_T sc 56 (2, [(1, .long (iL (X_dv tb len a0 (at_ - a0).toNat))), (0, .ref 497)], [], S) Q := by
  intro n
  induction n with
  | zero =>
    intro S at_ ht hx ha hn hex
    refine T_p xr_56_2 xn_56 (pc' := 3) (ls' := [(1, .long (iL (X_dv tb len a0 (at_ - a0).toNat))), (0, .ref 497)]) (st' := [.ref 497]) rfl ?_
    refine T_get xr_56_3 hx.1 rfl (v := .int (iI at_)) rfl (pc' := 6) rfl ?_
    refine T_p xr_56_6 xn_56 (pc' := 7) (ls' := [(1, .long (iL (X_dv tb len a0 (at_ - a0).toNat))), (0, .ref 497)]) (st' := [.ref 497, .int (iI at_)]) rfl ?_
    refine T_get xr_56_7 hx.1 rfl (v := .ref 2) rfl (pc' := 10) rfl ?_
    refine T_get xr_56_10 ht.1 rfl (v := .int (iI len)) rfl (pc' := 13) rfl ?_
    refine T_zicmp_ge xr_56_13 (t := 69) (pc' := 16) rfl rfl (fun c134 => ?_) (fun c134 => ?_)
    · skip
      have c134 : len ≤ at_ := c134
      have e2 : X_se X_isD tb len at_ = at_ := X_se_no (by first | omega | (intro h; exact absurd h.2 (by assumption)))
      have kk := hex S ⟨ht.1, ht.2.1, hl⟩ (by rw [e2]; exact ⟨hx.1, hx.2.1, hx.2.2.1, hx.2.2.2⟩) (X_Fr.rf)
      (try rw [e2] at kk)
      exact kk
    · skip
      have c134 : ¬ (len ≤ at_) := c134
      exact (show False by omega).elim
  | succ n ih =>
    intro S at_ ht hx ha hn hex
    refine T_p xr_56_2 xn_56 (pc' := 3) (ls' := [(1, .long (iL (X_dv tb len a0 (at_ - a0).toNat))), (0, .ref 497)]) (st' := [.ref 497]) rfl ?_
    refine T_get xr_56_3 hx.1 rfl (v := .int (iI at_)) rfl (pc' := 6) rfl ?_
    refine T_p xr_56_6 xn_56 (pc' := 7) (ls' := [(1, .long (iL (X_dv tb len a0 (at_ - a0).toNat))), (0, .ref 497)]) (st' := [.ref 497, .int (iI at_)]) rfl ?_
    refine T_get xr_56_7 hx.1 rfl (v := .ref 2) rfl (pc' := 10) rfl ?_
    refine T_get xr_56_10 ht.1 rfl (v := .int (iI len)) rfl (pc' := 13) rfl ?_
    refine T_zicmp_ge xr_56_13 (t := 69) (pc' := 16) rfl rfl (fun c106 => ?_) (fun c106 => ?_)
    · skip
      have c106 : len ≤ at_ := c106
      have e2 : X_se X_isD tb len at_ = at_ := X_se_no (by first | omega | (intro h; exact absurd h.2 (by assumption)))
      have kk := hex S ⟨ht.1, ht.2.1, hl⟩ (by rw [e2]; exact ⟨hx.1, hx.2.1, hx.2.2.1, hx.2.2.2⟩) (X_Fr.rf)
      (try rw [e2] at kk)
      exact kk
    · skip
      have c106 : ¬ (len ≤ at_) := c106
      refine T_p xr_56_16 xn_56 (pc' := 17) (ls' := [(1, .long (iL (X_dv tb len a0 (at_ - a0).toNat))), (0, .ref 497)]) (st' := [.ref 497]) rfl ?_
      refine T_get xr_56_17 hx.1 rfl (v := .ref 2) rfl (pc' := 20) rfl ?_
      refine T_p xr_56_20 xn_56 (pc' := 21) (ls' := [(1, .long (iL (X_dv tb len a0 (at_ - a0).toNat))), (0, .ref 497)]) (st' := [.ref 497, .ref 2]) rfl ?_
      refine T_get xr_56_21 hx.1 rfl (v := .int (iI at_)) rfl (pc' := 24) rfl ?_
      refine T_cv (S := S) (q := 2) xr_56_24 xf_93.1 xf_93.2.1 xn_93 (as := [.int (iI at_)]) (r := []) rfl ht.1 (Nat.le_of_ble_eq_true rfl) (Nat.le_of_ble_eq_true rfl) (pc' := 27) rfl (ls' := [(0, .ref 2), (1, .int (iI at_))]) rfl ?_
      refine T_mono (c_byteAt sc S len at_ tb ht.1 ht.2.1 hl (by omega)) (fun v108 S109 h107 => ?_)
      obtain ⟨h110, h111⟩ := h107
      rw [h110, h111]
      show X_T sc 56 (27, [(1, .long (iL (X_dv tb len a0 (at_ - a0).toNat))), (0, .ref 497)], [.int (iI (X_at tb len at_))], S) _
      have r112 := X_at_r tb len at_
      refine T_cs xr_56_27 (by decide) xf_132.1 xn_132 (as := [.int (iI (X_at tb len at_))]) (r := []) rfl (Nat.le_of_ble_eq_true rfl) (Nat.le_of_ble_eq_true rfl) (pc' := 30) rfl (ls' := [(0, .int (iI (X_at tb len at_)))]) rfl ?_
      refine T_mono (c_isDigit sc S (X_at tb len at_) (X_at_r tb len at_)) (fun v114 S115 h113 => ?_)
      obtain ⟨h116, h117⟩ := h113
      rw [h116, h117]
      show X_T sc 56 (30, [(1, .long (iL (X_dv tb len a0 (at_ - a0).toNat))), (0, .ref 497)], [.int (iI (bI (X_isD (X_at tb len at_))))], S) _
      refine T_bif_eq xr_56_30 (t := 69) (pc' := 33) rfl rfl (fun c118 => ?_) (fun c118 => ?_)
      · skip
        have c118 : ¬ (X_isD (X_at tb len at_)) := c118
        have e2 : X_se X_isD tb len at_ = at_ := X_se_no (by first | omega | (intro h; exact absurd h.2 (by assumption)))
        have kk := hex S ⟨ht.1, ht.2.1, hl⟩ (by rw [e2]; exact ⟨hx.1, hx.2.1, hx.2.2.1, hx.2.2.2⟩) (X_Fr.rf)
        (try rw [e2] at kk)
        exact kk
      · skip
        have c118 : (X_isD (X_at tb len at_)) := c118
        refine T_p xr_56_33 xn_56 (pc' := 34) (ls' := [(1, .long (iL (X_dv tb len a0 (at_ - a0).toNat))), (0, .ref 497)]) (st' := [.long (iL (X_dv tb len a0 (at_ - a0).toNat))]) rfl ?_
        refine T_p xr_56_34 xn_56 (pc' := 37) (ls' := [(1, .long (iL (X_dv tb len a0 (at_ - a0).toNat))), (0, .ref 497)]) (st' := [.long (Int64.ofNat 10), .long (iL (X_dv tb len a0 (at_ - a0).toNat))]) rfl ?_
        refine T_p xr_56_37 xn_56 (pc' := 38) (ls' := [(1, .long (iL (X_dv tb len a0 (at_ - a0).toNat))), (0, .ref 497)]) (st' := [.long ((iL (X_dv tb len a0 (at_ - a0).toNat)) * (Int64.ofNat 10))]) rfl ?_
        refine T_p xr_56_38 xn_56 (pc' := 39) (ls' := [(1, .long (iL (X_dv tb len a0 (at_ - a0).toNat))), (0, .ref 497)]) (st' := [.ref 497, .long ((iL (X_dv tb len a0 (at_ - a0).toNat)) * (Int64.ofNat 10))]) rfl ?_
        refine T_get xr_56_39 hx.1 rfl (v := .ref 2) rfl (pc' := 42) rfl ?_
        refine T_p xr_56_42 xn_56 (pc' := 43) (ls' := [(1, .long (iL (X_dv tb len a0 (at_ - a0).toNat))), (0, .ref 497)]) (st' := [.ref 497, .ref 2, .long ((iL (X_dv tb len a0 (at_ - a0).toNat)) * (Int64.ofNat 10))]) rfl ?_
        refine T_get xr_56_43 hx.1 rfl (v := .int (iI at_)) rfl (pc' := 46) rfl ?_
        refine T_cv (S := S) (q := 2) xr_56_46 xf_93.1 xf_93.2.1 xn_93 (as := [.int (iI at_)]) (r := [.long ((iL (X_dv tb len a0 (at_ - a0).toNat)) * (Int64.ofNat 10))]) rfl ht.1 (Nat.le_of_ble_eq_true rfl) (Nat.le_of_ble_eq_true rfl) (pc' := 49) rfl (ls' := [(0, .ref 2), (1, .int (iI at_))]) rfl ?_
        refine T_mono (c_byteAt sc S len at_ tb ht.1 ht.2.1 hl (by omega)) (fun v120 S121 h119 => ?_)
        obtain ⟨h122, h123⟩ := h119
        rw [h122, h123]
        show X_T sc 56 (49, [(1, .long (iL (X_dv tb len a0 (at_ - a0).toNat))), (0, .ref 497)], [.int (iI (X_at tb len at_)), .long ((iL (X_dv tb len a0 (at_ - a0).toNat)) * (Int64.ofNat 10))], S) _
        have r124 := X_at_r tb len at_
        refine T_p xr_56_49 xn_56 (pc' := 50) (ls' := [(1, .long (iL (X_dv tb len a0 (at_ - a0).toNat))), (0, .ref 497)]) (st' := [.long ((iI (X_at tb len at_)).toInt64), .long ((iL (X_dv tb len a0 (at_ - a0).toNat)) * (Int64.ofNat 10))]) rfl ?_
        refine T_p xr_56_50 xn_56 (pc' := 51) (ls' := [(1, .long (iL (X_dv tb len a0 (at_ - a0).toNat))), (0, .ref 497)]) (st' := [.long (((iL (X_dv tb len a0 (at_ - a0).toNat)) * (Int64.ofNat 10)) + ((iI (X_at tb len at_)).toInt64))]) rfl ?_
        refine T_p xr_56_51 xn_56 (pc' := 54) (ls' := [(1, .long (iL (X_dv tb len a0 (at_ - a0).toNat))), (0, .ref 497)]) (st' := [.long (Int64.ofNat 48), .long (((iL (X_dv tb len a0 (at_ - a0).toNat)) * (Int64.ofNat 10)) + ((iI (X_at tb len at_)).toInt64))]) rfl ?_
        refine T_p xr_56_54 xn_56 (pc' := 55) (ls' := [(1, .long (iL (X_dv tb len a0 (at_ - a0).toNat))), (0, .ref 497)]) (st' := [.long ((((iL (X_dv tb len a0 (at_ - a0).toNat)) * (Int64.ofNat 10)) + ((iI (X_at tb len at_)).toInt64)) - (Int64.ofNat 48))]) rfl ?_
        refine T_le (y := (iL (X_dv tb len a0 (at_ + 1 - a0).toNat))) (X_dv_go (by omega)) ?_
        refine T_p xr_56_55 xn_56 (pc' := 56) (ls' := [(1, .long (iL (X_dv tb len a0 (at_ + 1 - a0).toNat))), (0, .ref 497)]) (st' := []) rfl ?_
        refine T_p xr_56_56 xn_56 (pc' := 57) (ls' := [(1, .long (iL (X_dv tb len a0 (at_ + 1 - a0).toNat))), (0, .ref 497)]) (st' := [.ref 497]) rfl ?_
        refine T_p xr_56_57 xn_56 (pc' := 58) (ls' := [(1, .long (iL (X_dv tb len a0 (at_ + 1 - a0).toNat))), (0, .ref 497)]) (st' := [.ref 497, .ref 497]) rfl ?_
        refine T_get xr_56_58 hx.1 rfl (v := .int (iI at_)) rfl (pc' := 61) rfl ?_
        refine T_p xr_56_61 xn_56 (pc' := 62) (ls' := [(1, .long (iL (X_dv tb len a0 (at_ + 1 - a0).toNat))), (0, .ref 497)]) (st' := [.int (iI 1), .int (iI at_), .ref 497]) rfl ?_
        refine T_ziadd xr_56_62 (z := at_ + 1) rfl (pc' := 63) rfl ?_
        refine T_put xr_56_63 hx.1 rfl (Nat.le_of_ble_eq_true rfl) rfl (fs' := [.ref 2, .int (iI (at_ + 1)), .int (iI cnt), .ref 498, .ref 499, .ref 500, .int (iI cur)]) rfl (pc' := 66) rfl (fun S125 h126 n127 e128 => ?_)
        refine T_p xr_56_66 xn_56 (pc' := 2) (ls' := [(1, .long (iL (X_dv tb len a0 (at_ + 1 - a0).toNat))), (0, .ref 497)]) (st' := []) rfl ?_
        have e2 : X_se X_isD tb len at_ = X_se X_isD tb len (at_ + 1) := X_se_go (by omega) (by assumption)
        have h129 := (n127 2 (by decide)).trans (ht.1)
        have h130 := (n127 3 (by decide)).trans (ht.2.1)
        have h131 := (n127 498 (by decide)).trans (hx.2.1)
        have h132 := (n127 499 (by decide)).trans (hx.2.2.1)
        have h133 := (n127 500 (by decide)).trans (hx.2.2.2)
        refine ih S125 (at_ + 1) ⟨h129, h130, hl⟩ ⟨h126, h131, h132, h133⟩ (by omega) (by omega) (fun S' k1 k2 k3 => ?_)
        have kk := hex S' k1 (by rw [e2]; exact k2) (((X_Fr.rf).tr (X_Fr.of n127 e128 (by first | decide | exact ⟨Nat.le_add_right _ _, Nat.add_le_add_left (by decide) _⟩ | omega))).tr k3)
        (try rw [e2] at kk)
        exact kk
theorem c_takePart_l (sc : X_Sc) (len : Int) (tb : Int → Int) (cnt cur a0 : Int) (so pl : Int → Int) (ct : Int → Int64) (hl : 0 ≤ len ∧ len ≤ 2000) (Q : Option Value → X_S → Prop) : ∀ (n : Nat) (S : X_S) (at_ : Int) (ht : C_tp S len tb) (hx : C_lx S at_ cnt cur so pl ct) (ha : a0 ≤ at_ ∧ 0 ≤ at_ ∧ at_ ≤ len) (hn : len - at_ ≤ n)
    (hex : ∀ S' : X_S, C_tp S' len tb → C_lx S' (X_se X_isPB tb len at_) cnt cur so pl ct → X_Fr (fun r => r = 497) S S' → X_T sc 57 (103, [(2, .long (X_pk tb len a0 ((X_se X_isPB tb len at_) - a0).toNat)), (1, .int (iI (bI (X_DA tb len a0 ((X_se X_isPB tb len at_)))))), (0, .ref 497)], [], S') Q), X_T sc 57 (14, [(2, .long (X_pk tb len a0 (at_ - a0).toNat)), (1, .int (iI (bI (X_DA tb len a0 (at_))))), (0, .ref 497)], [], S) Q := by
  intro n
  induction n with
  | zero =>
    intro S at_ ht hx ha hn hex
    refine T_p xr_57_14 xn_57 (pc' := 15) (ls' := [(2, .long (X_pk tb len a0 (at_ - a0).toNat)), (1, .int (iI (bI (X_DA tb len a0 (at_))))), (0, .ref 497)]) (st' := [.ref 497]) rfl ?_
    refine T_get xr_57_15 hx.1 rfl (v := .int (iI at_)) rfl (pc' := 18) rfl ?_
    refine T_p xr_57_18 xn_57 (pc' := 19) (ls' := [(2, .long (X_pk tb len a0 (at_ - a0).toNat)), (1, .int (iI (bI (X_DA tb len a0 (at_))))), (0, .ref 497)]) (st' := [.ref 497, .int (iI at_)]) rfl ?_
    refine T_get xr_57_19 hx.1 rfl (v := .ref 2) rfl (pc' := 22) rfl ?_
    refine T_get xr_57_22 ht.1 rfl (v := .int (iI len)) rfl (pc' := 25) rfl ?_
    refine T_zicmp_ge xr_57_25 (t := 103) (pc' := 28) rfl rfl (fun c206 => ?_) (fun c206 => ?_)
    · skip
      have c206 : len ≤ at_ := c206
      have e2 : X_se X_isPB tb len at_ = at_ := X_se_no (by first | omega | (intro h; exact absurd h.2 (by assumption)))
      have kk := hex S ⟨ht.1, ht.2.1, hl⟩ (by rw [e2]; exact ⟨hx.1, hx.2.1, hx.2.2.1, hx.2.2.2⟩) (X_Fr.rf)
      (try rw [e2] at kk)
      exact kk
    · skip
      have c206 : ¬ (len ≤ at_) := c206
      exact (show False by omega).elim
  | succ n ih =>
    intro S at_ ht hx ha hn hex
    refine T_p xr_57_14 xn_57 (pc' := 15) (ls' := [(2, .long (X_pk tb len a0 (at_ - a0).toNat)), (1, .int (iI (bI (X_DA tb len a0 (at_))))), (0, .ref 497)]) (st' := [.ref 497]) rfl ?_
    refine T_get xr_57_15 hx.1 rfl (v := .int (iI at_)) rfl (pc' := 18) rfl ?_
    refine T_p xr_57_18 xn_57 (pc' := 19) (ls' := [(2, .long (X_pk tb len a0 (at_ - a0).toNat)), (1, .int (iI (bI (X_DA tb len a0 (at_))))), (0, .ref 497)]) (st' := [.ref 497, .int (iI at_)]) rfl ?_
    refine T_get xr_57_19 hx.1 rfl (v := .ref 2) rfl (pc' := 22) rfl ?_
    refine T_get xr_57_22 ht.1 rfl (v := .int (iI len)) rfl (pc' := 25) rfl ?_
    refine T_zicmp_ge xr_57_25 (t := 103) (pc' := 28) rfl rfl (fun c135 => ?_) (fun c135 => ?_)
    · skip
      have c135 : len ≤ at_ := c135
      have e2 : X_se X_isPB tb len at_ = at_ := X_se_no (by first | omega | (intro h; exact absurd h.2 (by assumption)))
      have kk := hex S ⟨ht.1, ht.2.1, hl⟩ (by rw [e2]; exact ⟨hx.1, hx.2.1, hx.2.2.1, hx.2.2.2⟩) (X_Fr.rf)
      (try rw [e2] at kk)
      exact kk
    · skip
      have c135 : ¬ (len ≤ at_) := c135
      refine T_p xr_57_28 xn_57 (pc' := 29) (ls' := [(2, .long (X_pk tb len a0 (at_ - a0).toNat)), (1, .int (iI (bI (X_DA tb len a0 (at_))))), (0, .ref 497)]) (st' := [.ref 497]) rfl ?_
      refine T_get xr_57_29 hx.1 rfl (v := .ref 2) rfl (pc' := 32) rfl ?_
      refine T_p xr_57_32 xn_57 (pc' := 33) (ls' := [(2, .long (X_pk tb len a0 (at_ - a0).toNat)), (1, .int (iI (bI (X_DA tb len a0 (at_))))), (0, .ref 497)]) (st' := [.ref 497, .ref 2]) rfl ?_
      refine T_get xr_57_33 hx.1 rfl (v := .int (iI at_)) rfl (pc' := 36) rfl ?_
      refine T_cv (S := S) (q := 2) xr_57_36 xf_93.1 xf_93.2.1 xn_93 (as := [.int (iI at_)]) (r := []) rfl ht.1 (Nat.le_of_ble_eq_true rfl) (Nat.le_of_ble_eq_true rfl) (pc' := 39) rfl (ls' := [(0, .ref 2), (1, .int (iI at_))]) rfl ?_
      refine T_mono (c_byteAt sc S len at_ tb ht.1 ht.2.1 hl (by omega)) (fun v137 S138 h136 => ?_)
      obtain ⟨h139, h140⟩ := h136
      rw [h139, h140]
      show X_T sc 57 (39, [(2, .long (X_pk tb len a0 (at_ - a0).toNat)), (1, .int (iI (bI (X_DA tb len a0 (at_))))), (0, .ref 497)], [.int (iI (X_at tb len at_))], S) _
      have r141 := X_at_r tb len at_
      refine T_cs xr_57_39 (by decide) xf_62.1 xn_62 (as := [.int (iI (X_at tb len at_))]) (r := []) rfl (Nat.le_of_ble_eq_true rfl) (Nat.le_of_ble_eq_true rfl) (pc' := 42) rfl (ls' := [(0, .int (iI (X_at tb len at_)))]) rfl ?_
      refine T_mono (c_isPB sc S (X_at tb len at_) (X_at_r tb len at_)) (fun v143 S144 h142 => ?_)
      obtain ⟨h145, h146⟩ := h142
      rw [h145, h146]
      show X_T sc 57 (42, [(2, .long (X_pk tb len a0 (at_ - a0).toNat)), (1, .int (iI (bI (X_DA tb len a0 (at_))))), (0, .ref 497)], [.int (iI (bI (X_isPB (X_at tb len at_))))], S) _
      refine T_bif_eq xr_57_42 (t := 103) (pc' := 45) rfl rfl (fun c147 => ?_) (fun c147 => ?_)
      · skip
        have c147 : ¬ (X_isPB (X_at tb len at_)) := c147
        have e2 : X_se X_isPB tb len at_ = at_ := X_se_no (by first | omega | (intro h; exact absurd h.2 (by assumption)))
        have kk := hex S ⟨ht.1, ht.2.1, hl⟩ (by rw [e2]; exact ⟨hx.1, hx.2.1, hx.2.2.1, hx.2.2.2⟩) (X_Fr.rf)
        (try rw [e2] at kk)
        exact kk
      · skip
        have c147 : (X_isPB (X_at tb len at_)) := c147
        refine T_p xr_57_45 xn_57 (pc' := 46) (ls' := [(2, .long (X_pk tb len a0 (at_ - a0).toNat)), (1, .int (iI (bI (X_DA tb len a0 (at_))))), (0, .ref 497)]) (st' := [.int (iI (bI (X_DA tb len a0 (at_))))]) rfl ?_
        refine T_bif_eq xr_57_46 (t := 70) (pc' := 49) rfl rfl (fun c148 => ?_) (fun c148 => ?_)
        · skip
          have c148 : ¬ (X_DA tb len a0 (at_)) := c148
          refine T_p xr_57_70 xn_57 (pc' := 71) (ls' := [(2, .long (X_pk tb len a0 (at_ - a0).toNat)), (1, .int (iI (bI (X_DA tb len a0 (at_))))), (0, .ref 497)]) (st' := [.int (iI 0)]) rfl ?_
          refine T_ie (y := iI (bI (X_DA tb len a0 (at_ + 1)))) (by rw [bI_f (by intro h; first | exact absurd (show X_DA tb len a0 at_ from fun k h1 h2 => h k h1 (by omega)) (by assumption) | exact absurd (show X_isD (X_at tb len at_) from h at_ (by omega) (by omega)) (by assumption))]) ?_
          refine T_p xr_57_71 xn_57 (pc' := 72) (ls' := [(1, .int (iI (bI (X_DA tb len a0 (at_ + 1))))), (2, .long (X_pk tb len a0 (at_ - a0).toNat)), (0, .ref 497)]) (st' := []) rfl ?_
          refine T_p xr_57_72 xn_57 (pc' := 73) (ls' := [(1, .int (iI (bI (X_DA tb len a0 (at_ + 1))))), (2, .long (X_pk tb len a0 (at_ - a0).toNat)), (0, .ref 497)]) (st' := [.long (X_pk tb len a0 (at_ - a0).toNat)]) rfl ?_
          refine T_p xr_57_73 xn_57 (pc' := 75) (ls' := [(1, .int (iI (bI (X_DA tb len a0 (at_ + 1))))), (2, .long (X_pk tb len a0 (at_ - a0).toNat)), (0, .ref 497)]) (st' := [.int (iI 8), .long (X_pk tb len a0 (at_ - a0).toNat)]) rfl ?_
          refine T_p xr_57_75 xn_57 (pc' := 76) (ls' := [(1, .int (iI (bI (X_DA tb len a0 (at_ + 1))))), (2, .long (X_pk tb len a0 (at_ - a0).toNat)), (0, .ref 497)]) (st' := [.long ((X_pk tb len a0 (at_ - a0).toNat) <<< ((iI 8).toInt64 &&& 63))]) rfl ?_
          refine T_p xr_57_76 xn_57 (pc' := 77) (ls' := [(1, .int (iI (bI (X_DA tb len a0 (at_ + 1))))), (2, .long (X_pk tb len a0 (at_ - a0).toNat)), (0, .ref 497)]) (st' := [.ref 497, .long ((X_pk tb len a0 (at_ - a0).toNat) <<< ((iI 8).toInt64 &&& 63))]) rfl ?_
          refine T_get xr_57_77 hx.1 rfl (v := .ref 2) rfl (pc' := 80) rfl ?_
          refine T_p xr_57_80 xn_57 (pc' := 81) (ls' := [(1, .int (iI (bI (X_DA tb len a0 (at_ + 1))))), (2, .long (X_pk tb len a0 (at_ - a0).toNat)), (0, .ref 497)]) (st' := [.ref 497, .ref 2, .long ((X_pk tb len a0 (at_ - a0).toNat) <<< ((iI 8).toInt64 &&& 63))]) rfl ?_
          refine T_get xr_57_81 hx.1 rfl (v := .int (iI at_)) rfl (pc' := 84) rfl ?_
          refine T_cv (S := S) (q := 2) xr_57_84 xf_93.1 xf_93.2.1 xn_93 (as := [.int (iI at_)]) (r := [.long ((X_pk tb len a0 (at_ - a0).toNat) <<< ((iI 8).toInt64 &&& 63))]) rfl ht.1 (Nat.le_of_ble_eq_true rfl) (Nat.le_of_ble_eq_true rfl) (pc' := 87) rfl (ls' := [(0, .ref 2), (1, .int (iI at_))]) rfl ?_
          refine T_mono (c_byteAt sc S len at_ tb ht.1 ht.2.1 hl (by omega)) (fun v150 S151 h149 => ?_)
          obtain ⟨h152, h153⟩ := h149
          rw [h152, h153]
          show X_T sc 57 (87, [(1, .int (iI (bI (X_DA tb len a0 (at_ + 1))))), (2, .long (X_pk tb len a0 (at_ - a0).toNat)), (0, .ref 497)], [.int (iI (X_at tb len at_)), .long ((X_pk tb len a0 (at_ - a0).toNat) <<< ((iI 8).toInt64 &&& 63))], S) _
          have r154 := X_at_r tb len at_
          refine T_p xr_57_87 xn_57 (pc' := 88) (ls' := [(1, .int (iI (bI (X_DA tb len a0 (at_ + 1))))), (2, .long (X_pk tb len a0 (at_ - a0).toNat)), (0, .ref 497)]) (st' := [.long ((iI (X_at tb len at_)).toInt64), .long ((X_pk tb len a0 (at_ - a0).toNat) <<< ((iI 8).toInt64 &&& 63))]) rfl ?_
          refine T_p xr_57_88 xn_57 (pc' := 89) (ls' := [(1, .int (iI (bI (X_DA tb len a0 (at_ + 1))))), (2, .long (X_pk tb len a0 (at_ - a0).toNat)), (0, .ref 497)]) (st' := [.long (((X_pk tb len a0 (at_ - a0).toNat) <<< ((iI 8).toInt64 &&& 63)) ||| ((iI (X_at tb len at_)).toInt64))]) rfl ?_
          refine T_le (y := (X_pk tb len a0 (at_ + 1 - a0).toNat)) (X_pk_go (by omega)) ?_
          refine T_p xr_57_89 xn_57 (pc' := 90) (ls' := [(2, .long (X_pk tb len a0 (at_ + 1 - a0).toNat)), (1, .int (iI (bI (X_DA tb len a0 (at_ + 1))))), (0, .ref 497)]) (st' := []) rfl ?_
          refine T_p xr_57_90 xn_57 (pc' := 91) (ls' := [(2, .long (X_pk tb len a0 (at_ + 1 - a0).toNat)), (1, .int (iI (bI (X_DA tb len a0 (at_ + 1))))), (0, .ref 497)]) (st' := [.ref 497]) rfl ?_
          refine T_p xr_57_91 xn_57 (pc' := 92) (ls' := [(2, .long (X_pk tb len a0 (at_ + 1 - a0).toNat)), (1, .int (iI (bI (X_DA tb len a0 (at_ + 1))))), (0, .ref 497)]) (st' := [.ref 497, .ref 497]) rfl ?_
          refine T_get xr_57_92 hx.1 rfl (v := .int (iI at_)) rfl (pc' := 95) rfl ?_
          refine T_p xr_57_95 xn_57 (pc' := 96) (ls' := [(2, .long (X_pk tb len a0 (at_ + 1 - a0).toNat)), (1, .int (iI (bI (X_DA tb len a0 (at_ + 1))))), (0, .ref 497)]) (st' := [.int (iI 1), .int (iI at_), .ref 497]) rfl ?_
          refine T_ziadd xr_57_96 (z := at_ + 1) rfl (pc' := 97) rfl ?_
          refine T_put xr_57_97 hx.1 rfl (Nat.le_of_ble_eq_true rfl) rfl (fs' := [.ref 2, .int (iI (at_ + 1)), .int (iI cnt), .ref 498, .ref 499, .ref 500, .int (iI cur)]) rfl (pc' := 100) rfl (fun S155 h156 n157 e158 => ?_)
          refine T_p xr_57_100 xn_57 (pc' := 14) (ls' := [(2, .long (X_pk tb len a0 (at_ + 1 - a0).toNat)), (1, .int (iI (bI (X_DA tb len a0 (at_ + 1))))), (0, .ref 497)]) (st' := []) rfl ?_
          have e2 : X_se X_isPB tb len at_ = X_se X_isPB tb len (at_ + 1) := X_se_go (by omega) (by assumption)
          have h159 := (n157 2 (by decide)).trans (ht.1)
          have h160 := (n157 3 (by decide)).trans (ht.2.1)
          have h161 := (n157 498 (by decide)).trans (hx.2.1)
          have h162 := (n157 499 (by decide)).trans (hx.2.2.1)
          have h163 := (n157 500 (by decide)).trans (hx.2.2.2)
          refine ih S155 (at_ + 1) ⟨h159, h160, hl⟩ ⟨h156, h161, h162, h163⟩ (by omega) (by omega) (fun S' k1 k2 k3 => ?_)
          have kk := hex S' k1 (by rw [e2]; exact k2) (((X_Fr.rf).tr (X_Fr.of n157 e158 (by first | decide | exact ⟨Nat.le_add_right _ _, Nat.add_le_add_left (by decide) _⟩ | omega))).tr k3)
          (try rw [e2] at kk)
          exact kk
        · skip
          have c148 : (X_DA tb len a0 (at_)) := c148
          refine T_p xr_57_49 xn_57 (pc' := 50) (ls' := [(2, .long (X_pk tb len a0 (at_ - a0).toNat)), (1, .int (iI (bI (X_DA tb len a0 (at_))))), (0, .ref 497)]) (st' := [.ref 497]) rfl ?_
          refine T_get xr_57_50 hx.1 rfl (v := .ref 2) rfl (pc' := 53) rfl ?_
          refine T_p xr_57_53 xn_57 (pc' := 54) (ls' := [(2, .long (X_pk tb len a0 (at_ - a0).toNat)), (1, .int (iI (bI (X_DA tb len a0 (at_))))), (0, .ref 497)]) (st' := [.ref 497, .ref 2]) rfl ?_
          refine T_get xr_57_54 hx.1 rfl (v := .int (iI at_)) rfl (pc' := 57) rfl ?_
          refine T_cv (S := S) (q := 2) xr_57_57 xf_93.1 xf_93.2.1 xn_93 (as := [.int (iI at_)]) (r := []) rfl ht.1 (Nat.le_of_ble_eq_true rfl) (Nat.le_of_ble_eq_true rfl) (pc' := 60) rfl (ls' := [(0, .ref 2), (1, .int (iI at_))]) rfl ?_
          refine T_mono (c_byteAt sc S len at_ tb ht.1 ht.2.1 hl (by omega)) (fun v165 S166 h164 => ?_)
          obtain ⟨h167, h168⟩ := h164
          rw [h167, h168]
          show X_T sc 57 (60, [(2, .long (X_pk tb len a0 (at_ - a0).toNat)), (1, .int (iI (bI (X_DA tb len a0 (at_))))), (0, .ref 497)], [.int (iI (X_at tb len at_))], S) _
          have r169 := X_at_r tb len at_
          refine T_cs xr_57_60 (by decide) xf_132.1 xn_132 (as := [.int (iI (X_at tb len at_))]) (r := []) rfl (Nat.le_of_ble_eq_true rfl) (Nat.le_of_ble_eq_true rfl) (pc' := 63) rfl (ls' := [(0, .int (iI (X_at tb len at_)))]) rfl ?_
          refine T_mono (c_isDigit sc S (X_at tb len at_) (X_at_r tb len at_)) (fun v171 S172 h170 => ?_)
          obtain ⟨h173, h174⟩ := h170
          rw [h173, h174]
          show X_T sc 57 (63, [(2, .long (X_pk tb len a0 (at_ - a0).toNat)), (1, .int (iI (bI (X_DA tb len a0 (at_))))), (0, .ref 497)], [.int (iI (bI (X_isD (X_at tb len at_))))], S) _
          refine T_bif_eq xr_57_63 (t := 70) (pc' := 66) rfl rfl (fun c175 => ?_) (fun c175 => ?_)
          · skip
            have c175 : ¬ (X_isD (X_at tb len at_)) := c175
            refine T_p xr_57_70 xn_57 (pc' := 71) (ls' := [(2, .long (X_pk tb len a0 (at_ - a0).toNat)), (1, .int (iI (bI (X_DA tb len a0 (at_))))), (0, .ref 497)]) (st' := [.int (iI 0)]) rfl ?_
            refine T_ie (y := iI (bI (X_DA tb len a0 (at_ + 1)))) (by rw [bI_f (by intro h; first | exact absurd (show X_DA tb len a0 at_ from fun k h1 h2 => h k h1 (by omega)) (by assumption) | exact absurd (show X_isD (X_at tb len at_) from h at_ (by omega) (by omega)) (by assumption))]) ?_
            refine T_p xr_57_71 xn_57 (pc' := 72) (ls' := [(1, .int (iI (bI (X_DA tb len a0 (at_ + 1))))), (2, .long (X_pk tb len a0 (at_ - a0).toNat)), (0, .ref 497)]) (st' := []) rfl ?_
            refine T_p xr_57_72 xn_57 (pc' := 73) (ls' := [(1, .int (iI (bI (X_DA tb len a0 (at_ + 1))))), (2, .long (X_pk tb len a0 (at_ - a0).toNat)), (0, .ref 497)]) (st' := [.long (X_pk tb len a0 (at_ - a0).toNat)]) rfl ?_
            refine T_p xr_57_73 xn_57 (pc' := 75) (ls' := [(1, .int (iI (bI (X_DA tb len a0 (at_ + 1))))), (2, .long (X_pk tb len a0 (at_ - a0).toNat)), (0, .ref 497)]) (st' := [.int (iI 8), .long (X_pk tb len a0 (at_ - a0).toNat)]) rfl ?_
            refine T_p xr_57_75 xn_57 (pc' := 76) (ls' := [(1, .int (iI (bI (X_DA tb len a0 (at_ + 1))))), (2, .long (X_pk tb len a0 (at_ - a0).toNat)), (0, .ref 497)]) (st' := [.long ((X_pk tb len a0 (at_ - a0).toNat) <<< ((iI 8).toInt64 &&& 63))]) rfl ?_
            refine T_p xr_57_76 xn_57 (pc' := 77) (ls' := [(1, .int (iI (bI (X_DA tb len a0 (at_ + 1))))), (2, .long (X_pk tb len a0 (at_ - a0).toNat)), (0, .ref 497)]) (st' := [.ref 497, .long ((X_pk tb len a0 (at_ - a0).toNat) <<< ((iI 8).toInt64 &&& 63))]) rfl ?_
            refine T_get xr_57_77 hx.1 rfl (v := .ref 2) rfl (pc' := 80) rfl ?_
            refine T_p xr_57_80 xn_57 (pc' := 81) (ls' := [(1, .int (iI (bI (X_DA tb len a0 (at_ + 1))))), (2, .long (X_pk tb len a0 (at_ - a0).toNat)), (0, .ref 497)]) (st' := [.ref 497, .ref 2, .long ((X_pk tb len a0 (at_ - a0).toNat) <<< ((iI 8).toInt64 &&& 63))]) rfl ?_
            refine T_get xr_57_81 hx.1 rfl (v := .int (iI at_)) rfl (pc' := 84) rfl ?_
            refine T_cv (S := S) (q := 2) xr_57_84 xf_93.1 xf_93.2.1 xn_93 (as := [.int (iI at_)]) (r := [.long ((X_pk tb len a0 (at_ - a0).toNat) <<< ((iI 8).toInt64 &&& 63))]) rfl ht.1 (Nat.le_of_ble_eq_true rfl) (Nat.le_of_ble_eq_true rfl) (pc' := 87) rfl (ls' := [(0, .ref 2), (1, .int (iI at_))]) rfl ?_
            refine T_mono (c_byteAt sc S len at_ tb ht.1 ht.2.1 hl (by omega)) (fun v177 S178 h176 => ?_)
            obtain ⟨h179, h180⟩ := h176
            rw [h179, h180]
            show X_T sc 57 (87, [(1, .int (iI (bI (X_DA tb len a0 (at_ + 1))))), (2, .long (X_pk tb len a0 (at_ - a0).toNat)), (0, .ref 497)], [.int (iI (X_at tb len at_)), .long ((X_pk tb len a0 (at_ - a0).toNat) <<< ((iI 8).toInt64 &&& 63))], S) _
            have r181 := X_at_r tb len at_
            refine T_p xr_57_87 xn_57 (pc' := 88) (ls' := [(1, .int (iI (bI (X_DA tb len a0 (at_ + 1))))), (2, .long (X_pk tb len a0 (at_ - a0).toNat)), (0, .ref 497)]) (st' := [.long ((iI (X_at tb len at_)).toInt64), .long ((X_pk tb len a0 (at_ - a0).toNat) <<< ((iI 8).toInt64 &&& 63))]) rfl ?_
            refine T_p xr_57_88 xn_57 (pc' := 89) (ls' := [(1, .int (iI (bI (X_DA tb len a0 (at_ + 1))))), (2, .long (X_pk tb len a0 (at_ - a0).toNat)), (0, .ref 497)]) (st' := [.long (((X_pk tb len a0 (at_ - a0).toNat) <<< ((iI 8).toInt64 &&& 63)) ||| ((iI (X_at tb len at_)).toInt64))]) rfl ?_
            refine T_le (y := (X_pk tb len a0 (at_ + 1 - a0).toNat)) (X_pk_go (by omega)) ?_
            refine T_p xr_57_89 xn_57 (pc' := 90) (ls' := [(2, .long (X_pk tb len a0 (at_ + 1 - a0).toNat)), (1, .int (iI (bI (X_DA tb len a0 (at_ + 1))))), (0, .ref 497)]) (st' := []) rfl ?_
            refine T_p xr_57_90 xn_57 (pc' := 91) (ls' := [(2, .long (X_pk tb len a0 (at_ + 1 - a0).toNat)), (1, .int (iI (bI (X_DA tb len a0 (at_ + 1))))), (0, .ref 497)]) (st' := [.ref 497]) rfl ?_
            refine T_p xr_57_91 xn_57 (pc' := 92) (ls' := [(2, .long (X_pk tb len a0 (at_ + 1 - a0).toNat)), (1, .int (iI (bI (X_DA tb len a0 (at_ + 1))))), (0, .ref 497)]) (st' := [.ref 497, .ref 497]) rfl ?_
            refine T_get xr_57_92 hx.1 rfl (v := .int (iI at_)) rfl (pc' := 95) rfl ?_
            refine T_p xr_57_95 xn_57 (pc' := 96) (ls' := [(2, .long (X_pk tb len a0 (at_ + 1 - a0).toNat)), (1, .int (iI (bI (X_DA tb len a0 (at_ + 1))))), (0, .ref 497)]) (st' := [.int (iI 1), .int (iI at_), .ref 497]) rfl ?_
            refine T_ziadd xr_57_96 (z := at_ + 1) rfl (pc' := 97) rfl ?_
            refine T_put xr_57_97 hx.1 rfl (Nat.le_of_ble_eq_true rfl) rfl (fs' := [.ref 2, .int (iI (at_ + 1)), .int (iI cnt), .ref 498, .ref 499, .ref 500, .int (iI cur)]) rfl (pc' := 100) rfl (fun S182 h183 n184 e185 => ?_)
            refine T_p xr_57_100 xn_57 (pc' := 14) (ls' := [(2, .long (X_pk tb len a0 (at_ + 1 - a0).toNat)), (1, .int (iI (bI (X_DA tb len a0 (at_ + 1))))), (0, .ref 497)]) (st' := []) rfl ?_
            have e2 : X_se X_isPB tb len at_ = X_se X_isPB tb len (at_ + 1) := X_se_go (by omega) (by assumption)
            have h186 := (n184 2 (by decide)).trans (ht.1)
            have h187 := (n184 3 (by decide)).trans (ht.2.1)
            have h188 := (n184 498 (by decide)).trans (hx.2.1)
            have h189 := (n184 499 (by decide)).trans (hx.2.2.1)
            have h190 := (n184 500 (by decide)).trans (hx.2.2.2)
            refine ih S182 (at_ + 1) ⟨h186, h187, hl⟩ ⟨h183, h188, h189, h190⟩ (by omega) (by omega) (fun S' k1 k2 k3 => ?_)
            have kk := hex S' k1 (by rw [e2]; exact k2) (((X_Fr.rf).tr (X_Fr.of n184 e185 (by first | decide | exact ⟨Nat.le_add_right _ _, Nat.add_le_add_left (by decide) _⟩ | omega))).tr k3)
            (try rw [e2] at kk)
            exact kk
          · skip
            have c175 : (X_isD (X_at tb len at_)) := c175
            refine T_p xr_57_66 xn_57 (pc' := 67) (ls' := [(2, .long (X_pk tb len a0 (at_ - a0).toNat)), (1, .int (iI (bI (X_DA tb len a0 (at_))))), (0, .ref 497)]) (st' := [.int (iI 1)]) rfl ?_
            refine T_p xr_57_67 xn_57 (pc' := 71) (ls' := [(2, .long (X_pk tb len a0 (at_ - a0).toNat)), (1, .int (iI (bI (X_DA tb len a0 (at_))))), (0, .ref 497)]) (st' := [.int (iI 1)]) rfl ?_
            refine T_ie (y := iI (bI (X_DA tb len a0 (at_ + 1)))) (by rw [bI_t (X_DA_go (by assumption) (by assumption))]) ?_
            refine T_p xr_57_71 xn_57 (pc' := 72) (ls' := [(1, .int (iI (bI (X_DA tb len a0 (at_ + 1))))), (2, .long (X_pk tb len a0 (at_ - a0).toNat)), (0, .ref 497)]) (st' := []) rfl ?_
            refine T_p xr_57_72 xn_57 (pc' := 73) (ls' := [(1, .int (iI (bI (X_DA tb len a0 (at_ + 1))))), (2, .long (X_pk tb len a0 (at_ - a0).toNat)), (0, .ref 497)]) (st' := [.long (X_pk tb len a0 (at_ - a0).toNat)]) rfl ?_
            refine T_p xr_57_73 xn_57 (pc' := 75) (ls' := [(1, .int (iI (bI (X_DA tb len a0 (at_ + 1))))), (2, .long (X_pk tb len a0 (at_ - a0).toNat)), (0, .ref 497)]) (st' := [.int (iI 8), .long (X_pk tb len a0 (at_ - a0).toNat)]) rfl ?_
            refine T_p xr_57_75 xn_57 (pc' := 76) (ls' := [(1, .int (iI (bI (X_DA tb len a0 (at_ + 1))))), (2, .long (X_pk tb len a0 (at_ - a0).toNat)), (0, .ref 497)]) (st' := [.long ((X_pk tb len a0 (at_ - a0).toNat) <<< ((iI 8).toInt64 &&& 63))]) rfl ?_
            refine T_p xr_57_76 xn_57 (pc' := 77) (ls' := [(1, .int (iI (bI (X_DA tb len a0 (at_ + 1))))), (2, .long (X_pk tb len a0 (at_ - a0).toNat)), (0, .ref 497)]) (st' := [.ref 497, .long ((X_pk tb len a0 (at_ - a0).toNat) <<< ((iI 8).toInt64 &&& 63))]) rfl ?_
            refine T_get xr_57_77 hx.1 rfl (v := .ref 2) rfl (pc' := 80) rfl ?_
            refine T_p xr_57_80 xn_57 (pc' := 81) (ls' := [(1, .int (iI (bI (X_DA tb len a0 (at_ + 1))))), (2, .long (X_pk tb len a0 (at_ - a0).toNat)), (0, .ref 497)]) (st' := [.ref 497, .ref 2, .long ((X_pk tb len a0 (at_ - a0).toNat) <<< ((iI 8).toInt64 &&& 63))]) rfl ?_
            refine T_get xr_57_81 hx.1 rfl (v := .int (iI at_)) rfl (pc' := 84) rfl ?_
            refine T_cv (S := S) (q := 2) xr_57_84 xf_93.1 xf_93.2.1 xn_93 (as := [.int (iI at_)]) (r := [.long ((X_pk tb len a0 (at_ - a0).toNat) <<< ((iI 8).toInt64 &&& 63))]) rfl ht.1 (Nat.le_of_ble_eq_true rfl) (Nat.le_of_ble_eq_true rfl) (pc' := 87) rfl (ls' := [(0, .ref 2), (1, .int (iI at_))]) rfl ?_
            refine T_mono (c_byteAt sc S len at_ tb ht.1 ht.2.1 hl (by omega)) (fun v192 S193 h191 => ?_)
            obtain ⟨h194, h195⟩ := h191
            rw [h194, h195]
            show X_T sc 57 (87, [(1, .int (iI (bI (X_DA tb len a0 (at_ + 1))))), (2, .long (X_pk tb len a0 (at_ - a0).toNat)), (0, .ref 497)], [.int (iI (X_at tb len at_)), .long ((X_pk tb len a0 (at_ - a0).toNat) <<< ((iI 8).toInt64 &&& 63))], S) _
            have r196 := X_at_r tb len at_
            refine T_p xr_57_87 xn_57 (pc' := 88) (ls' := [(1, .int (iI (bI (X_DA tb len a0 (at_ + 1))))), (2, .long (X_pk tb len a0 (at_ - a0).toNat)), (0, .ref 497)]) (st' := [.long ((iI (X_at tb len at_)).toInt64), .long ((X_pk tb len a0 (at_ - a0).toNat) <<< ((iI 8).toInt64 &&& 63))]) rfl ?_
            refine T_p xr_57_88 xn_57 (pc' := 89) (ls' := [(1, .int (iI (bI (X_DA tb len a0 (at_ + 1))))), (2, .long (X_pk tb len a0 (at_ - a0).toNat)), (0, .ref 497)]) (st' := [.long (((X_pk tb len a0 (at_ - a0).toNat) <<< ((iI 8).toInt64 &&& 63)) ||| ((iI (X_at tb len at_)).toInt64))]) rfl ?_
            refine T_le (y := (X_pk tb len a0 (at_ + 1 - a0).toNat)) (X_pk_go (by omega)) ?_
            refine T_p xr_57_89 xn_57 (pc' := 90) (ls' := [(2, .long (X_pk tb len a0 (at_ + 1 - a0).toNat)), (1, .int (iI (bI (X_DA tb len a0 (at_ + 1))))), (0, .ref 497)]) (st' := []) rfl ?_
            refine T_p xr_57_90 xn_57 (pc' := 91) (ls' := [(2, .long (X_pk tb len a0 (at_ + 1 - a0).toNat)), (1, .int (iI (bI (X_DA tb len a0 (at_ + 1))))), (0, .ref 497)]) (st' := [.ref 497]) rfl ?_
            refine T_p xr_57_91 xn_57 (pc' := 92) (ls' := [(2, .long (X_pk tb len a0 (at_ + 1 - a0).toNat)), (1, .int (iI (bI (X_DA tb len a0 (at_ + 1))))), (0, .ref 497)]) (st' := [.ref 497, .ref 497]) rfl ?_
            refine T_get xr_57_92 hx.1 rfl (v := .int (iI at_)) rfl (pc' := 95) rfl ?_
            refine T_p xr_57_95 xn_57 (pc' := 96) (ls' := [(2, .long (X_pk tb len a0 (at_ + 1 - a0).toNat)), (1, .int (iI (bI (X_DA tb len a0 (at_ + 1))))), (0, .ref 497)]) (st' := [.int (iI 1), .int (iI at_), .ref 497]) rfl ?_
            refine T_ziadd xr_57_96 (z := at_ + 1) rfl (pc' := 97) rfl ?_
            refine T_put xr_57_97 hx.1 rfl (Nat.le_of_ble_eq_true rfl) rfl (fs' := [.ref 2, .int (iI (at_ + 1)), .int (iI cnt), .ref 498, .ref 499, .ref 500, .int (iI cur)]) rfl (pc' := 100) rfl (fun S197 h198 n199 e200 => ?_)
            refine T_p xr_57_100 xn_57 (pc' := 14) (ls' := [(2, .long (X_pk tb len a0 (at_ + 1 - a0).toNat)), (1, .int (iI (bI (X_DA tb len a0 (at_ + 1))))), (0, .ref 497)]) (st' := []) rfl ?_
            have e2 : X_se X_isPB tb len at_ = X_se X_isPB tb len (at_ + 1) := X_se_go (by omega) (by assumption)
            have h201 := (n199 2 (by decide)).trans (ht.1)
            have h202 := (n199 3 (by decide)).trans (ht.2.1)
            have h203 := (n199 498 (by decide)).trans (hx.2.1)
            have h204 := (n199 499 (by decide)).trans (hx.2.2.1)
            have h205 := (n199 500 (by decide)).trans (hx.2.2.2)
            refine ih S197 (at_ + 1) ⟨h201, h202, hl⟩ ⟨h198, h203, h204, h205⟩ (by omega) (by omega) (fun S' k1 k2 k3 => ?_)
            have kk := hex S' k1 (by rw [e2]; exact k2) (((X_Fr.rf).tr (X_Fr.of n199 e200 (by first | decide | exact ⟨Nat.le_add_right _ _, Nat.add_le_add_left (by decide) _⟩ | omega))).tr k3)
            (try rw [e2] at kk)
            exact kk
theorem c_takeName (sc : X_Sc) (S : X_S) (len : Int) (tb : Int → Int) (a cnt cur : Int) (so pl : Int → Int) (ct : Int → Int64) (ht : C_tp S len tb) (hx : C_lx S a cnt cur so pl ct) (ha : 0 ≤ a ∧ a < len) (hcn : 0 ≤ cnt ∧ cnt ≤ 2000) (hpl : pl cnt = a) (hct : ct cnt = 0) (hc : X_isL (X_at tb len a)) :
    X_T sc 55 (0, [(0, .ref 497)], [], S) (fun v S' => ∃ (r e : Int) (ct' : Int → Int64), v = some (.int (iI r)) ∧ X_Tok tb len a r (ct' cnt) e ∧ (∀ k, k ≠ cnt → ct' k = ct k) ∧ C_lx S' e cnt cur so pl ct' ∧ X_Fr (fun q => q = 497 ∨ q = 500) S S') := by
  have hl : 0 ≤ len ∧ len ≤ 2000 := ht.2.2
  have hat := X_at_r tb len a
  refine T_p xr_55_0 xn_55 (pc' := 1) (ls' := [(0, .ref 497)]) (st' := [.long (0 : Int64)]) rfl ?_
  refine T_le (y := (X_pk tb len a (a - a).toNat)) (by rw [show (a - a).toNat = 0 by omega]; rfl) ?_
  refine T_p xr_55_1 xn_55 (pc' := 2) (ls' := [(1, .long (X_pk tb len a (a - a).toNat)), (0, .ref 497)]) (st' := []) rfl ?_
  refine c_takeName_l sc len tb cnt cur a so pl ct hl _ len.toNat S a ⟨ht.1, ht.2.1, hl⟩ ⟨hx.1, hx.2.1, hx.2.2.1, hx.2.2.2⟩ (by omega) (by omega) (fun S210 k207 k208 k209 => ?_)
  have hse := X_se_r X_isLD tb len a
  refine T_p xr_55_64 xn_55 (pc' := 65) (ls' := [(1, .long (X_pk tb len a ((X_se X_isLD tb len a) - a).toNat)), (0, .ref 497)]) (st' := [.ref 497]) rfl ?_
  refine T_get xr_55_65 k208.1 rfl (v := .int (iI (X_se X_isLD tb len a))) rfl (pc' := 68) rfl ?_
  refine T_p xr_55_68 xn_55 (pc' := 69) (ls' := [(1, .long (X_pk tb len a ((X_se X_isLD tb len a) - a).toNat)), (0, .ref 497)]) (st' := [.ref 497, .int (iI (X_se X_isLD tb len a))]) rfl ?_
  refine T_get xr_55_69 k208.1 rfl (v := .ref 499) rfl (pc' := 72) rfl ?_
  refine T_p xr_55_72 xn_55 (pc' := 73) (ls' := [(1, .long (X_pk tb len a ((X_se X_isLD tb len a) - a).toNat)), (0, .ref 497)]) (st' := [.ref 497, .ref 499, .int (iI (X_se X_isLD tb len a))]) rfl ?_
  refine T_get xr_55_73 k208.1 rfl (v := .int (iI cnt)) rfl (pc' := 76) rfl ?_
  refine T_ziald xr_55_76 k208.2.2.1 (pc' := 77) rfl ?_
  refine T_ie (y := iI a) (by rw [hpl]) ?_
  refine T_zisub xr_55_77 (z := (X_se X_isLD tb len a) - a) rfl (pc' := 78) rfl ?_
  refine T_p xr_55_78 xn_55 (pc' := 80) (ls' := [(1, .long (X_pk tb len a ((X_se X_isLD tb len a) - a).toNat)), (0, .ref 497)]) (st' := [.int (iI 8), .int (iI ((X_se X_isLD tb len a) - a))]) rfl ?_
  refine T_zicmp_le xr_55_80 (t := 85) (pc' := 83) rfl rfl (fun c211 => ?_) (fun c211 => ?_)
  · skip
    have c211 : ((X_se X_isLD tb len a) - a) ≤ 8 := c211
    refine T_p xr_55_85 xn_55 (pc' := 86) (ls' := [(1, .long (X_pk tb len a ((X_se X_isLD tb len a) - a).toNat)), (0, .ref 497)]) (st' := [.ref 497]) rfl ?_
    refine T_get xr_55_86 k208.1 rfl (v := .ref 500) rfl (pc' := 89) rfl ?_
    refine T_p xr_55_89 xn_55 (pc' := 90) (ls' := [(1, .long (X_pk tb len a ((X_se X_isLD tb len a) - a).toNat)), (0, .ref 497)]) (st' := [.ref 497, .ref 500]) rfl ?_
    refine T_get xr_55_90 k208.1 rfl (v := .int (iI cnt)) rfl (pc' := 93) rfl ?_
    refine T_p xr_55_93 xn_55 (pc' := 94) (ls' := [(1, .long (X_pk tb len a ((X_se X_isLD tb len a) - a).toNat)), (0, .ref 497)]) (st' := [.long (X_pk tb len a ((X_se X_isLD tb len a) - a).toNat), .int (iI cnt), .ref 500]) rfl ?_
    refine T_zlast xr_55_94 k208.2.2.2 (pc' := 95) rfl (fun S212 h213 n214 e215 => ?_)
    refine T_p xr_55_95 xn_55 (pc' := 96) (ls' := [(1, .long (X_pk tb len a ((X_se X_isLD tb len a) - a).toNat)), (0, .ref 497)]) (st' := [.long (X_pk tb len a ((X_se X_isLD tb len a) - a).toNat)]) rfl ?_
    refine T_cs xr_55_96 (by decide) xf_59.1 xn_59 (as := [.long (X_pk tb len a ((X_se X_isLD tb len a) - a).toNat)]) (r := []) rfl (Nat.le_of_ble_eq_true rfl) (Nat.le_of_ble_eq_true rfl) (pc' := 99) rfl (ls' := [(0, .long (X_pk tb len a ((X_se X_isLD tb len a) - a).toNat))]) rfl ?_
    refine T_mono (c_isRes sc S212 (X_pk tb len a ((X_se X_isLD tb len a) - a).toNat)) (fun v217 S218 h216 => ?_)
    obtain ⟨h219, h220⟩ := h216
    rw [h219, h220]
    show X_T sc 55 (99, [(1, .long (X_pk tb len a ((X_se X_isLD tb len a) - a).toNat)), (0, .ref 497)], [.int (iI (bI (X_res (X_pk tb len a ((X_se X_isLD tb len a) - a).toNat))))], S212) _
    refine T_bif_eq xr_55_99 (t := 106) (pc' := 102) rfl rfl (fun c221 => ?_) (fun c221 => ?_)
    · skip
      have c221 : ¬ (X_res (X_pk tb len a ((X_se X_isLD tb len a) - a).toNat)) := c221
      refine T_p xr_55_106 xn_55 (pc' := 107) (ls' := [(1, .long (X_pk tb len a ((X_se X_isLD tb len a) - a).toNat)), (0, .ref 497)]) (st' := [.int (iI 2)]) rfl ?_
      refine T_iret xr_55_107 xf_55.2.2 rfl ?_
      have h222 := (n214 497 (by decide)).trans (k208.1)
      have h223 := (n214 498 (by decide)).trans (k208.2.1)
      have h224 := (n214 499 (by decide)).trans (k208.2.2.1)
      refine ⟨2, (X_se X_isLD tb len a), (X_ug ct cnt (X_pk tb len a ((X_se X_isLD tb len a) - a).toNat)), rfl, ?_, fun k hk => X_ug_n _ _ hk, ⟨h222, h223, h224, h213⟩, ((X_Fr.rf).tr (X_Fr.mono ⟨k209.1, k209.2⟩ (fun q hq => by omega))).tr (X_Fr.of n214 e215 (by first | decide | exact ⟨Nat.le_add_right _ _, Nat.add_le_add_left (by decide) _⟩ | omega))⟩
      rw [X_ug_s]
      exact Or.inr (Or.inl ⟨hc, rfl, Or.inr ⟨by omega, rfl, Or.inr ⟨by assumption, rfl⟩⟩⟩)
    · skip
      have c221 : (X_res (X_pk tb len a ((X_se X_isLD tb len a) - a).toNat)) := c221
      refine T_p xr_55_102 xn_55 (pc' := 103) (ls' := [(1, .long (X_pk tb len a ((X_se X_isLD tb len a) - a).toNat)), (0, .ref 497)]) (st' := [.int (iI 3)]) rfl ?_
      refine T_p xr_55_103 xn_55 (pc' := 107) (ls' := [(1, .long (X_pk tb len a ((X_se X_isLD tb len a) - a).toNat)), (0, .ref 497)]) (st' := [.int (iI 3)]) rfl ?_
      refine T_iret xr_55_107 xf_55.2.2 rfl ?_
      have h225 := (n214 497 (by decide)).trans (k208.1)
      have h226 := (n214 498 (by decide)).trans (k208.2.1)
      have h227 := (n214 499 (by decide)).trans (k208.2.2.1)
      refine ⟨3, (X_se X_isLD tb len a), (X_ug ct cnt (X_pk tb len a ((X_se X_isLD tb len a) - a).toNat)), rfl, ?_, fun k hk => X_ug_n _ _ hk, ⟨h225, h226, h227, h213⟩, ((X_Fr.rf).tr (X_Fr.mono ⟨k209.1, k209.2⟩ (fun q hq => by omega))).tr (X_Fr.of n214 e215 (by first | decide | exact ⟨Nat.le_add_right _ _, Nat.add_le_add_left (by decide) _⟩ | omega))⟩
      rw [X_ug_s]
      exact Or.inr (Or.inl ⟨hc, rfl, Or.inr ⟨by omega, rfl, Or.inl ⟨by assumption, rfl⟩⟩⟩)
  · skip
    have c211 : ¬ (((X_se X_isLD tb len a) - a) ≤ 8) := c211
    refine T_p xr_55_83 xn_55 (pc' := 84) (ls' := [(1, .long (X_pk tb len a ((X_se X_isLD tb len a) - a).toNat)), (0, .ref 497)]) (st' := [.int (iI 1)]) rfl ?_
    refine T_iret xr_55_84 xf_55.2.2 rfl ?_
    refine ⟨1, (X_se X_isLD tb len a), ct, rfl, ?_, fun _ _ => rfl, ⟨k208.1, k208.2.1, k208.2.2.1, k208.2.2.2⟩, (X_Fr.rf).tr (X_Fr.mono ⟨k209.1, k209.2⟩ (fun q hq => by omega))⟩
    rw [hct]
    exact Or.inr (Or.inl ⟨hc, rfl, Or.inl ⟨by omega, rfl, rfl⟩⟩)
theorem c_takeNumber (sc : X_Sc) (S : X_S) (len : Int) (tb : Int → Int) (a cnt cur : Int) (so pl : Int → Int) (ct : Int → Int64) (ht : C_tp S len tb) (hx : C_lx S a cnt cur so pl ct) (ha : 0 ≤ a ∧ a < len) (hcn : 0 ≤ cnt ∧ cnt ≤ 2000) (hpl : pl cnt = a) (hct : ct cnt = 0) (hc : X_isD (X_at tb len a)) :
    X_T sc 56 (0, [(0, .ref 497)], [], S) (fun v S' => ∃ (r e : Int) (ct' : Int → Int64), v = some (.int (iI r)) ∧ X_Tok tb len a r (ct' cnt) e ∧ (∀ k, k ≠ cnt → ct' k = ct k) ∧ C_lx S' e cnt cur so pl ct' ∧ X_Fr (fun q => q = 497 ∨ q = 500) S S') := by
  have hl : 0 ≤ len ∧ len ≤ 2000 := ht.2.2
  have hat := X_at_r tb len a
  refine T_p xr_56_0 xn_56 (pc' := 1) (ls' := [(0, .ref 497)]) (st' := [.long (0 : Int64)]) rfl ?_
  refine T_le (y := (iL (X_dv tb len a (a - a).toNat))) (by rw [show (a - a).toNat = 0 by omega]; rfl) ?_
  refine T_p xr_56_1 xn_56 (pc' := 2) (ls' := [(1, .long (iL (X_dv tb len a (a - a).toNat))), (0, .ref 497)]) (st' := []) rfl ?_
  refine c_takeNumber_l sc len tb cnt cur a so pl ct hl _ len.toNat S a ⟨ht.1, ht.2.1, hl⟩ ⟨hx.1, hx.2.1, hx.2.2.1, hx.2.2.2⟩ (by omega) (by omega) (fun S231 k228 k229 k230 => ?_)
  have hse := X_se_r X_isD tb len a
  refine T_p xr_56_69 xn_56 (pc' := 70) (ls' := [(1, .long (iL (X_dv tb len a ((X_se X_isD tb len a) - a).toNat))), (0, .ref 497)]) (st' := [.ref 497]) rfl ?_
  refine T_get xr_56_70 k229.1 rfl (v := .int (iI (X_se X_isD tb len a))) rfl (pc' := 73) rfl ?_
  refine T_p xr_56_73 xn_56 (pc' := 74) (ls' := [(1, .long (iL (X_dv tb len a ((X_se X_isD tb len a) - a).toNat))), (0, .ref 497)]) (st' := [.ref 497, .int (iI (X_se X_isD tb len a))]) rfl ?_
  refine T_get xr_56_74 k229.1 rfl (v := .ref 499) rfl (pc' := 77) rfl ?_
  refine T_p xr_56_77 xn_56 (pc' := 78) (ls' := [(1, .long (iL (X_dv tb len a ((X_se X_isD tb len a) - a).toNat))), (0, .ref 497)]) (st' := [.ref 497, .ref 499, .int (iI (X_se X_isD tb len a))]) rfl ?_
  refine T_get xr_56_78 k229.1 rfl (v := .int (iI cnt)) rfl (pc' := 81) rfl ?_
  refine T_ziald xr_56_81 k229.2.2.1 (pc' := 82) rfl ?_
  refine T_ie (y := iI a) (by rw [hpl]) ?_
  refine T_zisub xr_56_82 (z := (X_se X_isD tb len a) - a) rfl (pc' := 83) rfl ?_
  refine T_p xr_56_83 xn_56 (pc' := 84) (ls' := [(3, .int (iI ((X_se X_isD tb len a) - a))), (1, .long (iL (X_dv tb len a ((X_se X_isD tb len a) - a).toNat))), (0, .ref 497)]) (st' := []) rfl ?_
  refine T_p xr_56_84 xn_56 (pc' := 85) (ls' := [(3, .int (iI ((X_se X_isD tb len a) - a))), (1, .long (iL (X_dv tb len a ((X_se X_isD tb len a) - a).toNat))), (0, .ref 497)]) (st' := [.int (iI ((X_se X_isD tb len a) - a))]) rfl ?_
  refine T_p xr_56_85 xn_56 (pc' := 87) (ls' := [(3, .int (iI ((X_se X_isD tb len a) - a))), (1, .long (iL (X_dv tb len a ((X_se X_isD tb len a) - a).toNat))), (0, .ref 497)]) (st' := [.int (iI 9), .int (iI ((X_se X_isD tb len a) - a))]) rfl ?_
  refine T_zicmp_gt xr_56_87 (t := 107) (pc' := 90) rfl rfl (fun c232 => ?_) (fun c232 => ?_)
  · skip
    have c232 : 9 < ((X_se X_isD tb len a) - a) := c232
    refine T_p xr_56_107 xn_56 (pc' := 108) (ls' := [(3, .int (iI ((X_se X_isD tb len a) - a))), (1, .long (iL (X_dv tb len a ((X_se X_isD tb len a) - a).toNat))), (0, .ref 497)]) (st' := [.int (iI 1)]) rfl ?_
    refine T_iret xr_56_108 xf_56.2.2 rfl ?_
    refine ⟨1, (X_se X_isD tb len a), ct, rfl, ?_, fun _ _ => rfl, ⟨k229.1, k229.2.1, k229.2.2.1, k229.2.2.2⟩, (X_Fr.rf).tr (X_Fr.mono ⟨k230.1, k230.2⟩ (fun q hq => by omega))⟩
    rw [hct]
    exact Or.inr (Or.inr (Or.inl ⟨hc, rfl, Or.inl ⟨by first | exact Or.inl (by omega) | exact Or.inr (by assumption), rfl, rfl⟩⟩))
  · skip
    have c232 : ¬ (9 < ((X_se X_isD tb len a) - a)) := c232
    refine T_p xr_56_90 xn_56 (pc' := 91) (ls' := [(3, .int (iI ((X_se X_isD tb len a) - a))), (1, .long (iL (X_dv tb len a ((X_se X_isD tb len a) - a).toNat))), (0, .ref 497)]) (st' := [.ref 497]) rfl ?_
    refine T_get xr_56_91 k229.1 rfl (v := .ref 2) rfl (pc' := 94) rfl ?_
    refine T_p xr_56_94 xn_56 (pc' := 95) (ls' := [(3, .int (iI ((X_se X_isD tb len a) - a))), (1, .long (iL (X_dv tb len a ((X_se X_isD tb len a) - a).toNat))), (0, .ref 497)]) (st' := [.ref 497, .ref 2]) rfl ?_
    refine T_get xr_56_95 k229.1 rfl (v := .int (iI (X_se X_isD tb len a))) rfl (pc' := 98) rfl ?_
    refine T_cv (S := S231) (q := 2) xr_56_98 xf_93.1 xf_93.2.1 xn_93 (as := [.int (iI (X_se X_isD tb len a))]) (r := []) rfl k228.1 (Nat.le_of_ble_eq_true rfl) (Nat.le_of_ble_eq_true rfl) (pc' := 101) rfl (ls' := [(0, .ref 2), (1, .int (iI (X_se X_isD tb len a)))]) rfl ?_
    refine T_mono (c_byteAt sc S231 len (X_se X_isD tb len a) tb k228.1 k228.2.1 hl (by omega)) (fun v234 S235 h233 => ?_)
    obtain ⟨h236, h237⟩ := h233
    rw [h236, h237]
    show X_T sc 56 (101, [(3, .int (iI ((X_se X_isD tb len a) - a))), (1, .long (iL (X_dv tb len a ((X_se X_isD tb len a) - a).toNat))), (0, .ref 497)], [.int (iI (X_at tb len (X_se X_isD tb len a)))], S231) _
    have r238 := X_at_r tb len (X_se X_isD tb len a)
    refine T_cs xr_56_101 (by decide) xf_60.1 xn_60 (as := [.int (iI (X_at tb len (X_se X_isD tb len a)))]) (r := []) rfl (Nat.le_of_ble_eq_true rfl) (Nat.le_of_ble_eq_true rfl) (pc' := 104) rfl (ls' := [(0, .int (iI (X_at tb len (X_se X_isD tb len a))))]) rfl ?_
    refine T_mono (c_isLetter sc S231 (X_at tb len (X_se X_isD tb len a)) (X_at_r tb len (X_se X_isD tb len a))) (fun v240 S241 h239 => ?_)
    obtain ⟨h242, h243⟩ := h239
    rw [h242, h243]
    show X_T sc 56 (104, [(3, .int (iI ((X_se X_isD tb len a) - a))), (1, .long (iL (X_dv tb len a ((X_se X_isD tb len a) - a).toNat))), (0, .ref 497)], [.int (iI (bI (X_isL (X_at tb len (X_se X_isD tb len a)))))], S231) _
    refine T_bif_eq xr_56_104 (t := 109) (pc' := 107) rfl rfl (fun c244 => ?_) (fun c244 => ?_)
    · skip
      have c244 : ¬ (X_isL (X_at tb len (X_se X_isD tb len a))) := c244
      refine T_p xr_56_109 xn_56 (pc' := 110) (ls' := [(3, .int (iI ((X_se X_isD tb len a) - a))), (1, .long (iL (X_dv tb len a ((X_se X_isD tb len a) - a).toNat))), (0, .ref 497)]) (st' := [.ref 497]) rfl ?_
      refine T_get xr_56_110 k229.1 rfl (v := .ref 500) rfl (pc' := 113) rfl ?_
      refine T_p xr_56_113 xn_56 (pc' := 114) (ls' := [(3, .int (iI ((X_se X_isD tb len a) - a))), (1, .long (iL (X_dv tb len a ((X_se X_isD tb len a) - a).toNat))), (0, .ref 497)]) (st' := [.ref 497, .ref 500]) rfl ?_
      refine T_get xr_56_114 k229.1 rfl (v := .int (iI cnt)) rfl (pc' := 117) rfl ?_
      refine T_p xr_56_117 xn_56 (pc' := 118) (ls' := [(3, .int (iI ((X_se X_isD tb len a) - a))), (1, .long (iL (X_dv tb len a ((X_se X_isD tb len a) - a).toNat))), (0, .ref 497)]) (st' := [.long (iL (X_dv tb len a ((X_se X_isD tb len a) - a).toNat)), .int (iI cnt), .ref 500]) rfl ?_
      refine T_zlast xr_56_118 k229.2.2.2 (pc' := 119) rfl (fun S245 h246 n247 e248 => ?_)
      refine T_p xr_56_119 xn_56 (pc' := 120) (ls' := [(3, .int (iI ((X_se X_isD tb len a) - a))), (1, .long (iL (X_dv tb len a ((X_se X_isD tb len a) - a).toNat))), (0, .ref 497)]) (st' := [.int (iI ((X_se X_isD tb len a) - a))]) rfl ?_
      refine T_p xr_56_120 xn_56 (pc' := 121) (ls' := [(3, .int (iI ((X_se X_isD tb len a) - a))), (1, .long (iL (X_dv tb len a ((X_se X_isD tb len a) - a).toNat))), (0, .ref 497)]) (st' := [.int (iI 1), .int (iI ((X_se X_isD tb len a) - a))]) rfl ?_
      refine T_zicmp_ne xr_56_121 (t := 128) (pc' := 124) rfl rfl (fun c249 => ?_) (fun c249 => ?_)
      · skip
        have c249 : ¬ ((X_se X_isD tb len a) - a) = 1 := c249
        refine T_p xr_56_128 xn_56 (pc' := 129) (ls' := [(3, .int (iI ((X_se X_isD tb len a) - a))), (1, .long (iL (X_dv tb len a ((X_se X_isD tb len a) - a).toNat))), (0, .ref 497)]) (st' := [.int (iI 4)]) rfl ?_
        refine T_iret xr_56_129 xf_56.2.2 rfl ?_
        have h250 := (n247 497 (by decide)).trans (k229.1)
        have h251 := (n247 498 (by decide)).trans (k229.2.1)
        have h252 := (n247 499 (by decide)).trans (k229.2.2.1)
        refine ⟨4, (X_se X_isD tb len a), (X_ug ct cnt (iL (X_dv tb len a ((X_se X_isD tb len a) - a).toNat))), rfl, ?_, fun k hk => X_ug_n _ _ hk, ⟨h250, h251, h252, h246⟩, ((X_Fr.rf).tr (X_Fr.mono ⟨k230.1, k230.2⟩ (fun q hq => by omega))).tr (X_Fr.of n247 e248 (by first | decide | exact ⟨Nat.le_add_right _ _, Nat.add_le_add_left (by decide) _⟩ | omega))⟩
        rw [X_ug_s]
        exact Or.inr (Or.inr (Or.inl ⟨hc, rfl, Or.inr ⟨by omega, by assumption, rfl, Or.inr ⟨by omega, rfl⟩⟩⟩))
      · skip
        have c249 : ¬ (¬ ((X_se X_isD tb len a) - a) = 1) := c249
        refine T_p xr_56_124 xn_56 (pc' := 125) (ls' := [(3, .int (iI ((X_se X_isD tb len a) - a))), (1, .long (iL (X_dv tb len a ((X_se X_isD tb len a) - a).toNat))), (0, .ref 497)]) (st' := [.int (iI 5)]) rfl ?_
        refine T_p xr_56_125 xn_56 (pc' := 129) (ls' := [(3, .int (iI ((X_se X_isD tb len a) - a))), (1, .long (iL (X_dv tb len a ((X_se X_isD tb len a) - a).toNat))), (0, .ref 497)]) (st' := [.int (iI 5)]) rfl ?_
        refine T_iret xr_56_129 xf_56.2.2 rfl ?_
        have h253 := (n247 497 (by decide)).trans (k229.1)
        have h254 := (n247 498 (by decide)).trans (k229.2.1)
        have h255 := (n247 499 (by decide)).trans (k229.2.2.1)
        refine ⟨5, (X_se X_isD tb len a), (X_ug ct cnt (iL (X_dv tb len a ((X_se X_isD tb len a) - a).toNat))), rfl, ?_, fun k hk => X_ug_n _ _ hk, ⟨h253, h254, h255, h246⟩, ((X_Fr.rf).tr (X_Fr.mono ⟨k230.1, k230.2⟩ (fun q hq => by omega))).tr (X_Fr.of n247 e248 (by first | decide | exact ⟨Nat.le_add_right _ _, Nat.add_le_add_left (by decide) _⟩ | omega))⟩
        rw [X_ug_s]
        exact Or.inr (Or.inr (Or.inl ⟨hc, rfl, Or.inr ⟨by omega, by assumption, rfl, Or.inl ⟨by omega, rfl⟩⟩⟩))
    · skip
      have c244 : (X_isL (X_at tb len (X_se X_isD tb len a))) := c244
      refine T_p xr_56_107 xn_56 (pc' := 108) (ls' := [(3, .int (iI ((X_se X_isD tb len a) - a))), (1, .long (iL (X_dv tb len a ((X_se X_isD tb len a) - a).toNat))), (0, .ref 497)]) (st' := [.int (iI 1)]) rfl ?_
      refine T_iret xr_56_108 xf_56.2.2 rfl ?_
      refine ⟨1, (X_se X_isD tb len a), ct, rfl, ?_, fun _ _ => rfl, ⟨k229.1, k229.2.1, k229.2.2.1, k229.2.2.2⟩, (X_Fr.rf).tr (X_Fr.mono ⟨k230.1, k230.2⟩ (fun q hq => by omega))⟩
      rw [hct]
      exact Or.inr (Or.inr (Or.inl ⟨hc, rfl, Or.inl ⟨by first | exact Or.inl (by omega) | exact Or.inr (by assumption), rfl, rfl⟩⟩))
theorem c_takePart (sc : X_Sc) (S : X_S) (len : Int) (tb : Int → Int) (a cnt cur : Int) (so pl : Int → Int) (ct : Int → Int64) (ht : C_tp S len tb) (hx : C_lx S a cnt cur so pl ct) (ha : 0 ≤ a ∧ a < len) (hcn : 0 ≤ cnt ∧ cnt ≤ 2000) (hpl : pl cnt = a) (hct : ct cnt = 0) (hc : X_at tb len a = 34) :
    X_T sc 57 (0, [(0, .ref 497)], [], S) (fun v S' => ∃ (r e : Int) (ct' : Int → Int64), v = some (.int (iI r)) ∧ X_Tok tb len a r (ct' cnt) e ∧ (∀ k, k ≠ cnt → ct' k = ct k) ∧ C_lx S' e cnt cur so pl ct' ∧ X_Fr (fun q => q = 497 ∨ q = 500) S S') := by
  have hl : 0 ≤ len ∧ len ≤ 2000 := ht.2.2
  have hat := X_at_r tb len a
  refine T_p xr_57_0 xn_57 (pc' := 1) (ls' := [(0, .ref 497)]) (st' := [.int (iI 1)]) rfl ?_
  refine T_ie (y := iI (bI (X_DA tb len (a + 1) (a + 1)))) (by rw [bI_t (show X_DA tb len (a + 1) (a + 1) from fun k h1 h2 => (show False by omega).elim)]) ?_
  refine T_p xr_57_1 xn_57 (pc' := 2) (ls' := [(1, .int (iI (bI (X_DA tb len (a + 1) (a + 1))))), (0, .ref 497)]) (st' := []) rfl ?_
  refine T_p xr_57_2 xn_57 (pc' := 3) (ls' := [(1, .int (iI (bI (X_DA tb len (a + 1) (a + 1))))), (0, .ref 497)]) (st' := [.long (0 : Int64)]) rfl ?_
  refine T_le (y := (X_pk tb len (a + 1) ((a + 1) - (a + 1)).toNat)) (by rw [show ((a + 1) - (a + 1)).toNat = 0 by omega]; rfl) ?_
  refine T_p xr_57_3 xn_57 (pc' := 4) (ls' := [(2, .long (X_pk tb len (a + 1) ((a + 1) - (a + 1)).toNat)), (1, .int (iI (bI (X_DA tb len (a + 1) (a + 1))))), (0, .ref 497)]) (st' := []) rfl ?_
  refine T_p xr_57_4 xn_57 (pc' := 5) (ls' := [(2, .long (X_pk tb len (a + 1) ((a + 1) - (a + 1)).toNat)), (1, .int (iI (bI (X_DA tb len (a + 1) (a + 1))))), (0, .ref 497)]) (st' := [.ref 497]) rfl ?_
  refine T_p xr_57_5 xn_57 (pc' := 6) (ls' := [(2, .long (X_pk tb len (a + 1) ((a + 1) - (a + 1)).toNat)), (1, .int (iI (bI (X_DA tb len (a + 1) (a + 1))))), (0, .ref 497)]) (st' := [.ref 497, .ref 497]) rfl ?_
  refine T_get xr_57_6 hx.1 rfl (v := .int (iI a)) rfl (pc' := 9) rfl ?_
  refine T_p xr_57_9 xn_57 (pc' := 10) (ls' := [(2, .long (X_pk tb len (a + 1) ((a + 1) - (a + 1)).toNat)), (1, .int (iI (bI (X_DA tb len (a + 1) (a + 1))))), (0, .ref 497)]) (st' := [.int (iI 1), .int (iI a), .ref 497]) rfl ?_
  refine T_ziadd xr_57_10 (z := a + 1) rfl (pc' := 11) rfl ?_
  refine T_put xr_57_11 hx.1 rfl (Nat.le_of_ble_eq_true rfl) rfl (fs' := [.ref 2, .int (iI (a + 1)), .int (iI cnt), .ref 498, .ref 499, .ref 500, .int (iI cur)]) rfl (pc' := 14) rfl (fun S256 h257 n258 e259 => ?_)
  have h264 := (n258 2 (by decide)).trans (ht.1)
  have h265 := (n258 3 (by decide)).trans (ht.2.1)
  have h266 := (n258 498 (by decide)).trans (hx.2.1)
  have h267 := (n258 499 (by decide)).trans (hx.2.2.1)
  have h268 := (n258 500 (by decide)).trans (hx.2.2.2)
  refine c_takePart_l sc len tb cnt cur (a + 1) so pl ct hl _ len.toNat S256 (a + 1) ⟨h264, h265, hl⟩ ⟨h257, h266, h267, h268⟩ (by omega) (by omega) (fun S263 k260 k261 k262 => ?_)
  have hse := X_se_r X_isPB tb len (a + 1)
  refine T_p xr_57_103 xn_57 (pc' := 104) (ls' := [(2, .long (X_pk tb len (a + 1) ((X_se X_isPB tb len (a + 1)) - (a + 1)).toNat)), (1, .int (iI (bI (X_DA tb len (a + 1) ((X_se X_isPB tb len (a + 1))))))), (0, .ref 497)]) (st' := [.ref 497]) rfl ?_
  refine T_get xr_57_104 k261.1 rfl (v := .int (iI (X_se X_isPB tb len (a + 1)))) rfl (pc' := 107) rfl ?_
  refine T_p xr_57_107 xn_57 (pc' := 108) (ls' := [(2, .long (X_pk tb len (a + 1) ((X_se X_isPB tb len (a + 1)) - (a + 1)).toNat)), (1, .int (iI (bI (X_DA tb len (a + 1) ((X_se X_isPB tb len (a + 1))))))), (0, .ref 497)]) (st' := [.ref 497, .int (iI (X_se X_isPB tb len (a + 1)))]) rfl ?_
  refine T_get xr_57_108 k261.1 rfl (v := .ref 499) rfl (pc' := 111) rfl ?_
  refine T_p xr_57_111 xn_57 (pc' := 112) (ls' := [(2, .long (X_pk tb len (a + 1) ((X_se X_isPB tb len (a + 1)) - (a + 1)).toNat)), (1, .int (iI (bI (X_DA tb len (a + 1) ((X_se X_isPB tb len (a + 1))))))), (0, .ref 497)]) (st' := [.ref 497, .ref 499, .int (iI (X_se X_isPB tb len (a + 1)))]) rfl ?_
  refine T_get xr_57_112 k261.1 rfl (v := .int (iI cnt)) rfl (pc' := 115) rfl ?_
  refine T_ziald xr_57_115 k261.2.2.1 (pc' := 116) rfl ?_
  refine T_ie (y := iI a) (by rw [hpl]) ?_
  refine T_zisub xr_57_116 (z := (X_se X_isPB tb len (a + 1)) - a) rfl (pc' := 117) rfl ?_
  refine T_p xr_57_117 xn_57 (pc' := 118) (ls' := [(2, .long (X_pk tb len (a + 1) ((X_se X_isPB tb len (a + 1)) - (a + 1)).toNat)), (1, .int (iI (bI (X_DA tb len (a + 1) ((X_se X_isPB tb len (a + 1))))))), (0, .ref 497)]) (st' := [.int (iI 1), .int (iI ((X_se X_isPB tb len (a + 1)) - a))]) rfl ?_
  refine T_zisub xr_57_118 (z := ((X_se X_isPB tb len (a + 1)) - a) - 1) rfl (pc' := 119) rfl ?_
  refine T_p xr_57_119 xn_57 (pc' := 121) (ls' := [(4, .int (iI (((X_se X_isPB tb len (a + 1)) - a) - 1))), (2, .long (X_pk tb len (a + 1) ((X_se X_isPB tb len (a + 1)) - (a + 1)).toNat)), (1, .int (iI (bI (X_DA tb len (a + 1) ((X_se X_isPB tb len (a + 1))))))), (0, .ref 497)]) (st' := []) rfl ?_
  refine T_p xr_57_121 xn_57 (pc' := 122) (ls' := [(4, .int (iI (((X_se X_isPB tb len (a + 1)) - a) - 1))), (2, .long (X_pk tb len (a + 1) ((X_se X_isPB tb len (a + 1)) - (a + 1)).toNat)), (1, .int (iI (bI (X_DA tb len (a + 1) ((X_se X_isPB tb len (a + 1))))))), (0, .ref 497)]) (st' := [.ref 497]) rfl ?_
  refine T_get xr_57_122 k261.1 rfl (v := .ref 2) rfl (pc' := 125) rfl ?_
  refine T_p xr_57_125 xn_57 (pc' := 126) (ls' := [(4, .int (iI (((X_se X_isPB tb len (a + 1)) - a) - 1))), (2, .long (X_pk tb len (a + 1) ((X_se X_isPB tb len (a + 1)) - (a + 1)).toNat)), (1, .int (iI (bI (X_DA tb len (a + 1) ((X_se X_isPB tb len (a + 1))))))), (0, .ref 497)]) (st' := [.ref 497, .ref 2]) rfl ?_
  refine T_get xr_57_126 k261.1 rfl (v := .int (iI (X_se X_isPB tb len (a + 1)))) rfl (pc' := 129) rfl ?_
  refine T_cv (S := S263) (q := 2) xr_57_129 xf_93.1 xf_93.2.1 xn_93 (as := [.int (iI (X_se X_isPB tb len (a + 1)))]) (r := []) rfl k260.1 (Nat.le_of_ble_eq_true rfl) (Nat.le_of_ble_eq_true rfl) (pc' := 132) rfl (ls' := [(0, .ref 2), (1, .int (iI (X_se X_isPB tb len (a + 1))))]) rfl ?_
  refine T_mono (c_byteAt sc S263 len (X_se X_isPB tb len (a + 1)) tb k260.1 k260.2.1 hl (by omega)) (fun v270 S271 h269 => ?_)
  obtain ⟨h272, h273⟩ := h269
  rw [h272, h273]
  show X_T sc 57 (132, [(4, .int (iI (((X_se X_isPB tb len (a + 1)) - a) - 1))), (2, .long (X_pk tb len (a + 1) ((X_se X_isPB tb len (a + 1)) - (a + 1)).toNat)), (1, .int (iI (bI (X_DA tb len (a + 1) ((X_se X_isPB tb len (a + 1))))))), (0, .ref 497)], [.int (iI (X_at tb len (X_se X_isPB tb len (a + 1))))], S263) _
  have r274 := X_at_r tb len (X_se X_isPB tb len (a + 1))
  refine T_p xr_57_132 xn_57 (pc' := 134) (ls' := [(4, .int (iI (((X_se X_isPB tb len (a + 1)) - a) - 1))), (2, .long (X_pk tb len (a + 1) ((X_se X_isPB tb len (a + 1)) - (a + 1)).toNat)), (1, .int (iI (bI (X_DA tb len (a + 1) ((X_se X_isPB tb len (a + 1))))))), (0, .ref 497)]) (st' := [.int (iI 34), .int (iI (X_at tb len (X_se X_isPB tb len (a + 1))))]) rfl ?_
  refine T_zicmp_ne xr_57_134 (t := 148) (pc' := 137) rfl rfl (fun c275 => ?_) (fun c275 => ?_)
  · skip
    have c275 : ¬ (X_at tb len (X_se X_isPB tb len (a + 1))) = 34 := c275
    refine T_p xr_57_148 xn_57 (pc' := 149) (ls' := [(4, .int (iI (((X_se X_isPB tb len (a + 1)) - a) - 1))), (2, .long (X_pk tb len (a + 1) ((X_se X_isPB tb len (a + 1)) - (a + 1)).toNat)), (1, .int (iI (bI (X_DA tb len (a + 1) ((X_se X_isPB tb len (a + 1))))))), (0, .ref 497)]) (st' := [.int (iI 1)]) rfl ?_
    refine T_iret xr_57_149 xf_57.2.2 rfl ?_
    refine ⟨1, (X_se X_isPB tb len (a + 1)), ct, rfl, ?_, fun _ _ => rfl, ⟨k261.1, k261.2.1, k261.2.2.1, k261.2.2.2⟩, ((X_Fr.rf).tr (X_Fr.of n258 e259 (by first | decide | exact ⟨Nat.le_add_right _ _, Nat.add_le_add_left (by decide) _⟩ | omega))).tr (X_Fr.mono ⟨k262.1, k262.2⟩ (fun q hq => by omega))⟩
    rw [hct]
    exact Or.inr (Or.inr (Or.inr (Or.inl ⟨hc, _, rfl, Or.inl ⟨by first | exact Or.inl (by assumption) | exact Or.inr (Or.inl (by omega)) | exact Or.inr (Or.inr (by assumption)), rfl, rfl, rfl⟩⟩)))
  · skip
    have c275 : ¬ (¬ (X_at tb len (X_se X_isPB tb len (a + 1))) = 34) := c275
    refine T_p xr_57_137 xn_57 (pc' := 139) (ls' := [(4, .int (iI (((X_se X_isPB tb len (a + 1)) - a) - 1))), (2, .long (X_pk tb len (a + 1) ((X_se X_isPB tb len (a + 1)) - (a + 1)).toNat)), (1, .int (iI (bI (X_DA tb len (a + 1) ((X_se X_isPB tb len (a + 1))))))), (0, .ref 497)]) (st' := [.int (iI (((X_se X_isPB tb len (a + 1)) - a) - 1))]) rfl ?_
    refine T_p xr_57_139 xn_57 (pc' := 141) (ls' := [(4, .int (iI (((X_se X_isPB tb len (a + 1)) - a) - 1))), (2, .long (X_pk tb len (a + 1) ((X_se X_isPB tb len (a + 1)) - (a + 1)).toNat)), (1, .int (iI (bI (X_DA tb len (a + 1) ((X_se X_isPB tb len (a + 1))))))), (0, .ref 497)]) (st' := [.int (iI 8), .int (iI (((X_se X_isPB tb len (a + 1)) - a) - 1))]) rfl ?_
    refine T_zicmp_gt xr_57_141 (t := 148) (pc' := 144) rfl rfl (fun c276 => ?_) (fun c276 => ?_)
    · skip
      have c276 : 8 < (((X_se X_isPB tb len (a + 1)) - a) - 1) := c276
      refine T_p xr_57_148 xn_57 (pc' := 149) (ls' := [(4, .int (iI (((X_se X_isPB tb len (a + 1)) - a) - 1))), (2, .long (X_pk tb len (a + 1) ((X_se X_isPB tb len (a + 1)) - (a + 1)).toNat)), (1, .int (iI (bI (X_DA tb len (a + 1) ((X_se X_isPB tb len (a + 1))))))), (0, .ref 497)]) (st' := [.int (iI 1)]) rfl ?_
      refine T_iret xr_57_149 xf_57.2.2 rfl ?_
      refine ⟨1, (X_se X_isPB tb len (a + 1)), ct, rfl, ?_, fun _ _ => rfl, ⟨k261.1, k261.2.1, k261.2.2.1, k261.2.2.2⟩, ((X_Fr.rf).tr (X_Fr.of n258 e259 (by first | decide | exact ⟨Nat.le_add_right _ _, Nat.add_le_add_left (by decide) _⟩ | omega))).tr (X_Fr.mono ⟨k262.1, k262.2⟩ (fun q hq => by omega))⟩
      rw [hct]
      exact Or.inr (Or.inr (Or.inr (Or.inl ⟨hc, _, rfl, Or.inl ⟨by first | exact Or.inl (by assumption) | exact Or.inr (Or.inl (by omega)) | exact Or.inr (Or.inr (by assumption)), rfl, rfl, rfl⟩⟩)))
    · skip
      have c276 : ¬ (8 < (((X_se X_isPB tb len (a + 1)) - a) - 1)) := c276
      refine T_p xr_57_144 xn_57 (pc' := 145) (ls' := [(4, .int (iI (((X_se X_isPB tb len (a + 1)) - a) - 1))), (2, .long (X_pk tb len (a + 1) ((X_se X_isPB tb len (a + 1)) - (a + 1)).toNat)), (1, .int (iI (bI (X_DA tb len (a + 1) ((X_se X_isPB tb len (a + 1))))))), (0, .ref 497)]) (st' := [.int (iI (bI (X_DA tb len (a + 1) ((X_se X_isPB tb len (a + 1))))))]) rfl ?_
      refine T_bif_eq xr_57_145 (t := 150) (pc' := 148) rfl rfl (fun c277 => ?_) (fun c277 => ?_)
      · skip
        have c277 : ¬ (X_DA tb len (a + 1) ((X_se X_isPB tb len (a + 1)))) := c277
        refine T_p xr_57_150 xn_57 (pc' := 151) (ls' := [(4, .int (iI (((X_se X_isPB tb len (a + 1)) - a) - 1))), (2, .long (X_pk tb len (a + 1) ((X_se X_isPB tb len (a + 1)) - (a + 1)).toNat)), (1, .int (iI (bI (X_DA tb len (a + 1) ((X_se X_isPB tb len (a + 1))))))), (0, .ref 497)]) (st' := [.ref 497]) rfl ?_
        refine T_p xr_57_151 xn_57 (pc' := 152) (ls' := [(4, .int (iI (((X_se X_isPB tb len (a + 1)) - a) - 1))), (2, .long (X_pk tb len (a + 1) ((X_se X_isPB tb len (a + 1)) - (a + 1)).toNat)), (1, .int (iI (bI (X_DA tb len (a + 1) ((X_se X_isPB tb len (a + 1))))))), (0, .ref 497)]) (st' := [.ref 497, .ref 497]) rfl ?_
        refine T_get xr_57_152 k261.1 rfl (v := .int (iI (X_se X_isPB tb len (a + 1)))) rfl (pc' := 155) rfl ?_
        refine T_p xr_57_155 xn_57 (pc' := 156) (ls' := [(4, .int (iI (((X_se X_isPB tb len (a + 1)) - a) - 1))), (2, .long (X_pk tb len (a + 1) ((X_se X_isPB tb len (a + 1)) - (a + 1)).toNat)), (1, .int (iI (bI (X_DA tb len (a + 1) ((X_se X_isPB tb len (a + 1))))))), (0, .ref 497)]) (st' := [.int (iI 1), .int (iI (X_se X_isPB tb len (a + 1))), .ref 497]) rfl ?_
        refine T_ziadd xr_57_156 (z := (X_se X_isPB tb len (a + 1)) + 1) rfl (pc' := 157) rfl ?_
        refine T_put xr_57_157 k261.1 rfl (Nat.le_of_ble_eq_true rfl) rfl (fs' := [.ref 2, .int (iI ((X_se X_isPB tb len (a + 1)) + 1)), .int (iI cnt), .ref 498, .ref 499, .ref 500, .int (iI cur)]) rfl (pc' := 160) rfl (fun S278 h279 n280 e281 => ?_)
        refine T_p xr_57_160 xn_57 (pc' := 161) (ls' := [(4, .int (iI (((X_se X_isPB tb len (a + 1)) - a) - 1))), (2, .long (X_pk tb len (a + 1) ((X_se X_isPB tb len (a + 1)) - (a + 1)).toNat)), (1, .int (iI (bI (X_DA tb len (a + 1) ((X_se X_isPB tb len (a + 1))))))), (0, .ref 497)]) (st' := [.ref 497]) rfl ?_
        refine T_get xr_57_161 h279 rfl (v := .ref 500) rfl (pc' := 164) rfl ?_
        refine T_p xr_57_164 xn_57 (pc' := 165) (ls' := [(4, .int (iI (((X_se X_isPB tb len (a + 1)) - a) - 1))), (2, .long (X_pk tb len (a + 1) ((X_se X_isPB tb len (a + 1)) - (a + 1)).toNat)), (1, .int (iI (bI (X_DA tb len (a + 1) ((X_se X_isPB tb len (a + 1))))))), (0, .ref 497)]) (st' := [.ref 497, .ref 500]) rfl ?_
        refine T_get xr_57_165 h279 rfl (v := .int (iI cnt)) rfl (pc' := 168) rfl ?_
        refine T_p xr_57_168 xn_57 (pc' := 169) (ls' := [(4, .int (iI (((X_se X_isPB tb len (a + 1)) - a) - 1))), (2, .long (X_pk tb len (a + 1) ((X_se X_isPB tb len (a + 1)) - (a + 1)).toNat)), (1, .int (iI (bI (X_DA tb len (a + 1) ((X_se X_isPB tb len (a + 1))))))), (0, .ref 497)]) (st' := [.long (X_pk tb len (a + 1) ((X_se X_isPB tb len (a + 1)) - (a + 1)).toNat), .int (iI cnt), .ref 500]) rfl ?_
        have h282 := (n280 500 (by decide)).trans (k261.2.2.2)
        refine T_zlast xr_57_169 h282 (pc' := 170) rfl (fun S283 h284 n285 e286 => ?_)
        refine T_p xr_57_170 xn_57 (pc' := 172) (ls' := [(4, .int (iI (((X_se X_isPB tb len (a + 1)) - a) - 1))), (2, .long (X_pk tb len (a + 1) ((X_se X_isPB tb len (a + 1)) - (a + 1)).toNat)), (1, .int (iI (bI (X_DA tb len (a + 1) ((X_se X_isPB tb len (a + 1))))))), (0, .ref 497)]) (st' := [.int (iI 6)]) rfl ?_
        refine T_iret xr_57_172 xf_57.2.2 rfl ?_
        have h287 := (n285 497 (by decide)).trans (h279)
        have h288 := (n285 498 (by decide)).trans ((n280 498 (by decide)).trans (k261.2.1))
        have h289 := (n285 499 (by decide)).trans ((n280 499 (by decide)).trans (k261.2.2.1))
        refine ⟨6, (X_se X_isPB tb len (a + 1)) + 1, (X_ug ct cnt (X_pk tb len (a + 1) ((X_se X_isPB tb len (a + 1)) - (a + 1)).toNat)), rfl, ?_, fun k hk => X_ug_n _ _ hk, ⟨h287, h288, h289, h284⟩, ((((X_Fr.rf).tr (X_Fr.of n258 e259 (by first | decide | exact ⟨Nat.le_add_right _ _, Nat.add_le_add_left (by decide) _⟩ | omega))).tr (X_Fr.mono ⟨k262.1, k262.2⟩ (fun q hq => by omega))).tr (X_Fr.of n280 e281 (by first | decide | exact ⟨Nat.le_add_right _ _, Nat.add_le_add_left (by decide) _⟩ | omega))).tr (X_Fr.of n285 e286 (by first | decide | exact ⟨Nat.le_add_right _ _, Nat.add_le_add_left (by decide) _⟩ | omega))⟩
        rw [X_ug_s]
        exact Or.inr (Or.inr (Or.inr (Or.inl ⟨hc, _, rfl, Or.inr ⟨Classical.not_not.mp (by assumption), by omega, by assumption, rfl, rfl, rfl⟩⟩)))
      · skip
        have c277 : (X_DA tb len (a + 1) ((X_se X_isPB tb len (a + 1)))) := c277
        refine T_p xr_57_148 xn_57 (pc' := 149) (ls' := [(4, .int (iI (((X_se X_isPB tb len (a + 1)) - a) - 1))), (2, .long (X_pk tb len (a + 1) ((X_se X_isPB tb len (a + 1)) - (a + 1)).toNat)), (1, .int (iI (bI (X_DA tb len (a + 1) ((X_se X_isPB tb len (a + 1))))))), (0, .ref 497)]) (st' := [.int (iI 1)]) rfl ?_
        refine T_iret xr_57_149 xf_57.2.2 rfl ?_
        refine ⟨1, (X_se X_isPB tb len (a + 1)), ct, rfl, ?_, fun _ _ => rfl, ⟨k261.1, k261.2.1, k261.2.2.1, k261.2.2.2⟩, ((X_Fr.rf).tr (X_Fr.of n258 e259 (by first | decide | exact ⟨Nat.le_add_right _ _, Nat.add_le_add_left (by decide) _⟩ | omega))).tr (X_Fr.mono ⟨k262.1, k262.2⟩ (fun q hq => by omega))⟩
        rw [hct]
        exact Or.inr (Or.inr (Or.inr (Or.inl ⟨hc, _, rfl, Or.inl ⟨by first | exact Or.inl (by assumption) | exact Or.inr (Or.inl (by omega)) | exact Or.inr (Or.inr (by assumption)), rfl, rfl, rfl⟩⟩)))
theorem c_takeSign (sc : X_Sc) (S : X_S) (len : Int) (tb : Int → Int) (a cnt cur : Int) (so pl : Int → Int) (ct : Int → Int64) (ht : C_tp S len tb) (hx : C_lx S a cnt cur so pl ct) (ha : 0 ≤ a ∧ a < len) (hcn : 0 ≤ cnt ∧ cnt ≤ 2000) (hpl : pl cnt = a) (hct : ct cnt = 0) (hc : ¬ X_isL (X_at tb len a) ∧ ¬ X_isD (X_at tb len a) ∧ ¬ X_at tb len a = 34 ∧ ¬ X_at tb len a = -1) :
    X_T sc 58 (0, [(0, .ref 497), (1, .int (iI (X_at tb len a)))], [], S) (fun v S' => ∃ (r e : Int) (ct' : Int → Int64), v = some (.int (iI r)) ∧ X_Tok tb len a r (ct' cnt) e ∧ (∀ k, k ≠ cnt → ct' k = ct k) ∧ C_lx S' e cnt cur so pl ct' ∧ X_Fr (fun q => q = 497 ∨ q = 500) S S') := by
  have hl : 0 ≤ len ∧ len ≤ 2000 := ht.2.2
  have hat := X_at_r tb len a
  refine T_p xr_58_0 xn_58 (pc' := 1) (ls' := [(0, .ref 497), (1, .int (iI (X_at tb len a)))]) (st' := [.ref 497]) rfl ?_
  refine T_p xr_58_1 xn_58 (pc' := 2) (ls' := [(0, .ref 497), (1, .int (iI (X_at tb len a)))]) (st' := [.ref 497, .ref 497]) rfl ?_
  refine T_get xr_58_2 hx.1 rfl (v := .int (iI a)) rfl (pc' := 5) rfl ?_
  refine T_p xr_58_5 xn_58 (pc' := 6) (ls' := [(0, .ref 497), (1, .int (iI (X_at tb len a)))]) (st' := [.int (iI 1), .int (iI a), .ref 497]) rfl ?_
  refine T_ziadd xr_58_6 (z := a + 1) rfl (pc' := 7) rfl ?_
  refine T_put xr_58_7 hx.1 rfl (Nat.le_of_ble_eq_true rfl) rfl (fs' := [.ref 2, .int (iI (a + 1)), .int (iI cnt), .ref 498, .ref 499, .ref 500, .int (iI cur)]) rfl (pc' := 10) rfl (fun S290 h291 n292 e293 => ?_)
  refine T_p xr_58_10 xn_58 (pc' := 11) (ls' := [(0, .ref 497), (1, .int (iI (X_at tb len a)))]) (st' := [.int (iI (X_at tb len a))]) rfl ?_
  refine T_p xr_58_11 xn_58 (pc' := 13) (ls' := [(0, .ref 497), (1, .int (iI (X_at tb len a)))]) (st' := [.int (iI 95), .int (iI (X_at tb len a))]) rfl ?_
  refine T_zicmp_ne xr_58_13 (t := 37) (pc' := 16) rfl rfl (fun c294 => ?_) (fun c294 => ?_)
  · skip
    have c294 : ¬ (X_at tb len a) = 95 := c294
    refine T_p xr_58_37 xn_58 (pc' := 38) (ls' := [(0, .ref 497), (1, .int (iI (X_at tb len a)))]) (st' := [.int (iI 0)]) rfl ?_
    refine T_p xr_58_38 xn_58 (pc' := 39) (ls' := [(2, .int (iI 0)), (0, .ref 497), (1, .int (iI (X_at tb len a)))]) (st' := []) rfl ?_
    refine T_p xr_58_39 xn_58 (pc' := 40) (ls' := [(2, .int (iI 0)), (0, .ref 497), (1, .int (iI (X_at tb len a)))]) (st' := [.int (iI (X_at tb len a))]) rfl ?_
    refine T_cs xr_58_40 (by decide) xf_63.1 xn_63 (as := [.int (iI (X_at tb len a))]) (r := []) rfl (Nat.le_of_ble_eq_true rfl) (Nat.le_of_ble_eq_true rfl) (pc' := 43) rfl (ls' := [(0, .int (iI (X_at tb len a)))]) rfl ?_
    refine T_mono (c_isSign sc S290 (X_at tb len a) (X_at_r tb len a)) (fun v296 S297 h295 => ?_)
    obtain ⟨h298, h299⟩ := h295
    rw [h298, h299]
    show X_T sc 58 (43, [(2, .int (iI 0)), (0, .ref 497), (1, .int (iI (X_at tb len a)))], [.int (iI (bI (X_isSg (X_at tb len a))))], S290) _
    refine T_bif_eq xr_58_43 (t := 54) (pc' := 46) rfl rfl (fun c300 => ?_) (fun c300 => ?_)
    · skip
      have c300 : ¬ (X_isSg (X_at tb len a)) := c300
      refine T_p xr_58_54 xn_58 (pc' := 55) (ls' := [(2, .int (iI 0)), (0, .ref 497), (1, .int (iI (X_at tb len a)))]) (st' := [.int (iI 1)]) rfl ?_
      refine T_iret xr_58_55 xf_58.2.2 rfl ?_
      have h301 := (n292 500 (by decide)).trans (hx.2.2.2)
      have h302 := (n292 498 (by decide)).trans (hx.2.1)
      have h303 := (n292 499 (by decide)).trans (hx.2.2.1)
      refine ⟨1, a + 1, ct, rfl, ?_, fun _ _ => rfl, ⟨h291, h302, h303, h301⟩, (X_Fr.rf).tr (X_Fr.of n292 e293 (by first | decide | exact ⟨Nat.le_add_right _ _, Nat.add_le_add_left (by decide) _⟩ | omega))⟩
      rw [hct]
      exact Or.inr (Or.inr (Or.inr (Or.inr ⟨hc.1, hc.2.1, hc.2.2.1, hc.2.2.2, rfl, rfl, Or.inr ⟨by first | exact Or.inl (by assumption) | exact Or.inr ⟨by omega, by assumption⟩, rfl⟩⟩)))
    · skip
      have c300 : (X_isSg (X_at tb len a)) := c300
      refine T_p xr_58_46 xn_58 (pc' := 47) (ls' := [(2, .int (iI 0)), (0, .ref 497), (1, .int (iI (X_at tb len a)))]) (st' := [.int (iI 0)]) rfl ?_
      refine T_zif_nef xr_58_47 (t := 54) (pc' := 50) rfl rfl (by decide) ?_
      refine T_p xr_58_50 xn_58 (pc' := 51) (ls' := [(2, .int (iI 0)), (0, .ref 497), (1, .int (iI (X_at tb len a)))]) (st' := [.int (iI (X_at tb len a))]) rfl ?_
      refine T_p xr_58_51 xn_58 (pc' := 55) (ls' := [(2, .int (iI 0)), (0, .ref 497), (1, .int (iI (X_at tb len a)))]) (st' := [.int (iI (X_at tb len a))]) rfl ?_
      refine T_iret xr_58_55 xf_58.2.2 rfl ?_
      have h304 := (n292 500 (by decide)).trans (hx.2.2.2)
      have h305 := (n292 498 (by decide)).trans (hx.2.1)
      have h306 := (n292 499 (by decide)).trans (hx.2.2.1)
      refine ⟨X_at tb len a, a + 1, ct, rfl, ?_, fun _ _ => rfl, ⟨h291, h305, h306, h304⟩, (X_Fr.rf).tr (X_Fr.of n292 e293 (by first | decide | exact ⟨Nat.le_add_right _ _, Nat.add_le_add_left (by decide) _⟩ | omega))⟩
      rw [hct]
      exact Or.inr (Or.inr (Or.inr (Or.inr ⟨hc.1, hc.2.1, hc.2.2.1, hc.2.2.2, rfl, rfl, Or.inl ⟨by assumption, by first | (intro h; exact absurd h.1 (by omega)) | (intro h; exact absurd h.2 (by assumption)), rfl⟩⟩)))
  · skip
    have c294 : ¬ (¬ (X_at tb len a) = 95) := c294
    refine T_p xr_58_16 xn_58 (pc' := 17) (ls' := [(0, .ref 497), (1, .int (iI (X_at tb len a)))]) (st' := [.ref 497]) rfl ?_
    refine T_get xr_58_17 h291 rfl (v := .ref 2) rfl (pc' := 20) rfl ?_
    refine T_p xr_58_20 xn_58 (pc' := 21) (ls' := [(0, .ref 497), (1, .int (iI (X_at tb len a)))]) (st' := [.ref 497, .ref 2]) rfl ?_
    refine T_get xr_58_21 h291 rfl (v := .int (iI (a + 1))) rfl (pc' := 24) rfl ?_
    have h307 := (n292 2 (by decide)).trans (ht.1)
    refine T_cv (S := S290) (q := 2) xr_58_24 xf_93.1 xf_93.2.1 xn_93 (as := [.int (iI (a + 1))]) (r := []) rfl h307 (Nat.le_of_ble_eq_true rfl) (Nat.le_of_ble_eq_true rfl) (pc' := 27) rfl (ls' := [(0, .ref 2), (1, .int (iI (a + 1)))]) rfl ?_
    have h308 := (n292 3 (by decide)).trans (ht.2.1)
    refine T_mono (c_byteAt sc S290 len (a + 1) tb h307 h308 hl (by omega)) (fun v310 S311 h309 => ?_)
    obtain ⟨h312, h313⟩ := h309
    rw [h312, h313]
    show X_T sc 58 (27, [(0, .ref 497), (1, .int (iI (X_at tb len a)))], [.int (iI (X_at tb len (a + 1)))], S290) _
    have r314 := X_at_r tb len (a + 1)
    refine T_cs xr_58_27 (by decide) xf_61.1 xn_61 (as := [.int (iI (X_at tb len (a + 1)))]) (r := []) rfl (Nat.le_of_ble_eq_true rfl) (Nat.le_of_ble_eq_true rfl) (pc' := 30) rfl (ls' := [(0, .int (iI (X_at tb len (a + 1))))]) rfl ?_
    refine T_mono (c_isLD sc S290 (X_at tb len (a + 1)) (X_at_r tb len (a + 1))) (fun v316 S317 h315 => ?_)
    obtain ⟨h318, h319⟩ := h315
    rw [h318, h319]
    show X_T sc 58 (30, [(0, .ref 497), (1, .int (iI (X_at tb len a)))], [.int (iI (bI (X_isLD (X_at tb len (a + 1)))))], S290) _
    refine T_bif_eq xr_58_30 (t := 37) (pc' := 33) rfl rfl (fun c320 => ?_) (fun c320 => ?_)
    · skip
      have c320 : ¬ (X_isLD (X_at tb len (a + 1))) := c320
      refine T_p xr_58_37 xn_58 (pc' := 38) (ls' := [(0, .ref 497), (1, .int (iI (X_at tb len a)))]) (st' := [.int (iI 0)]) rfl ?_
      refine T_p xr_58_38 xn_58 (pc' := 39) (ls' := [(2, .int (iI 0)), (0, .ref 497), (1, .int (iI (X_at tb len a)))]) (st' := []) rfl ?_
      refine T_p xr_58_39 xn_58 (pc' := 40) (ls' := [(2, .int (iI 0)), (0, .ref 497), (1, .int (iI (X_at tb len a)))]) (st' := [.int (iI (X_at tb len a))]) rfl ?_
      refine T_cs xr_58_40 (by decide) xf_63.1 xn_63 (as := [.int (iI (X_at tb len a))]) (r := []) rfl (Nat.le_of_ble_eq_true rfl) (Nat.le_of_ble_eq_true rfl) (pc' := 43) rfl (ls' := [(0, .int (iI (X_at tb len a)))]) rfl ?_
      refine T_mono (c_isSign sc S290 (X_at tb len a) (X_at_r tb len a)) (fun v322 S323 h321 => ?_)
      obtain ⟨h324, h325⟩ := h321
      rw [h324, h325]
      show X_T sc 58 (43, [(2, .int (iI 0)), (0, .ref 497), (1, .int (iI (X_at tb len a)))], [.int (iI (bI (X_isSg (X_at tb len a))))], S290) _
      refine T_bif_eq xr_58_43 (t := 54) (pc' := 46) rfl rfl (fun c326 => ?_) (fun c326 => ?_)
      · skip
        have c326 : ¬ (X_isSg (X_at tb len a)) := c326
        refine T_p xr_58_54 xn_58 (pc' := 55) (ls' := [(2, .int (iI 0)), (0, .ref 497), (1, .int (iI (X_at tb len a)))]) (st' := [.int (iI 1)]) rfl ?_
        refine T_iret xr_58_55 xf_58.2.2 rfl ?_
        have h327 := (n292 500 (by decide)).trans (hx.2.2.2)
        have h328 := (n292 498 (by decide)).trans (hx.2.1)
        have h329 := (n292 499 (by decide)).trans (hx.2.2.1)
        refine ⟨1, a + 1, ct, rfl, ?_, fun _ _ => rfl, ⟨h291, h328, h329, h327⟩, (X_Fr.rf).tr (X_Fr.of n292 e293 (by first | decide | exact ⟨Nat.le_add_right _ _, Nat.add_le_add_left (by decide) _⟩ | omega))⟩
        rw [hct]
        exact Or.inr (Or.inr (Or.inr (Or.inr ⟨hc.1, hc.2.1, hc.2.2.1, hc.2.2.2, rfl, rfl, Or.inr ⟨by first | exact Or.inl (by assumption) | exact Or.inr ⟨by omega, by assumption⟩, rfl⟩⟩)))
      · skip
        have c326 : (X_isSg (X_at tb len a)) := c326
        refine T_p xr_58_46 xn_58 (pc' := 47) (ls' := [(2, .int (iI 0)), (0, .ref 497), (1, .int (iI (X_at tb len a)))]) (st' := [.int (iI 0)]) rfl ?_
        refine T_zif_nef xr_58_47 (t := 54) (pc' := 50) rfl rfl (by decide) ?_
        refine T_p xr_58_50 xn_58 (pc' := 51) (ls' := [(2, .int (iI 0)), (0, .ref 497), (1, .int (iI (X_at tb len a)))]) (st' := [.int (iI (X_at tb len a))]) rfl ?_
        refine T_p xr_58_51 xn_58 (pc' := 55) (ls' := [(2, .int (iI 0)), (0, .ref 497), (1, .int (iI (X_at tb len a)))]) (st' := [.int (iI (X_at tb len a))]) rfl ?_
        refine T_iret xr_58_55 xf_58.2.2 rfl ?_
        have h330 := (n292 500 (by decide)).trans (hx.2.2.2)
        have h331 := (n292 498 (by decide)).trans (hx.2.1)
        have h332 := (n292 499 (by decide)).trans (hx.2.2.1)
        refine ⟨X_at tb len a, a + 1, ct, rfl, ?_, fun _ _ => rfl, ⟨h291, h331, h332, h330⟩, (X_Fr.rf).tr (X_Fr.of n292 e293 (by first | decide | exact ⟨Nat.le_add_right _ _, Nat.add_le_add_left (by decide) _⟩ | omega))⟩
        rw [hct]
        exact Or.inr (Or.inr (Or.inr (Or.inr ⟨hc.1, hc.2.1, hc.2.2.1, hc.2.2.2, rfl, rfl, Or.inl ⟨by assumption, by first | (intro h; exact absurd h.1 (by omega)) | (intro h; exact absurd h.2 (by assumption)), rfl⟩⟩)))
    · skip
      have c320 : (X_isLD (X_at tb len (a + 1))) := c320
      refine T_p xr_58_33 xn_58 (pc' := 34) (ls' := [(0, .ref 497), (1, .int (iI (X_at tb len a)))]) (st' := [.int (iI 1)]) rfl ?_
      refine T_p xr_58_34 xn_58 (pc' := 38) (ls' := [(0, .ref 497), (1, .int (iI (X_at tb len a)))]) (st' := [.int (iI 1)]) rfl ?_
      refine T_p xr_58_38 xn_58 (pc' := 39) (ls' := [(2, .int (iI 1)), (0, .ref 497), (1, .int (iI (X_at tb len a)))]) (st' := []) rfl ?_
      refine T_p xr_58_39 xn_58 (pc' := 40) (ls' := [(2, .int (iI 1)), (0, .ref 497), (1, .int (iI (X_at tb len a)))]) (st' := [.int (iI (X_at tb len a))]) rfl ?_
      refine T_cs xr_58_40 (by decide) xf_63.1 xn_63 (as := [.int (iI (X_at tb len a))]) (r := []) rfl (Nat.le_of_ble_eq_true rfl) (Nat.le_of_ble_eq_true rfl) (pc' := 43) rfl (ls' := [(0, .int (iI (X_at tb len a)))]) rfl ?_
      refine T_mono (c_isSign sc S290 (X_at tb len a) (X_at_r tb len a)) (fun v334 S335 h333 => ?_)
      obtain ⟨h336, h337⟩ := h333
      rw [h336, h337]
      show X_T sc 58 (43, [(2, .int (iI 1)), (0, .ref 497), (1, .int (iI (X_at tb len a)))], [.int (iI (bI (X_isSg (X_at tb len a))))], S290) _
      refine T_bif_eq xr_58_43 (t := 54) (pc' := 46) rfl rfl (fun c338 => ?_) (fun c338 => ?_)
      · skip
        have c338 : ¬ (X_isSg (X_at tb len a)) := c338
        refine T_p xr_58_54 xn_58 (pc' := 55) (ls' := [(2, .int (iI 1)), (0, .ref 497), (1, .int (iI (X_at tb len a)))]) (st' := [.int (iI 1)]) rfl ?_
        refine T_iret xr_58_55 xf_58.2.2 rfl ?_
        have h339 := (n292 500 (by decide)).trans (hx.2.2.2)
        have h340 := (n292 498 (by decide)).trans (hx.2.1)
        have h341 := (n292 499 (by decide)).trans (hx.2.2.1)
        refine ⟨1, a + 1, ct, rfl, ?_, fun _ _ => rfl, ⟨h291, h340, h341, h339⟩, (X_Fr.rf).tr (X_Fr.of n292 e293 (by first | decide | exact ⟨Nat.le_add_right _ _, Nat.add_le_add_left (by decide) _⟩ | omega))⟩
        rw [hct]
        exact Or.inr (Or.inr (Or.inr (Or.inr ⟨hc.1, hc.2.1, hc.2.2.1, hc.2.2.2, rfl, rfl, Or.inr ⟨by first | exact Or.inl (by assumption) | exact Or.inr ⟨by omega, by assumption⟩, rfl⟩⟩)))
      · skip
        have c338 : (X_isSg (X_at tb len a)) := c338
        refine T_p xr_58_46 xn_58 (pc' := 47) (ls' := [(2, .int (iI 1)), (0, .ref 497), (1, .int (iI (X_at tb len a)))]) (st' := [.int (iI 1)]) rfl ?_
        refine T_zif_net xr_58_47 (t := 54) rfl (by decide) ?_
        refine T_p xr_58_54 xn_58 (pc' := 55) (ls' := [(2, .int (iI 1)), (0, .ref 497), (1, .int (iI (X_at tb len a)))]) (st' := [.int (iI 1)]) rfl ?_
        refine T_iret xr_58_55 xf_58.2.2 rfl ?_
        have h342 := (n292 500 (by decide)).trans (hx.2.2.2)
        have h343 := (n292 498 (by decide)).trans (hx.2.1)
        have h344 := (n292 499 (by decide)).trans (hx.2.2.1)
        refine ⟨1, a + 1, ct, rfl, ?_, fun _ _ => rfl, ⟨h291, h343, h344, h342⟩, (X_Fr.rf).tr (X_Fr.of n292 e293 (by first | decide | exact ⟨Nat.le_add_right _ _, Nat.add_le_add_left (by decide) _⟩ | omega))⟩
        rw [hct]
        exact Or.inr (Or.inr (Or.inr (Or.inr ⟨hc.1, hc.2.1, hc.2.2.1, hc.2.2.2, rfl, rfl, Or.inr ⟨by first | exact Or.inl (by assumption) | exact Or.inr ⟨by omega, by assumption⟩, rfl⟩⟩)))
theorem c_takeToken (sc : X_Sc) (S : X_S) (len : Int) (tb : Int → Int) (a cnt cur : Int) (so pl : Int → Int) (ct : Int → Int64) (ht : C_tp S len tb) (hx : C_lx S a cnt cur so pl ct) (ha : 0 ≤ a ∧ a ≤ len) (hcn : 0 ≤ cnt ∧ cnt ≤ 2000) (hpl : pl cnt = a) (hct : ct cnt = 0) :
    X_T sc 54 (0, [(0, .ref 497), (1, .int (iI (X_at tb len a)))], [], S) (fun v S' => ∃ (r e : Int) (ct' : Int → Int64), v = some (.int (iI r)) ∧ X_Tok tb len a r (ct' cnt) e ∧ (∀ k, k ≠ cnt → ct' k = ct k) ∧ C_lx S' e cnt cur so pl ct' ∧ X_Fr (fun q => q = 497 ∨ q = 500) S S') := by
  have hl : 0 ≤ len ∧ len ≤ 2000 := ht.2.2
  have hat := X_at_r tb len a
  refine T_p xr_54_0 xn_54 (pc' := 1) (ls' := [(0, .ref 497), (1, .int (iI (X_at tb len a)))]) (st' := [.int (iI (X_at tb len a))]) rfl ?_
  refine T_p xr_54_1 xn_54 (pc' := 2) (ls' := [(0, .ref 497), (1, .int (iI (X_at tb len a)))]) (st' := [.int (iI (-1)), .int (iI (X_at tb len a))]) rfl ?_
  refine T_zicmp_ne xr_54_2 (t := 7) (pc' := 5) rfl rfl (fun c345 => ?_) (fun c345 => ?_)
  · skip
    have c345 : ¬ (X_at tb len a) = (-1) := c345
    have ha : 0 ≤ a ∧ a < len := by
      by_cases hz : a < len
      · exact ⟨ha.1, hz⟩
      · exact absurd (X_at_out (tb := tb) (len := len) (p := a) (by omega)) (by assumption)
    refine T_p xr_54_7 xn_54 (pc' := 8) (ls' := [(0, .ref 497), (1, .int (iI (X_at tb len a)))]) (st' := [.int (iI (X_at tb len a))]) rfl ?_
    refine T_cs xr_54_8 (by decide) xf_60.1 xn_60 (as := [.int (iI (X_at tb len a))]) (r := []) rfl (Nat.le_of_ble_eq_true rfl) (Nat.le_of_ble_eq_true rfl) (pc' := 11) rfl (ls' := [(0, .int (iI (X_at tb len a)))]) rfl ?_
    refine T_mono (c_isLetter sc S (X_at tb len a) (X_at_r tb len a)) (fun v347 S348 h346 => ?_)
    obtain ⟨h349, h350⟩ := h346
    rw [h349, h350]
    show X_T sc 54 (11, [(0, .ref 497), (1, .int (iI (X_at tb len a)))], [.int (iI (bI (X_isL (X_at tb len a))))], S) _
    refine T_bif_eq xr_54_11 (t := 19) (pc' := 14) rfl rfl (fun c351 => ?_) (fun c351 => ?_)
    · skip
      have c351 : ¬ (X_isL (X_at tb len a)) := c351
      refine T_p xr_54_19 xn_54 (pc' := 20) (ls' := [(0, .ref 497), (1, .int (iI (X_at tb len a)))]) (st' := [.int (iI (X_at tb len a))]) rfl ?_
      refine T_cs xr_54_20 (by decide) xf_132.1 xn_132 (as := [.int (iI (X_at tb len a))]) (r := []) rfl (Nat.le_of_ble_eq_true rfl) (Nat.le_of_ble_eq_true rfl) (pc' := 23) rfl (ls' := [(0, .int (iI (X_at tb len a)))]) rfl ?_
      refine T_mono (c_isDigit sc S (X_at tb len a) (X_at_r tb len a)) (fun v353 S354 h352 => ?_)
      obtain ⟨h355, h356⟩ := h352
      rw [h355, h356]
      show X_T sc 54 (23, [(0, .ref 497), (1, .int (iI (X_at tb len a)))], [.int (iI (bI (X_isD (X_at tb len a))))], S) _
      refine T_bif_eq xr_54_23 (t := 31) (pc' := 26) rfl rfl (fun c357 => ?_) (fun c357 => ?_)
      · skip
        have c357 : ¬ (X_isD (X_at tb len a)) := c357
        refine T_p xr_54_31 xn_54 (pc' := 32) (ls' := [(0, .ref 497), (1, .int (iI (X_at tb len a)))]) (st' := [.int (iI (X_at tb len a))]) rfl ?_
        refine T_p xr_54_32 xn_54 (pc' := 34) (ls' := [(0, .ref 497), (1, .int (iI (X_at tb len a)))]) (st' := [.int (iI 34), .int (iI (X_at tb len a))]) rfl ?_
        refine T_zicmp_ne xr_54_34 (t := 44) (pc' := 37) rfl rfl (fun c358 => ?_) (fun c358 => ?_)
        · skip
          have c358 : ¬ (X_at tb len a) = 34 := c358
          refine T_p xr_54_44 xn_54 (pc' := 45) (ls' := [(0, .ref 497), (1, .int (iI (X_at tb len a)))]) (st' := [.ref 497]) rfl ?_
          refine T_p xr_54_45 xn_54 (pc' := 46) (ls' := [(0, .ref 497), (1, .int (iI (X_at tb len a)))]) (st' := [.int (iI (X_at tb len a)), .ref 497]) rfl ?_
          refine T_cv (S := S) (q := 497) xr_54_46 xf_58.1 xf_58.2.1 xn_58 (as := [.int (iI (X_at tb len a))]) (r := []) rfl hx.1 (Nat.le_of_ble_eq_true rfl) (Nat.le_of_ble_eq_true rfl) (pc' := 49) rfl (ls' := [(0, .ref 497), (1, .int (iI (X_at tb len a)))]) rfl ?_
          refine T_mono (c_takeSign sc S len tb a cnt cur so pl ct ⟨ht.1, ht.2.1, hl⟩ ⟨hx.1, hx.2.1, hx.2.2.1, hx.2.2.2⟩ (by omega) hcn hpl hct ⟨by assumption, by assumption, by assumption, by omega⟩) (fun v367 S368 h369 => ?_)
          obtain ⟨r359, e360, ct361, h362, ht363, hu364, hlx365, hf366⟩ := h369
          rw [h362]
          show X_T sc 54 (49, [(0, .ref 497), (1, .int (iI (X_at tb len a)))], [.int (iI r359)], S368) _
          refine T_iret xr_54_49 xf_54.2.2 rfl ?_
          exact ⟨r359, e360, ct361, rfl, ht363, hu364, ⟨hlx365.1, hlx365.2.1, hlx365.2.2.1, hlx365.2.2.2⟩, (X_Fr.rf).tr (X_Fr.mono ⟨hf366.1, hf366.2⟩ (fun q hq => by omega))⟩
        · skip
          have c358 : ¬ (¬ (X_at tb len a) = 34) := c358
          refine T_p xr_54_37 xn_54 (pc' := 38) (ls' := [(0, .ref 497), (1, .int (iI (X_at tb len a)))]) (st' := [.ref 497]) rfl ?_
          refine T_cv (S := S) (q := 497) xr_54_38 xf_57.1 xf_57.2.1 xn_57 (as := []) (r := []) rfl hx.1 (Nat.le_of_ble_eq_true rfl) (Nat.le_of_ble_eq_true rfl) (pc' := 41) rfl (ls' := [(0, .ref 497)]) rfl ?_
          refine T_mono (c_takePart sc S len tb a cnt cur so pl ct ⟨ht.1, ht.2.1, hl⟩ ⟨hx.1, hx.2.1, hx.2.2.1, hx.2.2.2⟩ (by omega) hcn hpl hct (by omega)) (fun v378 S379 h380 => ?_)
          obtain ⟨r370, e371, ct372, h373, ht374, hu375, hlx376, hf377⟩ := h380
          rw [h373]
          show X_T sc 54 (41, [(0, .ref 497), (1, .int (iI (X_at tb len a)))], [.int (iI r370)], S379) _
          refine T_p xr_54_41 xn_54 (pc' := 49) (ls' := [(0, .ref 497), (1, .int (iI (X_at tb len a)))]) (st' := [.int (iI r370)]) rfl ?_
          refine T_iret xr_54_49 xf_54.2.2 rfl ?_
          exact ⟨r370, e371, ct372, rfl, ht374, hu375, ⟨hlx376.1, hlx376.2.1, hlx376.2.2.1, hlx376.2.2.2⟩, (X_Fr.rf).tr (X_Fr.mono ⟨hf377.1, hf377.2⟩ (fun q hq => by omega))⟩
      · skip
        have c357 : (X_isD (X_at tb len a)) := c357
        refine T_p xr_54_26 xn_54 (pc' := 27) (ls' := [(0, .ref 497), (1, .int (iI (X_at tb len a)))]) (st' := [.ref 497]) rfl ?_
        refine T_cv (S := S) (q := 497) xr_54_27 xf_56.1 xf_56.2.1 xn_56 (as := []) (r := []) rfl hx.1 (Nat.le_of_ble_eq_true rfl) (Nat.le_of_ble_eq_true rfl) (pc' := 30) rfl (ls' := [(0, .ref 497)]) rfl ?_
        refine T_mono (c_takeNumber sc S len tb a cnt cur so pl ct ⟨ht.1, ht.2.1, hl⟩ ⟨hx.1, hx.2.1, hx.2.2.1, hx.2.2.2⟩ (by omega) hcn hpl hct (by assumption)) (fun v389 S390 h391 => ?_)
        obtain ⟨r381, e382, ct383, h384, ht385, hu386, hlx387, hf388⟩ := h391
        rw [h384]
        show X_T sc 54 (30, [(0, .ref 497), (1, .int (iI (X_at tb len a)))], [.int (iI r381)], S390) _
        refine T_iret xr_54_30 xf_54.2.2 rfl ?_
        exact ⟨r381, e382, ct383, rfl, ht385, hu386, ⟨hlx387.1, hlx387.2.1, hlx387.2.2.1, hlx387.2.2.2⟩, (X_Fr.rf).tr (X_Fr.mono ⟨hf388.1, hf388.2⟩ (fun q hq => by omega))⟩
    · skip
      have c351 : (X_isL (X_at tb len a)) := c351
      refine T_p xr_54_14 xn_54 (pc' := 15) (ls' := [(0, .ref 497), (1, .int (iI (X_at tb len a)))]) (st' := [.ref 497]) rfl ?_
      refine T_cv (S := S) (q := 497) xr_54_15 xf_55.1 xf_55.2.1 xn_55 (as := []) (r := []) rfl hx.1 (Nat.le_of_ble_eq_true rfl) (Nat.le_of_ble_eq_true rfl) (pc' := 18) rfl (ls' := [(0, .ref 497)]) rfl ?_
      refine T_mono (c_takeName sc S len tb a cnt cur so pl ct ⟨ht.1, ht.2.1, hl⟩ ⟨hx.1, hx.2.1, hx.2.2.1, hx.2.2.2⟩ (by omega) hcn hpl hct (by assumption)) (fun v400 S401 h402 => ?_)
      obtain ⟨r392, e393, ct394, h395, ht396, hu397, hlx398, hf399⟩ := h402
      rw [h395]
      show X_T sc 54 (18, [(0, .ref 497), (1, .int (iI (X_at tb len a)))], [.int (iI r392)], S401) _
      refine T_iret xr_54_18 xf_54.2.2 rfl ?_
      exact ⟨r392, e393, ct394, rfl, ht396, hu397, ⟨hlx398.1, hlx398.2.1, hlx398.2.2.1, hlx398.2.2.2⟩, (X_Fr.rf).tr (X_Fr.mono ⟨hf399.1, hf399.2⟩ (fun q hq => by omega))⟩
  · skip
    have c345 : ¬ (¬ (X_at tb len a) = (-1)) := c345
    refine T_p xr_54_5 xn_54 (pc' := 6) (ls' := [(0, .ref 497), (1, .int (iI (X_at tb len a)))]) (st' := [.int (iI 0)]) rfl ?_
    refine T_iret xr_54_6 xf_54.2.2 rfl ?_
    exact ⟨0, a, ct, rfl, by rw [hct]; exact Or.inl ⟨Classical.not_not.mp (by assumption), rfl, rfl, rfl⟩, fun _ _ => rfl, ⟨hx.1, hx.2.1, hx.2.2.1, hx.2.2.2⟩, X_Fr.rf⟩
theorem c_skip_l (sc : X_Sc) (len : Int) (tb : Int → Int) (cnt cur a0 : Int) (so pl : Int → Int) (ct : Int → Int64) (hl : 0 ≤ len ∧ len ≤ 2000) (Q : Option Value → X_S → Prop) : ∀ (n : Nat) (S : X_S) (at_ : Int) (ht : C_tp S len tb) (hx : C_lx S at_ cnt cur so pl ct) (ha : a0 ≤ at_ ∧ 0 ≤ at_ ∧ at_ ≤ len) (hn : len - at_ ≤ n)
    (hex : ∀ S' : X_S, C_tp S' len tb → C_lx S' (X_se X_isBl tb len at_) cnt cur so pl ct → X_Fr (fun r => r = 497) S S' → X_T sc 53 (75, [(1, .int (iI 1)), (0, .ref 497)], [], S') Q), X_T sc 53 (31, [(1, .int (iI 1)), (0, .ref 497)], [], S) Q := by
  intro n
  induction n with
  | zero =>
    intro S at_ ht hx ha hn hex
    refine T_p xr_53_31 xn_53 (pc' := 32) (ls' := [(1, .int (iI 1)), (0, .ref 497)]) (st' := [.ref 497]) rfl ?_
    refine T_get xr_53_32 hx.1 rfl (v := .int (iI at_)) rfl (pc' := 35) rfl ?_
    refine T_p xr_53_35 xn_53 (pc' := 36) (ls' := [(1, .int (iI 1)), (0, .ref 497)]) (st' := [.ref 497, .int (iI at_)]) rfl ?_
    refine T_get xr_53_36 hx.1 rfl (v := .ref 2) rfl (pc' := 39) rfl ?_
    refine T_get xr_53_39 ht.1 rfl (v := .int (iI len)) rfl (pc' := 42) rfl ?_
    refine T_zicmp_ge xr_53_42 (t := 75) (pc' := 45) rfl rfl (fun c425 => ?_) (fun c425 => ?_)
    · skip
      have c425 : len ≤ at_ := c425
      have e2 : X_se X_isBl tb len at_ = at_ := X_se_no (by first | omega | (intro h; exact absurd h.2 (by assumption)))
      have kk := hex S ⟨ht.1, ht.2.1, hl⟩ (by rw [e2]; exact ⟨hx.1, hx.2.1, hx.2.2.1, hx.2.2.2⟩) (X_Fr.rf)
      (try rw [e2] at kk)
      exact kk
    · skip
      have c425 : ¬ (len ≤ at_) := c425
      exact (show False by omega).elim
  | succ n ih =>
    intro S at_ ht hx ha hn hex
    refine T_p xr_53_31 xn_53 (pc' := 32) (ls' := [(1, .int (iI 1)), (0, .ref 497)]) (st' := [.ref 497]) rfl ?_
    refine T_get xr_53_32 hx.1 rfl (v := .int (iI at_)) rfl (pc' := 35) rfl ?_
    refine T_p xr_53_35 xn_53 (pc' := 36) (ls' := [(1, .int (iI 1)), (0, .ref 497)]) (st' := [.ref 497, .int (iI at_)]) rfl ?_
    refine T_get xr_53_36 hx.1 rfl (v := .ref 2) rfl (pc' := 39) rfl ?_
    refine T_get xr_53_39 ht.1 rfl (v := .int (iI len)) rfl (pc' := 42) rfl ?_
    refine T_zicmp_ge xr_53_42 (t := 75) (pc' := 45) rfl rfl (fun c403 => ?_) (fun c403 => ?_)
    · skip
      have c403 : len ≤ at_ := c403
      have e2 : X_se X_isBl tb len at_ = at_ := X_se_no (by first | omega | (intro h; exact absurd h.2 (by assumption)))
      have kk := hex S ⟨ht.1, ht.2.1, hl⟩ (by rw [e2]; exact ⟨hx.1, hx.2.1, hx.2.2.1, hx.2.2.2⟩) (X_Fr.rf)
      (try rw [e2] at kk)
      exact kk
    · skip
      have c403 : ¬ (len ≤ at_) := c403
      refine T_p xr_53_45 xn_53 (pc' := 46) (ls' := [(1, .int (iI 1)), (0, .ref 497)]) (st' := [.ref 497]) rfl ?_
      refine T_get xr_53_46 hx.1 rfl (v := .ref 2) rfl (pc' := 49) rfl ?_
      refine T_p xr_53_49 xn_53 (pc' := 50) (ls' := [(1, .int (iI 1)), (0, .ref 497)]) (st' := [.ref 497, .ref 2]) rfl ?_
      refine T_get xr_53_50 hx.1 rfl (v := .int (iI at_)) rfl (pc' := 53) rfl ?_
      refine T_cv (S := S) (q := 2) xr_53_53 xf_93.1 xf_93.2.1 xn_93 (as := [.int (iI at_)]) (r := []) rfl ht.1 (Nat.le_of_ble_eq_true rfl) (Nat.le_of_ble_eq_true rfl) (pc' := 56) rfl (ls' := [(0, .ref 2), (1, .int (iI at_))]) rfl ?_
      refine T_mono (c_byteAt sc S len at_ tb ht.1 ht.2.1 hl (by omega)) (fun v405 S406 h404 => ?_)
      obtain ⟨h407, h408⟩ := h404
      rw [h407, h408]
      show X_T sc 53 (56, [(1, .int (iI 1)), (0, .ref 497)], [.int (iI (X_at tb len at_))], S) _
      have r409 := X_at_r tb len at_
      refine T_cs xr_53_56 (by decide) xf_133.1 xn_133 (as := [.int (iI (X_at tb len at_))]) (r := []) rfl (Nat.le_of_ble_eq_true rfl) (Nat.le_of_ble_eq_true rfl) (pc' := 59) rfl (ls' := [(0, .int (iI (X_at tb len at_)))]) rfl ?_
      refine T_mono (c_isBlank sc S (X_at tb len at_) (X_at_r tb len at_)) (fun v411 S412 h410 => ?_)
      obtain ⟨h413, h414⟩ := h410
      rw [h413, h414]
      show X_T sc 53 (59, [(1, .int (iI 1)), (0, .ref 497)], [.int (iI (bI (X_isBl (X_at tb len at_))))], S) _
      refine T_bif_eq xr_53_59 (t := 75) (pc' := 62) rfl rfl (fun c415 => ?_) (fun c415 => ?_)
      · skip
        have c415 : ¬ (X_isBl (X_at tb len at_)) := c415
        have e2 : X_se X_isBl tb len at_ = at_ := X_se_no (by first | omega | (intro h; exact absurd h.2 (by assumption)))
        have kk := hex S ⟨ht.1, ht.2.1, hl⟩ (by rw [e2]; exact ⟨hx.1, hx.2.1, hx.2.2.1, hx.2.2.2⟩) (X_Fr.rf)
        (try rw [e2] at kk)
        exact kk
      · skip
        have c415 : (X_isBl (X_at tb len at_)) := c415
        refine T_p xr_53_62 xn_53 (pc' := 63) (ls' := [(1, .int (iI 1)), (0, .ref 497)]) (st' := [.ref 497]) rfl ?_
        refine T_p xr_53_63 xn_53 (pc' := 64) (ls' := [(1, .int (iI 1)), (0, .ref 497)]) (st' := [.ref 497, .ref 497]) rfl ?_
        refine T_get xr_53_64 hx.1 rfl (v := .int (iI at_)) rfl (pc' := 67) rfl ?_
        refine T_p xr_53_67 xn_53 (pc' := 68) (ls' := [(1, .int (iI 1)), (0, .ref 497)]) (st' := [.int (iI 1), .int (iI at_), .ref 497]) rfl ?_
        refine T_ziadd xr_53_68 (z := at_ + 1) rfl (pc' := 69) rfl ?_
        refine T_put xr_53_69 hx.1 rfl (Nat.le_of_ble_eq_true rfl) rfl (fs' := [.ref 2, .int (iI (at_ + 1)), .int (iI cnt), .ref 498, .ref 499, .ref 500, .int (iI cur)]) rfl (pc' := 72) rfl (fun S416 h417 n418 e419 => ?_)
        refine T_p xr_53_72 xn_53 (pc' := 31) (ls' := [(1, .int (iI 1)), (0, .ref 497)]) (st' := []) rfl ?_
        have e2 : X_se X_isBl tb len at_ = X_se X_isBl tb len (at_ + 1) := X_se_go (by omega) (by assumption)
        have h420 := (n418 2 (by decide)).trans (ht.1)
        have h421 := (n418 3 (by decide)).trans (ht.2.1)
        have h422 := (n418 498 (by decide)).trans (hx.2.1)
        have h423 := (n418 499 (by decide)).trans (hx.2.2.1)
        have h424 := (n418 500 (by decide)).trans (hx.2.2.2)
        refine ih S416 (at_ + 1) ⟨h420, h421, hl⟩ ⟨h417, h422, h423, h424⟩ (by omega) (by omega) (fun S' k1 k2 k3 => ?_)
        have kk := hex S' k1 (by rw [e2]; exact k2) (((X_Fr.rf).tr (X_Fr.of n418 e419 (by first | decide | exact ⟨Nat.le_add_right _ _, Nat.add_le_add_left (by decide) _⟩ | omega))).tr k3)
        (try rw [e2] at kk)
        exact kk
theorem c_start_l (sc : X_Sc) (len : Int) (tb : Int → Int) (hl : 0 ≤ len ∧ len ≤ 2000) : ∀ (m : Nat) (S : X_S) (n : Int) (so pl : Int → Int) (ct : Int → Int64) (E : Int → Int) (ht : C_tp S len tb) (hx : C_lx S (E n) n 0 so pl ct) (hT : X_Tks tb len n so pl ct E) (hn : 0 ≤ n) (hm : 2002 - n ≤ m) (hE : n ≤ E n) (hE2 : E n ≤ len)
    (hnt : ∀ i, 0 ≤ i → i < n → so i ≠ 0 ∧ so i ≠ 1),
    X_T sc 53 (17, [(1, .int (iI 1)), (0, .ref 497)], [], S) (fun v S' => v = none ∧ ∃ (n' : Int) (so' pl' : Int → Int) (ct' : Int → Int64) (E' : Int → Int), (1 ≤ n' ∧ n' ≤ 2001) ∧ C_lx S' (E' n') n' 0 so' pl' ct' ∧ X_Tks tb len n' so' pl' ct' E' ∧ (∀ i, 0 ≤ i → i < n' - 1 → so' i ≠ 0 ∧ so' i ≠ 1) ∧ (so' (n' - 1) = 0 ∨ so' (n' - 1) = 1) ∧ X_Fr (fun q => q = 497 ∨ q = 498 ∨ q = 499 ∨ q = 500) S S') := by
  intro m
  induction m with
  | zero => intro S n so pl ct E ht hx hT hn hm hE hE2 hnt; omega
  | succ m ih =>
    intro S n so pl ct E ht hx hT hn hm hE hE2 hnt
    refine T_p xr_53_17 xn_53 (pc' := 18) (ls' := [(1, .int (iI 1)), (0, .ref 497)]) (st' := [.int (iI 1)]) rfl ?_
    refine T_zif_eqf xr_53_18 (t := 166) (pc' := 21) rfl rfl (by decide) ?_
    refine T_p xr_53_21 xn_53 (pc' := 22) (ls' := [(1, .int (iI 1)), (0, .ref 497)]) (st' := [.ref 497]) rfl ?_
    refine T_get xr_53_22 hx.1 rfl (v := .int (iI n)) rfl (pc' := 25) rfl ?_
    refine T_p xr_53_25 xn_53 (pc' := 28) (ls' := [(1, .int (iI 1)), (0, .ref 497)]) (st' := [.int (iI 2000), .int (iI n)]) rfl ?_
    refine T_zicmp_gt xr_53_28 (t := 166) (pc' := 31) rfl rfl (fun c426 => ?_) (fun c426 => ?_)
    · skip
      have c426 : 2000 < n := c426
      exact (show False by omega).elim
    · skip
      have c426 : ¬ (2000 < n) := c426
      refine c_skip_l sc len tb n 0 (E n) so pl ct hl _ len.toNat S (E n) ⟨ht.1, ht.2.1, hl⟩ ⟨hx.1, hx.2.1, hx.2.2.1, hx.2.2.2⟩ (by omega) (by omega) (fun S430 k427 k428 k429 => ?_)
      have hse := X_se_r X_isBl tb len (E n)
      refine T_p xr_53_75 xn_53 (pc' := 76) (ls' := [(1, .int (iI 1)), (0, .ref 497)]) (st' := [.ref 497]) rfl ?_
      refine T_get xr_53_76 k428.1 rfl (v := .ref 499) rfl (pc' := 79) rfl ?_
      refine T_p xr_53_79 xn_53 (pc' := 80) (ls' := [(1, .int (iI 1)), (0, .ref 497)]) (st' := [.ref 497, .ref 499]) rfl ?_
      refine T_get xr_53_80 k428.1 rfl (v := .int (iI n)) rfl (pc' := 83) rfl ?_
      refine T_p xr_53_83 xn_53 (pc' := 84) (ls' := [(1, .int (iI 1)), (0, .ref 497)]) (st' := [.ref 497, .int (iI n), .ref 499]) rfl ?_
      refine T_get xr_53_84 k428.1 rfl (v := .int (iI (X_se X_isBl tb len (E n)))) rfl (pc' := 87) rfl ?_
      refine T_ziast xr_53_87 k428.2.2.1 (pc' := 88) rfl (fun S431 h432 n433 e434 => ?_)
      refine T_p xr_53_88 xn_53 (pc' := 89) (ls' := [(1, .int (iI 1)), (0, .ref 497)]) (st' := [.ref 497]) rfl ?_
      have h435 := (n433 497 (by decide)).trans (k428.1)
      refine T_get xr_53_89 h435 rfl (v := .ref 500) rfl (pc' := 92) rfl ?_
      refine T_p xr_53_92 xn_53 (pc' := 93) (ls' := [(1, .int (iI 1)), (0, .ref 497)]) (st' := [.ref 497, .ref 500]) rfl ?_
      refine T_get xr_53_93 h435 rfl (v := .int (iI n)) rfl (pc' := 96) rfl ?_
      refine T_p xr_53_96 xn_53 (pc' := 97) (ls' := [(1, .int (iI 1)), (0, .ref 497)]) (st' := [.long (0 : Int64), .int (iI n), .ref 500]) rfl ?_
      have h436 := (n433 500 (by decide)).trans (k428.2.2.2)
      refine T_zlast xr_53_97 h436 (pc' := 98) rfl (fun S437 h438 n439 e440 => ?_)
      refine T_p xr_53_98 xn_53 (pc' := 99) (ls' := [(1, .int (iI 1)), (0, .ref 497)]) (st' := [.ref 497]) rfl ?_
      have h441 := (n439 497 (by decide)).trans (h435)
      refine T_get xr_53_99 h441 rfl (v := .ref 498) rfl (pc' := 102) rfl ?_
      refine T_p xr_53_102 xn_53 (pc' := 103) (ls' := [(1, .int (iI 1)), (0, .ref 497)]) (st' := [.ref 497, .ref 498]) rfl ?_
      refine T_get xr_53_103 h441 rfl (v := .int (iI n)) rfl (pc' := 106) rfl ?_
      refine T_p xr_53_106 xn_53 (pc' := 107) (ls' := [(1, .int (iI 1)), (0, .ref 497)]) (st' := [.ref 497, .int (iI n), .ref 498]) rfl ?_
      refine T_p xr_53_107 xn_53 (pc' := 108) (ls' := [(1, .int (iI 1)), (0, .ref 497)]) (st' := [.ref 497, .ref 497, .int (iI n), .ref 498]) rfl ?_
      refine T_get xr_53_108 h441 rfl (v := .ref 2) rfl (pc' := 111) rfl ?_
      refine T_p xr_53_111 xn_53 (pc' := 112) (ls' := [(1, .int (iI 1)), (0, .ref 497)]) (st' := [.ref 497, .ref 2, .ref 497, .int (iI n), .ref 498]) rfl ?_
      refine T_get xr_53_112 h441 rfl (v := .int (iI (X_se X_isBl tb len (E n)))) rfl (pc' := 115) rfl ?_
      have h442 := (n439 2 (by decide)).trans ((n433 2 (by decide)).trans (k427.1))
      refine T_cv (S := S437) (q := 2) xr_53_115 xf_93.1 xf_93.2.1 xn_93 (as := [.int (iI (X_se X_isBl tb len (E n)))]) (r := [.ref 497, .int (iI n), .ref 498]) rfl h442 (Nat.le_of_ble_eq_true rfl) (Nat.le_of_ble_eq_true rfl) (pc' := 118) rfl (ls' := [(0, .ref 2), (1, .int (iI (X_se X_isBl tb len (E n))))]) rfl ?_
      have h443 := (n439 3 (by decide)).trans ((n433 3 (by decide)).trans (k427.2.1))
      refine T_mono (c_byteAt sc S437 len (X_se X_isBl tb len (E n)) tb h442 h443 hl (by omega)) (fun v445 S446 h444 => ?_)
      obtain ⟨h447, h448⟩ := h444
      rw [h447, h448]
      show X_T sc 53 (118, [(1, .int (iI 1)), (0, .ref 497)], [.int (iI (X_at tb len (X_se X_isBl tb len (E n)))), .ref 497, .int (iI n), .ref 498], S437) _
      have r449 := X_at_r tb len (X_se X_isBl tb len (E n))
      refine T_cv (S := S437) (q := 497) xr_53_118 xf_54.1 xf_54.2.1 xn_54 (as := [.int (iI (X_at tb len (X_se X_isBl tb len (E n))))]) (r := [.int (iI n), .ref 498]) rfl h441 (Nat.le_of_ble_eq_true rfl) (Nat.le_of_ble_eq_true rfl) (pc' := 121) rfl (ls' := [(0, .ref 497), (1, .int (iI (X_at tb len (X_se X_isBl tb len (E n)))))]) rfl ?_
      have h461 := (n439 498 (by decide)).trans ((n433 498 (by decide)).trans (k428.2.1))
      have h462 := (n439 499 (by decide)).trans (h432)
      refine T_mono (c_takeToken sc S437 len tb (X_se X_isBl tb len (E n)) n 0 so (X_ug pl n (X_se X_isBl tb len (E n))) (X_ug ct n (0 : Int64)) ⟨h442, h443, hl⟩ ⟨h441, h461, h462, h438⟩ (by omega) (by omega) (by rw [X_ug_s]) (by rw [X_ug_s])) (fun v458 S459 h460 => ?_)
      obtain ⟨r450, e451, ct452, h453, ht454, hu455, hlx456, hf457⟩ := h460
      rw [h453]
      show X_T sc 53 (121, [(1, .int (iI 1)), (0, .ref 497)], [.int (iI r450), .int (iI n), .ref 498], S459) _
      have hrt := X_Tok_r (by omega) ht454
      refine T_ziast xr_53_121 hlx456.2.1 (pc' := 122) rfl (fun S463 h464 n465 e466 => ?_)
      refine T_p xr_53_122 xn_53 (pc' := 123) (ls' := [(1, .int (iI 1)), (0, .ref 497)]) (st' := [.ref 497]) rfl ?_
      have h467 := (n465 497 (by decide)).trans (hlx456.1)
      refine T_get xr_53_123 h467 rfl (v := .ref 498) rfl (pc' := 126) rfl ?_
      refine T_p xr_53_126 xn_53 (pc' := 127) (ls' := [(1, .int (iI 1)), (0, .ref 497)]) (st' := [.ref 497, .ref 498]) rfl ?_
      refine T_get xr_53_127 h467 rfl (v := .int (iI n)) rfl (pc' := 130) rfl ?_
      refine T_ziald xr_53_130 h464 (pc' := 131) rfl ?_
      refine T_ie (y := iI r450) (by rw [X_ug_s]) ?_
      refine T_zif_eq xr_53_131 (t := 151) (pc' := 134) rfl rfl (fun c468 => ?_) (fun c468 => ?_)
      · skip
        have c468 : r450 = 0 := c468
        refine T_p xr_53_151 xn_53 (pc' := 152) (ls' := [(1, .int (iI 1)), (0, .ref 497)]) (st' := [.int (iI 0)]) rfl ?_
        refine T_p xr_53_152 xn_53 (pc' := 153) (ls' := [(1, .int (iI 0)), (0, .ref 497)]) (st' := []) rfl ?_
        refine T_p xr_53_153 xn_53 (pc' := 154) (ls' := [(1, .int (iI 0)), (0, .ref 497)]) (st' := [.ref 497]) rfl ?_
        refine T_p xr_53_154 xn_53 (pc' := 155) (ls' := [(1, .int (iI 0)), (0, .ref 497)]) (st' := [.ref 497, .ref 497]) rfl ?_
        refine T_get xr_53_155 h467 rfl (v := .int (iI n)) rfl (pc' := 158) rfl ?_
        refine T_p xr_53_158 xn_53 (pc' := 159) (ls' := [(1, .int (iI 0)), (0, .ref 497)]) (st' := [.int (iI 1), .int (iI n), .ref 497]) rfl ?_
        refine T_ziadd xr_53_159 (z := n + 1) rfl (pc' := 160) rfl ?_
        refine T_put xr_53_160 h467 rfl (Nat.le_of_ble_eq_true rfl) rfl (fs' := [.ref 2, .int (iI e451), .int (iI (n + 1)), .ref 498, .ref 499, .ref 500, .int (iI 0)]) rfl (pc' := 163) rfl (fun S469 h470 n471 e472 => ?_)
        refine T_p xr_53_163 xn_53 (pc' := 17) (ls' := [(1, .int (iI 0)), (0, .ref 497)]) (st' := []) rfl ?_
        refine T_p xr_53_17 xn_53 (pc' := 18) (ls' := [(1, .int (iI 0)), (0, .ref 497)]) (st' := [.int (iI 0)]) rfl ?_
        refine T_zif_eqt xr_53_18 (t := 166) rfl (by decide) ?_
        refine T_vret xr_53_166 xf_53.2.2 ?_
        have h473 := (n471 498 (by decide)).trans (h464)
        have h474 := (n471 499 (by decide)).trans ((n465 499 (by decide)).trans (hlx456.2.2.1))
        have hT2 : X_Tks tb len (n + 1) (X_ug so n r450) (X_ug pl n (X_se X_isBl tb len (E n))) ct452 (X_ug E (n + 1) e451) := X_Tks_go hT hn rfl ht454 (fun k hk => (hu455 k hk).trans (X_ug_n _ _ hk))
        have h475 := (n471 500 (by decide)).trans ((n465 500 (by decide)).trans (hlx456.2.2.2))
        refine ⟨rfl, n + 1, (X_ug so n r450), (X_ug pl n (X_se X_isBl tb len (E n))), ct452, X_ug E (n + 1) e451, by omega, by rw [X_ug_s]; exact ⟨h470, h473, h474, h475⟩, hT2, fun i h1 h2 => ?_, ?_, ((((((X_Fr.rf).tr (X_Fr.mono ⟨k429.1, k429.2⟩ (fun q hq => by omega))).tr (X_Fr.of n433 e434 (by first | decide | exact ⟨Nat.le_add_right _ _, Nat.add_le_add_left (by decide) _⟩ | omega))).tr (X_Fr.of n439 e440 (by first | decide | exact ⟨Nat.le_add_right _ _, Nat.add_le_add_left (by decide) _⟩ | omega))).tr (X_Fr.mono ⟨hf457.1, hf457.2⟩ (fun q hq => by omega))).tr (X_Fr.of n465 e466 (by first | decide | exact ⟨Nat.le_add_right _ _, Nat.add_le_add_left (by decide) _⟩ | omega))).tr (X_Fr.of n471 e472 (by first | decide | exact ⟨Nat.le_add_right _ _, Nat.add_le_add_left (by decide) _⟩ | omega))⟩
        · rw [X_ug_n _ _ (by omega)]
          exact hnt i h1 (by omega)
        · rw [show n + 1 - 1 = n by omega, X_ug_s]
          omega
      · skip
        have c468 : ¬ (r450 = 0) := c468
        refine T_p xr_53_134 xn_53 (pc' := 135) (ls' := [(1, .int (iI 1)), (0, .ref 497)]) (st' := [.ref 497]) rfl ?_
        refine T_get xr_53_135 h467 rfl (v := .ref 498) rfl (pc' := 138) rfl ?_
        refine T_p xr_53_138 xn_53 (pc' := 139) (ls' := [(1, .int (iI 1)), (0, .ref 497)]) (st' := [.ref 497, .ref 498]) rfl ?_
        refine T_get xr_53_139 h467 rfl (v := .int (iI n)) rfl (pc' := 142) rfl ?_
        refine T_ziald xr_53_142 h464 (pc' := 143) rfl ?_
        refine T_ie (y := iI r450) (by rw [X_ug_s]) ?_
        refine T_p xr_53_143 xn_53 (pc' := 144) (ls' := [(1, .int (iI 1)), (0, .ref 497)]) (st' := [.int (iI 1), .int (iI r450)]) rfl ?_
        refine T_zicmp_eq xr_53_144 (t := 151) (pc' := 147) rfl rfl (fun c476 => ?_) (fun c476 => ?_)
        · skip
          have c476 : r450 = 1 := c476
          refine T_p xr_53_151 xn_53 (pc' := 152) (ls' := [(1, .int (iI 1)), (0, .ref 497)]) (st' := [.int (iI 0)]) rfl ?_
          refine T_p xr_53_152 xn_53 (pc' := 153) (ls' := [(1, .int (iI 0)), (0, .ref 497)]) (st' := []) rfl ?_
          refine T_p xr_53_153 xn_53 (pc' := 154) (ls' := [(1, .int (iI 0)), (0, .ref 497)]) (st' := [.ref 497]) rfl ?_
          refine T_p xr_53_154 xn_53 (pc' := 155) (ls' := [(1, .int (iI 0)), (0, .ref 497)]) (st' := [.ref 497, .ref 497]) rfl ?_
          refine T_get xr_53_155 h467 rfl (v := .int (iI n)) rfl (pc' := 158) rfl ?_
          refine T_p xr_53_158 xn_53 (pc' := 159) (ls' := [(1, .int (iI 0)), (0, .ref 497)]) (st' := [.int (iI 1), .int (iI n), .ref 497]) rfl ?_
          refine T_ziadd xr_53_159 (z := n + 1) rfl (pc' := 160) rfl ?_
          refine T_put xr_53_160 h467 rfl (Nat.le_of_ble_eq_true rfl) rfl (fs' := [.ref 2, .int (iI e451), .int (iI (n + 1)), .ref 498, .ref 499, .ref 500, .int (iI 0)]) rfl (pc' := 163) rfl (fun S477 h478 n479 e480 => ?_)
          refine T_p xr_53_163 xn_53 (pc' := 17) (ls' := [(1, .int (iI 0)), (0, .ref 497)]) (st' := []) rfl ?_
          refine T_p xr_53_17 xn_53 (pc' := 18) (ls' := [(1, .int (iI 0)), (0, .ref 497)]) (st' := [.int (iI 0)]) rfl ?_
          refine T_zif_eqt xr_53_18 (t := 166) rfl (by decide) ?_
          refine T_vret xr_53_166 xf_53.2.2 ?_
          have h481 := (n479 498 (by decide)).trans (h464)
          have h482 := (n479 499 (by decide)).trans ((n465 499 (by decide)).trans (hlx456.2.2.1))
          have hT2 : X_Tks tb len (n + 1) (X_ug so n r450) (X_ug pl n (X_se X_isBl tb len (E n))) ct452 (X_ug E (n + 1) e451) := X_Tks_go hT hn rfl ht454 (fun k hk => (hu455 k hk).trans (X_ug_n _ _ hk))
          have h483 := (n479 500 (by decide)).trans ((n465 500 (by decide)).trans (hlx456.2.2.2))
          refine ⟨rfl, n + 1, (X_ug so n r450), (X_ug pl n (X_se X_isBl tb len (E n))), ct452, X_ug E (n + 1) e451, by omega, by rw [X_ug_s]; exact ⟨h478, h481, h482, h483⟩, hT2, fun i h1 h2 => ?_, ?_, ((((((X_Fr.rf).tr (X_Fr.mono ⟨k429.1, k429.2⟩ (fun q hq => by omega))).tr (X_Fr.of n433 e434 (by first | decide | exact ⟨Nat.le_add_right _ _, Nat.add_le_add_left (by decide) _⟩ | omega))).tr (X_Fr.of n439 e440 (by first | decide | exact ⟨Nat.le_add_right _ _, Nat.add_le_add_left (by decide) _⟩ | omega))).tr (X_Fr.mono ⟨hf457.1, hf457.2⟩ (fun q hq => by omega))).tr (X_Fr.of n465 e466 (by first | decide | exact ⟨Nat.le_add_right _ _, Nat.add_le_add_left (by decide) _⟩ | omega))).tr (X_Fr.of n479 e480 (by first | decide | exact ⟨Nat.le_add_right _ _, Nat.add_le_add_left (by decide) _⟩ | omega))⟩
          · rw [X_ug_n _ _ (by omega)]
            exact hnt i h1 (by omega)
          · rw [show n + 1 - 1 = n by omega, X_ug_s]
            omega
        · skip
          have c476 : ¬ (r450 = 1) := c476
          refine T_p xr_53_147 xn_53 (pc' := 148) (ls' := [(1, .int (iI 1)), (0, .ref 497)]) (st' := [.int (iI 1)]) rfl ?_
          refine T_p xr_53_148 xn_53 (pc' := 152) (ls' := [(1, .int (iI 1)), (0, .ref 497)]) (st' := [.int (iI 1)]) rfl ?_
          refine T_p xr_53_152 xn_53 (pc' := 153) (ls' := [(1, .int (iI 1)), (0, .ref 497)]) (st' := []) rfl ?_
          refine T_p xr_53_153 xn_53 (pc' := 154) (ls' := [(1, .int (iI 1)), (0, .ref 497)]) (st' := [.ref 497]) rfl ?_
          refine T_p xr_53_154 xn_53 (pc' := 155) (ls' := [(1, .int (iI 1)), (0, .ref 497)]) (st' := [.ref 497, .ref 497]) rfl ?_
          refine T_get xr_53_155 h467 rfl (v := .int (iI n)) rfl (pc' := 158) rfl ?_
          refine T_p xr_53_158 xn_53 (pc' := 159) (ls' := [(1, .int (iI 1)), (0, .ref 497)]) (st' := [.int (iI 1), .int (iI n), .ref 497]) rfl ?_
          refine T_ziadd xr_53_159 (z := n + 1) rfl (pc' := 160) rfl ?_
          refine T_put xr_53_160 h467 rfl (Nat.le_of_ble_eq_true rfl) rfl (fs' := [.ref 2, .int (iI e451), .int (iI (n + 1)), .ref 498, .ref 499, .ref 500, .int (iI 0)]) rfl (pc' := 163) rfl (fun S484 h485 n486 e487 => ?_)
          refine T_p xr_53_163 xn_53 (pc' := 17) (ls' := [(1, .int (iI 1)), (0, .ref 497)]) (st' := []) rfl ?_
          have h488 := (n486 498 (by decide)).trans (h464)
          have h489 := (n486 499 (by decide)).trans ((n465 499 (by decide)).trans (hlx456.2.2.1))
          have hT2 : X_Tks tb len (n + 1) (X_ug so n r450) (X_ug pl n (X_se X_isBl tb len (E n))) ct452 (X_ug E (n + 1) e451) := X_Tks_go hT hn rfl ht454 (fun k hk => (hu455 k hk).trans (X_ug_n _ _ hk))
          have h490 := (n486 2 (by decide)).trans ((n465 2 (by decide)).trans ((hf457.1 2 (by first | decide | omega)).trans (h442)))
          have h491 := (n486 3 (by decide)).trans ((n465 3 (by decide)).trans ((hf457.1 3 (by first | decide | omega)).trans (h443)))
          have h492 := (n486 500 (by decide)).trans ((n465 500 (by decide)).trans (hlx456.2.2.2))
          refine T_mono (ih S484 (n + 1) (X_ug so n r450) (X_ug pl n (X_se X_isBl tb len (E n))) ct452 (X_ug E (n + 1) e451) ⟨h490, h491, hl⟩ (by rw [X_ug_s]; exact ⟨h485, h488, h489, h492⟩) hT2 (by omega) (by omega) (by rw [X_ug_s]; omega) (by rw [X_ug_s]; omega) (fun i h1 h2 => ?_)) (fun v S' h => ?_)
          · by_cases hi : i = n
            · subst hi
              rw [X_ug_s]
              exact ⟨by omega, by omega⟩
            · rw [X_ug_n _ _ hi]
              exact hnt i h1 (by omega)
          · obtain ⟨hv, n2, so2, pl2, ct2, E2, g1, g2, g3, g4, g5, g6⟩ := h
            exact ⟨hv, n2, so2, pl2, ct2, E2, g1, g2, g3, g4, g5, (((((((X_Fr.rf).tr (X_Fr.mono ⟨k429.1, k429.2⟩ (fun q hq => by omega))).tr (X_Fr.of n433 e434 (by first | decide | exact ⟨Nat.le_add_right _ _, Nat.add_le_add_left (by decide) _⟩ | omega))).tr (X_Fr.of n439 e440 (by first | decide | exact ⟨Nat.le_add_right _ _, Nat.add_le_add_left (by decide) _⟩ | omega))).tr (X_Fr.mono ⟨hf457.1, hf457.2⟩ (fun q hq => by omega))).tr (X_Fr.of n465 e466 (by first | decide | exact ⟨Nat.le_add_right _ _, Nat.add_le_add_left (by decide) _⟩ | omega))).tr (X_Fr.of n486 e487 (by first | decide | exact ⟨Nat.le_add_right _ _, Nat.add_le_add_left (by decide) _⟩ | omega))).tr g6⟩
theorem c_start (sc : X_Sc) (S : X_S) (len : Int) (tb : Int → Int) (at_ cnt cur : Int) (so pl : Int → Int) (ct : Int → Int64) (ht : C_tp S len tb) (hx : C_lx S at_ cnt cur so pl ct) :
    X_T sc 53 (0, [(0, .ref 497)], [], S) (fun v S' => v = none ∧ ∃ (n' : Int) (so' pl' : Int → Int) (ct' : Int → Int64) (E' : Int → Int), (1 ≤ n' ∧ n' ≤ 2001) ∧ C_lx S' (E' n') n' 0 so' pl' ct' ∧ X_Tks tb len n' so' pl' ct' E' ∧ (∀ i, 0 ≤ i → i < n' - 1 → so' i ≠ 0 ∧ so' i ≠ 1) ∧ (so' (n' - 1) = 0 ∨ so' (n' - 1) = 1) ∧ X_Fr (fun q => q = 497 ∨ q = 498 ∨ q = 499 ∨ q = 500) S S') := by
  refine T_p xr_53_0 xn_53 (pc' := 1) (ls' := [(0, .ref 497)]) (st' := [.ref 497]) rfl ?_
  refine T_p xr_53_1 xn_53 (pc' := 2) (ls' := [(0, .ref 497)]) (st' := [.int (iI 0), .ref 497]) rfl ?_
  refine T_put xr_53_2 hx.1 rfl (Nat.le_of_ble_eq_true rfl) rfl (fs' := [.ref 2, .int (iI 0), .int (iI cnt), .ref 498, .ref 499, .ref 500, .int (iI cur)]) rfl (pc' := 5) rfl (fun S493 h494 n495 e496 => ?_)
  refine T_p xr_53_5 xn_53 (pc' := 6) (ls' := [(0, .ref 497)]) (st' := [.ref 497]) rfl ?_
  refine T_p xr_53_6 xn_53 (pc' := 7) (ls' := [(0, .ref 497)]) (st' := [.int (iI 0), .ref 497]) rfl ?_
  refine T_put xr_53_7 h494 rfl (Nat.le_of_ble_eq_true rfl) rfl (fs' := [.ref 2, .int (iI 0), .int (iI 0), .ref 498, .ref 499, .ref 500, .int (iI cur)]) rfl (pc' := 10) rfl (fun S497 h498 n499 e500 => ?_)
  refine T_p xr_53_10 xn_53 (pc' := 11) (ls' := [(0, .ref 497)]) (st' := [.ref 497]) rfl ?_
  refine T_p xr_53_11 xn_53 (pc' := 12) (ls' := [(0, .ref 497)]) (st' := [.int (iI 0), .ref 497]) rfl ?_
  refine T_put xr_53_12 h498 rfl (Nat.le_of_ble_eq_true rfl) rfl (fs' := [.ref 2, .int (iI 0), .int (iI 0), .ref 498, .ref 499, .ref 500, .int (iI 0)]) rfl (pc' := 15) rfl (fun S501 h502 n503 e504 => ?_)
  refine T_p xr_53_15 xn_53 (pc' := 16) (ls' := [(0, .ref 497)]) (st' := [.int (iI 1)]) rfl ?_
  refine T_p xr_53_16 xn_53 (pc' := 17) (ls' := [(1, .int (iI 1)), (0, .ref 497)]) (st' := []) rfl ?_
  have h505 := (n503 2 (by decide)).trans ((n499 2 (by decide)).trans ((n495 2 (by decide)).trans (ht.1)))
  have h506 := (n503 3 (by decide)).trans ((n499 3 (by decide)).trans ((n495 3 (by decide)).trans (ht.2.1)))
  have h507 := (n503 498 (by decide)).trans ((n499 498 (by decide)).trans ((n495 498 (by decide)).trans (hx.2.1)))
  have h508 := (n503 499 (by decide)).trans ((n499 499 (by decide)).trans ((n495 499 (by decide)).trans (hx.2.2.1)))
  have h509 := (n503 500 (by decide)).trans ((n499 500 (by decide)).trans ((n495 500 (by decide)).trans (hx.2.2.2)))
  refine T_mono (c_start_l sc len tb ht.2.2 2002 S501 0 so pl ct (fun _ => 0) ⟨h505, h506, ht.2.2⟩ ⟨h502, h507, h508, h509⟩ ⟨rfl, fun i h1 h2 => absurd h2 (by omega)⟩ (by omega) (by omega) (by omega) (by have := ht.2.2; omega) (fun i h1 h2 => absurd h2 (by omega))) (fun v S' h => ?_)
  obtain ⟨hv, n2, so2, pl2, ct2, E2, g1, g2, g3, g4, g5, g6⟩ := h
  exact ⟨hv, n2, so2, pl2, ct2, E2, g1, g2, g3, g4, g5, ((((X_Fr.rf).tr (X_Fr.of n495 e496 (by first | decide | exact ⟨Nat.le_add_right _ _, Nat.add_le_add_left (by decide) _⟩ | omega))).tr (X_Fr.of n499 e500 (by first | decide | exact ⟨Nat.le_add_right _ _, Nat.add_le_add_left (by decide) _⟩ | omega))).tr (X_Fr.of n503 e504 (by first | decide | exact ⟨Nat.le_add_right _ _, Nat.add_le_add_left (by decide) _⟩ | omega))).tr g6⟩
end
section
theorem xr_95_0 : X_row 95 0 = some (0, (.aload_n 0, 1), (0, 0, 0)) := by decide +kernel
theorem xr_95_1 : X_row 95 1 = some (1, (.iload_n 1, 1), (0, 0, 0)) := by decide +kernel
theorem xr_95_2 : X_row 95 2 = some (2, (.putfield 34, 3), (8, 0, 0)) := by decide +kernel
theorem xr_95_5 : X_row 95 5 = some (5, (.aload_n 0, 1), (0, 0, 0)) := by decide +kernel
theorem xr_95_6 : X_row 95 6 = some (6, (.iconst 0, 1), (0, 0, 0)) := by decide +kernel
theorem xr_95_7 : X_row 95 7 = some (7, (.putfield 38, 3), (8, 1, 2)) := by decide +kernel
theorem xr_95_10 : X_row 95 10 = some (10, (.aload_n 0, 1), (0, 0, 0)) := by decide +kernel
theorem xr_95_11 : X_row 95 11 = some (11, (.iconst 0, 1), (0, 0, 0)) := by decide +kernel
theorem xr_95_12 : X_row 95 12 = some (12, (.putfield 41, 3), (8, 2, 4)) := by decide +kernel
theorem xr_95_15 : X_row 95 15 = some (15, (.aload_n 0, 1), (0, 0, 0)) := by decide +kernel
theorem xr_95_16 : X_row 95 16 = some (16, (.iconst 0, 1), (0, 0, 0)) := by decide +kernel
theorem xr_95_17 : X_row 95 17 = some (17, (.putfield 44, 3), (8, 3, 6)) := by decide +kernel
theorem xr_95_20 : X_row 95 20 = some (20, (.aload_n 0, 1), (0, 0, 0)) := by decide +kernel
theorem xr_95_21 : X_row 95 21 = some (21, (.iconst 0, 1), (0, 0, 0)) := by decide +kernel
theorem xr_95_22 : X_row 95 22 = some (22, (.putfield 47, 3), (8, 4, 8)) := by decide +kernel
theorem xr_95_25 : X_row 95 25 = some (25, (.aload_n 0, 1), (0, 0, 0)) := by decide +kernel
theorem xr_95_26 : X_row 95 26 = some (26, (.iconst (-1), 1), (0, 0, 0)) := by decide +kernel
theorem xr_95_27 : X_row 95 27 = some (27, (.putfield 50, 3), (8, 5, 10)) := by decide +kernel
theorem xr_95_30 : X_row 95 30 = some (30, (.aload_n 0, 1), (0, 0, 0)) := by decide +kernel
theorem xr_95_31 : X_row 95 31 = some (31, (.iconst 0, 1), (0, 0, 0)) := by decide +kernel
theorem xr_95_32 : X_row 95 32 = some (32, (.putfield 53, 3), (8, 6, 12)) := by decide +kernel
theorem xr_95_35 : X_row 95 35 = some (35, (.aload_n 0, 1), (0, 0, 0)) := by decide +kernel
theorem xr_95_36 : X_row 95 36 = some (36, (.iconst 0, 1), (0, 0, 0)) := by decide +kernel
theorem xr_95_37 : X_row 95 37 = some (37, (.putfield 57, 3), (8, 7, 14)) := by decide +kernel
theorem xr_95_40 : X_row 95 40 = some (40, (.return_, 1), (0, 0, 0)) := by decide +kernel
theorem xr_96_0 : X_row 96 0 = some (0, (.aload_n 0, 1), (0, 0, 0)) := by decide +kernel
theorem xr_96_1 : X_row 96 1 = some (1, (.getfield 44, 3), (8, 3, 6)) := by decide +kernel
theorem xr_96_4 : X_row 96 4 = some (4, (.bipush 8, 2), (0, 0, 0)) := by decide +kernel
theorem xr_96_6 : X_row 96 6 = some (6, (.if_icmp .ge 23, 3), (0, 0, 0)) := by decide +kernel
theorem xr_96_9 : X_row 96 9 = some (9, (.aload_n 0, 1), (0, 0, 0)) := by decide +kernel
theorem xr_96_10 : X_row 96 10 = some (10, (.getfield 9, 3), (8, 8, 16)) := by decide +kernel
theorem xr_96_13 : X_row 96 13 = some (13, (.aload_n 0, 1), (0, 0, 0)) := by decide +kernel
theorem xr_96_14 : X_row 96 14 = some (14, (.getfield 44, 3), (8, 3, 6)) := by decide +kernel
theorem xr_96_17 : X_row 96 17 = some (17, (.lload_n 1, 1), (0, 0, 0)) := by decide +kernel
theorem xr_96_18 : X_row 96 18 = some (18, (.lastore, 1), (0, 0, 0)) := by decide +kernel
theorem xr_96_19 : X_row 96 19 = some (19, (.aload_n 0, 1), (0, 0, 0)) := by decide +kernel
theorem xr_96_20 : X_row 96 20 = some (20, (.dup, 1), (0, 0, 0)) := by decide +kernel
theorem xr_96_21 : X_row 96 21 = some (21, (.getfield 44, 3), (8, 3, 6)) := by decide +kernel
theorem xr_96_24 : X_row 96 24 = some (24, (.iconst 1, 1), (0, 0, 0)) := by decide +kernel
theorem xr_96_25 : X_row 96 25 = some (25, (.iadd, 1), (0, 0, 0)) := by decide +kernel
theorem xr_96_26 : X_row 96 26 = some (26, (.putfield 44, 3), (8, 3, 6)) := by decide +kernel
theorem xr_96_29 : X_row 96 29 = some (29, (.return_, 1), (0, 0, 0)) := by decide +kernel
theorem xr_97_0 : X_row 97 0 = some (0, (.aload_n 0, 1), (0, 0, 0)) := by decide +kernel
theorem xr_97_1 : X_row 97 1 = some (1, (.getfield 44, 3), (8, 3, 6)) := by decide +kernel
theorem xr_97_4 : X_row 97 4 = some (4, (.bipush 8, 2), (0, 0, 0)) := by decide +kernel
theorem xr_97_6 : X_row 97 6 = some (6, (.if_icmp .ge 28, 3), (0, 0, 0)) := by decide +kernel
theorem xr_97_9 : X_row 97 9 = some (9, (.aload_n 0, 1), (0, 0, 0)) := by decide +kernel
theorem xr_97_10 : X_row 97 10 = some (10, (.getfield 47, 3), (8, 4, 8)) := by decide +kernel
theorem xr_97_13 : X_row 97 13 = some (13, (.iconst 4, 1), (0, 0, 0)) := by decide +kernel
theorem xr_97_14 : X_row 97 14 = some (14, (.if_icmp .ge 20, 3), (0, 0, 0)) := by decide +kernel
theorem xr_97_17 : X_row 97 17 = some (17, (.aload_n 0, 1), (0, 0, 0)) := by decide +kernel
theorem xr_97_18 : X_row 97 18 = some (18, (.aload_n 0, 1), (0, 0, 0)) := by decide +kernel
theorem xr_97_19 : X_row 97 19 = some (19, (.getfield 44, 3), (8, 3, 6)) := by decide +kernel
theorem xr_97_22 : X_row 97 22 = some (22, (.iconst 1, 1), (0, 0, 0)) := by decide +kernel
theorem xr_97_23 : X_row 97 23 = some (23, (.isub, 1), (0, 0, 0)) := by decide +kernel
theorem xr_97_24 : X_row 97 24 = some (24, (.invokevirtual 60, 3), (100, 0, 0)) := by decide +kernel
theorem xr_97_27 : X_row 97 27 = some (27, (.ifCond .ne 7, 3), (0, 0, 0)) := by decide +kernel
theorem xr_97_30 : X_row 97 30 = some (30, (.iconst 1, 1), (0, 0, 0)) := by decide +kernel
theorem xr_97_31 : X_row 97 31 = some (31, (.goto 4, 3), (0, 0, 0)) := by decide +kernel
theorem xr_97_34 : X_row 97 34 = some (34, (.iconst 0, 1), (0, 0, 0)) := by decide +kernel
theorem xr_97_35 : X_row 97 35 = some (35, (.ireturn, 1), (0, 0, 0)) := by decide +kernel
theorem xr_98_0 : X_row 98 0 = some (0, (.aload_n 0, 1), (0, 0, 0)) := by decide +kernel
theorem xr_98_1 : X_row 98 1 = some (1, (.getfield 44, 3), (8, 3, 6)) := by decide +kernel
theorem xr_98_4 : X_row 98 4 = some (4, (.bipush 8, 2), (0, 0, 0)) := by decide +kernel
theorem xr_98_6 : X_row 98 6 = some (6, (.if_icmp .ge 64, 3), (0, 0, 0)) := by decide +kernel
theorem xr_98_9 : X_row 98 9 = some (9, (.aload_n 0, 1), (0, 0, 0)) := by decide +kernel
theorem xr_98_10 : X_row 98 10 = some (10, (.getfield 47, 3), (8, 4, 8)) := by decide +kernel
theorem xr_98_13 : X_row 98 13 = some (13, (.iconst 4, 1), (0, 0, 0)) := by decide +kernel
theorem xr_98_14 : X_row 98 14 = some (14, (.if_icmp .ge 56, 3), (0, 0, 0)) := by decide +kernel
theorem xr_98_17 : X_row 98 17 = some (17, (.aload_n 0, 1), (0, 0, 0)) := by decide +kernel
theorem xr_98_18 : X_row 98 18 = some (18, (.getfield 9, 3), (8, 8, 16)) := by decide +kernel
theorem xr_98_21 : X_row 98 21 = some (21, (.aload_n 0, 1), (0, 0, 0)) := by decide +kernel
theorem xr_98_22 : X_row 98 22 = some (22, (.getfield 44, 3), (8, 3, 6)) := by decide +kernel
theorem xr_98_25 : X_row 98 25 = some (25, (.lconst 0, 1), (0, 0, 0)) := by decide +kernel
theorem xr_98_26 : X_row 98 26 = some (26, (.lastore, 1), (0, 0, 0)) := by decide +kernel
theorem xr_98_27 : X_row 98 27 = some (27, (.aload_n 0, 1), (0, 0, 0)) := by decide +kernel
theorem xr_98_28 : X_row 98 28 = some (28, (.getfield 15, 3), (8, 9, 18)) := by decide +kernel
theorem xr_98_31 : X_row 98 31 = some (31, (.aload_n 0, 1), (0, 0, 0)) := by decide +kernel
theorem xr_98_32 : X_row 98 32 = some (32, (.getfield 44, 3), (8, 3, 6)) := by decide +kernel
theorem xr_98_35 : X_row 98 35 = some (35, (.aload_n 0, 1), (0, 0, 0)) := by decide +kernel
theorem xr_98_36 : X_row 98 36 = some (36, (.getfield 47, 3), (8, 4, 8)) := by decide +kernel
theorem xr_98_39 : X_row 98 39 = some (39, (.iastore, 1), (0, 0, 0)) := by decide +kernel
theorem xr_98_40 : X_row 98 40 = some (40, (.aload_n 0, 1), (0, 0, 0)) := by decide +kernel
theorem xr_98_41 : X_row 98 41 = some (41, (.getfield 19, 3), (8, 10, 20)) := by decide +kernel
theorem xr_98_44 : X_row 98 44 = some (44, (.aload_n 0, 1), (0, 0, 0)) := by decide +kernel
theorem xr_98_45 : X_row 98 45 = some (45, (.getfield 47, 3), (8, 4, 8)) := by decide +kernel
theorem xr_98_48 : X_row 98 48 = some (48, (.iload_n 1, 1), (0, 0, 0)) := by decide +kernel
theorem xr_98_49 : X_row 98 49 = some (49, (.iastore, 1), (0, 0, 0)) := by decide +kernel
theorem xr_98_50 : X_row 98 50 = some (50, (.aload_n 0, 1), (0, 0, 0)) := by decide +kernel
theorem xr_98_51 : X_row 98 51 = some (51, (.dup, 1), (0, 0, 0)) := by decide +kernel
theorem xr_98_52 : X_row 98 52 = some (52, (.getfield 44, 3), (8, 3, 6)) := by decide +kernel
theorem xr_98_55 : X_row 98 55 = some (55, (.iconst 1, 1), (0, 0, 0)) := by decide +kernel
theorem xr_98_56 : X_row 98 56 = some (56, (.iadd, 1), (0, 0, 0)) := by decide +kernel
theorem xr_98_57 : X_row 98 57 = some (57, (.putfield 44, 3), (8, 3, 6)) := by decide +kernel
theorem xr_98_60 : X_row 98 60 = some (60, (.aload_n 0, 1), (0, 0, 0)) := by decide +kernel
theorem xr_98_61 : X_row 98 61 = some (61, (.dup, 1), (0, 0, 0)) := by decide +kernel
theorem xr_98_62 : X_row 98 62 = some (62, (.getfield 47, 3), (8, 4, 8)) := by decide +kernel
theorem xr_98_65 : X_row 98 65 = some (65, (.iconst 1, 1), (0, 0, 0)) := by decide +kernel
theorem xr_98_66 : X_row 98 66 = some (66, (.iadd, 1), (0, 0, 0)) := by decide +kernel
theorem xr_98_67 : X_row 98 67 = some (67, (.putfield 47, 3), (8, 4, 8)) := by decide +kernel
theorem xr_98_70 : X_row 98 70 = some (70, (.return_, 1), (0, 0, 0)) := by decide +kernel
theorem xr_99_0 : X_row 99 0 = some (0, (.aload_n 0, 1), (0, 0, 0)) := by decide +kernel
theorem xr_99_1 : X_row 99 1 = some (1, (.getfield 50, 3), (8, 5, 10)) := by decide +kernel
theorem xr_99_4 : X_row 99 4 = some (4, (.ifCond .lt 42, 3), (0, 0, 0)) := by decide +kernel
theorem xr_99_7 : X_row 99 7 = some (7, (.aload_n 0, 1), (0, 0, 0)) := by decide +kernel
theorem xr_99_8 : X_row 99 8 = some (8, (.getfield 50, 3), (8, 5, 10)) := by decide +kernel
theorem xr_99_11 : X_row 99 11 = some (11, (.bipush 30, 2), (0, 0, 0)) := by decide +kernel
theorem xr_99_13 : X_row 99 13 = some (13, (.if_icmp .ge 33, 3), (0, 0, 0)) := by decide +kernel
theorem xr_99_16 : X_row 99 16 = some (16, (.aload_n 0, 1), (0, 0, 0)) := by decide +kernel
theorem xr_99_17 : X_row 99 17 = some (17, (.getfield 28, 3), (8, 13, 26)) := by decide +kernel
theorem xr_99_20 : X_row 99 20 = some (20, (.aload_n 0, 1), (0, 0, 0)) := by decide +kernel
theorem xr_99_21 : X_row 99 21 = some (21, (.getfield 50, 3), (8, 5, 10)) := by decide +kernel
theorem xr_99_24 : X_row 99 24 = some (24, (.iload_n 1, 1), (0, 0, 0)) := by decide +kernel
theorem xr_99_25 : X_row 99 25 = some (25, (.iastore, 1), (0, 0, 0)) := by decide +kernel
theorem xr_99_26 : X_row 99 26 = some (26, (.aload_n 0, 1), (0, 0, 0)) := by decide +kernel
theorem xr_99_27 : X_row 99 27 = some (27, (.getfield 31, 3), (8, 14, 28)) := by decide +kernel
theorem xr_99_30 : X_row 99 30 = some (30, (.aload_n 0, 1), (0, 0, 0)) := by decide +kernel
theorem xr_99_31 : X_row 99 31 = some (31, (.getfield 50, 3), (8, 5, 10)) := by decide +kernel
theorem xr_99_34 : X_row 99 34 = some (34, (.iload_n 2, 1), (0, 0, 0)) := by decide +kernel
theorem xr_99_35 : X_row 99 35 = some (35, (.iastore, 1), (0, 0, 0)) := by decide +kernel
theorem xr_99_36 : X_row 99 36 = some (36, (.aload_n 0, 1), (0, 0, 0)) := by decide +kernel
theorem xr_99_37 : X_row 99 37 = some (37, (.dup, 1), (0, 0, 0)) := by decide +kernel
theorem xr_99_38 : X_row 99 38 = some (38, (.getfield 50, 3), (8, 5, 10)) := by decide +kernel
theorem xr_99_41 : X_row 99 41 = some (41, (.iconst 1, 1), (0, 0, 0)) := by decide +kernel
theorem xr_99_42 : X_row 99 42 = some (42, (.iadd, 1), (0, 0, 0)) := by decide +kernel
theorem xr_99_43 : X_row 99 43 = some (43, (.putfield 50, 3), (8, 5, 10)) := by decide +kernel
theorem xr_99_46 : X_row 99 46 = some (46, (.return_, 1), (0, 0, 0)) := by decide +kernel
theorem xr_100_0 : X_row 100 0 = some (0, (.iload_n 1, 1), (0, 0, 0)) := by decide +kernel
theorem xr_100_1 : X_row 100 1 = some (1, (.ifCond .lt 26, 3), (0, 0, 0)) := by decide +kernel
theorem xr_100_4 : X_row 100 4 = some (4, (.iload_n 1, 1), (0, 0, 0)) := by decide +kernel
theorem xr_100_5 : X_row 100 5 = some (5, (.aload_n 0, 1), (0, 0, 0)) := by decide +kernel
theorem xr_100_6 : X_row 100 6 = some (6, (.getfield 44, 3), (8, 3, 6)) := by decide +kernel
theorem xr_100_9 : X_row 100 9 = some (9, (.if_icmp .ge 18, 3), (0, 0, 0)) := by decide +kernel
theorem xr_100_12 : X_row 100 12 = some (12, (.aload_n 0, 1), (0, 0, 0)) := by decide +kernel
theorem xr_100_13 : X_row 100 13 = some (13, (.getfield 9, 3), (8, 8, 16)) := by decide +kernel
theorem xr_100_16 : X_row 100 16 = some (16, (.iload_n 1, 1), (0, 0, 0)) := by decide +kernel
theorem xr_100_17 : X_row 100 17 = some (17, (.laload, 1), (0, 0, 0)) := by decide +kernel
theorem xr_100_18 : X_row 100 18 = some (18, (.lconst 0, 1), (0, 0, 0)) := by decide +kernel
theorem xr_100_19 : X_row 100 19 = some (19, (.lcmp, 1), (0, 0, 0)) := by decide +kernel
theorem xr_100_20 : X_row 100 20 = some (20, (.ifCond .ne 7, 3), (0, 0, 0)) := by decide +kernel
theorem xr_100_23 : X_row 100 23 = some (23, (.iconst 1, 1), (0, 0, 0)) := by decide +kernel
theorem xr_100_24 : X_row 100 24 = some (24, (.goto 4, 3), (0, 0, 0)) := by decide +kernel
theorem xr_100_27 : X_row 100 27 = some (27, (.iconst 0, 1), (0, 0, 0)) := by decide +kernel
theorem xr_100_28 : X_row 100 28 = some (28, (.ireturn, 1), (0, 0, 0)) := by decide +kernel
theorem xr_101_0 : X_row 101 0 = some (0, (.aload_n 0, 1), (0, 0, 0)) := by decide +kernel
theorem xr_101_1 : X_row 101 1 = some (1, (.iconst 0, 1), (0, 0, 0)) := by decide +kernel
theorem xr_101_2 : X_row 101 2 = some (2, (.invokevirtual 60, 3), (100, 0, 0)) := by decide +kernel
theorem xr_101_5 : X_row 101 5 = some (5, (.ifCond .eq 7, 3), (0, 0, 0)) := by decide +kernel
theorem xr_101_8 : X_row 101 8 = some (8, (.iconst 1, 1), (0, 0, 0)) := by decide +kernel
theorem xr_101_9 : X_row 101 9 = some (9, (.goto 4, 3), (0, 0, 0)) := by decide +kernel
theorem xr_101_12 : X_row 101 12 = some (12, (.iconst 0, 1), (0, 0, 0)) := by decide +kernel
theorem xr_101_13 : X_row 101 13 = some (13, (.aload_n 0, 1), (0, 0, 0)) := by decide +kernel
theorem xr_101_14 : X_row 101 14 = some (14, (.aload_n 0, 1), (0, 0, 0)) := by decide +kernel
theorem xr_101_15 : X_row 101 15 = some (15, (.getfield 44, 3), (8, 3, 6)) := by decide +kernel
theorem xr_101_18 : X_row 101 18 = some (18, (.iconst 1, 1), (0, 0, 0)) := by decide +kernel
theorem xr_101_19 : X_row 101 19 = some (19, (.isub, 1), (0, 0, 0)) := by decide +kernel
theorem xr_101_20 : X_row 101 20 = some (20, (.invokevirtual 60, 3), (100, 0, 0)) := by decide +kernel
theorem xr_101_23 : X_row 101 23 = some (23, (.ifCond .eq 7, 3), (0, 0, 0)) := by decide +kernel
theorem xr_101_26 : X_row 101 26 = some (26, (.iconst 2, 1), (0, 0, 0)) := by decide +kernel
theorem xr_101_27 : X_row 101 27 = some (27, (.goto 4, 3), (0, 0, 0)) := by decide +kernel
theorem xr_101_30 : X_row 101 30 = some (30, (.iconst 0, 1), (0, 0, 0)) := by decide +kernel
theorem xr_101_31 : X_row 101 31 = some (31, (.iadd, 1), (0, 0, 0)) := by decide +kernel
theorem xr_101_32 : X_row 101 32 = some (32, (.ireturn, 1), (0, 0, 0)) := by decide +kernel
theorem xr_102_0 : X_row 102 0 = some (0, (.aload_n 0, 1), (0, 0, 0)) := by decide +kernel
theorem xr_102_1 : X_row 102 1 = some (1, (.invokevirtual 64, 3), (101, 2, 0)) := by decide +kernel
theorem xr_102_4 : X_row 102 4 = some (4, (.ifCond .ne 7, 3), (0, 0, 0)) := by decide +kernel
theorem xr_102_7 : X_row 102 7 = some (7, (.iconst 1, 1), (0, 0, 0)) := by decide +kernel
theorem xr_102_8 : X_row 102 8 = some (8, (.goto 4, 3), (0, 0, 0)) := by decide +kernel
theorem xr_102_11 : X_row 102 11 = some (11, (.iconst 0, 1), (0, 0, 0)) := by decide +kernel
theorem xr_102_12 : X_row 102 12 = some (12, (.ireturn, 1), (0, 0, 0)) := by decide +kernel
theorem xr_103_0 : X_row 103 0 = some (0, (.iconst 0, 1), (0, 0, 0)) := by decide +kernel
theorem xr_103_1 : X_row 103 1 = some (1, (.istore_n 3, 1), (0, 0, 0)) := by decide +kernel
theorem xr_103_2 : X_row 103 2 = some (2, (.iload_n 3, 1), (0, 0, 0)) := by decide +kernel
theorem xr_103_3 : X_row 103 3 = some (3, (.aload_n 0, 1), (0, 0, 0)) := by decide +kernel
theorem xr_103_4 : X_row 103 4 = some (4, (.getfield 44, 3), (8, 3, 6)) := by decide +kernel
theorem xr_103_7 : X_row 103 7 = some (7, (.if_icmp .ge 22, 3), (0, 0, 0)) := by decide +kernel
theorem xr_103_10 : X_row 103 10 = some (10, (.aload_n 0, 1), (0, 0, 0)) := by decide +kernel
theorem xr_103_11 : X_row 103 11 = some (11, (.getfield 9, 3), (8, 8, 16)) := by decide +kernel
theorem xr_103_14 : X_row 103 14 = some (14, (.iload_n 3, 1), (0, 0, 0)) := by decide +kernel
theorem xr_103_15 : X_row 103 15 = some (15, (.laload, 1), (0, 0, 0)) := by decide +kernel
theorem xr_103_16 : X_row 103 16 = some (16, (.lload_n 1, 1), (0, 0, 0)) := by decide +kernel
theorem xr_103_17 : X_row 103 17 = some (17, (.lcmp, 1), (0, 0, 0)) := by decide +kernel
theorem xr_103_18 : X_row 103 18 = some (18, (.ifCond .ne 5, 3), (0, 0, 0)) := by decide +kernel
theorem xr_103_21 : X_row 103 21 = some (21, (.iconst 1, 1), (0, 0, 0)) := by decide +kernel
theorem xr_103_22 : X_row 103 22 = some (22, (.ireturn, 1), (0, 0, 0)) := by decide +kernel
theorem xr_103_23 : X_row 103 23 = some (23, (.iinc 3 1, 3), (0, 0, 0)) := by decide +kernel
theorem xr_103_26 : X_row 103 26 = some (26, (.goto (-24), 3), (0, 0, 0)) := by decide +kernel
theorem xr_103_29 : X_row 103 29 = some (29, (.iconst 0, 1), (0, 0, 0)) := by decide +kernel
theorem xr_103_30 : X_row 103 30 = some (30, (.ireturn, 1), (0, 0, 0)) := by decide +kernel
theorem xr_131_0 : X_row 131 0 = some (0, (.iload_n 0, 1), (0, 0, 0)) := by decide +kernel
theorem xr_131_1 : X_row 131 1 = some (1, (.iload_n 1, 1), (0, 0, 0)) := by decide +kernel
theorem xr_131_2 : X_row 131 2 = some (2, (.ishr, 1), (0, 0, 0)) := by decide +kernel
theorem xr_131_3 : X_row 131 3 = some (3, (.iconst 1, 1), (0, 0, 0)) := by decide +kernel
theorem xr_131_4 : X_row 131 4 = some (4, (.iand, 1), (0, 0, 0)) := by decide +kernel
theorem xr_131_5 : X_row 131 5 = some (5, (.iconst 1, 1), (0, 0, 0)) := by decide +kernel
theorem xr_131_6 : X_row 131 6 = some (6, (.if_icmp .ne 7, 3), (0, 0, 0)) := by decide +kernel
theorem xr_131_9 : X_row 131 9 = some (9, (.iconst 1, 1), (0, 0, 0)) := by decide +kernel
theorem xr_131_10 : X_row 131 10 = some (10, (.goto 4, 3), (0, 0, 0)) := by decide +kernel
theorem xr_131_13 : X_row 131 13 = some (13, (.iconst 0, 1), (0, 0, 0)) := by decide +kernel
theorem xr_131_14 : X_row 131 14 = some (14, (.ireturn, 1), (0, 0, 0)) := by decide +kernel
theorem xn_95 : X_nL 95 = 2 := by decide +kernel
theorem xf_95 : X_na 95 = 1 ∧ X_ci 95 = 8 ∧ X_rt 95 = none := by decide +kernel
theorem xn_96 : X_nL 96 = 3 := by decide +kernel
theorem xf_96 : X_na 96 = 1 ∧ X_ci 96 = 8 ∧ X_rt 96 = none := by decide +kernel
theorem xn_97 : X_nL 97 = 1 := by decide +kernel
theorem xf_97 : X_na 97 = 0 ∧ X_ci 97 = 8 ∧ X_rt 97 = (some .boolean) := by decide +kernel
theorem xn_98 : X_nL 98 = 2 := by decide +kernel
theorem xf_98 : X_na 98 = 1 ∧ X_ci 98 = 8 ∧ X_rt 98 = none := by decide +kernel
theorem xn_99 : X_nL 99 = 3 := by decide +kernel
theorem xf_99 : X_na 99 = 2 ∧ X_ci 99 = 8 ∧ X_rt 99 = none := by decide +kernel
theorem xn_100 : X_nL 100 = 2 := by decide +kernel
theorem xf_100 : X_na 100 = 1 ∧ X_ci 100 = 8 ∧ X_rt 100 = (some .boolean) := by decide +kernel
theorem xn_101 : X_nL 101 = 1 := by decide +kernel
theorem xf_101 : X_na 101 = 0 ∧ X_ci 101 = 8 ∧ X_rt 101 = (some .int) := by decide +kernel
theorem xn_102 : X_nL 102 = 1 := by decide +kernel
theorem xf_102 : X_na 102 = 0 ∧ X_ci 102 = 8 ∧ X_rt 102 = (some .boolean) := by decide +kernel
theorem xn_103 : X_nL 103 = 4 := by decide +kernel
theorem xf_103 : X_na 103 = 1 ∧ X_ci 103 = 8 ∧ X_rt 103 = (some .boolean) := by decide +kernel
theorem xn_131 : X_nL 131 = 2 := by decide +kernel
theorem xf_131 : X_na 131 = 2 ∧ X_ci 131 = 10 ∧ X_rt 131 = (some .boolean) := by decide +kernel
theorem X_en_r (d : Nat → Int → Int) (q : Int → Int64) : 0 ≤ X_en d q ∧ X_en d q ≤ 3 := by
  have h1 := bI_r (X_hl d q 0)
  have h2 := bI_r (X_hl d q (d 3 0 - 1))
  unfold X_en
  omega
theorem c_hasBit (sc : X_Sc) (S : X_S) (b n : Int)  : X_T sc 131 (0, [(0, .int (iI b)), (1, .int (iI n))], [], S) (fun v S' => v = some (.int (iI (bI (X_bt b n)))) ∧ S' = S) := by
  have hm : 0 ≤ (iI b >>> (iI n &&& 31)).toInt % 2 ∧ (iI b >>> (iI n &&& 31)).toInt % 2 < 2 := by omega
  refine X_QI (fun Q hQ => ?_)
  refine T_p xr_131_0 xn_131 (pc' := 1) (ls' := [(0, .int (iI b)), (1, .int (iI n))]) (st' := [.int (iI b)]) rfl ?_
  refine T_p xr_131_1 xn_131 (pc' := 2) (ls' := [(0, .int (iI b)), (1, .int (iI n))]) (st' := [.int (iI n), .int (iI b)]) rfl ?_
  refine T_zop xr_131_2 (pc' := 3) rfl (z := (iI b >>> (iI n &&& 31)).toInt) (iI_of _) ?_
  refine T_p xr_131_3 xn_131 (pc' := 4) (ls' := [(0, .int (iI b)), (1, .int (iI n))]) (st' := [.int (iI 1), .int (iI ((iI b >>> (iI n &&& 31)).toInt))]) rfl ?_
  refine T_zop xr_131_4 (pc' := 5) rfl (z := ((iI b >>> (iI n &&& 31)).toInt) % 2) (iI_m1 _) ?_
  refine T_p xr_131_5 xn_131 (pc' := 6) (ls' := [(0, .int (iI b)), (1, .int (iI n))]) (st' := [.int (iI 1), .int (iI (((iI b >>> (iI n &&& 31)).toInt) % 2))]) rfl ?_
  refine T_zicmp_ne xr_131_6 (t := 13) (pc' := 9) rfl rfl (fun c1 => ?_) (fun c1 => ?_)
  · skip
    have c1 : ¬ (((iI b >>> (iI n &&& 31)).toInt) % 2) = 1 := c1
    refine T_p xr_131_13 xn_131 (pc' := 14) (ls' := [(0, .int (iI b)), (1, .int (iI n))]) (st' := [.int (iI 0)]) rfl ?_
    refine T_iret xr_131_14 xf_131.2.2 (by decide) ?_
    refine hQ _ _ ?_
    exact ⟨by rw [bI_f (by unfold X_bt; first | assumption | omega)], rfl⟩
  · skip
    have c1 : ¬ (¬ (((iI b >>> (iI n &&& 31)).toInt) % 2) = 1) := c1
    refine T_p xr_131_9 xn_131 (pc' := 10) (ls' := [(0, .int (iI b)), (1, .int (iI n))]) (st' := [.int (iI 1)]) rfl ?_
    refine T_p xr_131_10 xn_131 (pc' := 14) (ls' := [(0, .int (iI b)), (1, .int (iI n))]) (st' := [.int (iI 1)]) rfl ?_
    refine T_iret xr_131_14 xf_131.2.2 (by decide) ?_
    refine hQ _ _ ?_
    exact ⟨by rw [bI_t (by unfold X_bt; first | assumption | omega)], rfl⟩
theorem c_isHole (sc : X_Sc) (S : X_S) (a : Nat) (d : Nat → Int → Int) (q : Int → Int64) (e : Int) (hw : C_wd S a d q) (hr : X_wr d) (he : -1 ≤ e ∧ e ≤ 8) : X_T sc 100 (0, [(0, .ref a), (1, .int (iI e))], [], S) (fun v S' => v = some (.int (iI (bI (X_hl d q e)))) ∧ S' = S) := by
  obtain ⟨⟨hr0, hr0b⟩, ⟨hr1, hr1b⟩, ⟨hr2, hr2b⟩, ⟨hr3, hr3b⟩, ⟨hr4, hr4b⟩, ⟨hr5, hr5b⟩, ⟨hr6, hr6b⟩, ⟨hr7, hr7b⟩⟩ := id hr
  refine X_QI (fun Q hQ => ?_)
  refine T_p xr_100_0 xn_100 (pc' := 1) (ls' := [(0, .ref a), (1, .int (iI e))]) (st' := [.int (iI e)]) rfl ?_
  refine T_zif_lt xr_100_1 (t := 27) (pc' := 4) rfl rfl (fun c2 => ?_) (fun c2 => ?_)
  · skip
    have c2 : e < 0 := c2
    refine T_p xr_100_27 xn_100 (pc' := 28) (ls' := [(0, .ref a), (1, .int (iI e))]) (st' := [.int (iI 0)]) rfl ?_
    refine T_iret xr_100_28 xf_100.2.2 (by decide) ?_
    refine hQ _ _ ?_
    exact ⟨by rw [bI_f (by intro h; first | omega | exact absurd h.1 (by omega) | exact absurd h.2.1 (by omega) | exact absurd h.2.2 (by assumption))], rfl⟩
  · skip
    have c2 : ¬ (e < 0) := c2
    refine T_p xr_100_4 xn_100 (pc' := 5) (ls' := [(0, .ref a), (1, .int (iI e))]) (st' := [.int (iI e)]) rfl ?_
    refine T_p xr_100_5 xn_100 (pc' := 6) (ls' := [(0, .ref a), (1, .int (iI e))]) (st' := [.ref a, .int (iI e)]) rfl ?_
    refine T_get xr_100_6 hw.1 rfl (v := .int (iI (d 3 0))) rfl (pc' := 9) rfl ?_
    refine T_zicmp_ge xr_100_9 (t := 27) (pc' := 12) rfl rfl (fun c3 => ?_) (fun c3 => ?_)
    · skip
      have c3 : (d 3 0) ≤ e := c3
      refine T_p xr_100_27 xn_100 (pc' := 28) (ls' := [(0, .ref a), (1, .int (iI e))]) (st' := [.int (iI 0)]) rfl ?_
      refine T_iret xr_100_28 xf_100.2.2 (by decide) ?_
      refine hQ _ _ ?_
      exact ⟨by rw [bI_f (by intro h; first | omega | exact absurd h.1 (by omega) | exact absurd h.2.1 (by omega) | exact absurd h.2.2 (by assumption))], rfl⟩
    · skip
      have c3 : ¬ ((d 3 0) ≤ e) := c3
      refine T_p xr_100_12 xn_100 (pc' := 13) (ls' := [(0, .ref a), (1, .int (iI e))]) (st' := [.ref a]) rfl ?_
      refine T_get xr_100_13 hw.1 rfl (v := .ref (a + 1)) rfl (pc' := 16) rfl ?_
      refine T_p xr_100_16 xn_100 (pc' := 17) (ls' := [(0, .ref a), (1, .int (iI e))]) (st' := [.int (iI e), .ref (a + 1)]) rfl ?_
      refine T_zlald xr_100_17 hw.2.1 (pc' := 18) rfl ?_
      refine T_p xr_100_18 xn_100 (pc' := 19) (ls' := [(0, .ref a), (1, .int (iI e))]) (st' := [.long (0 : Int64), .long (q e)]) rfl ?_
      refine T_lc_ne xr_100_19 xr_100_20 (t := 27) (pc' := 23) rfl rfl (fun c4 => ?_) (fun c4 => ?_)
      · skip
        have c4 : ¬ (q e) = (0 : Int64) := c4
        refine T_p xr_100_27 xn_100 (pc' := 28) (ls' := [(0, .ref a), (1, .int (iI e))]) (st' := [.int (iI 0)]) rfl ?_
        refine T_iret xr_100_28 xf_100.2.2 (by decide) ?_
        refine hQ _ _ ?_
        exact ⟨by rw [bI_f (by intro h; first | omega | exact absurd h.1 (by omega) | exact absurd h.2.1 (by omega) | exact absurd h.2.2 (by assumption))], rfl⟩
      · skip
        have c4 : ¬ (¬ (q e) = (0 : Int64)) := c4
        refine T_p xr_100_23 xn_100 (pc' := 24) (ls' := [(0, .ref a), (1, .int (iI e))]) (st' := [.int (iI 1)]) rfl ?_
        refine T_p xr_100_24 xn_100 (pc' := 28) (ls' := [(0, .ref a), (1, .int (iI e))]) (st' := [.int (iI 1)]) rfl ?_
        refine T_iret xr_100_28 xf_100.2.2 (by decide) ?_
        refine hQ _ _ ?_
        exact ⟨by rw [bI_t ⟨by omega, by omega, by first | assumption | exact Classical.not_not.mp (by assumption)⟩], rfl⟩
theorem c_ends (sc : X_Sc) (S : X_S) (a : Nat) (d : Nat → Int → Int) (q : Int → Int64) (hw : C_wd S a d q) (hr : X_wr d) : X_T sc 101 (0, [(0, .ref a)], [], S) (fun v S' => v = some (.int (iI (X_en d q))) ∧ S' = S) := by
  obtain ⟨⟨hr0, hr0b⟩, ⟨hr1, hr1b⟩, ⟨hr2, hr2b⟩, ⟨hr3, hr3b⟩, ⟨hr4, hr4b⟩, ⟨hr5, hr5b⟩, ⟨hr6, hr6b⟩, ⟨hr7, hr7b⟩⟩ := id hr
  refine X_QI (fun Q hQ => ?_)
  refine T_p xr_101_0 xn_101 (pc' := 1) (ls' := [(0, .ref a)]) (st' := [.ref a]) rfl ?_
  refine T_p xr_101_1 xn_101 (pc' := 2) (ls' := [(0, .ref a)]) (st' := [.int (iI 0), .ref a]) rfl ?_
  refine T_cv (S := S) (q := a) xr_101_2 xf_100.1 xf_100.2.1 xn_100 (as := [.int (iI 0)]) (r := []) rfl hw.1 (Nat.le_of_ble_eq_true rfl) (Nat.le_of_ble_eq_true rfl) (pc' := 5) rfl (ls' := [(0, .ref a), (1, .int (iI 0))]) rfl ?_
  refine T_mono (c_isHole sc S a d q 0 ⟨hw.1, hw.2.1, hw.2.2.1, hw.2.2.2.1, hw.2.2.2.2.1, hw.2.2.2.2.2.1, hw.2.2.2.2.2.2.1, hw.2.2.2.2.2.2.2⟩ hr (by omega)) (fun v6 S7 h5 => ?_)
  obtain ⟨h8, h9⟩ := h5
  rw [h8, h9]
  show X_T sc 101 (5, [(0, .ref a)], [.int (iI (bI (X_hl d q 0)))], S) _
  refine T_bif_eq xr_101_5 (t := 12) (pc' := 8) rfl rfl (fun c10 => ?_) (fun c10 => ?_)
  · skip
    have c10 : ¬ (X_hl d q 0) := c10
    refine T_p xr_101_12 xn_101 (pc' := 13) (ls' := [(0, .ref a)]) (st' := [.int (iI 0)]) rfl ?_
    refine T_p xr_101_13 xn_101 (pc' := 14) (ls' := [(0, .ref a)]) (st' := [.ref a, .int (iI 0)]) rfl ?_
    refine T_p xr_101_14 xn_101 (pc' := 15) (ls' := [(0, .ref a)]) (st' := [.ref a, .ref a, .int (iI 0)]) rfl ?_
    refine T_get xr_101_15 hw.1 rfl (v := .int (iI (d 3 0))) rfl (pc' := 18) rfl ?_
    refine T_p xr_101_18 xn_101 (pc' := 19) (ls' := [(0, .ref a)]) (st' := [.int (iI 1), .int (iI (d 3 0)), .ref a, .int (iI 0)]) rfl ?_
    refine T_zisub xr_101_19 (z := (d 3 0) - 1) rfl (pc' := 20) rfl ?_
    refine T_cv (S := S) (q := a) xr_101_20 xf_100.1 xf_100.2.1 xn_100 (as := [.int (iI ((d 3 0) - 1))]) (r := [.int (iI 0)]) rfl hw.1 (Nat.le_of_ble_eq_true rfl) (Nat.le_of_ble_eq_true rfl) (pc' := 23) rfl (ls' := [(0, .ref a), (1, .int (iI ((d 3 0) - 1)))]) rfl ?_
    refine T_mono (c_isHole sc S a d q ((d 3 0) - 1) ⟨hw.1, hw.2.1, hw.2.2.1, hw.2.2.2.1, hw.2.2.2.2.1, hw.2.2.2.2.2.1, hw.2.2.2.2.2.2.1, hw.2.2.2.2.2.2.2⟩ hr (by omega)) (fun v12 S13 h11 => ?_)
    obtain ⟨h14, h15⟩ := h11
    rw [h14, h15]
    show X_T sc 101 (23, [(0, .ref a)], [.int (iI (bI (X_hl d q ((d 3 0) - 1)))), .int (iI 0)], S) _
    refine T_bif_eq xr_101_23 (t := 30) (pc' := 26) rfl rfl (fun c16 => ?_) (fun c16 => ?_)
    · skip
      have c16 : ¬ (X_hl d q ((d 3 0) - 1)) := c16
      refine T_p xr_101_30 xn_101 (pc' := 31) (ls' := [(0, .ref a)]) (st' := [.int (iI 0), .int (iI 0)]) rfl ?_
      refine T_ziadd xr_101_31 (z := 0) (by decide) (pc' := 32) rfl ?_
      refine T_iret xr_101_32 xf_101.2.2 rfl ?_
      refine hQ _ _ ?_
      exact ⟨by unfold X_en; first | rw [bI_t (by assumption), bI_t (by assumption)]; rfl | rw [bI_t (by assumption), bI_f (by assumption)]; rfl | rw [bI_f (by assumption), bI_t (by assumption)]; rfl | rw [bI_f (by assumption), bI_f (by assumption)]; rfl, rfl⟩
    · skip
      have c16 : (X_hl d q ((d 3 0) - 1)) := c16
      refine T_p xr_101_26 xn_101 (pc' := 27) (ls' := [(0, .ref a)]) (st' := [.int (iI 2), .int (iI 0)]) rfl ?_
      refine T_p xr_101_27 xn_101 (pc' := 31) (ls' := [(0, .ref a)]) (st' := [.int (iI 2), .int (iI 0)]) rfl ?_
      refine T_ziadd xr_101_31 (z := 2) (by decide) (pc' := 32) rfl ?_
      refine T_iret xr_101_32 xf_101.2.2 rfl ?_
      refine hQ _ _ ?_
      exact ⟨by unfold X_en; first | rw [bI_t (by assumption), bI_t (by assumption)]; rfl | rw [bI_t (by assumption), bI_f (by assumption)]; rfl | rw [bI_f (by assumption), bI_t (by assumption)]; rfl | rw [bI_f (by assumption), bI_f (by assumption)]; rfl, rfl⟩
  · skip
    have c10 : (X_hl d q 0) := c10
    refine T_p xr_101_8 xn_101 (pc' := 9) (ls' := [(0, .ref a)]) (st' := [.int (iI 1)]) rfl ?_
    refine T_p xr_101_9 xn_101 (pc' := 13) (ls' := [(0, .ref a)]) (st' := [.int (iI 1)]) rfl ?_
    refine T_p xr_101_13 xn_101 (pc' := 14) (ls' := [(0, .ref a)]) (st' := [.ref a, .int (iI 1)]) rfl ?_
    refine T_p xr_101_14 xn_101 (pc' := 15) (ls' := [(0, .ref a)]) (st' := [.ref a, .ref a, .int (iI 1)]) rfl ?_
    refine T_get xr_101_15 hw.1 rfl (v := .int (iI (d 3 0))) rfl (pc' := 18) rfl ?_
    refine T_p xr_101_18 xn_101 (pc' := 19) (ls' := [(0, .ref a)]) (st' := [.int (iI 1), .int (iI (d 3 0)), .ref a, .int (iI 1)]) rfl ?_
    refine T_zisub xr_101_19 (z := (d 3 0) - 1) rfl (pc' := 20) rfl ?_
    refine T_cv (S := S) (q := a) xr_101_20 xf_100.1 xf_100.2.1 xn_100 (as := [.int (iI ((d 3 0) - 1))]) (r := [.int (iI 1)]) rfl hw.1 (Nat.le_of_ble_eq_true rfl) (Nat.le_of_ble_eq_true rfl) (pc' := 23) rfl (ls' := [(0, .ref a), (1, .int (iI ((d 3 0) - 1)))]) rfl ?_
    refine T_mono (c_isHole sc S a d q ((d 3 0) - 1) ⟨hw.1, hw.2.1, hw.2.2.1, hw.2.2.2.1, hw.2.2.2.2.1, hw.2.2.2.2.2.1, hw.2.2.2.2.2.2.1, hw.2.2.2.2.2.2.2⟩ hr (by omega)) (fun v18 S19 h17 => ?_)
    obtain ⟨h20, h21⟩ := h17
    rw [h20, h21]
    show X_T sc 101 (23, [(0, .ref a)], [.int (iI (bI (X_hl d q ((d 3 0) - 1)))), .int (iI 1)], S) _
    refine T_bif_eq xr_101_23 (t := 30) (pc' := 26) rfl rfl (fun c22 => ?_) (fun c22 => ?_)
    · skip
      have c22 : ¬ (X_hl d q ((d 3 0) - 1)) := c22
      refine T_p xr_101_30 xn_101 (pc' := 31) (ls' := [(0, .ref a)]) (st' := [.int (iI 0), .int (iI 1)]) rfl ?_
      refine T_ziadd xr_101_31 (z := 1) (by decide) (pc' := 32) rfl ?_
      refine T_iret xr_101_32 xf_101.2.2 rfl ?_
      refine hQ _ _ ?_
      exact ⟨by unfold X_en; first | rw [bI_t (by assumption), bI_t (by assumption)]; rfl | rw [bI_t (by assumption), bI_f (by assumption)]; rfl | rw [bI_f (by assumption), bI_t (by assumption)]; rfl | rw [bI_f (by assumption), bI_f (by assumption)]; rfl, rfl⟩
    · skip
      have c22 : (X_hl d q ((d 3 0) - 1)) := c22
      refine T_p xr_101_26 xn_101 (pc' := 27) (ls' := [(0, .ref a)]) (st' := [.int (iI 2), .int (iI 1)]) rfl ?_
      refine T_p xr_101_27 xn_101 (pc' := 31) (ls' := [(0, .ref a)]) (st' := [.int (iI 2), .int (iI 1)]) rfl ?_
      refine T_ziadd xr_101_31 (z := 3) (by decide) (pc' := 32) rfl ?_
      refine T_iret xr_101_32 xf_101.2.2 rfl ?_
      refine hQ _ _ ?_
      exact ⟨by unfold X_en; first | rw [bI_t (by assumption), bI_t (by assumption)]; rfl | rw [bI_t (by assumption), bI_f (by assumption)]; rfl | rw [bI_f (by assumption), bI_t (by assumption)]; rfl | rw [bI_f (by assumption), bI_f (by assumption)]; rfl, rfl⟩
theorem c_isClosed (sc : X_Sc) (S : X_S) (a : Nat) (d : Nat → Int → Int) (q : Int → Int64) (hw : C_wd S a d q) (hr : X_wr d) : X_T sc 102 (0, [(0, .ref a)], [], S) (fun v S' => v = some (.int (iI (bI (X_en d q = 0)))) ∧ S' = S) := by
  obtain ⟨⟨hr0, hr0b⟩, ⟨hr1, hr1b⟩, ⟨hr2, hr2b⟩, ⟨hr3, hr3b⟩, ⟨hr4, hr4b⟩, ⟨hr5, hr5b⟩, ⟨hr6, hr6b⟩, ⟨hr7, hr7b⟩⟩ := id hr
  have hen := X_en_r d q
  refine X_QI (fun Q hQ => ?_)
  refine T_p xr_102_0 xn_102 (pc' := 1) (ls' := [(0, .ref a)]) (st' := [.ref a]) rfl ?_
  refine T_cv (S := S) (q := a) xr_102_1 xf_101.1 xf_101.2.1 xn_101 (as := []) (r := []) rfl hw.1 (Nat.le_of_ble_eq_true rfl) (Nat.le_of_ble_eq_true rfl) (pc' := 4) rfl (ls' := [(0, .ref a)]) rfl ?_
  refine T_mono (c_ends sc S a d q ⟨hw.1, hw.2.1, hw.2.2.1, hw.2.2.2.1, hw.2.2.2.2.1, hw.2.2.2.2.2.1, hw.2.2.2.2.2.2.1, hw.2.2.2.2.2.2.2⟩ hr) (fun v24 S25 h23 => ?_)
  obtain ⟨h26, h27⟩ := h23
  rw [h26, h27]
  show X_T sc 102 (4, [(0, .ref a)], [.int (iI (X_en d q))], S) _
  refine T_zif_ne xr_102_4 (t := 11) (pc' := 7) rfl rfl (fun c28 => ?_) (fun c28 => ?_)
  · skip
    have c28 : ¬ (X_en d q) = 0 := c28
    refine T_p xr_102_11 xn_102 (pc' := 12) (ls' := [(0, .ref a)]) (st' := [.int (iI 0)]) rfl ?_
    refine T_iret xr_102_12 xf_102.2.2 (by decide) ?_
    refine hQ _ _ ?_
    exact ⟨by rw [bI_f (by first | assumption | omega)], rfl⟩
  · skip
    have c28 : ¬ (¬ (X_en d q) = 0) := c28
    refine T_p xr_102_7 xn_102 (pc' := 8) (ls' := [(0, .ref a)]) (st' := [.int (iI 1)]) rfl ?_
    refine T_p xr_102_8 xn_102 (pc' := 12) (ls' := [(0, .ref a)]) (st' := [.int (iI 1)]) rfl ?_
    refine T_iret xr_102_12 xf_102.2.2 (by decide) ?_
    refine hQ _ _ ?_
    exact ⟨by rw [bI_t (by first | assumption | omega)], rfl⟩
theorem c_clearw (sc : X_Sc) (S : X_S) (a : Nat) (d : Nat → Int → Int) (q : Int → Int64) (rk : Int) (hw : C_wd S a d q) (hr : X_wr d) : X_T sc 95 (0, [(0, .ref a), (1, .int (iI rk))], [], S) (fun v S' => v = none ∧ C_wd S' a (X_wu (X_wu (X_wu (X_wu (X_wu (X_wu (X_wu (X_wu d 0 (fun _ => rk)) 1 (fun _ => 0)) 2 (fun _ => 0)) 3 (fun _ => 0)) 4 (fun _ => 0)) 5 (fun _ => -1)) 6 (fun _ => 0)) 7 (fun _ => 0)) q ∧ X_Fr (fun r => a ≤ r ∧ r ≤ a + 7) S S') := by
  obtain ⟨⟨hr0, hr0b⟩, ⟨hr1, hr1b⟩, ⟨hr2, hr2b⟩, ⟨hr3, hr3b⟩, ⟨hr4, hr4b⟩, ⟨hr5, hr5b⟩, ⟨hr6, hr6b⟩, ⟨hr7, hr7b⟩⟩ := id hr
  refine X_QI (fun Q hQ => ?_)
  refine T_p xr_95_0 xn_95 (pc' := 1) (ls' := [(0, .ref a), (1, .int (iI rk))]) (st' := [.ref a]) rfl ?_
  refine T_p xr_95_1 xn_95 (pc' := 2) (ls' := [(0, .ref a), (1, .int (iI rk))]) (st' := [.int (iI rk), .ref a]) rfl ?_
  refine T_put xr_95_2 hw.1 rfl (Nat.le_of_ble_eq_true rfl) rfl (fs' := [.int (iI rk), .int (iI (d 1 0)), .int (iI (d 2 0)), .int (iI (d 3 0)), .int (iI (d 4 0)), .int (iI (d 5 0)), .int (iI (d 6 0)), .int (iI (d 7 0)), .ref (a + 1), .ref (a + 2), .ref (a + 3), .ref (a + 4), .ref (a + 5), .ref (a + 6), .ref (a + 7)]) rfl (pc' := 5) rfl (fun S29 h30 n31 e32 => ?_)
  refine T_p xr_95_5 xn_95 (pc' := 6) (ls' := [(0, .ref a), (1, .int (iI rk))]) (st' := [.ref a]) rfl ?_
  refine T_p xr_95_6 xn_95 (pc' := 7) (ls' := [(0, .ref a), (1, .int (iI rk))]) (st' := [.int (iI 0), .ref a]) rfl ?_
  refine T_put xr_95_7 h30 rfl (Nat.le_of_ble_eq_true rfl) rfl (fs' := [.int (iI rk), .int (iI 0), .int (iI (d 2 0)), .int (iI (d 3 0)), .int (iI (d 4 0)), .int (iI (d 5 0)), .int (iI (d 6 0)), .int (iI (d 7 0)), .ref (a + 1), .ref (a + 2), .ref (a + 3), .ref (a + 4), .ref (a + 5), .ref (a + 6), .ref (a + 7)]) rfl (pc' := 10) rfl (fun S33 h34 n35 e36 => ?_)
  refine T_p xr_95_10 xn_95 (pc' := 11) (ls' := [(0, .ref a), (1, .int (iI rk))]) (st' := [.ref a]) rfl ?_
  refine T_p xr_95_11 xn_95 (pc' := 12) (ls' := [(0, .ref a), (1, .int (iI rk))]) (st' := [.int (iI 0), .ref a]) rfl ?_
  refine T_put xr_95_12 h34 rfl (Nat.le_of_ble_eq_true rfl) rfl (fs' := [.int (iI rk), .int (iI 0), .int (iI 0), .int (iI (d 3 0)), .int (iI (d 4 0)), .int (iI (d 5 0)), .int (iI (d 6 0)), .int (iI (d 7 0)), .ref (a + 1), .ref (a + 2), .ref (a + 3), .ref (a + 4), .ref (a + 5), .ref (a + 6), .ref (a + 7)]) rfl (pc' := 15) rfl (fun S37 h38 n39 e40 => ?_)
  refine T_p xr_95_15 xn_95 (pc' := 16) (ls' := [(0, .ref a), (1, .int (iI rk))]) (st' := [.ref a]) rfl ?_
  refine T_p xr_95_16 xn_95 (pc' := 17) (ls' := [(0, .ref a), (1, .int (iI rk))]) (st' := [.int (iI 0), .ref a]) rfl ?_
  refine T_put xr_95_17 h38 rfl (Nat.le_of_ble_eq_true rfl) rfl (fs' := [.int (iI rk), .int (iI 0), .int (iI 0), .int (iI 0), .int (iI (d 4 0)), .int (iI (d 5 0)), .int (iI (d 6 0)), .int (iI (d 7 0)), .ref (a + 1), .ref (a + 2), .ref (a + 3), .ref (a + 4), .ref (a + 5), .ref (a + 6), .ref (a + 7)]) rfl (pc' := 20) rfl (fun S41 h42 n43 e44 => ?_)
  refine T_p xr_95_20 xn_95 (pc' := 21) (ls' := [(0, .ref a), (1, .int (iI rk))]) (st' := [.ref a]) rfl ?_
  refine T_p xr_95_21 xn_95 (pc' := 22) (ls' := [(0, .ref a), (1, .int (iI rk))]) (st' := [.int (iI 0), .ref a]) rfl ?_
  refine T_put xr_95_22 h42 rfl (Nat.le_of_ble_eq_true rfl) rfl (fs' := [.int (iI rk), .int (iI 0), .int (iI 0), .int (iI 0), .int (iI 0), .int (iI (d 5 0)), .int (iI (d 6 0)), .int (iI (d 7 0)), .ref (a + 1), .ref (a + 2), .ref (a + 3), .ref (a + 4), .ref (a + 5), .ref (a + 6), .ref (a + 7)]) rfl (pc' := 25) rfl (fun S45 h46 n47 e48 => ?_)
  refine T_p xr_95_25 xn_95 (pc' := 26) (ls' := [(0, .ref a), (1, .int (iI rk))]) (st' := [.ref a]) rfl ?_
  refine T_p xr_95_26 xn_95 (pc' := 27) (ls' := [(0, .ref a), (1, .int (iI rk))]) (st' := [.int (iI (-1)), .ref a]) rfl ?_
  refine T_put xr_95_27 h46 rfl (Nat.le_of_ble_eq_true rfl) rfl (fs' := [.int (iI rk), .int (iI 0), .int (iI 0), .int (iI 0), .int (iI 0), .int (iI (-1)), .int (iI (d 6 0)), .int (iI (d 7 0)), .ref (a + 1), .ref (a + 2), .ref (a + 3), .ref (a + 4), .ref (a + 5), .ref (a + 6), .ref (a + 7)]) rfl (pc' := 30) rfl (fun S49 h50 n51 e52 => ?_)
  refine T_p xr_95_30 xn_95 (pc' := 31) (ls' := [(0, .ref a), (1, .int (iI rk))]) (st' := [.ref a]) rfl ?_
  refine T_p xr_95_31 xn_95 (pc' := 32) (ls' := [(0, .ref a), (1, .int (iI rk))]) (st' := [.int (iI 0), .ref a]) rfl ?_
  refine T_put xr_95_32 h50 rfl (Nat.le_of_ble_eq_true rfl) rfl (fs' := [.int (iI rk), .int (iI 0), .int (iI 0), .int (iI 0), .int (iI 0), .int (iI (-1)), .int (iI 0), .int (iI (d 7 0)), .ref (a + 1), .ref (a + 2), .ref (a + 3), .ref (a + 4), .ref (a + 5), .ref (a + 6), .ref (a + 7)]) rfl (pc' := 35) rfl (fun S53 h54 n55 e56 => ?_)
  refine T_p xr_95_35 xn_95 (pc' := 36) (ls' := [(0, .ref a), (1, .int (iI rk))]) (st' := [.ref a]) rfl ?_
  refine T_p xr_95_36 xn_95 (pc' := 37) (ls' := [(0, .ref a), (1, .int (iI rk))]) (st' := [.int (iI 0), .ref a]) rfl ?_
  refine T_put xr_95_37 h54 rfl (Nat.le_of_ble_eq_true rfl) rfl (fs' := [.int (iI rk), .int (iI 0), .int (iI 0), .int (iI 0), .int (iI 0), .int (iI (-1)), .int (iI 0), .int (iI 0), .ref (a + 1), .ref (a + 2), .ref (a + 3), .ref (a + 4), .ref (a + 5), .ref (a + 6), .ref (a + 7)]) rfl (pc' := 40) rfl (fun S57 h58 n59 e60 => ?_)
  refine T_vret xr_95_40 xf_95.2.2 ?_
  refine hQ _ _ ?_
  have h61 := (n59 (a + 1) (by first | exact (fun h => absurd (Nat.add_left_cancel h) (by decide)) | omega)).trans ((n55 (a + 1) (by first | exact (fun h => absurd (Nat.add_left_cancel h) (by decide)) | omega)).trans ((n51 (a + 1) (by first | exact (fun h => absurd (Nat.add_left_cancel h) (by decide)) | omega)).trans ((n47 (a + 1) (by first | exact (fun h => absurd (Nat.add_left_cancel h) (by decide)) | omega)).trans ((n43 (a + 1) (by first | exact (fun h => absurd (Nat.add_left_cancel h) (by decide)) | omega)).trans ((n39 (a + 1) (by first | exact (fun h => absurd (Nat.add_left_cancel h) (by decide)) | omega)).trans ((n35 (a + 1) (by first | exact (fun h => absurd (Nat.add_left_cancel h) (by decide)) | omega)).trans ((n31 (a + 1) (by first | exact (fun h => absurd (Nat.add_left_cancel h) (by decide)) | omega)).trans (hw.2.1))))))))
  have h62 := (n59 (a + 2) (by first | exact (fun h => absurd (Nat.add_left_cancel h) (by decide)) | omega)).trans ((n55 (a + 2) (by first | exact (fun h => absurd (Nat.add_left_cancel h) (by decide)) | omega)).trans ((n51 (a + 2) (by first | exact (fun h => absurd (Nat.add_left_cancel h) (by decide)) | omega)).trans ((n47 (a + 2) (by first | exact (fun h => absurd (Nat.add_left_cancel h) (by decide)) | omega)).trans ((n43 (a + 2) (by first | exact (fun h => absurd (Nat.add_left_cancel h) (by decide)) | omega)).trans ((n39 (a + 2) (by first | exact (fun h => absurd (Nat.add_left_cancel h) (by decide)) | omega)).trans ((n35 (a + 2) (by first | exact (fun h => absurd (Nat.add_left_cancel h) (by decide)) | omega)).trans ((n31 (a + 2) (by first | exact (fun h => absurd (Nat.add_left_cancel h) (by decide)) | omega)).trans (hw.2.2.1))))))))
  have h63 := (n59 (a + 3) (by first | exact (fun h => absurd (Nat.add_left_cancel h) (by decide)) | omega)).trans ((n55 (a + 3) (by first | exact (fun h => absurd (Nat.add_left_cancel h) (by decide)) | omega)).trans ((n51 (a + 3) (by first | exact (fun h => absurd (Nat.add_left_cancel h) (by decide)) | omega)).trans ((n47 (a + 3) (by first | exact (fun h => absurd (Nat.add_left_cancel h) (by decide)) | omega)).trans ((n43 (a + 3) (by first | exact (fun h => absurd (Nat.add_left_cancel h) (by decide)) | omega)).trans ((n39 (a + 3) (by first | exact (fun h => absurd (Nat.add_left_cancel h) (by decide)) | omega)).trans ((n35 (a + 3) (by first | exact (fun h => absurd (Nat.add_left_cancel h) (by decide)) | omega)).trans ((n31 (a + 3) (by first | exact (fun h => absurd (Nat.add_left_cancel h) (by decide)) | omega)).trans (hw.2.2.2.1))))))))
  have h64 := (n59 (a + 4) (by first | exact (fun h => absurd (Nat.add_left_cancel h) (by decide)) | omega)).trans ((n55 (a + 4) (by first | exact (fun h => absurd (Nat.add_left_cancel h) (by decide)) | omega)).trans ((n51 (a + 4) (by first | exact (fun h => absurd (Nat.add_left_cancel h) (by decide)) | omega)).trans ((n47 (a + 4) (by first | exact (fun h => absurd (Nat.add_left_cancel h) (by decide)) | omega)).trans ((n43 (a + 4) (by first | exact (fun h => absurd (Nat.add_left_cancel h) (by decide)) | omega)).trans ((n39 (a + 4) (by first | exact (fun h => absurd (Nat.add_left_cancel h) (by decide)) | omega)).trans ((n35 (a + 4) (by first | exact (fun h => absurd (Nat.add_left_cancel h) (by decide)) | omega)).trans ((n31 (a + 4) (by first | exact (fun h => absurd (Nat.add_left_cancel h) (by decide)) | omega)).trans (hw.2.2.2.2.1))))))))
  have h65 := (n59 (a + 5) (by first | exact (fun h => absurd (Nat.add_left_cancel h) (by decide)) | omega)).trans ((n55 (a + 5) (by first | exact (fun h => absurd (Nat.add_left_cancel h) (by decide)) | omega)).trans ((n51 (a + 5) (by first | exact (fun h => absurd (Nat.add_left_cancel h) (by decide)) | omega)).trans ((n47 (a + 5) (by first | exact (fun h => absurd (Nat.add_left_cancel h) (by decide)) | omega)).trans ((n43 (a + 5) (by first | exact (fun h => absurd (Nat.add_left_cancel h) (by decide)) | omega)).trans ((n39 (a + 5) (by first | exact (fun h => absurd (Nat.add_left_cancel h) (by decide)) | omega)).trans ((n35 (a + 5) (by first | exact (fun h => absurd (Nat.add_left_cancel h) (by decide)) | omega)).trans ((n31 (a + 5) (by first | exact (fun h => absurd (Nat.add_left_cancel h) (by decide)) | omega)).trans (hw.2.2.2.2.2.1))))))))
  have h66 := (n59 (a + 6) (by first | exact (fun h => absurd (Nat.add_left_cancel h) (by decide)) | omega)).trans ((n55 (a + 6) (by first | exact (fun h => absurd (Nat.add_left_cancel h) (by decide)) | omega)).trans ((n51 (a + 6) (by first | exact (fun h => absurd (Nat.add_left_cancel h) (by decide)) | omega)).trans ((n47 (a + 6) (by first | exact (fun h => absurd (Nat.add_left_cancel h) (by decide)) | omega)).trans ((n43 (a + 6) (by first | exact (fun h => absurd (Nat.add_left_cancel h) (by decide)) | omega)).trans ((n39 (a + 6) (by first | exact (fun h => absurd (Nat.add_left_cancel h) (by decide)) | omega)).trans ((n35 (a + 6) (by first | exact (fun h => absurd (Nat.add_left_cancel h) (by decide)) | omega)).trans ((n31 (a + 6) (by first | exact (fun h => absurd (Nat.add_left_cancel h) (by decide)) | omega)).trans (hw.2.2.2.2.2.2.1))))))))
  have h67 := (n59 (a + 7) (by first | exact (fun h => absurd (Nat.add_left_cancel h) (by decide)) | omega)).trans ((n55 (a + 7) (by first | exact (fun h => absurd (Nat.add_left_cancel h) (by decide)) | omega)).trans ((n51 (a + 7) (by first | exact (fun h => absurd (Nat.add_left_cancel h) (by decide)) | omega)).trans ((n47 (a + 7) (by first | exact (fun h => absurd (Nat.add_left_cancel h) (by decide)) | omega)).trans ((n43 (a + 7) (by first | exact (fun h => absurd (Nat.add_left_cancel h) (by decide)) | omega)).trans ((n39 (a + 7) (by first | exact (fun h => absurd (Nat.add_left_cancel h) (by decide)) | omega)).trans ((n35 (a + 7) (by first | exact (fun h => absurd (Nat.add_left_cancel h) (by decide)) | omega)).trans ((n31 (a + 7) (by first | exact (fun h => absurd (Nat.add_left_cancel h) (by decide)) | omega)).trans (hw.2.2.2.2.2.2.2))))))))
  exact ⟨rfl, ⟨h58, h61, h62, h63, h64, h65, h66, h67⟩, ((((((((X_Fr.rf).tr (X_Fr.of n31 e32 (by first | decide | exact ⟨Nat.le_add_right _ _, Nat.add_le_add_left (by decide) _⟩ | omega))).tr (X_Fr.of n35 e36 (by first | decide | exact ⟨Nat.le_add_right _ _, Nat.add_le_add_left (by decide) _⟩ | omega))).tr (X_Fr.of n39 e40 (by first | decide | exact ⟨Nat.le_add_right _ _, Nat.add_le_add_left (by decide) _⟩ | omega))).tr (X_Fr.of n43 e44 (by first | decide | exact ⟨Nat.le_add_right _ _, Nat.add_le_add_left (by decide) _⟩ | omega))).tr (X_Fr.of n47 e48 (by first | decide | exact ⟨Nat.le_add_right _ _, Nat.add_le_add_left (by decide) _⟩ | omega))).tr (X_Fr.of n51 e52 (by first | decide | exact ⟨Nat.le_add_right _ _, Nat.add_le_add_left (by decide) _⟩ | omega))).tr (X_Fr.of n55 e56 (by first | decide | exact ⟨Nat.le_add_right _ _, Nat.add_le_add_left (by decide) _⟩ | omega))).tr (X_Fr.of n59 e60 (by first | decide | exact ⟨Nat.le_add_right _ _, Nat.add_le_add_left (by decide) _⟩ | omega))⟩
theorem c_addPart (sc : X_Sc) (S : X_S) (a : Nat) (d : Nat → Int → Int) (q : Int → Int64) (t : Int64) (hw : C_wd S a d q) (hr : X_wr d) (hs : d 3 0 < 8) : X_T sc 96 (0, [(0, .ref a), (1, .long t)], [], S) (fun v S' => v = none ∧ C_wd S' a (X_wu d 3 (fun _ => d 3 0 + 1)) (X_ug q (d 3 0) t) ∧ X_Fr (fun r => a ≤ r ∧ r ≤ a + 7) S S') := by
  obtain ⟨⟨hr0, hr0b⟩, ⟨hr1, hr1b⟩, ⟨hr2, hr2b⟩, ⟨hr3, hr3b⟩, ⟨hr4, hr4b⟩, ⟨hr5, hr5b⟩, ⟨hr6, hr6b⟩, ⟨hr7, hr7b⟩⟩ := id hr
  refine X_QI (fun Q hQ => ?_)
  refine T_p xr_96_0 xn_96 (pc' := 1) (ls' := [(0, .ref a), (1, .long t)]) (st' := [.ref a]) rfl ?_
  refine T_get xr_96_1 hw.1 rfl (v := .int (iI (d 3 0))) rfl (pc' := 4) rfl ?_
  refine T_p xr_96_4 xn_96 (pc' := 6) (ls' := [(0, .ref a), (1, .long t)]) (st' := [.int (iI 8), .int (iI (d 3 0))]) rfl ?_
  refine T_zicmp_ge xr_96_6 (t := 29) (pc' := 9) rfl rfl (fun c68 => ?_) (fun c68 => ?_)
  · skip
    have c68 : 8 ≤ (d 3 0) := c68
    exact (show False by omega).elim
  · skip
    have c68 : ¬ (8 ≤ (d 3 0)) := c68
    refine T_p xr_96_9 xn_96 (pc' := 10) (ls' := [(0, .ref a), (1, .long t)]) (st' := [.ref a]) rfl ?_
    refine T_get xr_96_10 hw.1 rfl (v := .ref (a + 1)) rfl (pc' := 13) rfl ?_
    refine T_p xr_96_13 xn_96 (pc' := 14) (ls' := [(0, .ref a), (1, .long t)]) (st' := [.ref a, .ref (a + 1)]) rfl ?_
    refine T_get xr_96_14 hw.1 rfl (v := .int (iI (d 3 0))) rfl (pc' := 17) rfl ?_
    refine T_p xr_96_17 xn_96 (pc' := 18) (ls' := [(0, .ref a), (1, .long t)]) (st' := [.long t, .int (iI (d 3 0)), .ref (a + 1)]) rfl ?_
    refine T_zlast xr_96_18 hw.2.1 (pc' := 19) rfl (fun S69 h70 n71 e72 => ?_)
    refine T_p xr_96_19 xn_96 (pc' := 20) (ls' := [(0, .ref a), (1, .long t)]) (st' := [.ref a]) rfl ?_
    refine T_p xr_96_20 xn_96 (pc' := 21) (ls' := [(0, .ref a), (1, .long t)]) (st' := [.ref a, .ref a]) rfl ?_
    have h73 := (n71 a (by omega)).trans (hw.1)
    refine T_get xr_96_21 h73 rfl (v := .int (iI (d 3 0))) rfl (pc' := 24) rfl ?_
    refine T_p xr_96_24 xn_96 (pc' := 25) (ls' := [(0, .ref a), (1, .long t)]) (st' := [.int (iI 1), .int (iI (d 3 0)), .ref a]) rfl ?_
    refine T_ziadd xr_96_25 (z := (d 3 0) + 1) rfl (pc' := 26) rfl ?_
    refine T_put xr_96_26 h73 rfl (Nat.le_of_ble_eq_true rfl) rfl (fs' := [.int (iI (d 0 0)), .int (iI (d 1 0)), .int (iI (d 2 0)), .int (iI ((d 3 0) + 1)), .int (iI (d 4 0)), .int (iI (d 5 0)), .int (iI (d 6 0)), .int (iI (d 7 0)), .ref (a + 1), .ref (a + 2), .ref (a + 3), .ref (a + 4), .ref (a + 5), .ref (a + 6), .ref (a + 7)]) rfl (pc' := 29) rfl (fun S74 h75 n76 e77 => ?_)
    refine T_vret xr_96_29 xf_96.2.2 ?_
    refine hQ _ _ ?_
    have h78 := (n76 (a + 1) (by first | exact (fun h => absurd (Nat.add_left_cancel h) (by decide)) | omega)).trans (h70)
    have h79 := (n76 (a + 2) (by first | exact (fun h => absurd (Nat.add_left_cancel h) (by decide)) | omega)).trans ((n71 (a + 2) (by first | exact (fun h => absurd (Nat.add_left_cancel h) (by decide)) | omega)).trans (hw.2.2.1))
    have h80 := (n76 (a + 3) (by first | exact (fun h => absurd (Nat.add_left_cancel h) (by decide)) | omega)).trans ((n71 (a + 3) (by first | exact (fun h => absurd (Nat.add_left_cancel h) (by decide)) | omega)).trans (hw.2.2.2.1))
    have h81 := (n76 (a + 4) (by first | exact (fun h => absurd (Nat.add_left_cancel h) (by decide)) | omega)).trans ((n71 (a + 4) (by first | exact (fun h => absurd (Nat.add_left_cancel h) (by decide)) | omega)).trans (hw.2.2.2.2.1))
    have h82 := (n76 (a + 5) (by first | exact (fun h => absurd (Nat.add_left_cancel h) (by decide)) | omega)).trans ((n71 (a + 5) (by first | exact (fun h => absurd (Nat.add_left_cancel h) (by decide)) | omega)).trans (hw.2.2.2.2.2.1))
    have h83 := (n76 (a + 6) (by first | exact (fun h => absurd (Nat.add_left_cancel h) (by decide)) | omega)).trans ((n71 (a + 6) (by first | exact (fun h => absurd (Nat.add_left_cancel h) (by decide)) | omega)).trans (hw.2.2.2.2.2.2.1))
    have h84 := (n76 (a + 7) (by first | exact (fun h => absurd (Nat.add_left_cancel h) (by decide)) | omega)).trans ((n71 (a + 7) (by first | exact (fun h => absurd (Nat.add_left_cancel h) (by decide)) | omega)).trans (hw.2.2.2.2.2.2.2))
    exact ⟨rfl, ⟨h75, h78, h79, h80, h81, h82, h83, h84⟩, ((X_Fr.rf).tr (X_Fr.of n71 e72 (by first | decide | exact ⟨Nat.le_add_right _ _, Nat.add_le_add_left (by decide) _⟩ | omega))).tr (X_Fr.of n76 e77 (by first | decide | exact ⟨Nat.le_add_right _ _, Nat.add_le_add_left (by decide) _⟩ | omega))⟩
theorem c_mayTakeHole (sc : X_Sc) (S : X_S) (a : Nat) (d : Nat → Int → Int) (q : Int → Int64) (hw : C_wd S a d q) (hr : X_wr d) : X_T sc 97 (0, [(0, .ref a)], [], S) (fun v S' => v = some (.int (iI (bI (d 3 0 < 8 ∧ d 4 0 < 4 ∧ ¬ X_hl d q (d 3 0 - 1))))) ∧ S' = S) := by
  obtain ⟨⟨hr0, hr0b⟩, ⟨hr1, hr1b⟩, ⟨hr2, hr2b⟩, ⟨hr3, hr3b⟩, ⟨hr4, hr4b⟩, ⟨hr5, hr5b⟩, ⟨hr6, hr6b⟩, ⟨hr7, hr7b⟩⟩ := id hr
  refine X_QI (fun Q hQ => ?_)
  refine T_p xr_97_0 xn_97 (pc' := 1) (ls' := [(0, .ref a)]) (st' := [.ref a]) rfl ?_
  refine T_get xr_97_1 hw.1 rfl (v := .int (iI (d 3 0))) rfl (pc' := 4) rfl ?_
  refine T_p xr_97_4 xn_97 (pc' := 6) (ls' := [(0, .ref a)]) (st' := [.int (iI 8), .int (iI (d 3 0))]) rfl ?_
  refine T_zicmp_ge xr_97_6 (t := 34) (pc' := 9) rfl rfl (fun c85 => ?_) (fun c85 => ?_)
  · skip
    have c85 : 8 ≤ (d 3 0) := c85
    refine T_p xr_97_34 xn_97 (pc' := 35) (ls' := [(0, .ref a)]) (st' := [.int (iI 0)]) rfl ?_
    refine T_iret xr_97_35 xf_97.2.2 (by decide) ?_
    refine hQ _ _ ?_
    exact ⟨by rw [bI_f (by intro h; first | exact absurd h.1 (by omega) | exact absurd h.2.1 (by omega) | exact absurd (by assumption) h.2.2)], rfl⟩
  · skip
    have c85 : ¬ (8 ≤ (d 3 0)) := c85
    refine T_p xr_97_9 xn_97 (pc' := 10) (ls' := [(0, .ref a)]) (st' := [.ref a]) rfl ?_
    refine T_get xr_97_10 hw.1 rfl (v := .int (iI (d 4 0))) rfl (pc' := 13) rfl ?_
    refine T_p xr_97_13 xn_97 (pc' := 14) (ls' := [(0, .ref a)]) (st' := [.int (iI 4), .int (iI (d 4 0))]) rfl ?_
    refine T_zicmp_ge xr_97_14 (t := 34) (pc' := 17) rfl rfl (fun c86 => ?_) (fun c86 => ?_)
    · skip
      have c86 : 4 ≤ (d 4 0) := c86
      refine T_p xr_97_34 xn_97 (pc' := 35) (ls' := [(0, .ref a)]) (st' := [.int (iI 0)]) rfl ?_
      refine T_iret xr_97_35 xf_97.2.2 (by decide) ?_
      refine hQ _ _ ?_
      exact ⟨by rw [bI_f (by intro h; first | exact absurd h.1 (by omega) | exact absurd h.2.1 (by omega) | exact absurd (by assumption) h.2.2)], rfl⟩
    · skip
      have c86 : ¬ (4 ≤ (d 4 0)) := c86
      refine T_p xr_97_17 xn_97 (pc' := 18) (ls' := [(0, .ref a)]) (st' := [.ref a]) rfl ?_
      refine T_p xr_97_18 xn_97 (pc' := 19) (ls' := [(0, .ref a)]) (st' := [.ref a, .ref a]) rfl ?_
      refine T_get xr_97_19 hw.1 rfl (v := .int (iI (d 3 0))) rfl (pc' := 22) rfl ?_
      refine T_p xr_97_22 xn_97 (pc' := 23) (ls' := [(0, .ref a)]) (st' := [.int (iI 1), .int (iI (d 3 0)), .ref a]) rfl ?_
      refine T_zisub xr_97_23 (z := (d 3 0) - 1) rfl (pc' := 24) rfl ?_
      refine T_cv (S := S) (q := a) xr_97_24 xf_100.1 xf_100.2.1 xn_100 (as := [.int (iI ((d 3 0) - 1))]) (r := []) rfl hw.1 (Nat.le_of_ble_eq_true rfl) (Nat.le_of_ble_eq_true rfl) (pc' := 27) rfl (ls' := [(0, .ref a), (1, .int (iI ((d 3 0) - 1)))]) rfl ?_
      refine T_mono (c_isHole sc S a d q ((d 3 0) - 1) ⟨hw.1, hw.2.1, hw.2.2.1, hw.2.2.2.1, hw.2.2.2.2.1, hw.2.2.2.2.2.1, hw.2.2.2.2.2.2.1, hw.2.2.2.2.2.2.2⟩ hr (by omega)) (fun v88 S89 h87 => ?_)
      obtain ⟨h90, h91⟩ := h87
      rw [h90, h91]
      show X_T sc 97 (27, [(0, .ref a)], [.int (iI (bI (X_hl d q ((d 3 0) - 1))))], S) _
      refine T_bif_ne xr_97_27 (t := 34) (pc' := 30) rfl rfl (fun c92 => ?_) (fun c92 => ?_)
      · skip
        have c92 : (X_hl d q ((d 3 0) - 1)) := c92
        refine T_p xr_97_34 xn_97 (pc' := 35) (ls' := [(0, .ref a)]) (st' := [.int (iI 0)]) rfl ?_
        refine T_iret xr_97_35 xf_97.2.2 (by decide) ?_
        refine hQ _ _ ?_
        exact ⟨by rw [bI_f (by intro h; first | exact absurd h.1 (by omega) | exact absurd h.2.1 (by omega) | exact absurd (by assumption) h.2.2)], rfl⟩
      · skip
        have c92 : ¬ (X_hl d q ((d 3 0) - 1)) := c92
        refine T_p xr_97_30 xn_97 (pc' := 31) (ls' := [(0, .ref a)]) (st' := [.int (iI 1)]) rfl ?_
        refine T_p xr_97_31 xn_97 (pc' := 35) (ls' := [(0, .ref a)]) (st' := [.int (iI 1)]) rfl ?_
        refine T_iret xr_97_35 xf_97.2.2 (by decide) ?_
        refine hQ _ _ ?_
        exact ⟨by rw [bI_t ⟨by omega, by omega, by assumption⟩], rfl⟩
theorem c_addHole (sc : X_Sc) (S : X_S) (a : Nat) (d : Nat → Int → Int) (q : Int → Int64) (k : Int) (hw : C_wd S a d q) (hr : X_wr d) (hs : d 3 0 < 8) (hh : d 4 0 < 4) : X_T sc 98 (0, [(0, .ref a), (1, .int (iI k))], [], S) (fun v S' => v = none ∧ C_wd S' a (X_wu (X_wu (X_wu (X_wu d 8 (X_ug (d 8) (d 3 0) (d 4 0))) 9 (X_ug (d 9) (d 4 0) k)) 3 (fun _ => d 3 0 + 1)) 4 (fun _ => d 4 0 + 1)) (X_ug q (d 3 0) 0) ∧ X_Fr (fun r => a ≤ r ∧ r ≤ a + 7) S S') := by
  obtain ⟨⟨hr0, hr0b⟩, ⟨hr1, hr1b⟩, ⟨hr2, hr2b⟩, ⟨hr3, hr3b⟩, ⟨hr4, hr4b⟩, ⟨hr5, hr5b⟩, ⟨hr6, hr6b⟩, ⟨hr7, hr7b⟩⟩ := id hr
  refine X_QI (fun Q hQ => ?_)
  refine T_p xr_98_0 xn_98 (pc' := 1) (ls' := [(0, .ref a), (1, .int (iI k))]) (st' := [.ref a]) rfl ?_
  refine T_get xr_98_1 hw.1 rfl (v := .int (iI (d 3 0))) rfl (pc' := 4) rfl ?_
  refine T_p xr_98_4 xn_98 (pc' := 6) (ls' := [(0, .ref a), (1, .int (iI k))]) (st' := [.int (iI 8), .int (iI (d 3 0))]) rfl ?_
  refine T_zicmp_ge xr_98_6 (t := 70) (pc' := 9) rfl rfl (fun c93 => ?_) (fun c93 => ?_)
  · skip
    have c93 : 8 ≤ (d 3 0) := c93
    exact (show False by omega).elim
  · skip
    have c93 : ¬ (8 ≤ (d 3 0)) := c93
    refine T_p xr_98_9 xn_98 (pc' := 10) (ls' := [(0, .ref a), (1, .int (iI k))]) (st' := [.ref a]) rfl ?_
    refine T_get xr_98_10 hw.1 rfl (v := .int (iI (d 4 0))) rfl (pc' := 13) rfl ?_
    refine T_p xr_98_13 xn_98 (pc' := 14) (ls' := [(0, .ref a), (1, .int (iI k))]) (st' := [.int (iI 4), .int (iI (d 4 0))]) rfl ?_
    refine T_zicmp_ge xr_98_14 (t := 70) (pc' := 17) rfl rfl (fun c94 => ?_) (fun c94 => ?_)
    · skip
      have c94 : 4 ≤ (d 4 0) := c94
      exact (show False by omega).elim
    · skip
      have c94 : ¬ (4 ≤ (d 4 0)) := c94
      refine T_p xr_98_17 xn_98 (pc' := 18) (ls' := [(0, .ref a), (1, .int (iI k))]) (st' := [.ref a]) rfl ?_
      refine T_get xr_98_18 hw.1 rfl (v := .ref (a + 1)) rfl (pc' := 21) rfl ?_
      refine T_p xr_98_21 xn_98 (pc' := 22) (ls' := [(0, .ref a), (1, .int (iI k))]) (st' := [.ref a, .ref (a + 1)]) rfl ?_
      refine T_get xr_98_22 hw.1 rfl (v := .int (iI (d 3 0))) rfl (pc' := 25) rfl ?_
      refine T_p xr_98_25 xn_98 (pc' := 26) (ls' := [(0, .ref a), (1, .int (iI k))]) (st' := [.long (0 : Int64), .int (iI (d 3 0)), .ref (a + 1)]) rfl ?_
      refine T_zlast xr_98_26 hw.2.1 (pc' := 27) rfl (fun S95 h96 n97 e98 => ?_)
      refine T_p xr_98_27 xn_98 (pc' := 28) (ls' := [(0, .ref a), (1, .int (iI k))]) (st' := [.ref a]) rfl ?_
      have h99 := (n97 a (by omega)).trans (hw.1)
      refine T_get xr_98_28 h99 rfl (v := .ref (a + 2)) rfl (pc' := 31) rfl ?_
      refine T_p xr_98_31 xn_98 (pc' := 32) (ls' := [(0, .ref a), (1, .int (iI k))]) (st' := [.ref a, .ref (a + 2)]) rfl ?_
      refine T_get xr_98_32 h99 rfl (v := .int (iI (d 3 0))) rfl (pc' := 35) rfl ?_
      refine T_p xr_98_35 xn_98 (pc' := 36) (ls' := [(0, .ref a), (1, .int (iI k))]) (st' := [.ref a, .int (iI (d 3 0)), .ref (a + 2)]) rfl ?_
      refine T_get xr_98_36 h99 rfl (v := .int (iI (d 4 0))) rfl (pc' := 39) rfl ?_
      have h100 := (n97 (a + 2) (by first | exact (fun h => absurd (Nat.add_left_cancel h) (by decide)) | omega)).trans (hw.2.2.1)
      refine T_ziast xr_98_39 h100 (pc' := 40) rfl (fun S101 h102 n103 e104 => ?_)
      refine T_p xr_98_40 xn_98 (pc' := 41) (ls' := [(0, .ref a), (1, .int (iI k))]) (st' := [.ref a]) rfl ?_
      have h105 := (n103 a (by omega)).trans (h99)
      refine T_get xr_98_41 h105 rfl (v := .ref (a + 3)) rfl (pc' := 44) rfl ?_
      refine T_p xr_98_44 xn_98 (pc' := 45) (ls' := [(0, .ref a), (1, .int (iI k))]) (st' := [.ref a, .ref (a + 3)]) rfl ?_
      refine T_get xr_98_45 h105 rfl (v := .int (iI (d 4 0))) rfl (pc' := 48) rfl ?_
      refine T_p xr_98_48 xn_98 (pc' := 49) (ls' := [(0, .ref a), (1, .int (iI k))]) (st' := [.int (iI k), .int (iI (d 4 0)), .ref (a + 3)]) rfl ?_
      have h106 := (n103 (a + 3) (by first | exact (fun h => absurd (Nat.add_left_cancel h) (by decide)) | omega)).trans ((n97 (a + 3) (by first | exact (fun h => absurd (Nat.add_left_cancel h) (by decide)) | omega)).trans (hw.2.2.2.1))
      refine T_ziast xr_98_49 h106 (pc' := 50) rfl (fun S107 h108 n109 e110 => ?_)
      refine T_p xr_98_50 xn_98 (pc' := 51) (ls' := [(0, .ref a), (1, .int (iI k))]) (st' := [.ref a]) rfl ?_
      refine T_p xr_98_51 xn_98 (pc' := 52) (ls' := [(0, .ref a), (1, .int (iI k))]) (st' := [.ref a, .ref a]) rfl ?_
      have h111 := (n109 a (by omega)).trans (h105)
      refine T_get xr_98_52 h111 rfl (v := .int (iI (d 3 0))) rfl (pc' := 55) rfl ?_
      refine T_p xr_98_55 xn_98 (pc' := 56) (ls' := [(0, .ref a), (1, .int (iI k))]) (st' := [.int (iI 1), .int (iI (d 3 0)), .ref a]) rfl ?_
      refine T_ziadd xr_98_56 (z := (d 3 0) + 1) rfl (pc' := 57) rfl ?_
      refine T_put xr_98_57 h111 rfl (Nat.le_of_ble_eq_true rfl) rfl (fs' := [.int (iI (d 0 0)), .int (iI (d 1 0)), .int (iI (d 2 0)), .int (iI ((d 3 0) + 1)), .int (iI (d 4 0)), .int (iI (d 5 0)), .int (iI (d 6 0)), .int (iI (d 7 0)), .ref (a + 1), .ref (a + 2), .ref (a + 3), .ref (a + 4), .ref (a + 5), .ref (a + 6), .ref (a + 7)]) rfl (pc' := 60) rfl (fun S112 h113 n114 e115 => ?_)
      refine T_p xr_98_60 xn_98 (pc' := 61) (ls' := [(0, .ref a), (1, .int (iI k))]) (st' := [.ref a]) rfl ?_
      refine T_p xr_98_61 xn_98 (pc' := 62) (ls' := [(0, .ref a), (1, .int (iI k))]) (st' := [.ref a, .ref a]) rfl ?_
      refine T_get xr_98_62 h113 rfl (v := .int (iI (d 4 0))) rfl (pc' := 65) rfl ?_
      refine T_p xr_98_65 xn_98 (pc' := 66) (ls' := [(0, .ref a), (1, .int (iI k))]) (st' := [.int (iI 1), .int (iI (d 4 0)), .ref a]) rfl ?_
      refine T_ziadd xr_98_66 (z := (d 4 0) + 1) rfl (pc' := 67) rfl ?_
      refine T_put xr_98_67 h113 rfl (Nat.le_of_ble_eq_true rfl) rfl (fs' := [.int (iI (d 0 0)), .int (iI (d 1 0)), .int (iI (d 2 0)), .int (iI ((d 3 0) + 1)), .int (iI ((d 4 0) + 1)), .int (iI (d 5 0)), .int (iI (d 6 0)), .int (iI (d 7 0)), .ref (a + 1), .ref (a + 2), .ref (a + 3), .ref (a + 4), .ref (a + 5), .ref (a + 6), .ref (a + 7)]) rfl (pc' := 70) rfl (fun S116 h117 n118 e119 => ?_)
      refine T_vret xr_98_70 xf_98.2.2 ?_
      refine hQ _ _ ?_
      have h120 := (n118 (a + 1) (by first | exact (fun h => absurd (Nat.add_left_cancel h) (by decide)) | omega)).trans ((n114 (a + 1) (by first | exact (fun h => absurd (Nat.add_left_cancel h) (by decide)) | omega)).trans ((n109 (a + 1) (by first | exact (fun h => absurd (Nat.add_left_cancel h) (by decide)) | omega)).trans ((n103 (a + 1) (by first | exact (fun h => absurd (Nat.add_left_cancel h) (by decide)) | omega)).trans (h96))))
      have h121 := (n118 (a + 2) (by first | exact (fun h => absurd (Nat.add_left_cancel h) (by decide)) | omega)).trans ((n114 (a + 2) (by first | exact (fun h => absurd (Nat.add_left_cancel h) (by decide)) | omega)).trans ((n109 (a + 2) (by first | exact (fun h => absurd (Nat.add_left_cancel h) (by decide)) | omega)).trans (h102)))
      have h122 := (n118 (a + 3) (by first | exact (fun h => absurd (Nat.add_left_cancel h) (by decide)) | omega)).trans ((n114 (a + 3) (by first | exact (fun h => absurd (Nat.add_left_cancel h) (by decide)) | omega)).trans (h108))
      have h123 := (n118 (a + 4) (by first | exact (fun h => absurd (Nat.add_left_cancel h) (by decide)) | omega)).trans ((n114 (a + 4) (by first | exact (fun h => absurd (Nat.add_left_cancel h) (by decide)) | omega)).trans ((n109 (a + 4) (by first | exact (fun h => absurd (Nat.add_left_cancel h) (by decide)) | omega)).trans ((n103 (a + 4) (by first | exact (fun h => absurd (Nat.add_left_cancel h) (by decide)) | omega)).trans ((n97 (a + 4) (by first | exact (fun h => absurd (Nat.add_left_cancel h) (by decide)) | omega)).trans (hw.2.2.2.2.1)))))
      have h124 := (n118 (a + 5) (by first | exact (fun h => absurd (Nat.add_left_cancel h) (by decide)) | omega)).trans ((n114 (a + 5) (by first | exact (fun h => absurd (Nat.add_left_cancel h) (by decide)) | omega)).trans ((n109 (a + 5) (by first | exact (fun h => absurd (Nat.add_left_cancel h) (by decide)) | omega)).trans ((n103 (a + 5) (by first | exact (fun h => absurd (Nat.add_left_cancel h) (by decide)) | omega)).trans ((n97 (a + 5) (by first | exact (fun h => absurd (Nat.add_left_cancel h) (by decide)) | omega)).trans (hw.2.2.2.2.2.1)))))
      have h125 := (n118 (a + 6) (by first | exact (fun h => absurd (Nat.add_left_cancel h) (by decide)) | omega)).trans ((n114 (a + 6) (by first | exact (fun h => absurd (Nat.add_left_cancel h) (by decide)) | omega)).trans ((n109 (a + 6) (by first | exact (fun h => absurd (Nat.add_left_cancel h) (by decide)) | omega)).trans ((n103 (a + 6) (by first | exact (fun h => absurd (Nat.add_left_cancel h) (by decide)) | omega)).trans ((n97 (a + 6) (by first | exact (fun h => absurd (Nat.add_left_cancel h) (by decide)) | omega)).trans (hw.2.2.2.2.2.2.1)))))
      have h126 := (n118 (a + 7) (by first | exact (fun h => absurd (Nat.add_left_cancel h) (by decide)) | omega)).trans ((n114 (a + 7) (by first | exact (fun h => absurd (Nat.add_left_cancel h) (by decide)) | omega)).trans ((n109 (a + 7) (by first | exact (fun h => absurd (Nat.add_left_cancel h) (by decide)) | omega)).trans ((n103 (a + 7) (by first | exact (fun h => absurd (Nat.add_left_cancel h) (by decide)) | omega)).trans ((n97 (a + 7) (by first | exact (fun h => absurd (Nat.add_left_cancel h) (by decide)) | omega)).trans (hw.2.2.2.2.2.2.2)))))
      exact ⟨rfl, ⟨h117, h120, h121, h122, h123, h124, h125, h126⟩, (((((X_Fr.rf).tr (X_Fr.of n97 e98 (by first | decide | exact ⟨Nat.le_add_right _ _, Nat.add_le_add_left (by decide) _⟩ | omega))).tr (X_Fr.of n103 e104 (by first | decide | exact ⟨Nat.le_add_right _ _, Nat.add_le_add_left (by decide) _⟩ | omega))).tr (X_Fr.of n109 e110 (by first | decide | exact ⟨Nat.le_add_right _ _, Nat.add_le_add_left (by decide) _⟩ | omega))).tr (X_Fr.of n114 e115 (by first | decide | exact ⟨Nat.le_add_right _ _, Nat.add_le_add_left (by decide) _⟩ | omega))).tr (X_Fr.of n118 e119 (by first | decide | exact ⟨Nat.le_add_right _ _, Nat.add_le_add_left (by decide) _⟩ | omega))⟩
theorem c_addStep (sc : X_Sc) (S : X_S) (a : Nat) (d : Nat → Int → Int) (q : Int → Int64) (s y : Int) (hw : C_wd S a d q) (hr : X_wr d) (hs : 0 ≤ d 5 0 ∧ d 5 0 < 30) : X_T sc 99 (0, [(0, .ref a), (1, .int (iI s)), (2, .int (iI y))], [], S) (fun v S' => v = none ∧ C_wd S' a (X_wu (X_wu (X_wu d 12 (X_ug (d 12) (d 5 0) s)) 13 (X_ug (d 13) (d 5 0) y)) 5 (fun _ => d 5 0 + 1)) q ∧ X_Fr (fun r => a ≤ r ∧ r ≤ a + 7) S S') := by
  obtain ⟨⟨hr0, hr0b⟩, ⟨hr1, hr1b⟩, ⟨hr2, hr2b⟩, ⟨hr3, hr3b⟩, ⟨hr4, hr4b⟩, ⟨hr5, hr5b⟩, ⟨hr6, hr6b⟩, ⟨hr7, hr7b⟩⟩ := id hr
  refine X_QI (fun Q hQ => ?_)
  refine T_p xr_99_0 xn_99 (pc' := 1) (ls' := [(0, .ref a), (1, .int (iI s)), (2, .int (iI y))]) (st' := [.ref a]) rfl ?_
  refine T_get xr_99_1 hw.1 rfl (v := .int (iI (d 5 0))) rfl (pc' := 4) rfl ?_
  refine T_zif_lt xr_99_4 (t := 46) (pc' := 7) rfl rfl (fun c127 => ?_) (fun c127 => ?_)
  · skip
    have c127 : (d 5 0) < 0 := c127
    exact (show False by omega).elim
  · skip
    have c127 : ¬ ((d 5 0) < 0) := c127
    refine T_p xr_99_7 xn_99 (pc' := 8) (ls' := [(0, .ref a), (1, .int (iI s)), (2, .int (iI y))]) (st' := [.ref a]) rfl ?_
    refine T_get xr_99_8 hw.1 rfl (v := .int (iI (d 5 0))) rfl (pc' := 11) rfl ?_
    refine T_p xr_99_11 xn_99 (pc' := 13) (ls' := [(0, .ref a), (1, .int (iI s)), (2, .int (iI y))]) (st' := [.int (iI 30), .int (iI (d 5 0))]) rfl ?_
    refine T_zicmp_ge xr_99_13 (t := 46) (pc' := 16) rfl rfl (fun c128 => ?_) (fun c128 => ?_)
    · skip
      have c128 : 30 ≤ (d 5 0) := c128
      exact (show False by omega).elim
    · skip
      have c128 : ¬ (30 ≤ (d 5 0)) := c128
      refine T_p xr_99_16 xn_99 (pc' := 17) (ls' := [(0, .ref a), (1, .int (iI s)), (2, .int (iI y))]) (st' := [.ref a]) rfl ?_
      refine T_get xr_99_17 hw.1 rfl (v := .ref (a + 6)) rfl (pc' := 20) rfl ?_
      refine T_p xr_99_20 xn_99 (pc' := 21) (ls' := [(0, .ref a), (1, .int (iI s)), (2, .int (iI y))]) (st' := [.ref a, .ref (a + 6)]) rfl ?_
      refine T_get xr_99_21 hw.1 rfl (v := .int (iI (d 5 0))) rfl (pc' := 24) rfl ?_
      refine T_p xr_99_24 xn_99 (pc' := 25) (ls' := [(0, .ref a), (1, .int (iI s)), (2, .int (iI y))]) (st' := [.int (iI s), .int (iI (d 5 0)), .ref (a + 6)]) rfl ?_
      refine T_ziast xr_99_25 hw.2.2.2.2.2.2.1 (pc' := 26) rfl (fun S129 h130 n131 e132 => ?_)
      refine T_p xr_99_26 xn_99 (pc' := 27) (ls' := [(0, .ref a), (1, .int (iI s)), (2, .int (iI y))]) (st' := [.ref a]) rfl ?_
      have h133 := (n131 a (by omega)).trans (hw.1)
      refine T_get xr_99_27 h133 rfl (v := .ref (a + 7)) rfl (pc' := 30) rfl ?_
      refine T_p xr_99_30 xn_99 (pc' := 31) (ls' := [(0, .ref a), (1, .int (iI s)), (2, .int (iI y))]) (st' := [.ref a, .ref (a + 7)]) rfl ?_
      refine T_get xr_99_31 h133 rfl (v := .int (iI (d 5 0))) rfl (pc' := 34) rfl ?_
      refine T_p xr_99_34 xn_99 (pc' := 35) (ls' := [(0, .ref a), (1, .int (iI s)), (2, .int (iI y))]) (st' := [.int (iI y), .int (iI (d 5 0)), .ref (a + 7)]) rfl ?_
      have h134 := (n131 (a + 7) (by first | exact (fun h => absurd (Nat.add_left_cancel h) (by decide)) | omega)).trans (hw.2.2.2.2.2.2.2)
      refine T_ziast xr_99_35 h134 (pc' := 36) rfl (fun S135 h136 n137 e138 => ?_)
      refine T_p xr_99_36 xn_99 (pc' := 37) (ls' := [(0, .ref a), (1, .int (iI s)), (2, .int (iI y))]) (st' := [.ref a]) rfl ?_
      refine T_p xr_99_37 xn_99 (pc' := 38) (ls' := [(0, .ref a), (1, .int (iI s)), (2, .int (iI y))]) (st' := [.ref a, .ref a]) rfl ?_
      have h139 := (n137 a (by omega)).trans (h133)
      refine T_get xr_99_38 h139 rfl (v := .int (iI (d 5 0))) rfl (pc' := 41) rfl ?_
      refine T_p xr_99_41 xn_99 (pc' := 42) (ls' := [(0, .ref a), (1, .int (iI s)), (2, .int (iI y))]) (st' := [.int (iI 1), .int (iI (d 5 0)), .ref a]) rfl ?_
      refine T_ziadd xr_99_42 (z := (d 5 0) + 1) rfl (pc' := 43) rfl ?_
      refine T_put xr_99_43 h139 rfl (Nat.le_of_ble_eq_true rfl) rfl (fs' := [.int (iI (d 0 0)), .int (iI (d 1 0)), .int (iI (d 2 0)), .int (iI (d 3 0)), .int (iI (d 4 0)), .int (iI ((d 5 0) + 1)), .int (iI (d 6 0)), .int (iI (d 7 0)), .ref (a + 1), .ref (a + 2), .ref (a + 3), .ref (a + 4), .ref (a + 5), .ref (a + 6), .ref (a + 7)]) rfl (pc' := 46) rfl (fun S140 h141 n142 e143 => ?_)
      refine T_vret xr_99_46 xf_99.2.2 ?_
      refine hQ _ _ ?_
      have h144 := (n142 (a + 1) (by first | exact (fun h => absurd (Nat.add_left_cancel h) (by decide)) | omega)).trans ((n137 (a + 1) (by first | exact (fun h => absurd (Nat.add_left_cancel h) (by decide)) | omega)).trans ((n131 (a + 1) (by first | exact (fun h => absurd (Nat.add_left_cancel h) (by decide)) | omega)).trans (hw.2.1)))
      have h145 := (n142 (a + 2) (by first | exact (fun h => absurd (Nat.add_left_cancel h) (by decide)) | omega)).trans ((n137 (a + 2) (by first | exact (fun h => absurd (Nat.add_left_cancel h) (by decide)) | omega)).trans ((n131 (a + 2) (by first | exact (fun h => absurd (Nat.add_left_cancel h) (by decide)) | omega)).trans (hw.2.2.1)))
      have h146 := (n142 (a + 3) (by first | exact (fun h => absurd (Nat.add_left_cancel h) (by decide)) | omega)).trans ((n137 (a + 3) (by first | exact (fun h => absurd (Nat.add_left_cancel h) (by decide)) | omega)).trans ((n131 (a + 3) (by first | exact (fun h => absurd (Nat.add_left_cancel h) (by decide)) | omega)).trans (hw.2.2.2.1)))
      have h147 := (n142 (a + 4) (by first | exact (fun h => absurd (Nat.add_left_cancel h) (by decide)) | omega)).trans ((n137 (a + 4) (by first | exact (fun h => absurd (Nat.add_left_cancel h) (by decide)) | omega)).trans ((n131 (a + 4) (by first | exact (fun h => absurd (Nat.add_left_cancel h) (by decide)) | omega)).trans (hw.2.2.2.2.1)))
      have h148 := (n142 (a + 5) (by first | exact (fun h => absurd (Nat.add_left_cancel h) (by decide)) | omega)).trans ((n137 (a + 5) (by first | exact (fun h => absurd (Nat.add_left_cancel h) (by decide)) | omega)).trans ((n131 (a + 5) (by first | exact (fun h => absurd (Nat.add_left_cancel h) (by decide)) | omega)).trans (hw.2.2.2.2.2.1)))
      have h149 := (n142 (a + 6) (by first | exact (fun h => absurd (Nat.add_left_cancel h) (by decide)) | omega)).trans ((n137 (a + 6) (by first | exact (fun h => absurd (Nat.add_left_cancel h) (by decide)) | omega)).trans (h130))
      have h150 := (n142 (a + 7) (by first | exact (fun h => absurd (Nat.add_left_cancel h) (by decide)) | omega)).trans (h136)
      exact ⟨rfl, ⟨h141, h144, h145, h146, h147, h148, h149, h150⟩, (((X_Fr.rf).tr (X_Fr.of n131 e132 (by first | decide | exact ⟨Nat.le_add_right _ _, Nat.add_le_add_left (by decide) _⟩ | omega))).tr (X_Fr.of n137 e138 (by first | decide | exact ⟨Nat.le_add_right _ _, Nat.add_le_add_left (by decide) _⟩ | omega))).tr (X_Fr.of n142 e143 (by first | decide | exact ⟨Nat.le_add_right _ _, Nat.add_le_add_left (by decide) _⟩ | omega))⟩
theorem c_hasPart (sc : X_Sc) (S : X_S) (a : Nat) (d : Nat → Int → Int) (q : Int → Int64) (t : Int64) (hw : C_wd S a d q) (hr : X_wr d) : X_T sc 103 (0, [(0, .ref a), (1, .long t)], [], S) (fun v S' => v = some (.int (iI (bI (X_hp d q t)))) ∧ S' = S) := by
  obtain ⟨⟨hr0, hr0b⟩, ⟨hr1, hr1b⟩, ⟨hr2, hr2b⟩, ⟨hr3, hr3b⟩, ⟨hr4, hr4b⟩, ⟨hr5, hr5b⟩, ⟨hr6, hr6b⟩, ⟨hr7, hr7b⟩⟩ := id hr
  refine X_QI (fun Q hQ => ?_)
  refine T_p xr_103_0 xn_103 (pc' := 1) (ls' := [(0, .ref a), (1, .long t)]) (st' := [.int (iI 0)]) rfl ?_
  refine T_p xr_103_1 xn_103 (pc' := 2) (ls' := [(3, .int (iI 0)), (0, .ref a), (1, .long t)]) (st' := []) rfl ?_
  have L151 : ∀ (m153 : Nat) (e : Int) (he : 0 ≤ e ∧ e ≤ d 3 0) (hno : ∀ k, 0 ≤ k → k < e → ¬ q k = t) (hm154 : d 3 0 - e < m153), X_T sc 103 (2, [(3, .int (iI e)), (0, .ref a), (1, .long t)], [], S) Q := by
    intro m153
    induction m153 with
    | zero =>
      intro e he hno hm154
      exact (show False by omega).elim
    | succ m153 ih152 =>
      intro e he hno hm154
      refine T_p xr_103_2 xn_103 (pc' := 3) (ls' := [(3, .int (iI e)), (0, .ref a), (1, .long t)]) (st' := [.int (iI e)]) rfl ?_
      refine T_p xr_103_3 xn_103 (pc' := 4) (ls' := [(3, .int (iI e)), (0, .ref a), (1, .long t)]) (st' := [.ref a, .int (iI e)]) rfl ?_
      refine T_get xr_103_4 hw.1 rfl (v := .int (iI (d 3 0))) rfl (pc' := 7) rfl ?_
      refine T_zicmp_ge xr_103_7 (t := 29) (pc' := 10) rfl rfl (fun c156 => ?_) (fun c156 => ?_)
      · skip
        have c156 : (d 3 0) ≤ e := c156
        refine T_p xr_103_29 xn_103 (pc' := 30) (ls' := [(3, .int (iI e)), (0, .ref a), (1, .long t)]) (st' := [.int (iI 0)]) rfl ?_
        refine T_iret xr_103_30 xf_103.2.2 (by decide) ?_
        refine hQ _ _ ?_
        exact ⟨by rw [bI_f (by rintro ⟨k, h1, h2, h3⟩; exact hno k h1 (by omega) h3)], rfl⟩
      · skip
        have c156 : ¬ ((d 3 0) ≤ e) := c156
        refine T_p xr_103_10 xn_103 (pc' := 11) (ls' := [(3, .int (iI e)), (0, .ref a), (1, .long t)]) (st' := [.ref a]) rfl ?_
        refine T_get xr_103_11 hw.1 rfl (v := .ref (a + 1)) rfl (pc' := 14) rfl ?_
        refine T_p xr_103_14 xn_103 (pc' := 15) (ls' := [(3, .int (iI e)), (0, .ref a), (1, .long t)]) (st' := [.int (iI e), .ref (a + 1)]) rfl ?_
        refine T_zlald xr_103_15 hw.2.1 (pc' := 16) rfl ?_
        refine T_p xr_103_16 xn_103 (pc' := 17) (ls' := [(3, .int (iI e)), (0, .ref a), (1, .long t)]) (st' := [.long t, .long (q e)]) rfl ?_
        refine T_lc_ne xr_103_17 xr_103_18 (t := 23) (pc' := 21) rfl rfl (fun c157 => ?_) (fun c157 => ?_)
        · skip
          have c157 : ¬ (q e) = t := c157
          refine T_ziinc xr_103_23 xn_103 (a := e) (z := e + 1) rfl (Nat.le_of_ble_eq_true rfl) (by omega) (ls' := [(3, .int (iI (e + 1))), (0, .ref a), (1, .long t)]) rfl (pc' := 26) rfl ?_
          refine T_p xr_103_26 xn_103 (pc' := 2) (ls' := [(3, .int (iI (e + 1))), (0, .ref a), (1, .long t)]) (st' := []) rfl ?_
          exact ih152 (e + 1)  (by omega) (fun k h1 h2 => by
                by_cases hk : k = e
                · subst hk; assumption
                · exact hno k h1 (by omega)) (by omega)
        · skip
          have c157 : ¬ (¬ (q e) = t) := c157
          refine T_p xr_103_21 xn_103 (pc' := 22) (ls' := [(3, .int (iI e)), (0, .ref a), (1, .long t)]) (st' := [.int (iI 1)]) rfl ?_
          refine T_iret xr_103_22 xf_103.2.2 (by decide) ?_
          refine hQ _ _ ?_
          exact ⟨by rw [bI_t ⟨e, by omega, by omega, by first | assumption | exact Classical.not_not.mp (by assumption)⟩], rfl⟩
  exact L151 (d 3 0 + 1).toNat 0  (by omega) (fun k h1 h2 => (show False by omega).elim) (by omega)
end
section
theorem xr_1_0 : X_row 1 0 = some (0, (.aload_n 0, 1), (0, 0, 0)) := by decide +kernel
theorem xr_1_1 : X_row 1 1 = some (1, (.iconst 0, 1), (0, 0, 0)) := by decide +kernel
theorem xr_1_2 : X_row 1 2 = some (2, (.putfield 35, 3), (0, 0, 18)) := by decide +kernel
theorem xr_1_5 : X_row 1 5 = some (5, (.aload_n 0, 1), (0, 0, 0)) := by decide +kernel
theorem xr_1_6 : X_row 1 6 = some (6, (.iconst 1, 1), (0, 0, 0)) := by decide +kernel
theorem xr_1_7 : X_row 1 7 = some (7, (.putfield 39, 3), (0, 1, 20)) := by decide +kernel
theorem xr_1_10 : X_row 1 10 = some (10, (.aload_n 0, 1), (0, 0, 0)) := by decide +kernel
theorem xr_1_11 : X_row 1 11 = some (11, (.iconst 0, 1), (0, 0, 0)) := by decide +kernel
theorem xr_1_12 : X_row 1 12 = some (12, (.putfield 42, 3), (0, 2, 22)) := by decide +kernel
theorem xr_1_15 : X_row 1 15 = some (15, (.aload_n 0, 1), (0, 0, 0)) := by decide +kernel
theorem xr_1_16 : X_row 1 16 = some (16, (.getfield 19, 3), (0, 5, 28)) := by decide +kernel
theorem xr_1_19 : X_row 1 19 = some (19, (.iconst 0, 1), (0, 0, 0)) := by decide +kernel
theorem xr_1_20 : X_row 1 20 = some (20, (.ldc2_w 45, 3), (6384748, 224, 0)) := by decide +kernel
theorem xr_1_23 : X_row 1 23 = some (23, (.lastore, 1), (0, 0, 0)) := by decide +kernel
theorem xr_1_24 : X_row 1 24 = some (24, (.aload_n 0, 1), (0, 0, 0)) := by decide +kernel
theorem xr_1_25 : X_row 1 25 = some (25, (.getfield 22, 3), (0, 6, 30)) := by decide +kernel
theorem xr_1_28 : X_row 1 28 = some (28, (.iconst 0, 1), (0, 0, 0)) := by decide +kernel
theorem xr_1_29 : X_row 1 29 = some (29, (.iconst 1, 1), (0, 0, 0)) := by decide +kernel
theorem xr_1_30 : X_row 1 30 = some (30, (.iastore, 1), (0, 0, 0)) := by decide +kernel
theorem xr_1_31 : X_row 1 31 = some (31, (.return_, 1), (0, 0, 0)) := by decide +kernel
theorem xr_2_0 : X_row 2 0 = some (0, (.iload_n 1, 1), (0, 0, 0)) := by decide +kernel
theorem xr_2_1 : X_row 2 1 = some (1, (.ifCond .lt 15, 3), (0, 0, 0)) := by decide +kernel
theorem xr_2_4 : X_row 2 4 = some (4, (.iload_n 1, 1), (0, 0, 0)) := by decide +kernel
theorem xr_2_5 : X_row 2 5 = some (5, (.aload_n 0, 1), (0, 0, 0)) := by decide +kernel
theorem xr_2_6 : X_row 2 6 = some (6, (.getfield 35, 3), (0, 0, 18)) := by decide +kernel
theorem xr_2_9 : X_row 2 9 = some (9, (.if_icmp .ge 7, 3), (0, 0, 0)) := by decide +kernel
theorem xr_2_12 : X_row 2 12 = some (12, (.iconst 1, 1), (0, 0, 0)) := by decide +kernel
theorem xr_2_13 : X_row 2 13 = some (13, (.goto 4, 3), (0, 0, 0)) := by decide +kernel
theorem xr_2_16 : X_row 2 16 = some (16, (.iconst 0, 1), (0, 0, 0)) := by decide +kernel
theorem xr_2_17 : X_row 2 17 = some (17, (.ireturn, 1), (0, 0, 0)) := by decide +kernel
theorem xr_3_0 : X_row 3 0 = some (0, (.iload_n 1, 1), (0, 0, 0)) := by decide +kernel
theorem xr_3_1 : X_row 3 1 = some (1, (.ifCond .lt 15, 3), (0, 0, 0)) := by decide +kernel
theorem xr_3_4 : X_row 3 4 = some (4, (.iload_n 1, 1), (0, 0, 0)) := by decide +kernel
theorem xr_3_5 : X_row 3 5 = some (5, (.aload_n 0, 1), (0, 0, 0)) := by decide +kernel
theorem xr_3_6 : X_row 3 6 = some (6, (.getfield 39, 3), (0, 1, 20)) := by decide +kernel
theorem xr_3_9 : X_row 3 9 = some (9, (.if_icmp .ge 7, 3), (0, 0, 0)) := by decide +kernel
theorem xr_3_12 : X_row 3 12 = some (12, (.iconst 1, 1), (0, 0, 0)) := by decide +kernel
theorem xr_3_13 : X_row 3 13 = some (13, (.goto 4, 3), (0, 0, 0)) := by decide +kernel
theorem xr_3_16 : X_row 3 16 = some (16, (.iconst 0, 1), (0, 0, 0)) := by decide +kernel
theorem xr_3_17 : X_row 3 17 = some (17, (.ireturn, 1), (0, 0, 0)) := by decide +kernel
theorem xr_4_0 : X_row 4 0 = some (0, (.iload_n 1, 1), (0, 0, 0)) := by decide +kernel
theorem xr_4_1 : X_row 4 1 = some (1, (.ifCond .lt 15, 3), (0, 0, 0)) := by decide +kernel
theorem xr_4_4 : X_row 4 4 = some (4, (.iload_n 1, 1), (0, 0, 0)) := by decide +kernel
theorem xr_4_5 : X_row 4 5 = some (5, (.aload_n 0, 1), (0, 0, 0)) := by decide +kernel
theorem xr_4_6 : X_row 4 6 = some (6, (.getfield 42, 3), (0, 2, 22)) := by decide +kernel
theorem xr_4_9 : X_row 4 9 = some (9, (.if_icmp .ge 7, 3), (0, 0, 0)) := by decide +kernel
theorem xr_4_12 : X_row 4 12 = some (12, (.iconst 1, 1), (0, 0, 0)) := by decide +kernel
theorem xr_4_13 : X_row 4 13 = some (13, (.goto 4, 3), (0, 0, 0)) := by decide +kernel
theorem xr_4_16 : X_row 4 16 = some (16, (.iconst 0, 1), (0, 0, 0)) := by decide +kernel
theorem xr_4_17 : X_row 4 17 = some (17, (.ireturn, 1), (0, 0, 0)) := by decide +kernel
theorem xr_5_0 : X_row 5 0 = some (0, (.aload_n 0, 1), (0, 0, 0)) := by decide +kernel
theorem xr_5_1 : X_row 5 1 = some (1, (.getfield 9, 3), (0, 3, 24)) := by decide +kernel
theorem xr_5_4 : X_row 5 4 = some (4, (.aload_n 0, 1), (0, 0, 0)) := by decide +kernel
theorem xr_5_5 : X_row 5 5 = some (5, (.getfield 35, 3), (0, 0, 18)) := by decide +kernel
theorem xr_5_8 : X_row 5 8 = some (8, (.lload_n 1, 1), (0, 0, 0)) := by decide +kernel
theorem xr_5_9 : X_row 5 9 = some (9, (.invokestatic 47, 3), (7, 4, 0)) := by decide +kernel
theorem xr_5_12 : X_row 5 12 = some (12, (.ireturn, 1), (0, 0, 0)) := by decide +kernel
theorem xr_6_0 : X_row 6 0 = some (0, (.aload_n 0, 1), (0, 0, 0)) := by decide +kernel
theorem xr_6_1 : X_row 6 1 = some (1, (.getfield 19, 3), (0, 5, 28)) := by decide +kernel
theorem xr_6_4 : X_row 6 4 = some (4, (.aload_n 0, 1), (0, 0, 0)) := by decide +kernel
theorem xr_6_5 : X_row 6 5 = some (5, (.getfield 39, 3), (0, 1, 20)) := by decide +kernel
theorem xr_6_8 : X_row 6 8 = some (8, (.lload_n 1, 1), (0, 0, 0)) := by decide +kernel
theorem xr_6_9 : X_row 6 9 = some (9, (.invokestatic 47, 3), (7, 4, 0)) := by decide +kernel
theorem xr_6_12 : X_row 6 12 = some (12, (.ireturn, 1), (0, 0, 0)) := by decide +kernel
theorem xr_7_0 : X_row 7 0 = some (0, (.iconst 0, 1), (0, 0, 0)) := by decide +kernel
theorem xr_7_1 : X_row 7 1 = some (1, (.istore 4, 2), (0, 0, 0)) := by decide +kernel
theorem xr_7_3 : X_row 7 3 = some (3, (.iload 4, 2), (0, 0, 0)) := by decide +kernel
theorem xr_7_5 : X_row 7 5 = some (5, (.iload_n 1, 1), (0, 0, 0)) := by decide +kernel
theorem xr_7_6 : X_row 7 6 = some (6, (.if_icmp .ge 21, 3), (0, 0, 0)) := by decide +kernel
theorem xr_7_9 : X_row 7 9 = some (9, (.aload_n 0, 1), (0, 0, 0)) := by decide +kernel
theorem xr_7_10 : X_row 7 10 = some (10, (.iload 4, 2), (0, 0, 0)) := by decide +kernel
theorem xr_7_12 : X_row 7 12 = some (12, (.laload, 1), (0, 0, 0)) := by decide +kernel
theorem xr_7_13 : X_row 7 13 = some (13, (.lload_n 2, 1), (0, 0, 0)) := by decide +kernel
theorem xr_7_14 : X_row 7 14 = some (14, (.lcmp, 1), (0, 0, 0)) := by decide +kernel
theorem xr_7_15 : X_row 7 15 = some (15, (.ifCond .ne 6, 3), (0, 0, 0)) := by decide +kernel
theorem xr_7_18 : X_row 7 18 = some (18, (.iload 4, 2), (0, 0, 0)) := by decide +kernel
theorem xr_7_20 : X_row 7 20 = some (20, (.ireturn, 1), (0, 0, 0)) := by decide +kernel
theorem xr_7_21 : X_row 7 21 = some (21, (.iinc 4 1, 3), (0, 0, 0)) := by decide +kernel
theorem xr_7_24 : X_row 7 24 = some (24, (.goto (-21), 3), (0, 0, 0)) := by decide +kernel
theorem xr_7_27 : X_row 7 27 = some (27, (.iconst (-1), 1), (0, 0, 0)) := by decide +kernel
theorem xr_7_28 : X_row 7 28 = some (28, (.ireturn, 1), (0, 0, 0)) := by decide +kernel
theorem xr_8_0 : X_row 8 0 = some (0, (.aload_n 0, 1), (0, 0, 0)) := by decide +kernel
theorem xr_8_1 : X_row 8 1 = some (1, (.getfield 35, 3), (0, 0, 18)) := by decide +kernel
theorem xr_8_4 : X_row 8 4 = some (4, (.bipush 12, 2), (0, 0, 0)) := by decide +kernel
theorem xr_8_6 : X_row 8 6 = some (6, (.if_icmp .ge 33, 3), (0, 0, 0)) := by decide +kernel
theorem xr_8_9 : X_row 8 9 = some (9, (.aload_n 0, 1), (0, 0, 0)) := by decide +kernel
theorem xr_8_10 : X_row 8 10 = some (10, (.getfield 9, 3), (0, 3, 24)) := by decide +kernel
theorem xr_8_13 : X_row 8 13 = some (13, (.aload_n 0, 1), (0, 0, 0)) := by decide +kernel
theorem xr_8_14 : X_row 8 14 = some (14, (.getfield 35, 3), (0, 0, 18)) := by decide +kernel
theorem xr_8_17 : X_row 8 17 = some (17, (.lload_n 1, 1), (0, 0, 0)) := by decide +kernel
theorem xr_8_18 : X_row 8 18 = some (18, (.lastore, 1), (0, 0, 0)) := by decide +kernel
theorem xr_8_19 : X_row 8 19 = some (19, (.aload_n 0, 1), (0, 0, 0)) := by decide +kernel
theorem xr_8_20 : X_row 8 20 = some (20, (.getfield 15, 3), (0, 4, 26)) := by decide +kernel
theorem xr_8_23 : X_row 8 23 = some (23, (.aload_n 0, 1), (0, 0, 0)) := by decide +kernel
theorem xr_8_24 : X_row 8 24 = some (24, (.getfield 35, 3), (0, 0, 18)) := by decide +kernel
theorem xr_8_27 : X_row 8 27 = some (27, (.iconst 0, 1), (0, 0, 0)) := by decide +kernel
theorem xr_8_28 : X_row 8 28 = some (28, (.iastore, 1), (0, 0, 0)) := by decide +kernel
theorem xr_8_29 : X_row 8 29 = some (29, (.aload_n 0, 1), (0, 0, 0)) := by decide +kernel
theorem xr_8_30 : X_row 8 30 = some (30, (.dup, 1), (0, 0, 0)) := by decide +kernel
theorem xr_8_31 : X_row 8 31 = some (31, (.getfield 35, 3), (0, 0, 18)) := by decide +kernel
theorem xr_8_34 : X_row 8 34 = some (34, (.iconst 1, 1), (0, 0, 0)) := by decide +kernel
theorem xr_8_35 : X_row 8 35 = some (35, (.iadd, 1), (0, 0, 0)) := by decide +kernel
theorem xr_8_36 : X_row 8 36 = some (36, (.putfield 35, 3), (0, 0, 18)) := by decide +kernel
theorem xr_8_39 : X_row 8 39 = some (39, (.return_, 1), (0, 0, 0)) := by decide +kernel
theorem xr_9_0 : X_row 9 0 = some (0, (.aload_n 0, 1), (0, 0, 0)) := by decide +kernel
theorem xr_9_1 : X_row 9 1 = some (1, (.getfield 39, 3), (0, 1, 20)) := by decide +kernel
theorem xr_9_4 : X_row 9 4 = some (4, (.bipush 11, 2), (0, 0, 0)) := by decide +kernel
theorem xr_9_6 : X_row 9 6 = some (6, (.if_icmp .ge 53, 3), (0, 0, 0)) := by decide +kernel
theorem xr_9_9 : X_row 9 9 = some (9, (.aload_n 0, 1), (0, 0, 0)) := by decide +kernel
theorem xr_9_10 : X_row 9 10 = some (10, (.iload_n 3, 1), (0, 0, 0)) := by decide +kernel
theorem xr_9_11 : X_row 9 11 = some (11, (.invokevirtual 51, 3), (3, 10, 0)) := by decide +kernel
theorem xr_9_14 : X_row 9 14 = some (14, (.ifCond .eq 45, 3), (0, 0, 0)) := by decide +kernel
theorem xr_9_17 : X_row 9 17 = some (17, (.aload_n 0, 1), (0, 0, 0)) := by decide +kernel
theorem xr_9_18 : X_row 9 18 = some (18, (.getfield 19, 3), (0, 5, 28)) := by decide +kernel
theorem xr_9_21 : X_row 9 21 = some (21, (.aload_n 0, 1), (0, 0, 0)) := by decide +kernel
theorem xr_9_22 : X_row 9 22 = some (22, (.getfield 39, 3), (0, 1, 20)) := by decide +kernel
theorem xr_9_25 : X_row 9 25 = some (25, (.lload_n 1, 1), (0, 0, 0)) := by decide +kernel
theorem xr_9_26 : X_row 9 26 = some (26, (.lastore, 1), (0, 0, 0)) := by decide +kernel
theorem xr_9_27 : X_row 9 27 = some (27, (.aload_n 0, 1), (0, 0, 0)) := by decide +kernel
theorem xr_9_28 : X_row 9 28 = some (28, (.getfield 22, 3), (0, 6, 30)) := by decide +kernel
theorem xr_9_31 : X_row 9 31 = some (31, (.aload_n 0, 1), (0, 0, 0)) := by decide +kernel
theorem xr_9_32 : X_row 9 32 = some (32, (.getfield 39, 3), (0, 1, 20)) := by decide +kernel
theorem xr_9_35 : X_row 9 35 = some (35, (.aload_n 0, 1), (0, 0, 0)) := by decide +kernel
theorem xr_9_36 : X_row 9 36 = some (36, (.getfield 22, 3), (0, 6, 30)) := by decide +kernel
theorem xr_9_39 : X_row 9 39 = some (39, (.iload_n 3, 1), (0, 0, 0)) := by decide +kernel
theorem xr_9_40 : X_row 9 40 = some (40, (.iaload, 1), (0, 0, 0)) := by decide +kernel
theorem xr_9_41 : X_row 9 41 = some (41, (.iconst 1, 1), (0, 0, 0)) := by decide +kernel
theorem xr_9_42 : X_row 9 42 = some (42, (.aload_n 0, 1), (0, 0, 0)) := by decide +kernel
theorem xr_9_43 : X_row 9 43 = some (43, (.getfield 39, 3), (0, 1, 20)) := by decide +kernel
theorem xr_9_46 : X_row 9 46 = some (46, (.ishl, 1), (0, 0, 0)) := by decide +kernel
theorem xr_9_47 : X_row 9 47 = some (47, (.ior, 1), (0, 0, 0)) := by decide +kernel
theorem xr_9_48 : X_row 9 48 = some (48, (.iastore, 1), (0, 0, 0)) := by decide +kernel
theorem xr_9_49 : X_row 9 49 = some (49, (.aload_n 0, 1), (0, 0, 0)) := by decide +kernel
theorem xr_9_50 : X_row 9 50 = some (50, (.dup, 1), (0, 0, 0)) := by decide +kernel
theorem xr_9_51 : X_row 9 51 = some (51, (.getfield 39, 3), (0, 1, 20)) := by decide +kernel
theorem xr_9_54 : X_row 9 54 = some (54, (.iconst 1, 1), (0, 0, 0)) := by decide +kernel
theorem xr_9_55 : X_row 9 55 = some (55, (.iadd, 1), (0, 0, 0)) := by decide +kernel
theorem xr_9_56 : X_row 9 56 = some (56, (.putfield 39, 3), (0, 1, 20)) := by decide +kernel
theorem xr_9_59 : X_row 9 59 = some (59, (.return_, 1), (0, 0, 0)) := by decide +kernel
theorem xr_11_0 : X_row 11 0 = some (0, (.aload_n 0, 1), (0, 0, 0)) := by decide +kernel
theorem xr_11_1 : X_row 11 1 = some (1, (.getfield 15, 3), (0, 4, 26)) := by decide +kernel
theorem xr_11_4 : X_row 11 4 = some (4, (.iload_n 1, 1), (0, 0, 0)) := by decide +kernel
theorem xr_11_5 : X_row 11 5 = some (5, (.iaload, 1), (0, 0, 0)) := by decide +kernel
theorem xr_11_6 : X_row 11 6 = some (6, (.iload_n 2, 1), (0, 0, 0)) := by decide +kernel
theorem xr_11_7 : X_row 11 7 = some (7, (.invokestatic 59, 3), (131, 7, 0)) := by decide +kernel
theorem xr_11_10 : X_row 11 10 = some (10, (.ireturn, 1), (0, 0, 0)) := by decide +kernel
theorem xr_12_0 : X_row 12 0 = some (0, (.aload_n 0, 1), (0, 0, 0)) := by decide +kernel
theorem xr_12_1 : X_row 12 1 = some (1, (.getfield 22, 3), (0, 6, 30)) := by decide +kernel
theorem xr_12_4 : X_row 12 4 = some (4, (.iload_n 1, 1), (0, 0, 0)) := by decide +kernel
theorem xr_12_5 : X_row 12 5 = some (5, (.iaload, 1), (0, 0, 0)) := by decide +kernel
theorem xr_12_6 : X_row 12 6 = some (6, (.iload_n 2, 1), (0, 0, 0)) := by decide +kernel
theorem xr_12_7 : X_row 12 7 = some (7, (.invokestatic 59, 3), (131, 7, 0)) := by decide +kernel
theorem xr_12_10 : X_row 12 10 = some (10, (.ireturn, 1), (0, 0, 0)) := by decide +kernel
theorem xr_13_0 : X_row 13 0 = some (0, (.aload_n 0, 1), (0, 0, 0)) := by decide +kernel
theorem xr_13_1 : X_row 13 1 = some (1, (.getfield 39, 3), (0, 1, 20)) := by decide +kernel
theorem xr_13_4 : X_row 13 4 = some (4, (.iconst 1, 1), (0, 0, 0)) := by decide +kernel
theorem xr_13_5 : X_row 13 5 = some (5, (.if_icmp .le 7, 3), (0, 0, 0)) := by decide +kernel
theorem xr_13_8 : X_row 13 8 = some (8, (.iconst 1, 1), (0, 0, 0)) := by decide +kernel
theorem xr_13_9 : X_row 13 9 = some (9, (.goto 4, 3), (0, 0, 0)) := by decide +kernel
theorem xr_13_12 : X_row 13 12 = some (12, (.iconst 0, 1), (0, 0, 0)) := by decide +kernel
theorem xr_13_13 : X_row 13 13 = some (13, (.ireturn, 1), (0, 0, 0)) := by decide +kernel
theorem xn_1 : X_nL 1 = 1 := by decide +kernel
theorem xf_1 : X_na 1 = 0 ∧ X_ci 1 = 0 ∧ X_rt 1 = none := by decide +kernel
theorem xn_2 : X_nL 2 = 2 := by decide +kernel
theorem xf_2 : X_na 2 = 1 ∧ X_ci 2 = 0 ∧ X_rt 2 = (some .boolean) := by decide +kernel
theorem xn_3 : X_nL 3 = 2 := by decide +kernel
theorem xf_3 : X_na 3 = 1 ∧ X_ci 3 = 0 ∧ X_rt 3 = (some .boolean) := by decide +kernel
theorem xn_4 : X_nL 4 = 2 := by decide +kernel
theorem xf_4 : X_na 4 = 1 ∧ X_ci 4 = 0 ∧ X_rt 4 = (some .boolean) := by decide +kernel
theorem xn_5 : X_nL 5 = 3 := by decide +kernel
theorem xf_5 : X_na 5 = 1 ∧ X_ci 5 = 0 ∧ X_rt 5 = (some .int) := by decide +kernel
theorem xn_6 : X_nL 6 = 3 := by decide +kernel
theorem xf_6 : X_na 6 = 1 ∧ X_ci 6 = 0 ∧ X_rt 6 = (some .int) := by decide +kernel
theorem xn_7 : X_nL 7 = 5 := by decide +kernel
theorem xf_7 : X_na 7 = 3 ∧ X_ci 7 = 0 ∧ X_rt 7 = (some .int) := by decide +kernel
theorem xn_8 : X_nL 8 = 3 := by decide +kernel
theorem xf_8 : X_na 8 = 1 ∧ X_ci 8 = 0 ∧ X_rt 8 = none := by decide +kernel
theorem xn_9 : X_nL 9 = 4 := by decide +kernel
theorem xf_9 : X_na 9 = 2 ∧ X_ci 9 = 0 ∧ X_rt 9 = none := by decide +kernel
theorem xn_11 : X_nL 11 = 3 := by decide +kernel
theorem xf_11 : X_na 11 = 2 ∧ X_ci 11 = 0 ∧ X_rt 11 = (some .boolean) := by decide +kernel
theorem xn_12 : X_nL 12 = 3 := by decide +kernel
theorem xf_12 : X_na 12 = 2 ∧ X_ci 12 = 0 ∧ X_rt 12 = (some .boolean) := by decide +kernel
theorem xn_13 : X_nL 13 = 1 := by decide +kernel
theorem xf_13 : X_na 13 = 0 ∧ X_ci 13 = 0 ∧ X_rt 13 = (some .int) := by decide +kernel
theorem X_Ix_r {g : Int → Int64} {n : Int} {x : Int64} {r : Int} (hn : 0 ≤ n) (h : X_Ix g n x r) : -1 ≤ r ∧ r < n := by
  rcases h with ⟨h1, h2, -⟩ | ⟨h1, -⟩ <;> omega
theorem c_hasRank (sc : X_Sc) (S : X_S) (B : Nat) (rc kc wc : Int) (rn : Int → Int64) (lo : Int → Int) (kn : Int → Int64) (ab : Int → Int) (n : Int) (hb : C_bk S B rc kc wc rn lo kn ab) (hn : -2147483648 ≤ n ∧ n ≤ 2147483647) : X_T sc 2 (0, [(0, .ref B), (1, .int (iI n))], [], S) (fun v S' => v = some (.int (iI (bI (0 ≤ n ∧ n < rc)))) ∧ S' = S) := by
  obtain ⟨hb0, hb1, hb2, hb3, hb4, ⟨f, hb5, hf⟩, ⟨hrc, hrcb⟩, ⟨hkc, hkcb⟩, ⟨hwc, hwcb⟩⟩ := id hb
  refine X_QI (fun Q hQ => ?_)
  refine T_p xr_2_0 xn_2 (pc' := 1) (ls' := [(0, .ref B), (1, .int (iI n))]) (st' := [.int (iI n)]) rfl ?_
  refine T_zif_lt xr_2_1 (t := 16) (pc' := 4) rfl rfl (fun c158 => ?_) (fun c158 => ?_)
  · skip
    have c158 : n < 0 := c158
    refine T_p xr_2_16 xn_2 (pc' := 17) (ls' := [(0, .ref B), (1, .int (iI n))]) (st' := [.int (iI 0)]) rfl ?_
    refine T_iret xr_2_17 xf_2.2.2 (by decide) ?_
    refine hQ _ _ ?_
    exact ⟨by rw [bI_f (by omega)], rfl⟩
  · skip
    have c158 : ¬ (n < 0) := c158
    refine T_p xr_2_4 xn_2 (pc' := 5) (ls' := [(0, .ref B), (1, .int (iI n))]) (st' := [.int (iI n)]) rfl ?_
    refine T_p xr_2_5 xn_2 (pc' := 6) (ls' := [(0, .ref B), (1, .int (iI n))]) (st' := [.ref B, .int (iI n)]) rfl ?_
    refine T_get xr_2_6 hb0 rfl (v := .int (iI rc)) rfl (pc' := 9) rfl ?_
    refine T_zicmp_ge xr_2_9 (t := 16) (pc' := 12) rfl rfl (fun c159 => ?_) (fun c159 => ?_)
    · skip
      have c159 : rc ≤ n := c159
      refine T_p xr_2_16 xn_2 (pc' := 17) (ls' := [(0, .ref B), (1, .int (iI n))]) (st' := [.int (iI 0)]) rfl ?_
      refine T_iret xr_2_17 xf_2.2.2 (by decide) ?_
      refine hQ _ _ ?_
      exact ⟨by rw [bI_f (by omega)], rfl⟩
    · skip
      have c159 : ¬ (rc ≤ n) := c159
      refine T_p xr_2_12 xn_2 (pc' := 13) (ls' := [(0, .ref B), (1, .int (iI n))]) (st' := [.int (iI 1)]) rfl ?_
      refine T_p xr_2_13 xn_2 (pc' := 17) (ls' := [(0, .ref B), (1, .int (iI n))]) (st' := [.int (iI 1)]) rfl ?_
      refine T_iret xr_2_17 xf_2.2.2 (by decide) ?_
      refine hQ _ _ ?_
      exact ⟨by rw [bI_t (by omega)], rfl⟩
theorem c_hasKind (sc : X_Sc) (S : X_S) (B : Nat) (rc kc wc : Int) (rn : Int → Int64) (lo : Int → Int) (kn : Int → Int64) (ab : Int → Int) (n : Int) (hb : C_bk S B rc kc wc rn lo kn ab) (hn : -2147483648 ≤ n ∧ n ≤ 2147483647) : X_T sc 3 (0, [(0, .ref B), (1, .int (iI n))], [], S) (fun v S' => v = some (.int (iI (bI (0 ≤ n ∧ n < kc)))) ∧ S' = S) := by
  obtain ⟨hb0, hb1, hb2, hb3, hb4, ⟨f, hb5, hf⟩, ⟨hrc, hrcb⟩, ⟨hkc, hkcb⟩, ⟨hwc, hwcb⟩⟩ := id hb
  refine X_QI (fun Q hQ => ?_)
  refine T_p xr_3_0 xn_3 (pc' := 1) (ls' := [(0, .ref B), (1, .int (iI n))]) (st' := [.int (iI n)]) rfl ?_
  refine T_zif_lt xr_3_1 (t := 16) (pc' := 4) rfl rfl (fun c160 => ?_) (fun c160 => ?_)
  · skip
    have c160 : n < 0 := c160
    refine T_p xr_3_16 xn_3 (pc' := 17) (ls' := [(0, .ref B), (1, .int (iI n))]) (st' := [.int (iI 0)]) rfl ?_
    refine T_iret xr_3_17 xf_3.2.2 (by decide) ?_
    refine hQ _ _ ?_
    exact ⟨by rw [bI_f (by omega)], rfl⟩
  · skip
    have c160 : ¬ (n < 0) := c160
    refine T_p xr_3_4 xn_3 (pc' := 5) (ls' := [(0, .ref B), (1, .int (iI n))]) (st' := [.int (iI n)]) rfl ?_
    refine T_p xr_3_5 xn_3 (pc' := 6) (ls' := [(0, .ref B), (1, .int (iI n))]) (st' := [.ref B, .int (iI n)]) rfl ?_
    refine T_get xr_3_6 hb0 rfl (v := .int (iI kc)) rfl (pc' := 9) rfl ?_
    refine T_zicmp_ge xr_3_9 (t := 16) (pc' := 12) rfl rfl (fun c161 => ?_) (fun c161 => ?_)
    · skip
      have c161 : kc ≤ n := c161
      refine T_p xr_3_16 xn_3 (pc' := 17) (ls' := [(0, .ref B), (1, .int (iI n))]) (st' := [.int (iI 0)]) rfl ?_
      refine T_iret xr_3_17 xf_3.2.2 (by decide) ?_
      refine hQ _ _ ?_
      exact ⟨by rw [bI_f (by omega)], rfl⟩
    · skip
      have c161 : ¬ (kc ≤ n) := c161
      refine T_p xr_3_12 xn_3 (pc' := 13) (ls' := [(0, .ref B), (1, .int (iI n))]) (st' := [.int (iI 1)]) rfl ?_
      refine T_p xr_3_13 xn_3 (pc' := 17) (ls' := [(0, .ref B), (1, .int (iI n))]) (st' := [.int (iI 1)]) rfl ?_
      refine T_iret xr_3_17 xf_3.2.2 (by decide) ?_
      refine hQ _ _ ?_
      exact ⟨by rw [bI_t (by omega)], rfl⟩
theorem c_hasWord (sc : X_Sc) (S : X_S) (B : Nat) (rc kc wc : Int) (rn : Int → Int64) (lo : Int → Int) (kn : Int → Int64) (ab : Int → Int) (n : Int) (hb : C_bk S B rc kc wc rn lo kn ab) (hn : -2147483648 ≤ n ∧ n ≤ 2147483647) : X_T sc 4 (0, [(0, .ref B), (1, .int (iI n))], [], S) (fun v S' => v = some (.int (iI (bI (0 ≤ n ∧ n < wc)))) ∧ S' = S) := by
  obtain ⟨hb0, hb1, hb2, hb3, hb4, ⟨f, hb5, hf⟩, ⟨hrc, hrcb⟩, ⟨hkc, hkcb⟩, ⟨hwc, hwcb⟩⟩ := id hb
  refine X_QI (fun Q hQ => ?_)
  refine T_p xr_4_0 xn_4 (pc' := 1) (ls' := [(0, .ref B), (1, .int (iI n))]) (st' := [.int (iI n)]) rfl ?_
  refine T_zif_lt xr_4_1 (t := 16) (pc' := 4) rfl rfl (fun c162 => ?_) (fun c162 => ?_)
  · skip
    have c162 : n < 0 := c162
    refine T_p xr_4_16 xn_4 (pc' := 17) (ls' := [(0, .ref B), (1, .int (iI n))]) (st' := [.int (iI 0)]) rfl ?_
    refine T_iret xr_4_17 xf_4.2.2 (by decide) ?_
    refine hQ _ _ ?_
    exact ⟨by rw [bI_f (by omega)], rfl⟩
  · skip
    have c162 : ¬ (n < 0) := c162
    refine T_p xr_4_4 xn_4 (pc' := 5) (ls' := [(0, .ref B), (1, .int (iI n))]) (st' := [.int (iI n)]) rfl ?_
    refine T_p xr_4_5 xn_4 (pc' := 6) (ls' := [(0, .ref B), (1, .int (iI n))]) (st' := [.ref B, .int (iI n)]) rfl ?_
    refine T_get xr_4_6 hb0 rfl (v := .int (iI wc)) rfl (pc' := 9) rfl ?_
    refine T_zicmp_ge xr_4_9 (t := 16) (pc' := 12) rfl rfl (fun c163 => ?_) (fun c163 => ?_)
    · skip
      have c163 : wc ≤ n := c163
      refine T_p xr_4_16 xn_4 (pc' := 17) (ls' := [(0, .ref B), (1, .int (iI n))]) (st' := [.int (iI 0)]) rfl ?_
      refine T_iret xr_4_17 xf_4.2.2 (by decide) ?_
      refine hQ _ _ ?_
      exact ⟨by rw [bI_f (by omega)], rfl⟩
    · skip
      have c163 : ¬ (wc ≤ n) := c163
      refine T_p xr_4_12 xn_4 (pc' := 13) (ls' := [(0, .ref B), (1, .int (iI n))]) (st' := [.int (iI 1)]) rfl ?_
      refine T_p xr_4_13 xn_4 (pc' := 17) (ls' := [(0, .ref B), (1, .int (iI n))]) (st' := [.int (iI 1)]) rfl ?_
      refine T_iret xr_4_17 xf_4.2.2 (by decide) ?_
      refine hQ _ _ ?_
      exact ⟨by rw [bI_t (by omega)], rfl⟩
theorem c_indexOf (sc : X_Sc) (S : X_S) (a : Nat) (n : Int) (n0 : Nat) (g : Int → Int64) (t : Int64) (ha : S.1 a = .inl (.long, n0, .inr (.inl fun k : Nat => g (k : Int)))) (hn : 0 ≤ n ∧ n ≤ n0) (hn0 : n0 ≤ 12) : X_T sc 7 (0, [(0, .ref a), (1, .int (iI n)), (2, .long t)], [], S) (fun v S' => ∃ r, v = some (.int (iI r)) ∧ X_Ix g n t r ∧ S' = S) := by
  refine X_QI (fun Q hQ => ?_)
  refine T_p xr_7_0 xn_7 (pc' := 1) (ls' := [(0, .ref a), (1, .int (iI n)), (2, .long t)]) (st' := [.int (iI 0)]) rfl ?_
  refine T_p xr_7_1 xn_7 (pc' := 3) (ls' := [(4, .int (iI 0)), (0, .ref a), (1, .int (iI n)), (2, .long t)]) (st' := []) rfl ?_
  have L164 : ∀ (m166 : Nat) (i : Int) (hi : 0 ≤ i ∧ i ≤ n) (hno : ∀ k, 0 ≤ k → k < i → ¬ g k = t) (hm167 : n - i < m166), X_T sc 7 (3, [(4, .int (iI i)), (0, .ref a), (1, .int (iI n)), (2, .long t)], [], S) Q := by
    intro m166
    induction m166 with
    | zero =>
      intro i hi hno hm167
      exact (show False by omega).elim
    | succ m166 ih165 =>
      intro i hi hno hm167
      refine T_p xr_7_3 xn_7 (pc' := 5) (ls' := [(4, .int (iI i)), (0, .ref a), (1, .int (iI n)), (2, .long t)]) (st' := [.int (iI i)]) rfl ?_
      refine T_p xr_7_5 xn_7 (pc' := 6) (ls' := [(4, .int (iI i)), (0, .ref a), (1, .int (iI n)), (2, .long t)]) (st' := [.int (iI n), .int (iI i)]) rfl ?_
      refine T_zicmp_ge xr_7_6 (t := 27) (pc' := 9) rfl rfl (fun c169 => ?_) (fun c169 => ?_)
      · skip
        have c169 : n ≤ i := c169
        refine T_p xr_7_27 xn_7 (pc' := 28) (ls' := [(4, .int (iI i)), (0, .ref a), (1, .int (iI n)), (2, .long t)]) (st' := [.int (iI (-1))]) rfl ?_
        refine T_iret xr_7_28 xf_7.2.2 rfl ?_
        refine hQ _ _ ?_
        exact ⟨-1, rfl, Or.inr ⟨rfl, fun k h1 h2 => hno k h1 (by omega)⟩, rfl⟩
      · skip
        have c169 : ¬ (n ≤ i) := c169
        refine T_p xr_7_9 xn_7 (pc' := 10) (ls' := [(4, .int (iI i)), (0, .ref a), (1, .int (iI n)), (2, .long t)]) (st' := [.ref a]) rfl ?_
        refine T_p xr_7_10 xn_7 (pc' := 12) (ls' := [(4, .int (iI i)), (0, .ref a), (1, .int (iI n)), (2, .long t)]) (st' := [.int (iI i), .ref a]) rfl ?_
        refine T_zlald xr_7_12 ha (pc' := 13) rfl ?_
        refine T_p xr_7_13 xn_7 (pc' := 14) (ls' := [(4, .int (iI i)), (0, .ref a), (1, .int (iI n)), (2, .long t)]) (st' := [.long t, .long (g i)]) rfl ?_
        refine T_lc_ne xr_7_14 xr_7_15 (t := 21) (pc' := 18) rfl rfl (fun c170 => ?_) (fun c170 => ?_)
        · skip
          have c170 : ¬ (g i) = t := c170
          refine T_ziinc xr_7_21 xn_7 (a := i) (z := i + 1) rfl (Nat.le_of_ble_eq_true rfl) (by omega) (ls' := [(4, .int (iI (i + 1))), (0, .ref a), (1, .int (iI n)), (2, .long t)]) rfl (pc' := 24) rfl ?_
          refine T_p xr_7_24 xn_7 (pc' := 3) (ls' := [(4, .int (iI (i + 1))), (0, .ref a), (1, .int (iI n)), (2, .long t)]) (st' := []) rfl ?_
          exact ih165 (i + 1)  (by omega) (fun k h1 h2 => by
                by_cases hk : k = i
                · subst hk; assumption
                · exact hno k h1 (by omega)) (by omega)
        · skip
          have c170 : ¬ (¬ (g i) = t) := c170
          refine T_p xr_7_18 xn_7 (pc' := 20) (ls' := [(4, .int (iI i)), (0, .ref a), (1, .int (iI n)), (2, .long t)]) (st' := [.int (iI i)]) rfl ?_
          refine T_iret xr_7_20 xf_7.2.2 rfl ?_
          refine hQ _ _ ?_
          exact ⟨i, rfl, Or.inl ⟨by omega, by omega, by first | assumption | exact Classical.not_not.mp (by assumption), hno⟩, rfl⟩
  exact L164 (n + 1).toNat 0  (by omega) (fun k h1 h2 => (show False by omega).elim) (by omega)
theorem c_rankNamed (sc : X_Sc) (S : X_S) (B : Nat) (rc kc wc : Int) (rn : Int → Int64) (lo : Int → Int) (kn : Int → Int64) (ab : Int → Int) (t : Int64) (hb : C_bk S B rc kc wc rn lo kn ab)  : X_T sc 5 (0, [(0, .ref B), (1, .long t)], [], S) (fun v S' => ∃ r, v = some (.int (iI r)) ∧ X_Ix rn rc t r ∧ S' = S) := by
  obtain ⟨hb0, hb1, hb2, hb3, hb4, ⟨f, hb5, hf⟩, ⟨hrc, hrcb⟩, ⟨hkc, hkcb⟩, ⟨hwc, hwcb⟩⟩ := id hb
  refine X_QI (fun Q hQ => ?_)
  refine T_p xr_5_0 xn_5 (pc' := 1) (ls' := [(0, .ref B), (1, .long t)]) (st' := [.ref B]) rfl ?_
  refine T_get xr_5_1 hb0 rfl (v := .ref (B + 1)) rfl (pc' := 4) rfl ?_
  refine T_p xr_5_4 xn_5 (pc' := 5) (ls' := [(0, .ref B), (1, .long t)]) (st' := [.ref B, .ref (B + 1)]) rfl ?_
  refine T_get xr_5_5 hb0 rfl (v := .int (iI rc)) rfl (pc' := 8) rfl ?_
  refine T_p xr_5_8 xn_5 (pc' := 9) (ls' := [(0, .ref B), (1, .long t)]) (st' := [.long t, .int (iI rc), .ref (B + 1)]) rfl ?_
  refine T_cs xr_5_9 (by decide) xf_7.1 xn_7 (as := [.ref (B + 1), .int (iI rc), .long t]) (r := []) rfl (Nat.le_of_ble_eq_true rfl) (Nat.le_of_ble_eq_true rfl) (pc' := 12) rfl (ls' := [(0, .ref (B + 1)), (1, .int (iI rc)), (2, .long t)]) rfl ?_
  refine T_mono (c_indexOf sc S (B + 1) rc 12 rn t hb1 (by omega) (by omega)) (fun v171 S172 h173 => ?_)
  obtain ⟨r174, h175, hx176, h177⟩ := h173
  rw [h175, h177]
  have hr178 := X_Ix_r (by omega) hx176
  show X_T sc 5 (12, [(0, .ref B), (1, .long t)], [.int (iI r174)], S) _
  refine T_iret xr_5_12 xf_5.2.2 rfl ?_
  refine hQ _ _ ?_
  exact ⟨_, rfl, hx176, rfl⟩
theorem c_kindNamed (sc : X_Sc) (S : X_S) (B : Nat) (rc kc wc : Int) (rn : Int → Int64) (lo : Int → Int) (kn : Int → Int64) (ab : Int → Int) (t : Int64) (hb : C_bk S B rc kc wc rn lo kn ab)  : X_T sc 6 (0, [(0, .ref B), (1, .long t)], [], S) (fun v S' => ∃ r, v = some (.int (iI r)) ∧ X_Ix kn kc t r ∧ S' = S) := by
  obtain ⟨hb0, hb1, hb2, hb3, hb4, ⟨f, hb5, hf⟩, ⟨hrc, hrcb⟩, ⟨hkc, hkcb⟩, ⟨hwc, hwcb⟩⟩ := id hb
  refine X_QI (fun Q hQ => ?_)
  refine T_p xr_6_0 xn_6 (pc' := 1) (ls' := [(0, .ref B), (1, .long t)]) (st' := [.ref B]) rfl ?_
  refine T_get xr_6_1 hb0 rfl (v := .ref (B + 3)) rfl (pc' := 4) rfl ?_
  refine T_p xr_6_4 xn_6 (pc' := 5) (ls' := [(0, .ref B), (1, .long t)]) (st' := [.ref B, .ref (B + 3)]) rfl ?_
  refine T_get xr_6_5 hb0 rfl (v := .int (iI kc)) rfl (pc' := 8) rfl ?_
  refine T_p xr_6_8 xn_6 (pc' := 9) (ls' := [(0, .ref B), (1, .long t)]) (st' := [.long t, .int (iI kc), .ref (B + 3)]) rfl ?_
  refine T_cs xr_6_9 (by decide) xf_7.1 xn_7 (as := [.ref (B + 3), .int (iI kc), .long t]) (r := []) rfl (Nat.le_of_ble_eq_true rfl) (Nat.le_of_ble_eq_true rfl) (pc' := 12) rfl (ls' := [(0, .ref (B + 3)), (1, .int (iI kc)), (2, .long t)]) rfl ?_
  refine T_mono (c_indexOf sc S (B + 3) kc 11 kn t hb3 (by omega) (by omega)) (fun v179 S180 h181 => ?_)
  obtain ⟨r182, h183, hx184, h185⟩ := h181
  rw [h183, h185]
  have hr186 := X_Ix_r (by omega) hx184
  show X_T sc 6 (12, [(0, .ref B), (1, .long t)], [.int (iI r182)], S) _
  refine T_iret xr_6_12 xf_6.2.2 rfl ?_
  refine hQ _ _ ?_
  exact ⟨_, rfl, hx184, rfl⟩
theorem c_clearb (sc : X_Sc) (S : X_S) (B : Nat) (rc kc wc : Int) (rn : Int → Int64) (lo : Int → Int) (kn : Int → Int64) (ab : Int → Int)  (hb : C_bk S B rc kc wc rn lo kn ab)  : X_T sc 1 (0, [(0, .ref B)], [], S) (fun v S' => v = none ∧ C_bk S' B 0 1 0 rn lo (X_ug kn 0 (Int64.ofNat 6384748)) (X_ug ab 0 1) ∧ X_Fr (fun r => B ≤ r ∧ r ≤ B + 4) S S') := by
  obtain ⟨hb0, hb1, hb2, hb3, hb4, ⟨f, hb5, hf⟩, ⟨hrc, hrcb⟩, ⟨hkc, hkcb⟩, ⟨hwc, hwcb⟩⟩ := id hb
  refine X_QI (fun Q hQ => ?_)
  refine T_p xr_1_0 xn_1 (pc' := 1) (ls' := [(0, .ref B)]) (st' := [.ref B]) rfl ?_
  refine T_p xr_1_1 xn_1 (pc' := 2) (ls' := [(0, .ref B)]) (st' := [.int (iI 0), .ref B]) rfl ?_
  refine T_put xr_1_2 hb0 rfl (Nat.le_of_ble_eq_true rfl) rfl (fs' := [.int (iI 0), .int (iI kc), .int (iI wc), .ref (B + 1), .ref (B + 2), .ref (B + 3), .ref (B + 4), .ref (B + 5)]) rfl (pc' := 5) rfl (fun S187 h188 n189 e190 => ?_)
  refine T_p xr_1_5 xn_1 (pc' := 6) (ls' := [(0, .ref B)]) (st' := [.ref B]) rfl ?_
  refine T_p xr_1_6 xn_1 (pc' := 7) (ls' := [(0, .ref B)]) (st' := [.int (iI 1), .ref B]) rfl ?_
  refine T_put xr_1_7 h188 rfl (Nat.le_of_ble_eq_true rfl) rfl (fs' := [.int (iI 0), .int (iI 1), .int (iI wc), .ref (B + 1), .ref (B + 2), .ref (B + 3), .ref (B + 4), .ref (B + 5)]) rfl (pc' := 10) rfl (fun S191 h192 n193 e194 => ?_)
  refine T_p xr_1_10 xn_1 (pc' := 11) (ls' := [(0, .ref B)]) (st' := [.ref B]) rfl ?_
  refine T_p xr_1_11 xn_1 (pc' := 12) (ls' := [(0, .ref B)]) (st' := [.int (iI 0), .ref B]) rfl ?_
  refine T_put xr_1_12 h192 rfl (Nat.le_of_ble_eq_true rfl) rfl (fs' := [.int (iI 0), .int (iI 1), .int (iI 0), .ref (B + 1), .ref (B + 2), .ref (B + 3), .ref (B + 4), .ref (B + 5)]) rfl (pc' := 15) rfl (fun S195 h196 n197 e198 => ?_)
  refine T_p xr_1_15 xn_1 (pc' := 16) (ls' := [(0, .ref B)]) (st' := [.ref B]) rfl ?_
  refine T_get xr_1_16 h196 rfl (v := .ref (B + 3)) rfl (pc' := 19) rfl ?_
  refine T_p xr_1_19 xn_1 (pc' := 20) (ls' := [(0, .ref B)]) (st' := [.int (iI 0), .ref (B + 3)]) rfl ?_
  refine T_p xr_1_20 xn_1 (pc' := 23) (ls' := [(0, .ref B)]) (st' := [.long (Int64.ofNat 6384748), .int (iI 0), .ref (B + 3)]) rfl ?_
  have h199 := (n197 (B + 3) (by first | exact (fun h => absurd (Nat.add_left_cancel h) (by decide)) | omega)).trans ((n193 (B + 3) (by first | exact (fun h => absurd (Nat.add_left_cancel h) (by decide)) | omega)).trans ((n189 (B + 3) (by first | exact (fun h => absurd (Nat.add_left_cancel h) (by decide)) | omega)).trans (hb3)))
  refine T_zlast xr_1_23 h199 (pc' := 24) rfl (fun S200 h201 n202 e203 => ?_)
  refine T_p xr_1_24 xn_1 (pc' := 25) (ls' := [(0, .ref B)]) (st' := [.ref B]) rfl ?_
  have h204 := (n202 B (by omega)).trans (h196)
  refine T_get xr_1_25 h204 rfl (v := .ref (B + 4)) rfl (pc' := 28) rfl ?_
  refine T_p xr_1_28 xn_1 (pc' := 29) (ls' := [(0, .ref B)]) (st' := [.int (iI 0), .ref (B + 4)]) rfl ?_
  refine T_p xr_1_29 xn_1 (pc' := 30) (ls' := [(0, .ref B)]) (st' := [.int (iI 1), .int (iI 0), .ref (B + 4)]) rfl ?_
  have h205 := (n202 (B + 4) (by first | exact (fun h => absurd (Nat.add_left_cancel h) (by decide)) | omega)).trans ((n197 (B + 4) (by first | exact (fun h => absurd (Nat.add_left_cancel h) (by decide)) | omega)).trans ((n193 (B + 4) (by first | exact (fun h => absurd (Nat.add_left_cancel h) (by decide)) | omega)).trans ((n189 (B + 4) (by first | exact (fun h => absurd (Nat.add_left_cancel h) (by decide)) | omega)).trans (hb4))))
  refine T_ziast xr_1_30 h205 (pc' := 31) rfl (fun S206 h207 n208 e209 => ?_)
  refine T_vret xr_1_31 xf_1.2.2 ?_
  refine hQ _ _ ?_
  have h210 := (n208 B (by omega)).trans (h204)
  have h211 := (n208 (B + 1) (by first | exact (fun h => absurd (Nat.add_left_cancel h) (by decide)) | omega)).trans ((n202 (B + 1) (by first | exact (fun h => absurd (Nat.add_left_cancel h) (by decide)) | omega)).trans ((n197 (B + 1) (by first | exact (fun h => absurd (Nat.add_left_cancel h) (by decide)) | omega)).trans ((n193 (B + 1) (by first | exact (fun h => absurd (Nat.add_left_cancel h) (by decide)) | omega)).trans ((n189 (B + 1) (by first | exact (fun h => absurd (Nat.add_left_cancel h) (by decide)) | omega)).trans (hb1)))))
  have h212 := (n208 (B + 2) (by first | exact (fun h => absurd (Nat.add_left_cancel h) (by decide)) | omega)).trans ((n202 (B + 2) (by first | exact (fun h => absurd (Nat.add_left_cancel h) (by decide)) | omega)).trans ((n197 (B + 2) (by first | exact (fun h => absurd (Nat.add_left_cancel h) (by decide)) | omega)).trans ((n193 (B + 2) (by first | exact (fun h => absurd (Nat.add_left_cancel h) (by decide)) | omega)).trans ((n189 (B + 2) (by first | exact (fun h => absurd (Nat.add_left_cancel h) (by decide)) | omega)).trans (hb2)))))
  have h213 := (n208 (B + 3) (by first | exact (fun h => absurd (Nat.add_left_cancel h) (by decide)) | omega)).trans (h201)
  have h214 := (n208 (B + 5) (by first | exact (fun h => absurd (Nat.add_left_cancel h) (by decide)) | omega)).trans ((n202 (B + 5) (by first | exact (fun h => absurd (Nat.add_left_cancel h) (by decide)) | omega)).trans ((n197 (B + 5) (by first | exact (fun h => absurd (Nat.add_left_cancel h) (by decide)) | omega)).trans ((n193 (B + 5) (by first | exact (fun h => absurd (Nat.add_left_cancel h) (by decide)) | omega)).trans ((n189 (B + 5) (by first | exact (fun h => absurd (Nat.add_left_cancel h) (by decide)) | omega)).trans (hb5)))))
  exact ⟨rfl, ⟨h210, h211, h212, h213, h207, ⟨f, h214, hf⟩, ⟨by omega, by omega⟩, ⟨by omega, by omega⟩, ⟨by omega, by omega⟩⟩, (((((X_Fr.rf).tr (X_Fr.of n189 e190 (by first | decide | exact ⟨Nat.le_add_right _ _, Nat.add_le_add_left (by decide) _⟩ | omega))).tr (X_Fr.of n193 e194 (by first | decide | exact ⟨Nat.le_add_right _ _, Nat.add_le_add_left (by decide) _⟩ | omega))).tr (X_Fr.of n197 e198 (by first | decide | exact ⟨Nat.le_add_right _ _, Nat.add_le_add_left (by decide) _⟩ | omega))).tr (X_Fr.of n202 e203 (by first | decide | exact ⟨Nat.le_add_right _ _, Nat.add_le_add_left (by decide) _⟩ | omega))).tr (X_Fr.of n208 e209 (by first | decide | exact ⟨Nat.le_add_right _ _, Nat.add_le_add_left (by decide) _⟩ | omega))⟩
theorem c_addRank (sc : X_Sc) (S : X_S) (B : Nat) (rc kc wc : Int) (rn : Int → Int64) (lo : Int → Int) (kn : Int → Int64) (ab : Int → Int) (t : Int64) (hb : C_bk S B rc kc wc rn lo kn ab) (hr : rc < 12) : X_T sc 8 (0, [(0, .ref B), (1, .long t)], [], S) (fun v S' => v = none ∧ C_bk S' B (rc + 1) kc wc (X_ug rn rc t) (X_ug lo rc 0) kn ab ∧ X_Fr (fun r => B ≤ r ∧ r ≤ B + 4) S S') := by
  obtain ⟨hb0, hb1, hb2, hb3, hb4, ⟨f, hb5, hf⟩, ⟨hrc, hrcb⟩, ⟨hkc, hkcb⟩, ⟨hwc, hwcb⟩⟩ := id hb
  refine X_QI (fun Q hQ => ?_)
  refine T_p xr_8_0 xn_8 (pc' := 1) (ls' := [(0, .ref B), (1, .long t)]) (st' := [.ref B]) rfl ?_
  refine T_get xr_8_1 hb0 rfl (v := .int (iI rc)) rfl (pc' := 4) rfl ?_
  refine T_p xr_8_4 xn_8 (pc' := 6) (ls' := [(0, .ref B), (1, .long t)]) (st' := [.int (iI 12), .int (iI rc)]) rfl ?_
  refine T_zicmp_ge xr_8_6 (t := 39) (pc' := 9) rfl rfl (fun c215 => ?_) (fun c215 => ?_)
  · skip
    have c215 : 12 ≤ rc := c215
    exact (show False by omega).elim
  · skip
    have c215 : ¬ (12 ≤ rc) := c215
    refine T_p xr_8_9 xn_8 (pc' := 10) (ls' := [(0, .ref B), (1, .long t)]) (st' := [.ref B]) rfl ?_
    refine T_get xr_8_10 hb0 rfl (v := .ref (B + 1)) rfl (pc' := 13) rfl ?_
    refine T_p xr_8_13 xn_8 (pc' := 14) (ls' := [(0, .ref B), (1, .long t)]) (st' := [.ref B, .ref (B + 1)]) rfl ?_
    refine T_get xr_8_14 hb0 rfl (v := .int (iI rc)) rfl (pc' := 17) rfl ?_
    refine T_p xr_8_17 xn_8 (pc' := 18) (ls' := [(0, .ref B), (1, .long t)]) (st' := [.long t, .int (iI rc), .ref (B + 1)]) rfl ?_
    refine T_zlast xr_8_18 hb1 (pc' := 19) rfl (fun S216 h217 n218 e219 => ?_)
    refine T_p xr_8_19 xn_8 (pc' := 20) (ls' := [(0, .ref B), (1, .long t)]) (st' := [.ref B]) rfl ?_
    have h220 := (n218 B (by omega)).trans (hb0)
    refine T_get xr_8_20 h220 rfl (v := .ref (B + 2)) rfl (pc' := 23) rfl ?_
    refine T_p xr_8_23 xn_8 (pc' := 24) (ls' := [(0, .ref B), (1, .long t)]) (st' := [.ref B, .ref (B + 2)]) rfl ?_
    refine T_get xr_8_24 h220 rfl (v := .int (iI rc)) rfl (pc' := 27) rfl ?_
    refine T_p xr_8_27 xn_8 (pc' := 28) (ls' := [(0, .ref B), (1, .long t)]) (st' := [.int (iI 0), .int (iI rc), .ref (B + 2)]) rfl ?_
    have h221 := (n218 (B + 2) (by first | exact (fun h => absurd (Nat.add_left_cancel h) (by decide)) | omega)).trans (hb2)
    refine T_ziast xr_8_28 h221 (pc' := 29) rfl (fun S222 h223 n224 e225 => ?_)
    refine T_p xr_8_29 xn_8 (pc' := 30) (ls' := [(0, .ref B), (1, .long t)]) (st' := [.ref B]) rfl ?_
    refine T_p xr_8_30 xn_8 (pc' := 31) (ls' := [(0, .ref B), (1, .long t)]) (st' := [.ref B, .ref B]) rfl ?_
    have h226 := (n224 B (by omega)).trans (h220)
    refine T_get xr_8_31 h226 rfl (v := .int (iI rc)) rfl (pc' := 34) rfl ?_
    refine T_p xr_8_34 xn_8 (pc' := 35) (ls' := [(0, .ref B), (1, .long t)]) (st' := [.int (iI 1), .int (iI rc), .ref B]) rfl ?_
    refine T_ziadd xr_8_35 (z := rc + 1) rfl (pc' := 36) rfl ?_
    refine T_put xr_8_36 h226 rfl (Nat.le_of_ble_eq_true rfl) rfl (fs' := [.int (iI (rc + 1)), .int (iI kc), .int (iI wc), .ref (B + 1), .ref (B + 2), .ref (B + 3), .ref (B + 4), .ref (B + 5)]) rfl (pc' := 39) rfl (fun S227 h228 n229 e230 => ?_)
    refine T_vret xr_8_39 xf_8.2.2 ?_
    refine hQ _ _ ?_
    have h231 := (n229 (B + 1) (by first | exact (fun h => absurd (Nat.add_left_cancel h) (by decide)) | omega)).trans ((n224 (B + 1) (by first | exact (fun h => absurd (Nat.add_left_cancel h) (by decide)) | omega)).trans (h217))
    have h232 := (n229 (B + 2) (by first | exact (fun h => absurd (Nat.add_left_cancel h) (by decide)) | omega)).trans (h223)
    have h233 := (n229 (B + 3) (by first | exact (fun h => absurd (Nat.add_left_cancel h) (by decide)) | omega)).trans ((n224 (B + 3) (by first | exact (fun h => absurd (Nat.add_left_cancel h) (by decide)) | omega)).trans ((n218 (B + 3) (by first | exact (fun h => absurd (Nat.add_left_cancel h) (by decide)) | omega)).trans (hb3)))
    have h234 := (n229 (B + 4) (by first | exact (fun h => absurd (Nat.add_left_cancel h) (by decide)) | omega)).trans ((n224 (B + 4) (by first | exact (fun h => absurd (Nat.add_left_cancel h) (by decide)) | omega)).trans ((n218 (B + 4) (by first | exact (fun h => absurd (Nat.add_left_cancel h) (by decide)) | omega)).trans (hb4)))
    have h235 := (n229 (B + 5) (by first | exact (fun h => absurd (Nat.add_left_cancel h) (by decide)) | omega)).trans ((n224 (B + 5) (by first | exact (fun h => absurd (Nat.add_left_cancel h) (by decide)) | omega)).trans ((n218 (B + 5) (by first | exact (fun h => absurd (Nat.add_left_cancel h) (by decide)) | omega)).trans (hb5)))
    exact ⟨rfl, ⟨h228, h231, h232, h233, h234, ⟨f, h235, hf⟩, ⟨by omega, by omega⟩, ⟨by omega, by omega⟩, ⟨by omega, by omega⟩⟩, (((X_Fr.rf).tr (X_Fr.of n218 e219 (by first | decide | exact ⟨Nat.le_add_right _ _, Nat.add_le_add_left (by decide) _⟩ | omega))).tr (X_Fr.of n224 e225 (by first | decide | exact ⟨Nat.le_add_right _ _, Nat.add_le_add_left (by decide) _⟩ | omega))).tr (X_Fr.of n229 e230 (by first | decide | exact ⟨Nat.le_add_right _ _, Nat.add_le_add_left (by decide) _⟩ | omega))⟩
theorem c_addKind (sc : X_Sc) (S : X_S) (B : Nat) (rc kc wc : Int) (rn : Int → Int64) (lo : Int → Int) (kn : Int → Int64) (ab : Int → Int) (t : Int64) (u : Int) (hb : C_bk S B rc kc wc rn lo kn ab) (hr : kc < 11) (hu : 0 ≤ u ∧ u < kc) : X_T sc 9 (0, [(0, .ref B), (1, .long t), (3, .int (iI u))], [], S) (fun v S' => v = none ∧ C_bk S' B rc (kc + 1) wc rn lo (X_ug kn kc t) (X_ug ab kc (X_bO (ab u) (X_bS kc))) ∧ X_Fr (fun r => B ≤ r ∧ r ≤ B + 4) S S') := by
  obtain ⟨hb0, hb1, hb2, hb3, hb4, ⟨f, hb5, hf⟩, ⟨hrc, hrcb⟩, ⟨hkc, hkcb⟩, ⟨hwc, hwcb⟩⟩ := id hb
  refine X_QI (fun Q hQ => ?_)
  refine T_p xr_9_0 xn_9 (pc' := 1) (ls' := [(0, .ref B), (1, .long t), (3, .int (iI u))]) (st' := [.ref B]) rfl ?_
  refine T_get xr_9_1 hb0 rfl (v := .int (iI kc)) rfl (pc' := 4) rfl ?_
  refine T_p xr_9_4 xn_9 (pc' := 6) (ls' := [(0, .ref B), (1, .long t), (3, .int (iI u))]) (st' := [.int (iI 11), .int (iI kc)]) rfl ?_
  refine T_zicmp_ge xr_9_6 (t := 59) (pc' := 9) rfl rfl (fun c236 => ?_) (fun c236 => ?_)
  · skip
    have c236 : 11 ≤ kc := c236
    exact (show False by omega).elim
  · skip
    have c236 : ¬ (11 ≤ kc) := c236
    refine T_p xr_9_9 xn_9 (pc' := 10) (ls' := [(0, .ref B), (1, .long t), (3, .int (iI u))]) (st' := [.ref B]) rfl ?_
    refine T_p xr_9_10 xn_9 (pc' := 11) (ls' := [(0, .ref B), (1, .long t), (3, .int (iI u))]) (st' := [.int (iI u), .ref B]) rfl ?_
    refine T_cv (S := S) (q := B) xr_9_11 xf_3.1 xf_3.2.1 xn_3 (as := [.int (iI u)]) (r := []) rfl hb0 (Nat.le_of_ble_eq_true rfl) (Nat.le_of_ble_eq_true rfl) (pc' := 14) rfl (ls' := [(0, .ref B), (1, .int (iI u))]) rfl ?_
    refine T_mono (c_hasKind sc S B rc kc wc rn lo kn ab u ⟨hb0, hb1, hb2, hb3, hb4, ⟨f, hb5, hf⟩, ⟨by omega, by omega⟩, ⟨by omega, by omega⟩, ⟨by omega, by omega⟩⟩ (by omega)) (fun v238 S239 h237 => ?_)
    obtain ⟨h240, h241⟩ := h237
    rw [h240, h241]
    show X_T sc 9 (14, [(0, .ref B), (1, .long t), (3, .int (iI u))], [.int (iI (bI (0 ≤ u ∧ u < kc)))], S) _
    refine T_bif_eq xr_9_14 (t := 59) (pc' := 17) rfl rfl (fun c242 => ?_) (fun c242 => ?_)
    · skip
      have c242 : ¬ (0 ≤ u ∧ u < kc) := c242
      exact (show False by omega).elim
    · skip
      have c242 : (0 ≤ u ∧ u < kc) := c242
      refine T_p xr_9_17 xn_9 (pc' := 18) (ls' := [(0, .ref B), (1, .long t), (3, .int (iI u))]) (st' := [.ref B]) rfl ?_
      refine T_get xr_9_18 hb0 rfl (v := .ref (B + 3)) rfl (pc' := 21) rfl ?_
      refine T_p xr_9_21 xn_9 (pc' := 22) (ls' := [(0, .ref B), (1, .long t), (3, .int (iI u))]) (st' := [.ref B, .ref (B + 3)]) rfl ?_
      refine T_get xr_9_22 hb0 rfl (v := .int (iI kc)) rfl (pc' := 25) rfl ?_
      refine T_p xr_9_25 xn_9 (pc' := 26) (ls' := [(0, .ref B), (1, .long t), (3, .int (iI u))]) (st' := [.long t, .int (iI kc), .ref (B + 3)]) rfl ?_
      refine T_zlast xr_9_26 hb3 (pc' := 27) rfl (fun S243 h244 n245 e246 => ?_)
      refine T_p xr_9_27 xn_9 (pc' := 28) (ls' := [(0, .ref B), (1, .long t), (3, .int (iI u))]) (st' := [.ref B]) rfl ?_
      have h247 := (n245 B (by omega)).trans (hb0)
      refine T_get xr_9_28 h247 rfl (v := .ref (B + 4)) rfl (pc' := 31) rfl ?_
      refine T_p xr_9_31 xn_9 (pc' := 32) (ls' := [(0, .ref B), (1, .long t), (3, .int (iI u))]) (st' := [.ref B, .ref (B + 4)]) rfl ?_
      refine T_get xr_9_32 h247 rfl (v := .int (iI kc)) rfl (pc' := 35) rfl ?_
      refine T_p xr_9_35 xn_9 (pc' := 36) (ls' := [(0, .ref B), (1, .long t), (3, .int (iI u))]) (st' := [.ref B, .int (iI kc), .ref (B + 4)]) rfl ?_
      refine T_get xr_9_36 h247 rfl (v := .ref (B + 4)) rfl (pc' := 39) rfl ?_
      refine T_p xr_9_39 xn_9 (pc' := 40) (ls' := [(0, .ref B), (1, .long t), (3, .int (iI u))]) (st' := [.int (iI u), .ref (B + 4), .int (iI kc), .ref (B + 4)]) rfl ?_
      have h248 := (n245 (B + 4) (by first | exact (fun h => absurd (Nat.add_left_cancel h) (by decide)) | omega)).trans (hb4)
      refine T_ziald xr_9_40 h248 (pc' := 41) rfl ?_
      refine T_p xr_9_41 xn_9 (pc' := 42) (ls' := [(0, .ref B), (1, .long t), (3, .int (iI u))]) (st' := [.int (iI 1), .int (iI (ab u)), .int (iI kc), .ref (B + 4)]) rfl ?_
      refine T_p xr_9_42 xn_9 (pc' := 43) (ls' := [(0, .ref B), (1, .long t), (3, .int (iI u))]) (st' := [.ref B, .int (iI 1), .int (iI (ab u)), .int (iI kc), .ref (B + 4)]) rfl ?_
      refine T_get xr_9_43 h247 rfl (v := .int (iI kc)) rfl (pc' := 46) rfl ?_
      refine T_zop xr_9_46 (pc' := 47) rfl (z := (iI 1 <<< (iI kc &&& 31)).toInt) (iI_of _) ?_
      refine T_zop xr_9_47 (pc' := 48) rfl (z := (iI (ab u) ||| iI ((iI 1 <<< (iI kc &&& 31)).toInt)).toInt) (iI_of _) ?_
      refine T_ziast xr_9_48 h248 (pc' := 49) rfl (fun S249 h250 n251 e252 => ?_)
      refine T_p xr_9_49 xn_9 (pc' := 50) (ls' := [(0, .ref B), (1, .long t), (3, .int (iI u))]) (st' := [.ref B]) rfl ?_
      refine T_p xr_9_50 xn_9 (pc' := 51) (ls' := [(0, .ref B), (1, .long t), (3, .int (iI u))]) (st' := [.ref B, .ref B]) rfl ?_
      have h253 := (n251 B (by omega)).trans (h247)
      refine T_get xr_9_51 h253 rfl (v := .int (iI kc)) rfl (pc' := 54) rfl ?_
      refine T_p xr_9_54 xn_9 (pc' := 55) (ls' := [(0, .ref B), (1, .long t), (3, .int (iI u))]) (st' := [.int (iI 1), .int (iI kc), .ref B]) rfl ?_
      refine T_ziadd xr_9_55 (z := kc + 1) rfl (pc' := 56) rfl ?_
      refine T_put xr_9_56 h253 rfl (Nat.le_of_ble_eq_true rfl) rfl (fs' := [.int (iI rc), .int (iI (kc + 1)), .int (iI wc), .ref (B + 1), .ref (B + 2), .ref (B + 3), .ref (B + 4), .ref (B + 5)]) rfl (pc' := 59) rfl (fun S254 h255 n256 e257 => ?_)
      refine T_vret xr_9_59 xf_9.2.2 ?_
      refine hQ _ _ ?_
      have h258 := (n256 (B + 1) (by first | exact (fun h => absurd (Nat.add_left_cancel h) (by decide)) | omega)).trans ((n251 (B + 1) (by first | exact (fun h => absurd (Nat.add_left_cancel h) (by decide)) | omega)).trans ((n245 (B + 1) (by first | exact (fun h => absurd (Nat.add_left_cancel h) (by decide)) | omega)).trans (hb1)))
      have h259 := (n256 (B + 2) (by first | exact (fun h => absurd (Nat.add_left_cancel h) (by decide)) | omega)).trans ((n251 (B + 2) (by first | exact (fun h => absurd (Nat.add_left_cancel h) (by decide)) | omega)).trans ((n245 (B + 2) (by first | exact (fun h => absurd (Nat.add_left_cancel h) (by decide)) | omega)).trans (hb2)))
      have h260 := (n256 (B + 3) (by first | exact (fun h => absurd (Nat.add_left_cancel h) (by decide)) | omega)).trans ((n251 (B + 3) (by first | exact (fun h => absurd (Nat.add_left_cancel h) (by decide)) | omega)).trans (h244))
      have h261 := (n256 (B + 4) (by first | exact (fun h => absurd (Nat.add_left_cancel h) (by decide)) | omega)).trans (h250)
      have h262 := (n256 (B + 5) (by first | exact (fun h => absurd (Nat.add_left_cancel h) (by decide)) | omega)).trans ((n251 (B + 5) (by first | exact (fun h => absurd (Nat.add_left_cancel h) (by decide)) | omega)).trans ((n245 (B + 5) (by first | exact (fun h => absurd (Nat.add_left_cancel h) (by decide)) | omega)).trans (hb5)))
      exact ⟨rfl, ⟨h255, h258, h259, h260, h261, ⟨f, h262, hf⟩, ⟨by omega, by omega⟩, ⟨by omega, by omega⟩, ⟨by omega, by omega⟩⟩, (((X_Fr.rf).tr (X_Fr.of n245 e246 (by first | decide | exact ⟨Nat.le_add_right _ _, Nat.add_le_add_left (by decide) _⟩ | omega))).tr (X_Fr.of n251 e252 (by first | decide | exact ⟨Nat.le_add_right _ _, Nat.add_le_add_left (by decide) _⟩ | omega))).tr (X_Fr.of n256 e257 (by first | decide | exact ⟨Nat.le_add_right _ _, Nat.add_le_add_left (by decide) _⟩ | omega))⟩
theorem c_isTighter (sc : X_Sc) (S : X_S) (B : Nat) (rc kc wc : Int) (rn : Int → Int64) (lo : Int → Int) (kn : Int → Int64) (ab : Int → Int) (a b : Int) (hb : C_bk S B rc kc wc rn lo kn ab) (ha : 0 ≤ a ∧ a < 12) : X_T sc 11 (0, [(0, .ref B), (1, .int (iI a)), (2, .int (iI b))], [], S) (fun v S' => v = some (.int (iI (bI (X_bt (lo a) b)))) ∧ S' = S) := by
  obtain ⟨hb0, hb1, hb2, hb3, hb4, ⟨f, hb5, hf⟩, ⟨hrc, hrcb⟩, ⟨hkc, hkcb⟩, ⟨hwc, hwcb⟩⟩ := id hb
  refine X_QI (fun Q hQ => ?_)
  refine T_p xr_11_0 xn_11 (pc' := 1) (ls' := [(0, .ref B), (1, .int (iI a)), (2, .int (iI b))]) (st' := [.ref B]) rfl ?_
  refine T_get xr_11_1 hb0 rfl (v := .ref (B + 2)) rfl (pc' := 4) rfl ?_
  refine T_p xr_11_4 xn_11 (pc' := 5) (ls' := [(0, .ref B), (1, .int (iI a)), (2, .int (iI b))]) (st' := [.int (iI a), .ref (B + 2)]) rfl ?_
  refine T_ziald xr_11_5 hb2 (pc' := 6) rfl ?_
  refine T_p xr_11_6 xn_11 (pc' := 7) (ls' := [(0, .ref B), (1, .int (iI a)), (2, .int (iI b))]) (st' := [.int (iI b), .int (iI (lo a))]) rfl ?_
  refine T_cs xr_11_7 (by decide) xf_131.1 xn_131 (as := [.int (iI (lo a)), .int (iI b)]) (r := []) rfl (Nat.le_of_ble_eq_true rfl) (Nat.le_of_ble_eq_true rfl) (pc' := 10) rfl (ls' := [(0, .int (iI (lo a))), (1, .int (iI b))]) rfl ?_
  refine T_mono (c_hasBit sc S (lo a) b) (fun v264 S265 h263 => ?_)
  obtain ⟨h266, h267⟩ := h263
  rw [h266, h267]
  show X_T sc 11 (10, [(0, .ref B), (1, .int (iI a)), (2, .int (iI b))], [.int (iI (bI (X_bt (lo a) b)))], S) _
  refine T_iret xr_11_10 xf_11.2.2 (X_fit_b _) ?_
  refine hQ _ _ ?_
  exact ⟨rfl, rfl⟩
theorem c_isUnder (sc : X_Sc) (S : X_S) (B : Nat) (rc kc wc : Int) (rn : Int → Int64) (lo : Int → Int) (kn : Int → Int64) (ab : Int → Int) (a b : Int) (hb : C_bk S B rc kc wc rn lo kn ab) (ha : 0 ≤ a ∧ a < 11) : X_T sc 12 (0, [(0, .ref B), (1, .int (iI a)), (2, .int (iI b))], [], S) (fun v S' => v = some (.int (iI (bI (X_bt (ab a) b)))) ∧ S' = S) := by
  obtain ⟨hb0, hb1, hb2, hb3, hb4, ⟨f, hb5, hf⟩, ⟨hrc, hrcb⟩, ⟨hkc, hkcb⟩, ⟨hwc, hwcb⟩⟩ := id hb
  refine X_QI (fun Q hQ => ?_)
  refine T_p xr_12_0 xn_12 (pc' := 1) (ls' := [(0, .ref B), (1, .int (iI a)), (2, .int (iI b))]) (st' := [.ref B]) rfl ?_
  refine T_get xr_12_1 hb0 rfl (v := .ref (B + 4)) rfl (pc' := 4) rfl ?_
  refine T_p xr_12_4 xn_12 (pc' := 5) (ls' := [(0, .ref B), (1, .int (iI a)), (2, .int (iI b))]) (st' := [.int (iI a), .ref (B + 4)]) rfl ?_
  refine T_ziald xr_12_5 hb4 (pc' := 6) rfl ?_
  refine T_p xr_12_6 xn_12 (pc' := 7) (ls' := [(0, .ref B), (1, .int (iI a)), (2, .int (iI b))]) (st' := [.int (iI b), .int (iI (ab a))]) rfl ?_
  refine T_cs xr_12_7 (by decide) xf_131.1 xn_131 (as := [.int (iI (ab a)), .int (iI b)]) (r := []) rfl (Nat.le_of_ble_eq_true rfl) (Nat.le_of_ble_eq_true rfl) (pc' := 10) rfl (ls' := [(0, .int (iI (ab a))), (1, .int (iI b))]) rfl ?_
  refine T_mono (c_hasBit sc S (ab a) b) (fun v269 S270 h268 => ?_)
  obtain ⟨h271, h272⟩ := h268
  rw [h271, h272]
  show X_T sc 12 (10, [(0, .ref B), (1, .int (iI a)), (2, .int (iI b))], [.int (iI (bI (X_bt (ab a) b)))], S) _
  refine T_iret xr_12_10 xf_12.2.2 (X_fit_b _) ?_
  refine hQ _ _ ?_
  exact ⟨rfl, rfl⟩
theorem c_numberKind (sc : X_Sc) (S : X_S) (B : Nat) (rc kc wc : Int) (rn : Int → Int64) (lo : Int → Int) (kn : Int → Int64) (ab : Int → Int)  (hb : C_bk S B rc kc wc rn lo kn ab)  : X_T sc 13 (0, [(0, .ref B)], [], S) (fun v S' => v = some (.int (iI (bI (1 < kc)))) ∧ S' = S) := by
  obtain ⟨hb0, hb1, hb2, hb3, hb4, ⟨f, hb5, hf⟩, ⟨hrc, hrcb⟩, ⟨hkc, hkcb⟩, ⟨hwc, hwcb⟩⟩ := id hb
  refine X_QI (fun Q hQ => ?_)
  refine T_p xr_13_0 xn_13 (pc' := 1) (ls' := [(0, .ref B)]) (st' := [.ref B]) rfl ?_
  refine T_get xr_13_1 hb0 rfl (v := .int (iI kc)) rfl (pc' := 4) rfl ?_
  refine T_p xr_13_4 xn_13 (pc' := 5) (ls' := [(0, .ref B)]) (st' := [.int (iI 1), .int (iI kc)]) rfl ?_
  refine T_zicmp_le xr_13_5 (t := 12) (pc' := 8) rfl rfl (fun c273 => ?_) (fun c273 => ?_)
  · skip
    have c273 : kc ≤ 1 := c273
    refine T_p xr_13_12 xn_13 (pc' := 13) (ls' := [(0, .ref B)]) (st' := [.int (iI 0)]) rfl ?_
    refine T_iret xr_13_13 xf_13.2.2 rfl ?_
    refine hQ _ _ ?_
    exact ⟨by rw [bI_f (by omega)], rfl⟩
  · skip
    have c273 : ¬ (kc ≤ 1) := c273
    refine T_p xr_13_8 xn_13 (pc' := 9) (ls' := [(0, .ref B)]) (st' := [.int (iI 1)]) rfl ?_
    refine T_p xr_13_9 xn_13 (pc' := 13) (ls' := [(0, .ref B)]) (st' := [.int (iI 1)]) rfl ?_
    refine T_iret xr_13_13 xf_13.2.2 rfl ?_
    refine hQ _ _ ?_
    exact ⟨by rw [bI_t (by omega)], rfl⟩
end
section
theorem xr_10_0 : X_row 10 0 = some (0, (.aload_n 0, 1), (0, 0, 0)) := by decide +kernel
theorem xr_10_1 : X_row 10 1 = some (1, (.getfield 15, 3), (0, 4, 26)) := by decide +kernel
theorem xr_10_4 : X_row 10 4 = some (4, (.iload_n 2, 1), (0, 0, 0)) := by decide +kernel
theorem xr_10_5 : X_row 10 5 = some (5, (.iaload, 1), (0, 0, 0)) := by decide +kernel
theorem xr_10_6 : X_row 10 6 = some (6, (.iconst 1, 1), (0, 0, 0)) := by decide +kernel
theorem xr_10_7 : X_row 10 7 = some (7, (.iload_n 2, 1), (0, 0, 0)) := by decide +kernel
theorem xr_10_8 : X_row 10 8 = some (8, (.ishl, 1), (0, 0, 0)) := by decide +kernel
theorem xr_10_9 : X_row 10 9 = some (9, (.ior, 1), (0, 0, 0)) := by decide +kernel
theorem xr_10_10 : X_row 10 10 = some (10, (.istore_n 3, 1), (0, 0, 0)) := by decide +kernel
theorem xr_10_11 : X_row 10 11 = some (11, (.iconst 0, 1), (0, 0, 0)) := by decide +kernel
theorem xr_10_12 : X_row 10 12 = some (12, (.istore 4, 2), (0, 0, 0)) := by decide +kernel
theorem xr_10_14 : X_row 10 14 = some (14, (.iload 4, 2), (0, 0, 0)) := by decide +kernel
theorem xr_10_16 : X_row 10 16 = some (16, (.aload_n 0, 1), (0, 0, 0)) := by decide +kernel
theorem xr_10_17 : X_row 10 17 = some (17, (.getfield 35, 3), (0, 0, 18)) := by decide +kernel
theorem xr_10_20 : X_row 10 20 = some (20, (.if_icmp .ge 36, 3), (0, 0, 0)) := by decide +kernel
theorem xr_10_23 : X_row 10 23 = some (23, (.iload 4, 2), (0, 0, 0)) := by decide +kernel
theorem xr_10_25 : X_row 10 25 = some (25, (.iload_n 1, 1), (0, 0, 0)) := by decide +kernel
theorem xr_10_26 : X_row 10 26 = some (26, (.if_icmp .eq 13, 3), (0, 0, 0)) := by decide +kernel
theorem xr_10_29 : X_row 10 29 = some (29, (.aload_n 0, 1), (0, 0, 0)) := by decide +kernel
theorem xr_10_30 : X_row 10 30 = some (30, (.iload 4, 2), (0, 0, 0)) := by decide +kernel
theorem xr_10_32 : X_row 10 32 = some (32, (.iload_n 1, 1), (0, 0, 0)) := by decide +kernel
theorem xr_10_33 : X_row 10 33 = some (33, (.invokevirtual 55, 3), (11, 8, 0)) := by decide +kernel
theorem xr_10_36 : X_row 10 36 = some (36, (.ifCond .eq 14, 3), (0, 0, 0)) := by decide +kernel
theorem xr_10_39 : X_row 10 39 = some (39, (.aload_n 0, 1), (0, 0, 0)) := by decide +kernel
theorem xr_10_40 : X_row 10 40 = some (40, (.getfield 15, 3), (0, 4, 26)) := by decide +kernel
theorem xr_10_43 : X_row 10 43 = some (43, (.iload 4, 2), (0, 0, 0)) := by decide +kernel
theorem xr_10_45 : X_row 10 45 = some (45, (.dup2, 1), (0, 0, 0)) := by decide +kernel
theorem xr_10_46 : X_row 10 46 = some (46, (.iaload, 1), (0, 0, 0)) := by decide +kernel
theorem xr_10_47 : X_row 10 47 = some (47, (.iload_n 3, 1), (0, 0, 0)) := by decide +kernel
theorem xr_10_48 : X_row 10 48 = some (48, (.ior, 1), (0, 0, 0)) := by decide +kernel
theorem xr_10_49 : X_row 10 49 = some (49, (.iastore, 1), (0, 0, 0)) := by decide +kernel
theorem xr_10_50 : X_row 10 50 = some (50, (.iinc 4 1, 3), (0, 0, 0)) := by decide +kernel
theorem xr_10_53 : X_row 10 53 = some (53, (.goto (-39), 3), (0, 0, 0)) := by decide +kernel
theorem xr_10_56 : X_row 10 56 = some (56, (.return_, 1), (0, 0, 0)) := by decide +kernel
theorem xr_14_0 : X_row 14 0 = some (0, (.iconst 0, 1), (0, 0, 0)) := by decide +kernel
theorem xr_14_1 : X_row 14 1 = some (1, (.istore_n 2, 1), (0, 0, 0)) := by decide +kernel
theorem xr_14_2 : X_row 14 2 = some (2, (.iconst 0, 1), (0, 0, 0)) := by decide +kernel
theorem xr_14_3 : X_row 14 3 = some (3, (.istore_n 3, 1), (0, 0, 0)) := by decide +kernel
theorem xr_14_4 : X_row 14 4 = some (4, (.iload_n 3, 1), (0, 0, 0)) := by decide +kernel
theorem xr_14_5 : X_row 14 5 = some (5, (.aload_n 0, 1), (0, 0, 0)) := by decide +kernel
theorem xr_14_6 : X_row 14 6 = some (6, (.getfield 39, 3), (0, 1, 20)) := by decide +kernel
theorem xr_14_9 : X_row 14 9 = some (9, (.if_icmp .ge 24, 3), (0, 0, 0)) := by decide +kernel
theorem xr_14_12 : X_row 14 12 = some (12, (.aload_n 0, 1), (0, 0, 0)) := by decide +kernel
theorem xr_14_13 : X_row 14 13 = some (13, (.iload_n 3, 1), (0, 0, 0)) := by decide +kernel
theorem xr_14_14 : X_row 14 14 = some (14, (.iload_n 1, 1), (0, 0, 0)) := by decide +kernel
theorem xr_14_15 : X_row 14 15 = some (15, (.invokevirtual 62, 3), (12, 16, 0)) := by decide +kernel
theorem xr_14_18 : X_row 14 18 = some (18, (.ifCond .eq 9, 3), (0, 0, 0)) := by decide +kernel
theorem xr_14_21 : X_row 14 21 = some (21, (.iload_n 2, 1), (0, 0, 0)) := by decide +kernel
theorem xr_14_22 : X_row 14 22 = some (22, (.iconst 1, 1), (0, 0, 0)) := by decide +kernel
theorem xr_14_23 : X_row 14 23 = some (23, (.iload_n 3, 1), (0, 0, 0)) := by decide +kernel
theorem xr_14_24 : X_row 14 24 = some (24, (.ishl, 1), (0, 0, 0)) := by decide +kernel
theorem xr_14_25 : X_row 14 25 = some (25, (.ior, 1), (0, 0, 0)) := by decide +kernel
theorem xr_14_26 : X_row 14 26 = some (26, (.istore_n 2, 1), (0, 0, 0)) := by decide +kernel
theorem xr_14_27 : X_row 14 27 = some (27, (.iinc 3 1, 3), (0, 0, 0)) := by decide +kernel
theorem xr_14_30 : X_row 14 30 = some (30, (.goto (-26), 3), (0, 0, 0)) := by decide +kernel
theorem xr_14_33 : X_row 14 33 = some (33, (.iload_n 2, 1), (0, 0, 0)) := by decide +kernel
theorem xr_14_34 : X_row 14 34 = some (34, (.ireturn, 1), (0, 0, 0)) := by decide +kernel
theorem xr_15_0 : X_row 15 0 = some (0, (.iconst 0, 1), (0, 0, 0)) := by decide +kernel
theorem xr_15_1 : X_row 15 1 = some (1, (.istore_n 2, 1), (0, 0, 0)) := by decide +kernel
theorem xr_15_2 : X_row 15 2 = some (2, (.iconst 0, 1), (0, 0, 0)) := by decide +kernel
theorem xr_15_3 : X_row 15 3 = some (3, (.istore_n 3, 1), (0, 0, 0)) := by decide +kernel
theorem xr_15_4 : X_row 15 4 = some (4, (.iload_n 3, 1), (0, 0, 0)) := by decide +kernel
theorem xr_15_5 : X_row 15 5 = some (5, (.aload_n 0, 1), (0, 0, 0)) := by decide +kernel
theorem xr_15_6 : X_row 15 6 = some (6, (.getfield 42, 3), (0, 2, 22)) := by decide +kernel
theorem xr_15_9 : X_row 15 9 = some (9, (.if_icmp .ge 31, 3), (0, 0, 0)) := by decide +kernel
theorem xr_15_12 : X_row 15 12 = some (12, (.iload_n 1, 1), (0, 0, 0)) := by decide +kernel
theorem xr_15_13 : X_row 15 13 = some (13, (.aload_n 0, 1), (0, 0, 0)) := by decide +kernel
theorem xr_15_14 : X_row 15 14 = some (14, (.getfield 27, 3), (0, 7, 32)) := by decide +kernel
theorem xr_15_17 : X_row 15 17 = some (17, (.iload_n 3, 1), (0, 0, 0)) := by decide +kernel
theorem xr_15_18 : X_row 15 18 = some (18, (.aaload, 1), (0, 0, 0)) := by decide +kernel
theorem xr_15_19 : X_row 15 19 = some (19, (.getfield 65, 3), (8, 2, 5)) := by decide +kernel
theorem xr_15_22 : X_row 15 22 = some (22, (.invokestatic 59, 3), (131, 7, 0)) := by decide +kernel
theorem xr_15_25 : X_row 15 25 = some (25, (.ifCond .eq 9, 3), (0, 0, 0)) := by decide +kernel
theorem xr_15_28 : X_row 15 28 = some (28, (.iload_n 2, 1), (0, 0, 0)) := by decide +kernel
theorem xr_15_29 : X_row 15 29 = some (29, (.iconst 1, 1), (0, 0, 0)) := by decide +kernel
theorem xr_15_30 : X_row 15 30 = some (30, (.iload_n 3, 1), (0, 0, 0)) := by decide +kernel
theorem xr_15_31 : X_row 15 31 = some (31, (.ishl, 1), (0, 0, 0)) := by decide +kernel
theorem xr_15_32 : X_row 15 32 = some (32, (.ior, 1), (0, 0, 0)) := by decide +kernel
theorem xr_15_33 : X_row 15 33 = some (33, (.istore_n 2, 1), (0, 0, 0)) := by decide +kernel
theorem xr_15_34 : X_row 15 34 = some (34, (.iinc 3 1, 3), (0, 0, 0)) := by decide +kernel
theorem xr_15_37 : X_row 15 37 = some (37, (.goto (-33), 3), (0, 0, 0)) := by decide +kernel
theorem xr_15_40 : X_row 15 40 = some (40, (.iload_n 2, 1), (0, 0, 0)) := by decide +kernel
theorem xr_15_41 : X_row 15 41 = some (41, (.ireturn, 1), (0, 0, 0)) := by decide +kernel
theorem xr_18_0 : X_row 18 0 = some (0, (.aload_n 0, 1), (0, 0, 0)) := by decide +kernel
theorem xr_18_1 : X_row 18 1 = some (1, (.getfield 27, 3), (0, 7, 32)) := by decide +kernel
theorem xr_18_4 : X_row 18 4 = some (4, (.iload_n 1, 1), (0, 0, 0)) := by decide +kernel
theorem xr_18_5 : X_row 18 5 = some (5, (.aaload, 1), (0, 0, 0)) := by decide +kernel
theorem xr_18_6 : X_row 18 6 = some (6, (.astore_n 3, 1), (0, 0, 0)) := by decide +kernel
theorem xr_18_7 : X_row 18 7 = some (7, (.aload_n 0, 1), (0, 0, 0)) := by decide +kernel
theorem xr_18_8 : X_row 18 8 = some (8, (.getfield 27, 3), (0, 7, 32)) := by decide +kernel
theorem xr_18_11 : X_row 18 11 = some (11, (.iload_n 2, 1), (0, 0, 0)) := by decide +kernel
theorem xr_18_12 : X_row 18 12 = some (12, (.aaload, 1), (0, 0, 0)) := by decide +kernel
theorem xr_18_13 : X_row 18 13 = some (13, (.astore 4, 2), (0, 0, 0)) := by decide +kernel
theorem xr_18_15 : X_row 18 15 = some (15, (.iload_n 1, 1), (0, 0, 0)) := by decide +kernel
theorem xr_18_16 : X_row 18 16 = some (16, (.iload_n 2, 1), (0, 0, 0)) := by decide +kernel
theorem xr_18_17 : X_row 18 17 = some (17, (.if_icmp .ne 31, 3), (0, 0, 0)) := by decide +kernel
theorem xr_18_20 : X_row 18 20 = some (20, (.aload_n 3, 1), (0, 0, 0)) := by decide +kernel
theorem xr_18_21 : X_row 18 21 = some (21, (.invokestatic 107, 3), (19, 24, 0)) := by decide +kernel
theorem xr_18_24 : X_row 18 24 = some (24, (.ifCond .ne 18, 3), (0, 0, 0)) := by decide +kernel
theorem xr_18_27 : X_row 18 27 = some (27, (.aload_n 3, 1), (0, 0, 0)) := by decide +kernel
theorem xr_18_28 : X_row 18 28 = some (28, (.invokevirtual 111, 3), (101, 26, 0)) := by decide +kernel
theorem xr_18_31 : X_row 18 31 = some (31, (.iconst 3, 1), (0, 0, 0)) := by decide +kernel
theorem xr_18_32 : X_row 18 32 = some (32, (.if_icmp .ne 14, 3), (0, 0, 0)) := by decide +kernel
theorem xr_18_35 : X_row 18 35 = some (35, (.aload_n 3, 1), (0, 0, 0)) := by decide +kernel
theorem xr_18_36 : X_row 18 36 = some (36, (.getfield 97, 3), (8, 1, 3)) := by decide +kernel
theorem xr_18_39 : X_row 18 39 = some (39, (.ifCond .ne 7, 3), (0, 0, 0)) := by decide +kernel
theorem xr_18_42 : X_row 18 42 = some (42, (.iconst 1, 1), (0, 0, 0)) := by decide +kernel
theorem xr_18_43 : X_row 18 43 = some (43, (.goto 4, 3), (0, 0, 0)) := by decide +kernel
theorem xr_18_46 : X_row 18 46 = some (46, (.iconst 0, 1), (0, 0, 0)) := by decide +kernel
theorem xr_18_47 : X_row 18 47 = some (47, (.ireturn, 1), (0, 0, 0)) := by decide +kernel
theorem xr_18_48 : X_row 18 48 = some (48, (.aload_n 3, 1), (0, 0, 0)) := by decide +kernel
theorem xr_18_49 : X_row 18 49 = some (49, (.aload 4, 2), (0, 0, 0)) := by decide +kernel
theorem xr_18_51 : X_row 18 51 = some (51, (.invokestatic 115, 3), (20, 28, 0)) := by decide +kernel
theorem xr_18_54 : X_row 18 54 = some (54, (.ifCond .eq 5, 3), (0, 0, 0)) := by decide +kernel
theorem xr_18_57 : X_row 18 57 = some (57, (.iconst 1, 1), (0, 0, 0)) := by decide +kernel
theorem xr_18_58 : X_row 18 58 = some (58, (.ireturn, 1), (0, 0, 0)) := by decide +kernel
theorem xr_18_59 : X_row 18 59 = some (59, (.aload_n 3, 1), (0, 0, 0)) := by decide +kernel
theorem xr_18_60 : X_row 18 60 = some (60, (.invokevirtual 100, 3), (102, 22, 0)) := by decide +kernel
theorem xr_18_63 : X_row 18 63 = some (63, (.ifCond .ne 11, 3), (0, 0, 0)) := by decide +kernel
theorem xr_18_66 : X_row 18 66 = some (66, (.aload 4, 2), (0, 0, 0)) := by decide +kernel
theorem xr_18_68 : X_row 18 68 = some (68, (.invokevirtual 100, 3), (102, 22, 0)) := by decide +kernel
theorem xr_18_71 : X_row 18 71 = some (71, (.ifCond .eq 5, 3), (0, 0, 0)) := by decide +kernel
theorem xr_18_74 : X_row 18 74 = some (74, (.iconst 0, 1), (0, 0, 0)) := by decide +kernel
theorem xr_18_75 : X_row 18 75 = some (75, (.ireturn, 1), (0, 0, 0)) := by decide +kernel
theorem xr_18_76 : X_row 18 76 = some (76, (.aload_n 3, 1), (0, 0, 0)) := by decide +kernel
theorem xr_18_77 : X_row 18 77 = some (77, (.getfield 104, 3), (8, 0, 1)) := by decide +kernel
theorem xr_18_80 : X_row 18 80 = some (80, (.aload 4, 2), (0, 0, 0)) := by decide +kernel
theorem xr_18_82 : X_row 18 82 = some (82, (.getfield 104, 3), (8, 0, 1)) := by decide +kernel
theorem xr_18_85 : X_row 18 85 = some (85, (.if_icmp .ne 26, 3), (0, 0, 0)) := by decide +kernel
theorem xr_18_88 : X_row 18 88 = some (88, (.aload_n 3, 1), (0, 0, 0)) := by decide +kernel
theorem xr_18_89 : X_row 18 89 = some (89, (.getfield 97, 3), (8, 1, 3)) := by decide +kernel
theorem xr_18_92 : X_row 18 92 = some (92, (.ifCond .eq 19, 3), (0, 0, 0)) := by decide +kernel
theorem xr_18_95 : X_row 18 95 = some (95, (.aload_n 3, 1), (0, 0, 0)) := by decide +kernel
theorem xr_18_96 : X_row 18 96 = some (96, (.getfield 97, 3), (8, 1, 3)) := by decide +kernel
theorem xr_18_99 : X_row 18 99 = some (99, (.aload 4, 2), (0, 0, 0)) := by decide +kernel
theorem xr_18_101 : X_row 18 101 = some (101, (.getfield 97, 3), (8, 1, 3)) := by decide +kernel
theorem xr_18_104 : X_row 18 104 = some (104, (.if_icmp .ne 7, 3), (0, 0, 0)) := by decide +kernel
theorem xr_18_107 : X_row 18 107 = some (107, (.iconst 1, 1), (0, 0, 0)) := by decide +kernel
theorem xr_18_108 : X_row 18 108 = some (108, (.goto 4, 3), (0, 0, 0)) := by decide +kernel
theorem xr_18_111 : X_row 18 111 = some (111, (.iconst 0, 1), (0, 0, 0)) := by decide +kernel
theorem xr_18_112 : X_row 18 112 = some (112, (.istore 5, 2), (0, 0, 0)) := by decide +kernel
theorem xr_18_114 : X_row 18 114 = some (114, (.iload 5, 2), (0, 0, 0)) := by decide +kernel
theorem xr_18_116 : X_row 18 116 = some (116, (.ifCond .ne 39, 3), (0, 0, 0)) := by decide +kernel
theorem xr_18_119 : X_row 18 119 = some (119, (.aload_n 0, 1), (0, 0, 0)) := by decide +kernel
theorem xr_18_120 : X_row 18 120 = some (120, (.aload_n 3, 1), (0, 0, 0)) := by decide +kernel
theorem xr_18_121 : X_row 18 121 = some (121, (.getfield 104, 3), (8, 0, 1)) := by decide +kernel
theorem xr_18_124 : X_row 18 124 = some (124, (.aload 4, 2), (0, 0, 0)) := by decide +kernel
theorem xr_18_126 : X_row 18 126 = some (126, (.getfield 104, 3), (8, 0, 1)) := by decide +kernel
theorem xr_18_129 : X_row 18 129 = some (129, (.invokevirtual 55, 3), (11, 8, 0)) := by decide +kernel
theorem xr_18_132 : X_row 18 132 = some (132, (.ifCond .ne 23, 3), (0, 0, 0)) := by decide +kernel
theorem xr_18_135 : X_row 18 135 = some (135, (.aload_n 0, 1), (0, 0, 0)) := by decide +kernel
theorem xr_18_136 : X_row 18 136 = some (136, (.aload 4, 2), (0, 0, 0)) := by decide +kernel
theorem xr_18_138 : X_row 18 138 = some (138, (.getfield 104, 3), (8, 0, 1)) := by decide +kernel
theorem xr_18_141 : X_row 18 141 = some (141, (.aload_n 3, 1), (0, 0, 0)) := by decide +kernel
theorem xr_18_142 : X_row 18 142 = some (142, (.getfield 104, 3), (8, 0, 1)) := by decide +kernel
theorem xr_18_145 : X_row 18 145 = some (145, (.invokevirtual 55, 3), (11, 8, 0)) := by decide +kernel
theorem xr_18_148 : X_row 18 148 = some (148, (.ifCond .ne 7, 3), (0, 0, 0)) := by decide +kernel
theorem xr_18_151 : X_row 18 151 = some (151, (.iconst 1, 1), (0, 0, 0)) := by decide +kernel
theorem xr_18_152 : X_row 18 152 = some (152, (.goto 4, 3), (0, 0, 0)) := by decide +kernel
theorem xr_18_155 : X_row 18 155 = some (155, (.iconst 0, 1), (0, 0, 0)) := by decide +kernel
theorem xr_18_156 : X_row 18 156 = some (156, (.ireturn, 1), (0, 0, 0)) := by decide +kernel
theorem xr_19_0 : X_row 19 0 = some (0, (.iconst 0, 1), (0, 0, 0)) := by decide +kernel
theorem xr_19_1 : X_row 19 1 = some (1, (.istore_n 1, 1), (0, 0, 0)) := by decide +kernel
theorem xr_19_2 : X_row 19 2 = some (2, (.iload_n 1, 1), (0, 0, 0)) := by decide +kernel
theorem xr_19_3 : X_row 19 3 = some (3, (.aload_n 0, 1), (0, 0, 0)) := by decide +kernel
theorem xr_19_4 : X_row 19 4 = some (4, (.getfield 68, 3), (8, 3, 7)) := by decide +kernel
theorem xr_19_7 : X_row 19 7 = some (7, (.if_icmp .ge 53, 3), (0, 0, 0)) := by decide +kernel
theorem xr_19_10 : X_row 19 10 = some (10, (.iload_n 1, 1), (0, 0, 0)) := by decide +kernel
theorem xr_19_11 : X_row 19 11 = some (11, (.iconst 1, 1), (0, 0, 0)) := by decide +kernel
theorem xr_19_12 : X_row 19 12 = some (12, (.iadd, 1), (0, 0, 0)) := by decide +kernel
theorem xr_19_13 : X_row 19 13 = some (13, (.istore_n 2, 1), (0, 0, 0)) := by decide +kernel
theorem xr_19_14 : X_row 19 14 = some (14, (.iload_n 2, 1), (0, 0, 0)) := by decide +kernel
theorem xr_19_15 : X_row 19 15 = some (15, (.aload_n 0, 1), (0, 0, 0)) := by decide +kernel
theorem xr_19_16 : X_row 19 16 = some (16, (.getfield 68, 3), (8, 3, 7)) := by decide +kernel
theorem xr_19_19 : X_row 19 19 = some (19, (.if_icmp .ge 35, 3), (0, 0, 0)) := by decide +kernel
theorem xr_19_22 : X_row 19 22 = some (22, (.aload_n 0, 1), (0, 0, 0)) := by decide +kernel
theorem xr_19_23 : X_row 19 23 = some (23, (.iload_n 1, 1), (0, 0, 0)) := by decide +kernel
theorem xr_19_24 : X_row 19 24 = some (24, (.invokevirtual 71, 3), (100, 12, 0)) := by decide +kernel
theorem xr_19_27 : X_row 19 27 = some (27, (.ifCond .ne 21, 3), (0, 0, 0)) := by decide +kernel
theorem xr_19_30 : X_row 19 30 = some (30, (.aload_n 0, 1), (0, 0, 0)) := by decide +kernel
theorem xr_19_31 : X_row 19 31 = some (31, (.getfield 119, 3), (8, 8, 9)) := by decide +kernel
theorem xr_19_34 : X_row 19 34 = some (34, (.iload_n 1, 1), (0, 0, 0)) := by decide +kernel
theorem xr_19_35 : X_row 19 35 = some (35, (.laload, 1), (0, 0, 0)) := by decide +kernel
theorem xr_19_36 : X_row 19 36 = some (36, (.aload_n 0, 1), (0, 0, 0)) := by decide +kernel
theorem xr_19_37 : X_row 19 37 = some (37, (.getfield 119, 3), (8, 8, 9)) := by decide +kernel
theorem xr_19_40 : X_row 19 40 = some (40, (.iload_n 2, 1), (0, 0, 0)) := by decide +kernel
theorem xr_19_41 : X_row 19 41 = some (41, (.laload, 1), (0, 0, 0)) := by decide +kernel
theorem xr_19_42 : X_row 19 42 = some (42, (.lcmp, 1), (0, 0, 0)) := by decide +kernel
theorem xr_19_43 : X_row 19 43 = some (43, (.ifCond .ne 5, 3), (0, 0, 0)) := by decide +kernel
theorem xr_19_46 : X_row 19 46 = some (46, (.iconst 1, 1), (0, 0, 0)) := by decide +kernel
theorem xr_19_47 : X_row 19 47 = some (47, (.ireturn, 1), (0, 0, 0)) := by decide +kernel
theorem xr_19_48 : X_row 19 48 = some (48, (.iinc 2 1, 3), (0, 0, 0)) := by decide +kernel
theorem xr_19_51 : X_row 19 51 = some (51, (.goto (-37), 3), (0, 0, 0)) := by decide +kernel
theorem xr_19_54 : X_row 19 54 = some (54, (.iinc 1 1, 3), (0, 0, 0)) := by decide +kernel
theorem xr_19_57 : X_row 19 57 = some (57, (.goto (-55), 3), (0, 0, 0)) := by decide +kernel
theorem xr_19_60 : X_row 19 60 = some (60, (.iconst 0, 1), (0, 0, 0)) := by decide +kernel
theorem xr_19_61 : X_row 19 61 = some (61, (.ireturn, 1), (0, 0, 0)) := by decide +kernel
theorem xr_20_0 : X_row 20 0 = some (0, (.iconst 0, 1), (0, 0, 0)) := by decide +kernel
theorem xr_20_1 : X_row 20 1 = some (1, (.istore_n 2, 1), (0, 0, 0)) := by decide +kernel
theorem xr_20_2 : X_row 20 2 = some (2, (.iload_n 2, 1), (0, 0, 0)) := by decide +kernel
theorem xr_20_3 : X_row 20 3 = some (3, (.aload_n 0, 1), (0, 0, 0)) := by decide +kernel
theorem xr_20_4 : X_row 20 4 = some (4, (.getfield 68, 3), (8, 3, 7)) := by decide +kernel
theorem xr_20_7 : X_row 20 7 = some (7, (.if_icmp .ge 32, 3), (0, 0, 0)) := by decide +kernel
theorem xr_20_10 : X_row 20 10 = some (10, (.aload_n 0, 1), (0, 0, 0)) := by decide +kernel
theorem xr_20_11 : X_row 20 11 = some (11, (.iload_n 2, 1), (0, 0, 0)) := by decide +kernel
theorem xr_20_12 : X_row 20 12 = some (12, (.invokevirtual 71, 3), (100, 12, 0)) := by decide +kernel
theorem xr_20_15 : X_row 20 15 = some (15, (.ifCond .ne 18, 3), (0, 0, 0)) := by decide +kernel
theorem xr_20_18 : X_row 20 18 = some (18, (.aload_n 1, 1), (0, 0, 0)) := by decide +kernel
theorem xr_20_19 : X_row 20 19 = some (19, (.aload_n 0, 1), (0, 0, 0)) := by decide +kernel
theorem xr_20_20 : X_row 20 20 = some (20, (.getfield 119, 3), (8, 8, 9)) := by decide +kernel
theorem xr_20_23 : X_row 20 23 = some (23, (.iload_n 2, 1), (0, 0, 0)) := by decide +kernel
theorem xr_20_24 : X_row 20 24 = some (24, (.laload, 1), (0, 0, 0)) := by decide +kernel
theorem xr_20_25 : X_row 20 25 = some (25, (.invokevirtual 122, 3), (103, 30, 0)) := by decide +kernel
theorem xr_20_28 : X_row 20 28 = some (28, (.ifCond .eq 5, 3), (0, 0, 0)) := by decide +kernel
theorem xr_20_31 : X_row 20 31 = some (31, (.iconst 1, 1), (0, 0, 0)) := by decide +kernel
theorem xr_20_32 : X_row 20 32 = some (32, (.ireturn, 1), (0, 0, 0)) := by decide +kernel
theorem xr_20_33 : X_row 20 33 = some (33, (.iinc 2 1, 3), (0, 0, 0)) := by decide +kernel
theorem xr_20_36 : X_row 20 36 = some (36, (.goto (-34), 3), (0, 0, 0)) := by decide +kernel
theorem xr_20_39 : X_row 20 39 = some (39, (.iconst 0, 1), (0, 0, 0)) := by decide +kernel
theorem xr_20_40 : X_row 20 40 = some (40, (.ireturn, 1), (0, 0, 0)) := by decide +kernel
theorem xn_10 : X_nL 10 = 5 := by decide +kernel
theorem xf_10 : X_na 10 = 2 ∧ X_ci 10 = 0 ∧ X_rt 10 = none := by decide +kernel
theorem xn_14 : X_nL 14 = 4 := by decide +kernel
theorem xf_14 : X_na 14 = 1 ∧ X_ci 14 = 0 ∧ X_rt 14 = (some .int) := by decide +kernel
theorem xn_15 : X_nL 15 = 4 := by decide +kernel
theorem xf_15 : X_na 15 = 1 ∧ X_ci 15 = 0 ∧ X_rt 15 = (some .int) := by decide +kernel
theorem xn_18 : X_nL 18 = 6 := by decide +kernel
theorem xf_18 : X_na 18 = 2 ∧ X_ci 18 = 0 ∧ X_rt 18 = (some .boolean) := by decide +kernel
theorem xn_19 : X_nL 19 = 3 := by decide +kernel
theorem xf_19 : X_na 19 = 1 ∧ X_ci 19 = 0 ∧ X_rt 19 = (some .boolean) := by decide +kernel
theorem xn_20 : X_nL 20 = 3 := by decide +kernel
theorem xf_20 : X_na 20 = 2 ∧ X_ci 20 = 0 ∧ X_rt 20 = (some .boolean) := by decide +kernel
/-- the ranks that a rank is tighter than, once a is tighter than b -/
noncomputable def X_ti (lo : Int → Int) (a b r : Int) : Int := @ite Int (r = a ∨ X_bt (lo r) a) (Classical.propDecidable _) (X_bO (lo r) (X_bO (lo b) (X_bS b))) (lo r)
noncomputable def X_tf (rc : Int) (lo : Int → Int) (a b r : Int) : Int := if 0 ≤ r ∧ r < rc then X_ti lo a b r else lo r
theorem X_ti_t {lo : Int → Int} {a b r : Int} (h : r = a ∨ X_bt (lo r) a) : X_ti lo a b r = X_bO (lo r) (X_bO (lo b) (X_bS b)) := by unfold X_ti; rw [if_pos h]
theorem X_ti_f {lo : Int → Int} {a b r : Int} (h : ¬ (r = a ∨ X_bt (lo r) a)) : X_ti lo a b r = lo r := by unfold X_ti; rw [if_neg h]
def X_h2 (d : Nat → Int → Int) (q : Int → Int64) : Prop := ∃ e k, 0 ≤ e ∧ e < k ∧ k < d 3 0 ∧ ¬ X_hl d q e ∧ q e = q k
def X_sp (d : Nat → Int → Int) (q : Int → Int64) (d' : Nat → Int → Int) (q' : Int → Int64) : Prop := ∃ e, 0 ≤ e ∧ e < d 3 0 ∧ ¬ X_hl d q e ∧ X_hp d' q' (q e)
/-- one word of a book against another, or against itself -/
def X_ag (lo : Int → Int) (D : Int → Nat → Int → Int) (W : Int → Int → Int64) (x y : Int) : Prop :=
  (x = y ∧ (X_h2 (D x) (W x) ∨ (X_en (D x) (W x) = 3 ∧ D x 1 0 = 0))) ∨
  (¬ x = y ∧ (X_sp (D x) (W x) (D y) (W y) ∨ (¬ X_en (D x) (W x) = 0 ∧ ¬ X_en (D y) (W y) = 0 ∧
    ¬ (D x 0 0 = D y 0 0 ∧ ¬ D x 1 0 = 0 ∧ D x 1 0 = D y 1 0) ∧ ¬ X_bt (lo (D x 0 0)) (D y 0 0) ∧ ¬ X_bt (lo (D y 0 0)) (D x 0 0))))
theorem c_setTighter (sc : X_Sc) (S : X_S) (B : Nat) (rc kc wc : Int) (rn : Int → Int64) (lo : Int → Int) (kn : Int → Int64) (ab : Int → Int) (a b : Int) (hb : C_bk S B rc kc wc rn lo kn ab) (ha : 0 ≤ a ∧ a < rc) (hb_ : 0 ≤ b ∧ b < rc) : X_T sc 10 (0, [(0, .ref B), (1, .int (iI a)), (2, .int (iI b))], [], S) (fun v S' => v = none ∧ C_bk S' B rc kc wc rn (X_tf rc lo a b) kn ab ∧ X_Fr (fun r => B ≤ r ∧ r ≤ B + 4) S S') := by
  obtain ⟨hb0, hb1, hb2, hb3, hb4, ⟨f, hb5, hf⟩, ⟨hrc, hrcb⟩, ⟨hkc, hkcb⟩, ⟨hwc, hwcb⟩⟩ := id hb
  refine X_QI (fun Q hQ => ?_)
  refine T_p xr_10_0 xn_10 (pc' := 1) (ls' := [(0, .ref B), (1, .int (iI a)), (2, .int (iI b))]) (st' := [.ref B]) rfl ?_
  refine T_get xr_10_1 hb0 rfl (v := .ref (B + 2)) rfl (pc' := 4) rfl ?_
  refine T_p xr_10_4 xn_10 (pc' := 5) (ls' := [(0, .ref B), (1, .int (iI a)), (2, .int (iI b))]) (st' := [.int (iI b), .ref (B + 2)]) rfl ?_
  refine T_ziald xr_10_5 hb2 (pc' := 6) rfl ?_
  refine T_p xr_10_6 xn_10 (pc' := 7) (ls' := [(0, .ref B), (1, .int (iI a)), (2, .int (iI b))]) (st' := [.int (iI 1), .int (iI (lo b))]) rfl ?_
  refine T_p xr_10_7 xn_10 (pc' := 8) (ls' := [(0, .ref B), (1, .int (iI a)), (2, .int (iI b))]) (st' := [.int (iI b), .int (iI 1), .int (iI (lo b))]) rfl ?_
  refine T_zop xr_10_8 (pc' := 9) rfl (z := (iI 1 <<< (iI b &&& 31)).toInt) (iI_of _) ?_
  refine T_zop xr_10_9 (pc' := 10) rfl (z := (iI (lo b) ||| iI ((iI 1 <<< (iI b &&& 31)).toInt)).toInt) (iI_of _) ?_
  refine T_p xr_10_10 xn_10 (pc' := 11) (ls' := [(3, .int (iI ((iI (lo b) ||| iI ((iI 1 <<< (iI b &&& 31)).toInt)).toInt))), (0, .ref B), (1, .int (iI a)), (2, .int (iI b))]) (st' := []) rfl ?_
  refine T_p xr_10_11 xn_10 (pc' := 12) (ls' := [(3, .int (iI ((iI (lo b) ||| iI ((iI 1 <<< (iI b &&& 31)).toInt)).toInt))), (0, .ref B), (1, .int (iI a)), (2, .int (iI b))]) (st' := [.int (iI 0)]) rfl ?_
  refine T_p xr_10_12 xn_10 (pc' := 14) (ls' := [(4, .int (iI 0)), (3, .int (iI ((iI (lo b) ||| iI ((iI 1 <<< (iI b &&& 31)).toInt)).toInt))), (0, .ref B), (1, .int (iI a)), (2, .int (iI b))]) (st' := []) rfl ?_
  have L274 : ∀ (m276 : Nat) (S279 : X_S) (i : Int) (l1 : Int → Int) (hl1 : S279.1 (B + 2) = .inl (.int, 12, .inl fun k : Nat => iI (l1 (k : Int)))) (hF278 : X_Fr (fun r => r = B + 2) S S279) (hi : 0 ≤ i ∧ i ≤ rc) (hlt : ∀ k, 0 ≤ k → k < i → l1 k = X_ti lo a b k) (hge : ∀ k, (i ≤ k ∨ k < 0) → l1 k = lo k) (hm277 : rc - i < m276), X_T sc 10 (14, [(4, .int (iI i)), (3, .int (iI ((iI (lo b) ||| iI ((iI 1 <<< (iI b &&& 31)).toInt)).toInt))), (0, .ref B), (1, .int (iI a)), (2, .int (iI b))], [], S279) Q := by
    intro m276
    induction m276 with
    | zero =>
      intro S279 i l1 hl1 hF278 hi hlt hge hm277
      exact (show False by omega).elim
    | succ m276 ih275 =>
      intro S279 i l1 hl1 hF278 hi hlt hge hm277
      refine T_p xr_10_14 xn_10 (pc' := 16) (ls' := [(4, .int (iI i)), (3, .int (iI ((iI (lo b) ||| iI ((iI 1 <<< (iI b &&& 31)).toInt)).toInt))), (0, .ref B), (1, .int (iI a)), (2, .int (iI b))]) (st' := [.int (iI i)]) rfl ?_
      refine T_p xr_10_16 xn_10 (pc' := 17) (ls' := [(4, .int (iI i)), (3, .int (iI ((iI (lo b) ||| iI ((iI 1 <<< (iI b &&& 31)).toInt)).toInt))), (0, .ref B), (1, .int (iI a)), (2, .int (iI b))]) (st' := [.ref B, .int (iI i)]) rfl ?_
      have h280 := (hF278.1 B (by omega)).trans (hb0)
      refine T_get xr_10_17 h280 rfl (v := .int (iI rc)) rfl (pc' := 20) rfl ?_
      refine T_zicmp_ge xr_10_20 (t := 56) (pc' := 23) rfl rfl (fun c281 => ?_) (fun c281 => ?_)
      · skip
        have c281 : rc ≤ i := c281
        refine T_vret xr_10_56 xf_10.2.2 ?_
        refine hQ _ _ ?_
        have el : l1 = X_tf rc lo a b := by
          funext r
          unfold X_tf
          split
          · exact hlt r (by omega) (by omega)
          · exact hge r (by omega)
        subst el
        have h282 := (hF278.1 (B + 1) (by omega)).trans (hb1)
        have h283 := (hF278.1 (B + 3) (by omega)).trans (hb3)
        have h284 := (hF278.1 (B + 4) (by omega)).trans (hb4)
        have h285 := (hF278.1 (B + 5) (by omega)).trans (hb5)
        exact ⟨rfl, ⟨h280, h282, hl1, h283, h284, ⟨f, h285, hf⟩, ⟨by omega, by omega⟩, ⟨by omega, by omega⟩, ⟨by omega, by omega⟩⟩, (X_Fr.rf).tr (X_Fr.mono ⟨hF278.1, hF278.2⟩ (fun q hq => (by omega)))⟩
      · skip
        have c281 : ¬ (rc ≤ i) := c281
        refine T_p xr_10_23 xn_10 (pc' := 25) (ls' := [(4, .int (iI i)), (3, .int (iI ((iI (lo b) ||| iI ((iI 1 <<< (iI b &&& 31)).toInt)).toInt))), (0, .ref B), (1, .int (iI a)), (2, .int (iI b))]) (st' := [.int (iI i)]) rfl ?_
        refine T_p xr_10_25 xn_10 (pc' := 26) (ls' := [(4, .int (iI i)), (3, .int (iI ((iI (lo b) ||| iI ((iI 1 <<< (iI b &&& 31)).toInt)).toInt))), (0, .ref B), (1, .int (iI a)), (2, .int (iI b))]) (st' := [.int (iI a), .int (iI i)]) rfl ?_
        refine T_zicmp_eq xr_10_26 (t := 39) (pc' := 29) rfl rfl (fun c286 => ?_) (fun c286 => ?_)
        · skip
          have c286 : i = a := c286
          refine T_p xr_10_39 xn_10 (pc' := 40) (ls' := [(4, .int (iI i)), (3, .int (iI ((iI (lo b) ||| iI ((iI 1 <<< (iI b &&& 31)).toInt)).toInt))), (0, .ref B), (1, .int (iI a)), (2, .int (iI b))]) (st' := [.ref B]) rfl ?_
          refine T_get xr_10_40 h280 rfl (v := .ref (B + 2)) rfl (pc' := 43) rfl ?_
          refine T_p xr_10_43 xn_10 (pc' := 45) (ls' := [(4, .int (iI i)), (3, .int (iI ((iI (lo b) ||| iI ((iI 1 <<< (iI b &&& 31)).toInt)).toInt))), (0, .ref B), (1, .int (iI a)), (2, .int (iI b))]) (st' := [.int (iI i), .ref (B + 2)]) rfl ?_
          refine T_p xr_10_45 xn_10 (pc' := 46) (ls' := [(4, .int (iI i)), (3, .int (iI ((iI (lo b) ||| iI ((iI 1 <<< (iI b &&& 31)).toInt)).toInt))), (0, .ref B), (1, .int (iI a)), (2, .int (iI b))]) (st' := [.int (iI i), .ref (B + 2), .int (iI i), .ref (B + 2)]) rfl ?_
          refine T_ziald xr_10_46 hl1 (pc' := 47) rfl ?_
          refine T_p xr_10_47 xn_10 (pc' := 48) (ls' := [(4, .int (iI i)), (3, .int (iI ((iI (lo b) ||| iI ((iI 1 <<< (iI b &&& 31)).toInt)).toInt))), (0, .ref B), (1, .int (iI a)), (2, .int (iI b))]) (st' := [.int (iI ((iI (lo b) ||| iI ((iI 1 <<< (iI b &&& 31)).toInt)).toInt)), .int (iI (l1 i)), .int (iI i), .ref (B + 2)]) rfl ?_
          refine T_zop xr_10_48 (pc' := 49) rfl (z := (iI (l1 i) ||| iI ((iI (lo b) ||| iI ((iI 1 <<< (iI b &&& 31)).toInt)).toInt)).toInt) (iI_of _) ?_
          refine T_ziast xr_10_49 hl1 (pc' := 50) rfl (fun S287 h288 n289 e290 => ?_)
          refine T_ziinc xr_10_50 xn_10 (a := i) (z := i + 1) rfl (Nat.le_of_ble_eq_true rfl) (by omega) (ls' := [(4, .int (iI (i + 1))), (3, .int (iI ((iI (lo b) ||| iI ((iI 1 <<< (iI b &&& 31)).toInt)).toInt))), (0, .ref B), (1, .int (iI a)), (2, .int (iI b))]) rfl (pc' := 53) rfl ?_
          refine T_p xr_10_53 xn_10 (pc' := 14) (ls' := [(4, .int (iI (i + 1))), (3, .int (iI ((iI (lo b) ||| iI ((iI 1 <<< (iI b &&& 31)).toInt)).toInt))), (0, .ref B), (1, .int (iI a)), (2, .int (iI b))]) (st' := []) rfl ?_
          exact ih275 S287 (i + 1) (X_ug l1 i ((iI (l1 i) ||| iI ((iI (lo b) ||| iI ((iI 1 <<< (iI b &&& 31)).toInt)).toInt)).toInt)) h288 (hF278.tr ((X_Fr.rf).tr (X_Fr.of n289 e290 (by first | decide | exact ⟨Nat.le_add_right _ _, Nat.add_le_add_left (by decide) _⟩ | omega)))) (by omega) (fun k h1 h2 => by
                by_cases hk : k = i
                · subst hk
                  rw [X_ug_s, X_ti_t (by first | exact Or.inl (by omega) | (rw [← hge k (Or.inl (by omega))]; exact Or.inr (by assumption))), hge k (Or.inl (by omega))]; rfl
                · rw [X_ug_n _ _ hk]
                  exact hlt k h1 (by omega)) (fun k h1 => by
                rw [X_ug_n _ _ (by omega)]
                exact hge k (by omega)) (by omega)
        · skip
          have c286 : ¬ (i = a) := c286
          refine T_p xr_10_29 xn_10 (pc' := 30) (ls' := [(4, .int (iI i)), (3, .int (iI ((iI (lo b) ||| iI ((iI 1 <<< (iI b &&& 31)).toInt)).toInt))), (0, .ref B), (1, .int (iI a)), (2, .int (iI b))]) (st' := [.ref B]) rfl ?_
          refine T_p xr_10_30 xn_10 (pc' := 32) (ls' := [(4, .int (iI i)), (3, .int (iI ((iI (lo b) ||| iI ((iI 1 <<< (iI b &&& 31)).toInt)).toInt))), (0, .ref B), (1, .int (iI a)), (2, .int (iI b))]) (st' := [.int (iI i), .ref B]) rfl ?_
          refine T_p xr_10_32 xn_10 (pc' := 33) (ls' := [(4, .int (iI i)), (3, .int (iI ((iI (lo b) ||| iI ((iI 1 <<< (iI b &&& 31)).toInt)).toInt))), (0, .ref B), (1, .int (iI a)), (2, .int (iI b))]) (st' := [.int (iI a), .int (iI i), .ref B]) rfl ?_
          refine T_cv (S := S279) (q := B) xr_10_33 xf_11.1 xf_11.2.1 xn_11 (as := [.int (iI i), .int (iI a)]) (r := []) rfl h280 (Nat.le_of_ble_eq_true rfl) (Nat.le_of_ble_eq_true rfl) (pc' := 36) rfl (ls' := [(0, .ref B), (1, .int (iI i)), (2, .int (iI a))]) rfl ?_
          have h291 := (hF278.1 (B + 1) (by omega)).trans (hb1)
          have h292 := (hF278.1 (B + 3) (by omega)).trans (hb3)
          have h293 := (hF278.1 (B + 4) (by omega)).trans (hb4)
          have h294 := (hF278.1 (B + 5) (by omega)).trans (hb5)
          refine T_mono (c_isTighter sc S279 B rc kc wc rn l1 kn ab i a ⟨h280, h291, hl1, h292, h293, ⟨f, h294, hf⟩, ⟨by omega, by omega⟩, ⟨by omega, by omega⟩, ⟨by omega, by omega⟩⟩ (by omega)) (fun v296 S297 h295 => ?_)
          obtain ⟨h298, h299⟩ := h295
          rw [h298, h299]
          show X_T sc 10 (36, [(4, .int (iI i)), (3, .int (iI ((iI (lo b) ||| iI ((iI 1 <<< (iI b &&& 31)).toInt)).toInt))), (0, .ref B), (1, .int (iI a)), (2, .int (iI b))], [.int (iI (bI (X_bt (l1 i) a)))], S279) _
          refine T_bif_eq xr_10_36 (t := 50) (pc' := 39) rfl rfl (fun c300 => ?_) (fun c300 => ?_)
          · skip
            have c300 : ¬ (X_bt (l1 i) a) := c300
            refine T_ziinc xr_10_50 xn_10 (a := i) (z := i + 1) rfl (Nat.le_of_ble_eq_true rfl) (by omega) (ls' := [(4, .int (iI (i + 1))), (3, .int (iI ((iI (lo b) ||| iI ((iI 1 <<< (iI b &&& 31)).toInt)).toInt))), (0, .ref B), (1, .int (iI a)), (2, .int (iI b))]) rfl (pc' := 53) rfl ?_
            refine T_p xr_10_53 xn_10 (pc' := 14) (ls' := [(4, .int (iI (i + 1))), (3, .int (iI ((iI (lo b) ||| iI ((iI 1 <<< (iI b &&& 31)).toInt)).toInt))), (0, .ref B), (1, .int (iI a)), (2, .int (iI b))]) (st' := []) rfl ?_
            exact ih275 S279 (i + 1) l1 hl1 (hF278.tr (X_Fr.rf)) (by omega) (fun k h1 h2 => by
                  by_cases hk : k = i
                  · subst hk
                    rw [hge k (Or.inl (by omega)), X_ti_f (by rintro (h | h) <;> first | omega | (rw [← hge k (Or.inl (by omega))] at h; exact absurd h (by assumption)))]
                  · exact hlt k h1 (by omega)) (fun k h1 => hge k (by omega)) (by omega)
          · skip
            have c300 : (X_bt (l1 i) a) := c300
            refine T_p xr_10_39 xn_10 (pc' := 40) (ls' := [(4, .int (iI i)), (3, .int (iI ((iI (lo b) ||| iI ((iI 1 <<< (iI b &&& 31)).toInt)).toInt))), (0, .ref B), (1, .int (iI a)), (2, .int (iI b))]) (st' := [.ref B]) rfl ?_
            refine T_get xr_10_40 h280 rfl (v := .ref (B + 2)) rfl (pc' := 43) rfl ?_
            refine T_p xr_10_43 xn_10 (pc' := 45) (ls' := [(4, .int (iI i)), (3, .int (iI ((iI (lo b) ||| iI ((iI 1 <<< (iI b &&& 31)).toInt)).toInt))), (0, .ref B), (1, .int (iI a)), (2, .int (iI b))]) (st' := [.int (iI i), .ref (B + 2)]) rfl ?_
            refine T_p xr_10_45 xn_10 (pc' := 46) (ls' := [(4, .int (iI i)), (3, .int (iI ((iI (lo b) ||| iI ((iI 1 <<< (iI b &&& 31)).toInt)).toInt))), (0, .ref B), (1, .int (iI a)), (2, .int (iI b))]) (st' := [.int (iI i), .ref (B + 2), .int (iI i), .ref (B + 2)]) rfl ?_
            refine T_ziald xr_10_46 hl1 (pc' := 47) rfl ?_
            refine T_p xr_10_47 xn_10 (pc' := 48) (ls' := [(4, .int (iI i)), (3, .int (iI ((iI (lo b) ||| iI ((iI 1 <<< (iI b &&& 31)).toInt)).toInt))), (0, .ref B), (1, .int (iI a)), (2, .int (iI b))]) (st' := [.int (iI ((iI (lo b) ||| iI ((iI 1 <<< (iI b &&& 31)).toInt)).toInt)), .int (iI (l1 i)), .int (iI i), .ref (B + 2)]) rfl ?_
            refine T_zop xr_10_48 (pc' := 49) rfl (z := (iI (l1 i) ||| iI ((iI (lo b) ||| iI ((iI 1 <<< (iI b &&& 31)).toInt)).toInt)).toInt) (iI_of _) ?_
            refine T_ziast xr_10_49 hl1 (pc' := 50) rfl (fun S301 h302 n303 e304 => ?_)
            refine T_ziinc xr_10_50 xn_10 (a := i) (z := i + 1) rfl (Nat.le_of_ble_eq_true rfl) (by omega) (ls' := [(4, .int (iI (i + 1))), (3, .int (iI ((iI (lo b) ||| iI ((iI 1 <<< (iI b &&& 31)).toInt)).toInt))), (0, .ref B), (1, .int (iI a)), (2, .int (iI b))]) rfl (pc' := 53) rfl ?_
            refine T_p xr_10_53 xn_10 (pc' := 14) (ls' := [(4, .int (iI (i + 1))), (3, .int (iI ((iI (lo b) ||| iI ((iI 1 <<< (iI b &&& 31)).toInt)).toInt))), (0, .ref B), (1, .int (iI a)), (2, .int (iI b))]) (st' := []) rfl ?_
            exact ih275 S301 (i + 1) (X_ug l1 i ((iI (l1 i) ||| iI ((iI (lo b) ||| iI ((iI 1 <<< (iI b &&& 31)).toInt)).toInt)).toInt)) h302 (hF278.tr ((X_Fr.rf).tr (X_Fr.of n303 e304 (by first | decide | exact ⟨Nat.le_add_right _ _, Nat.add_le_add_left (by decide) _⟩ | omega)))) (by omega) (fun k h1 h2 => by
                  by_cases hk : k = i
                  · subst hk
                    rw [X_ug_s, X_ti_t (by first | exact Or.inl (by omega) | (rw [← hge k (Or.inl (by omega))]; exact Or.inr (by assumption))), hge k (Or.inl (by omega))]; rfl
                  · rw [X_ug_n _ _ hk]
                    exact hlt k h1 (by omega)) (fun k h1 => by
                  rw [X_ug_n _ _ (by omega)]
                  exact hge k (by omega)) (by omega)
  exact L274 (rc + 1).toNat S 0 lo hb2 ((X_Fr.rf)) (by omega) (fun k h1 h2 => (show False by omega).elim) (fun k h1 => rfl) (by omega)
theorem c_kindsUnder (sc : X_Sc) (S : X_S) (B : Nat) (rc kc wc : Int) (rn : Int → Int64) (lo : Int → Int) (kn : Int → Int64) (ab : Int → Int) (u : Int) (hb : C_bk S B rc kc wc rn lo kn ab)  : X_T sc 14 (0, [(0, .ref B), (1, .int (iI u))], [], S) (fun v S' => ∃ b, v = some (.int (iI b)) ∧ (∀ k, 0 ≤ k → k < 32 → (X_bt b k ↔ k < kc ∧ X_bt (ab k) u)) ∧ S' = S) := by
  obtain ⟨hb0, hb1, hb2, hb3, hb4, ⟨f, hb5, hf⟩, ⟨hrc, hrcb⟩, ⟨hkc, hkcb⟩, ⟨hwc, hwcb⟩⟩ := id hb
  refine X_QI (fun Q hQ => ?_)
  refine T_p xr_14_0 xn_14 (pc' := 1) (ls' := [(0, .ref B), (1, .int (iI u))]) (st' := [.int (iI 0)]) rfl ?_
  refine T_p xr_14_1 xn_14 (pc' := 2) (ls' := [(2, .int (iI 0)), (0, .ref B), (1, .int (iI u))]) (st' := []) rfl ?_
  refine T_p xr_14_2 xn_14 (pc' := 3) (ls' := [(2, .int (iI 0)), (0, .ref B), (1, .int (iI u))]) (st' := [.int (iI 0)]) rfl ?_
  refine T_p xr_14_3 xn_14 (pc' := 4) (ls' := [(3, .int (iI 0)), (2, .int (iI 0)), (0, .ref B), (1, .int (iI u))]) (st' := []) rfl ?_
  have L305 : ∀ (m307 : Nat) (i : Int) (b : Int) (hi : 0 ≤ i ∧ i ≤ kc) (hbt : ∀ k, 0 ≤ k → k < 32 → (X_bt b k ↔ k < i ∧ X_bt (ab k) u)) (hm308 : kc - i < m307), X_T sc 14 (4, [(3, .int (iI i)), (2, .int (iI b)), (0, .ref B), (1, .int (iI u))], [], S) Q := by
    intro m307
    induction m307 with
    | zero =>
      intro i b hi hbt hm308
      exact (show False by omega).elim
    | succ m307 ih306 =>
      intro i b hi hbt hm308
      refine T_p xr_14_4 xn_14 (pc' := 5) (ls' := [(3, .int (iI i)), (2, .int (iI b)), (0, .ref B), (1, .int (iI u))]) (st' := [.int (iI i)]) rfl ?_
      refine T_p xr_14_5 xn_14 (pc' := 6) (ls' := [(3, .int (iI i)), (2, .int (iI b)), (0, .ref B), (1, .int (iI u))]) (st' := [.ref B, .int (iI i)]) rfl ?_
      refine T_get xr_14_6 hb0 rfl (v := .int (iI kc)) rfl (pc' := 9) rfl ?_
      refine T_zicmp_ge xr_14_9 (t := 33) (pc' := 12) rfl rfl (fun c310 => ?_) (fun c310 => ?_)
      · skip
        have c310 : kc ≤ i := c310
        refine T_p xr_14_33 xn_14 (pc' := 34) (ls' := [(3, .int (iI i)), (2, .int (iI b)), (0, .ref B), (1, .int (iI u))]) (st' := [.int (iI b)]) rfl ?_
        refine T_iret xr_14_34 xf_14.2.2 rfl ?_
        refine hQ _ _ ?_
        exact ⟨b, rfl, fun k h1 h2 => by rw [hbt k h1 h2, show i = kc by omega], rfl⟩
      · skip
        have c310 : ¬ (kc ≤ i) := c310
        refine T_p xr_14_12 xn_14 (pc' := 13) (ls' := [(3, .int (iI i)), (2, .int (iI b)), (0, .ref B), (1, .int (iI u))]) (st' := [.ref B]) rfl ?_
        refine T_p xr_14_13 xn_14 (pc' := 14) (ls' := [(3, .int (iI i)), (2, .int (iI b)), (0, .ref B), (1, .int (iI u))]) (st' := [.int (iI i), .ref B]) rfl ?_
        refine T_p xr_14_14 xn_14 (pc' := 15) (ls' := [(3, .int (iI i)), (2, .int (iI b)), (0, .ref B), (1, .int (iI u))]) (st' := [.int (iI u), .int (iI i), .ref B]) rfl ?_
        refine T_cv (S := S) (q := B) xr_14_15 xf_12.1 xf_12.2.1 xn_12 (as := [.int (iI i), .int (iI u)]) (r := []) rfl hb0 (Nat.le_of_ble_eq_true rfl) (Nat.le_of_ble_eq_true rfl) (pc' := 18) rfl (ls' := [(0, .ref B), (1, .int (iI i)), (2, .int (iI u))]) rfl ?_
        refine T_mono (c_isUnder sc S B rc kc wc rn lo kn ab i u ⟨hb0, hb1, hb2, hb3, hb4, ⟨f, hb5, hf⟩, ⟨by omega, by omega⟩, ⟨by omega, by omega⟩, ⟨by omega, by omega⟩⟩ (by omega)) (fun v312 S313 h311 => ?_)
        obtain ⟨h314, h315⟩ := h311
        rw [h314, h315]
        show X_T sc 14 (18, [(3, .int (iI i)), (2, .int (iI b)), (0, .ref B), (1, .int (iI u))], [.int (iI (bI (X_bt (ab i) u)))], S) _
        refine T_bif_eq xr_14_18 (t := 27) (pc' := 21) rfl rfl (fun c316 => ?_) (fun c316 => ?_)
        · skip
          have c316 : ¬ (X_bt (ab i) u) := c316
          refine T_ziinc xr_14_27 xn_14 (a := i) (z := i + 1) rfl (Nat.le_of_ble_eq_true rfl) (by omega) (ls' := [(3, .int (iI (i + 1))), (2, .int (iI b)), (0, .ref B), (1, .int (iI u))]) rfl (pc' := 30) rfl ?_
          refine T_p xr_14_30 xn_14 (pc' := 4) (ls' := [(3, .int (iI (i + 1))), (2, .int (iI b)), (0, .ref B), (1, .int (iI u))]) (st' := []) rfl ?_
          exact ih306 (i + 1) b  (by omega) (fun k h1 h2 => by
                rw [hbt k h1 h2]
                constructor
                · rintro ⟨g1, g2⟩; exact ⟨by omega, g2⟩
                · rintro ⟨g1, g2⟩
                  by_cases hk : k = i
                  · subst hk; exact absurd g2 (by assumption)
                  · exact ⟨by omega, g2⟩) (by omega)
        · skip
          have c316 : (X_bt (ab i) u) := c316
          refine T_p xr_14_21 xn_14 (pc' := 22) (ls' := [(3, .int (iI i)), (2, .int (iI b)), (0, .ref B), (1, .int (iI u))]) (st' := [.int (iI b)]) rfl ?_
          refine T_p xr_14_22 xn_14 (pc' := 23) (ls' := [(3, .int (iI i)), (2, .int (iI b)), (0, .ref B), (1, .int (iI u))]) (st' := [.int (iI 1), .int (iI b)]) rfl ?_
          refine T_p xr_14_23 xn_14 (pc' := 24) (ls' := [(3, .int (iI i)), (2, .int (iI b)), (0, .ref B), (1, .int (iI u))]) (st' := [.int (iI i), .int (iI 1), .int (iI b)]) rfl ?_
          refine T_zop xr_14_24 (pc' := 25) rfl (z := (iI 1 <<< (iI i &&& 31)).toInt) (iI_of _) ?_
          refine T_zop xr_14_25 (pc' := 26) rfl (z := (iI b ||| iI ((iI 1 <<< (iI i &&& 31)).toInt)).toInt) (iI_of _) ?_
          refine T_p xr_14_26 xn_14 (pc' := 27) (ls' := [(2, .int (iI ((iI b ||| iI ((iI 1 <<< (iI i &&& 31)).toInt)).toInt))), (3, .int (iI i)), (0, .ref B), (1, .int (iI u))]) (st' := []) rfl ?_
          refine T_ziinc xr_14_27 xn_14 (a := i) (z := i + 1) rfl (Nat.le_of_ble_eq_true rfl) (by omega) (ls' := [(3, .int (iI (i + 1))), (2, .int (iI ((iI b ||| iI ((iI 1 <<< (iI i &&& 31)).toInt)).toInt))), (0, .ref B), (1, .int (iI u))]) rfl (pc' := 30) rfl ?_
          refine T_p xr_14_30 xn_14 (pc' := 4) (ls' := [(3, .int (iI (i + 1))), (2, .int (iI ((iI b ||| iI ((iI 1 <<< (iI i &&& 31)).toInt)).toInt))), (0, .ref B), (1, .int (iI u))]) (st' := []) rfl ?_
          exact ih306 (i + 1) ((iI b ||| iI ((iI 1 <<< (iI i &&& 31)).toInt)).toInt)  (by omega) (fun k h1 h2 => by
                show X_bt (X_bO b (X_bS i)) k ↔ _
                rw [X_bt_or _ _ _ ⟨h1, h2⟩, hbt k h1 h2, X_bt_sh _ _ (by omega) ⟨h1, h2⟩]
                constructor
                · rintro (⟨g1, g2⟩ | g1)
                  · exact ⟨by omega, g2⟩
                  · subst g1; exact ⟨by omega, by assumption⟩
                · rintro ⟨g1, g2⟩
                  by_cases hk : k = i
                  · exact Or.inr hk
                  · exact Or.inl ⟨by omega, g2⟩) (by omega)
  exact L305 (kc + 1).toNat 0 0  (by omega) (fun k h1 h2 => ⟨fun h => absurd h (X_bt_0 k ⟨h1, h2⟩), fun h => absurd h.1 (by omega)⟩) (by omega)
theorem c_wordsOfKinds (sc : X_Sc) (S : X_S) (B : Nat) (rc kc wc : Int) (rn : Int → Int64) (lo : Int → Int) (kn : Int → Int64) (ab : Int → Int) (D : Int → Nat → Int → Int) (W : Int → Int → Int64) (ks : Int) (hb : C_bk S B rc kc wc rn lo kn ab) (hs : C_ws S B D W)  : X_T sc 15 (0, [(0, .ref B), (1, .int (iI ks))], [], S) (fun v S' => ∃ b, v = some (.int (iI b)) ∧ (∀ k, 0 ≤ k → k < 32 → (X_bt b k ↔ k < wc ∧ X_bt ks (D k 2 0))) ∧ S' = S) := by
  obtain ⟨hb0, hb1, hb2, hb3, hb4, ⟨f, hb5, hf⟩, ⟨hrc, hrcb⟩, ⟨hkc, hkcb⟩, ⟨hwc, hwcb⟩⟩ := id hb
  refine X_QI (fun Q hQ => ?_)
  refine T_p xr_15_0 xn_15 (pc' := 1) (ls' := [(0, .ref B), (1, .int (iI ks))]) (st' := [.int (iI 0)]) rfl ?_
  refine T_p xr_15_1 xn_15 (pc' := 2) (ls' := [(2, .int (iI 0)), (0, .ref B), (1, .int (iI ks))]) (st' := []) rfl ?_
  refine T_p xr_15_2 xn_15 (pc' := 3) (ls' := [(2, .int (iI 0)), (0, .ref B), (1, .int (iI ks))]) (st' := [.int (iI 0)]) rfl ?_
  refine T_p xr_15_3 xn_15 (pc' := 4) (ls' := [(3, .int (iI 0)), (2, .int (iI 0)), (0, .ref B), (1, .int (iI ks))]) (st' := []) rfl ?_
  have L317 : ∀ (m319 : Nat) (i : Int) (b : Int) (hi : 0 ≤ i ∧ i ≤ wc) (hbt : ∀ k, 0 ≤ k → k < 32 → (X_bt b k ↔ k < i ∧ X_bt ks (D k 2 0))) (hm320 : wc - i < m319), X_T sc 15 (4, [(3, .int (iI i)), (2, .int (iI b)), (0, .ref B), (1, .int (iI ks))], [], S) Q := by
    intro m319
    induction m319 with
    | zero =>
      intro i b hi hbt hm320
      exact (show False by omega).elim
    | succ m319 ih318 =>
      intro i b hi hbt hm320
      refine T_p xr_15_4 xn_15 (pc' := 5) (ls' := [(3, .int (iI i)), (2, .int (iI b)), (0, .ref B), (1, .int (iI ks))]) (st' := [.int (iI i)]) rfl ?_
      refine T_p xr_15_5 xn_15 (pc' := 6) (ls' := [(3, .int (iI i)), (2, .int (iI b)), (0, .ref B), (1, .int (iI ks))]) (st' := [.ref B, .int (iI i)]) rfl ?_
      refine T_get xr_15_6 hb0 rfl (v := .int (iI wc)) rfl (pc' := 9) rfl ?_
      refine T_zicmp_ge xr_15_9 (t := 40) (pc' := 12) rfl rfl (fun c322 => ?_) (fun c322 => ?_)
      · skip
        have c322 : wc ≤ i := c322
        refine T_p xr_15_40 xn_15 (pc' := 41) (ls' := [(3, .int (iI i)), (2, .int (iI b)), (0, .ref B), (1, .int (iI ks))]) (st' := [.int (iI b)]) rfl ?_
        refine T_iret xr_15_41 xf_15.2.2 rfl ?_
        refine hQ _ _ ?_
        exact ⟨b, rfl, fun k h1 h2 => by rw [hbt k h1 h2, show i = wc by omega], rfl⟩
      · skip
        have c322 : ¬ (wc ≤ i) := c322
        refine T_p xr_15_12 xn_15 (pc' := 13) (ls' := [(3, .int (iI i)), (2, .int (iI b)), (0, .ref B), (1, .int (iI ks))]) (st' := [.int (iI ks)]) rfl ?_
        refine T_p xr_15_13 xn_15 (pc' := 14) (ls' := [(3, .int (iI i)), (2, .int (iI b)), (0, .ref B), (1, .int (iI ks))]) (st' := [.ref B, .int (iI ks)]) rfl ?_
        refine T_get xr_15_14 hb0 rfl (v := .ref (B + 5)) rfl (pc' := 17) rfl ?_
        refine T_p xr_15_17 xn_15 (pc' := 18) (ls' := [(3, .int (iI i)), (2, .int (iI b)), (0, .ref B), (1, .int (iI ks))]) (st' := [.int (iI i), .ref (B + 5), .int (iI ks)]) rfl ?_
        have hw323 := hs i (by omega) (by omega)
        obtain ⟨a324, ha325⟩ : ∃ z : Nat, z = B + 6 + 8 * (i : Int).toNat := ⟨_, rfl⟩
        rw [← ha325] at hw323
        obtain ⟨⟨_, _⟩, ⟨_, _⟩, ⟨_, _⟩, ⟨_, _⟩, ⟨_, _⟩, ⟨_, _⟩, ⟨_, _⟩, ⟨_, _⟩⟩ := id hw323.2
        refine T_zaald xr_15_18 hb5 (w := a324) (by rw [ha325]; exact hf _ (by omega)) (pc' := 19) rfl ?_
        refine T_get xr_15_19 hw323.1.1 rfl (v := .int (iI (D i 2 0))) rfl (pc' := 22) rfl ?_
        refine T_cs xr_15_22 (by decide) xf_131.1 xn_131 (as := [.int (iI ks), .int (iI (D i 2 0))]) (r := []) rfl (Nat.le_of_ble_eq_true rfl) (Nat.le_of_ble_eq_true rfl) (pc' := 25) rfl (ls' := [(0, .int (iI ks)), (1, .int (iI (D i 2 0)))]) rfl ?_
        refine T_mono (c_hasBit sc S ks (D i 2 0)) (fun v327 S328 h326 => ?_)
        obtain ⟨h329, h330⟩ := h326
        rw [h329, h330]
        show X_T sc 15 (25, [(3, .int (iI i)), (2, .int (iI b)), (0, .ref B), (1, .int (iI ks))], [.int (iI (bI (X_bt ks (D i 2 0))))], S) _
        refine T_bif_eq xr_15_25 (t := 34) (pc' := 28) rfl rfl (fun c331 => ?_) (fun c331 => ?_)
        · skip
          have c331 : ¬ (X_bt ks (D i 2 0)) := c331
          refine T_ziinc xr_15_34 xn_15 (a := i) (z := i + 1) rfl (Nat.le_of_ble_eq_true rfl) (by omega) (ls' := [(3, .int (iI (i + 1))), (2, .int (iI b)), (0, .ref B), (1, .int (iI ks))]) rfl (pc' := 37) rfl ?_
          refine T_p xr_15_37 xn_15 (pc' := 4) (ls' := [(3, .int (iI (i + 1))), (2, .int (iI b)), (0, .ref B), (1, .int (iI ks))]) (st' := []) rfl ?_
          exact ih318 (i + 1) b  (by omega) (fun k h1 h2 => by
                rw [hbt k h1 h2]
                constructor
                · rintro ⟨g1, g2⟩; exact ⟨by omega, g2⟩
                · rintro ⟨g1, g2⟩
                  by_cases hk : k = i
                  · subst hk; exact absurd g2 (by assumption)
                  · exact ⟨by omega, g2⟩) (by omega)
        · skip
          have c331 : (X_bt ks (D i 2 0)) := c331
          refine T_p xr_15_28 xn_15 (pc' := 29) (ls' := [(3, .int (iI i)), (2, .int (iI b)), (0, .ref B), (1, .int (iI ks))]) (st' := [.int (iI b)]) rfl ?_
          refine T_p xr_15_29 xn_15 (pc' := 30) (ls' := [(3, .int (iI i)), (2, .int (iI b)), (0, .ref B), (1, .int (iI ks))]) (st' := [.int (iI 1), .int (iI b)]) rfl ?_
          refine T_p xr_15_30 xn_15 (pc' := 31) (ls' := [(3, .int (iI i)), (2, .int (iI b)), (0, .ref B), (1, .int (iI ks))]) (st' := [.int (iI i), .int (iI 1), .int (iI b)]) rfl ?_
          refine T_zop xr_15_31 (pc' := 32) rfl (z := (iI 1 <<< (iI i &&& 31)).toInt) (iI_of _) ?_
          refine T_zop xr_15_32 (pc' := 33) rfl (z := (iI b ||| iI ((iI 1 <<< (iI i &&& 31)).toInt)).toInt) (iI_of _) ?_
          refine T_p xr_15_33 xn_15 (pc' := 34) (ls' := [(2, .int (iI ((iI b ||| iI ((iI 1 <<< (iI i &&& 31)).toInt)).toInt))), (3, .int (iI i)), (0, .ref B), (1, .int (iI ks))]) (st' := []) rfl ?_
          refine T_ziinc xr_15_34 xn_15 (a := i) (z := i + 1) rfl (Nat.le_of_ble_eq_true rfl) (by omega) (ls' := [(3, .int (iI (i + 1))), (2, .int (iI ((iI b ||| iI ((iI 1 <<< (iI i &&& 31)).toInt)).toInt))), (0, .ref B), (1, .int (iI ks))]) rfl (pc' := 37) rfl ?_
          refine T_p xr_15_37 xn_15 (pc' := 4) (ls' := [(3, .int (iI (i + 1))), (2, .int (iI ((iI b ||| iI ((iI 1 <<< (iI i &&& 31)).toInt)).toInt))), (0, .ref B), (1, .int (iI ks))]) (st' := []) rfl ?_
          exact ih318 (i + 1) ((iI b ||| iI ((iI 1 <<< (iI i &&& 31)).toInt)).toInt)  (by omega) (fun k h1 h2 => by
                show X_bt (X_bO b (X_bS i)) k ↔ _
                rw [X_bt_or _ _ _ ⟨h1, h2⟩, hbt k h1 h2, X_bt_sh _ _ (by omega) ⟨h1, h2⟩]
                constructor
                · rintro (⟨g1, g2⟩ | g1)
                  · exact ⟨by omega, g2⟩
                  · subst g1; exact ⟨by omega, by assumption⟩
                · rintro ⟨g1, g2⟩
                  by_cases hk : k = i
                  · exact Or.inr hk
                  · exact Or.inl ⟨by omega, g2⟩) (by omega)
  exact L317 (wc + 1).toNat 0 0  (by omega) (fun k h1 h2 => ⟨fun h => absurd h (X_bt_0 k ⟨h1, h2⟩), fun h => absurd h.1 (by omega)⟩) (by omega)
theorem c_hasPartTwice (sc : X_Sc) (S : X_S) (a : Nat) (d : Nat → Int → Int) (q : Int → Int64) (hw : C_wd S a d q) (hr : X_wr d) : X_T sc 19 (0, [(0, .ref a)], [], S) (fun v S' => v = some (.int (iI (bI (X_h2 d q)))) ∧ S' = S) := by
  obtain ⟨⟨hr0, hr0b⟩, ⟨hr1, hr1b⟩, ⟨hr2, hr2b⟩, ⟨hr3, hr3b⟩, ⟨hr4, hr4b⟩, ⟨hr5, hr5b⟩, ⟨hr6, hr6b⟩, ⟨hr7, hr7b⟩⟩ := id hr
  refine X_QI (fun Q hQ => ?_)
  refine T_p xr_19_0 xn_19 (pc' := 1) (ls' := [(0, .ref a)]) (st' := [.int (iI 0)]) rfl ?_
  refine T_p xr_19_1 xn_19 (pc' := 2) (ls' := [(1, .int (iI 0)), (0, .ref a)]) (st' := []) rfl ?_
  have L332 : ∀ (m334 : Nat) (e : Int) (he : 0 ≤ e ∧ e ≤ d 3 0) (hno : ∀ e1 k1, 0 ≤ e1 → e1 < e → e1 < k1 → k1 < d 3 0 → ¬ X_hl d q e1 → ¬ q e1 = q k1) (hm335 : d 3 0 - e < m334), X_T sc 19 (2, [(1, .int (iI e)), (0, .ref a)], [], S) Q := by
    intro m334
    induction m334 with
    | zero =>
      intro e he hno hm335
      exact (show False by omega).elim
    | succ m334 ih333 =>
      intro e he hno hm335
      refine T_p xr_19_2 xn_19 (pc' := 3) (ls' := [(1, .int (iI e)), (0, .ref a)]) (st' := [.int (iI e)]) rfl ?_
      refine T_p xr_19_3 xn_19 (pc' := 4) (ls' := [(1, .int (iI e)), (0, .ref a)]) (st' := [.ref a, .int (iI e)]) rfl ?_
      refine T_get xr_19_4 hw.1 rfl (v := .int (iI (d 3 0))) rfl (pc' := 7) rfl ?_
      refine T_zicmp_ge xr_19_7 (t := 60) (pc' := 10) rfl rfl (fun c337 => ?_) (fun c337 => ?_)
      · skip
        have c337 : (d 3 0) ≤ e := c337
        refine T_p xr_19_60 xn_19 (pc' := 61) (ls' := [(1, .int (iI e)), (0, .ref a)]) (st' := [.int (iI 0)]) rfl ?_
        refine T_iret xr_19_61 xf_19.2.2 (by decide) ?_
        refine hQ _ _ ?_
        exact ⟨by rw [bI_f (by rintro ⟨e1, k1, h1, h2, h3, h4, h5⟩; exact hno e1 k1 h1 (by omega) h2 h3 h4 h5)], rfl⟩
      · skip
        have c337 : ¬ ((d 3 0) ≤ e) := c337
        refine T_p xr_19_10 xn_19 (pc' := 11) (ls' := [(1, .int (iI e)), (0, .ref a)]) (st' := [.int (iI e)]) rfl ?_
        refine T_p xr_19_11 xn_19 (pc' := 12) (ls' := [(1, .int (iI e)), (0, .ref a)]) (st' := [.int (iI 1), .int (iI e)]) rfl ?_
        refine T_ziadd xr_19_12 (z := e + 1) rfl (pc' := 13) rfl ?_
        refine T_p xr_19_13 xn_19 (pc' := 14) (ls' := [(2, .int (iI (e + 1))), (1, .int (iI e)), (0, .ref a)]) (st' := []) rfl ?_
        have L338 : ∀ (m340 : Nat) (k : Int) (hk : e + 1 ≤ k ∧ k ≤ d 3 0) (hnk : ∀ k1, e < k1 → k1 < k → ¬ X_hl d q e → ¬ q e = q k1) (hm341 : d 3 0 - k < m340), X_T sc 19 (14, [(2, .int (iI k)), (1, .int (iI e)), (0, .ref a)], [], S) Q := by
          intro m340
          induction m340 with
          | zero =>
            intro k hk hnk hm341
            exact (show False by omega).elim
          | succ m340 ih339 =>
            intro k hk hnk hm341
            refine T_p xr_19_14 xn_19 (pc' := 15) (ls' := [(2, .int (iI k)), (1, .int (iI e)), (0, .ref a)]) (st' := [.int (iI k)]) rfl ?_
            refine T_p xr_19_15 xn_19 (pc' := 16) (ls' := [(2, .int (iI k)), (1, .int (iI e)), (0, .ref a)]) (st' := [.ref a, .int (iI k)]) rfl ?_
            refine T_get xr_19_16 hw.1 rfl (v := .int (iI (d 3 0))) rfl (pc' := 19) rfl ?_
            refine T_zicmp_ge xr_19_19 (t := 54) (pc' := 22) rfl rfl (fun c343 => ?_) (fun c343 => ?_)
            · skip
              have c343 : (d 3 0) ≤ k := c343
              refine T_ziinc xr_19_54 xn_19 (a := e) (z := e + 1) rfl (Nat.le_of_ble_eq_true rfl) (by omega) (ls' := [(1, .int (iI (e + 1))), (2, .int (iI k)), (0, .ref a)]) rfl (pc' := 57) rfl ?_
              refine T_p xr_19_57 xn_19 (pc' := 2) (ls' := [(1, .int (iI (e + 1))), (2, .int (iI k)), (0, .ref a)]) (st' := []) rfl ?_
              refine T_sub (ls := [(1, .int (iI (e + 1))), (0, .ref a)]) ⟨rfl, rfl, trivial⟩ rfl rfl ?_
              exact ih333 (e + 1)  (by omega) (fun e1 k1 h1 h2 h3 h4 h5 => by
                    by_cases hk : e1 = e
                    · subst hk; exact hnk k1 h3 (by omega) h5
                    · exact hno e1 k1 h1 (by omega) h3 h4 h5) (by omega)
            · skip
              have c343 : ¬ ((d 3 0) ≤ k) := c343
              refine T_p xr_19_22 xn_19 (pc' := 23) (ls' := [(2, .int (iI k)), (1, .int (iI e)), (0, .ref a)]) (st' := [.ref a]) rfl ?_
              refine T_p xr_19_23 xn_19 (pc' := 24) (ls' := [(2, .int (iI k)), (1, .int (iI e)), (0, .ref a)]) (st' := [.int (iI e), .ref a]) rfl ?_
              refine T_cv (S := S) (q := a) xr_19_24 xf_100.1 xf_100.2.1 xn_100 (as := [.int (iI e)]) (r := []) rfl hw.1 (Nat.le_of_ble_eq_true rfl) (Nat.le_of_ble_eq_true rfl) (pc' := 27) rfl (ls' := [(0, .ref a), (1, .int (iI e))]) rfl ?_
              refine T_mono (c_isHole sc S a d q e ⟨hw.1, hw.2.1, hw.2.2.1, hw.2.2.2.1, hw.2.2.2.2.1, hw.2.2.2.2.2.1, hw.2.2.2.2.2.2.1, hw.2.2.2.2.2.2.2⟩ hr (by omega)) (fun v345 S346 h344 => ?_)
              obtain ⟨h347, h348⟩ := h344
              rw [h347, h348]
              show X_T sc 19 (27, [(2, .int (iI k)), (1, .int (iI e)), (0, .ref a)], [.int (iI (bI (X_hl d q e)))], S) _
              refine T_bif_ne xr_19_27 (t := 48) (pc' := 30) rfl rfl (fun c349 => ?_) (fun c349 => ?_)
              · skip
                have c349 : (X_hl d q e) := c349
                refine T_ziinc xr_19_48 xn_19 (a := k) (z := k + 1) rfl (Nat.le_of_ble_eq_true rfl) (by omega) (ls' := [(2, .int (iI (k + 1))), (1, .int (iI e)), (0, .ref a)]) rfl (pc' := 51) rfl ?_
                refine T_p xr_19_51 xn_19 (pc' := 14) (ls' := [(2, .int (iI (k + 1))), (1, .int (iI e)), (0, .ref a)]) (st' := []) rfl ?_
                exact ih339 (k + 1)  (by omega) (fun k1 h1 h2 h3 => by
                      by_cases hk : k1 = k
                      · subst hk; first | assumption | exact absurd (by assumption) h3
                      · exact hnk k1 h1 (by omega) h3) (by omega)
              · skip
                have c349 : ¬ (X_hl d q e) := c349
                refine T_p xr_19_30 xn_19 (pc' := 31) (ls' := [(2, .int (iI k)), (1, .int (iI e)), (0, .ref a)]) (st' := [.ref a]) rfl ?_
                refine T_get xr_19_31 hw.1 rfl (v := .ref (a + 1)) rfl (pc' := 34) rfl ?_
                refine T_p xr_19_34 xn_19 (pc' := 35) (ls' := [(2, .int (iI k)), (1, .int (iI e)), (0, .ref a)]) (st' := [.int (iI e), .ref (a + 1)]) rfl ?_
                refine T_zlald xr_19_35 hw.2.1 (pc' := 36) rfl ?_
                refine T_p xr_19_36 xn_19 (pc' := 37) (ls' := [(2, .int (iI k)), (1, .int (iI e)), (0, .ref a)]) (st' := [.ref a, .long (q e)]) rfl ?_
                refine T_get xr_19_37 hw.1 rfl (v := .ref (a + 1)) rfl (pc' := 40) rfl ?_
                refine T_p xr_19_40 xn_19 (pc' := 41) (ls' := [(2, .int (iI k)), (1, .int (iI e)), (0, .ref a)]) (st' := [.int (iI k), .ref (a + 1), .long (q e)]) rfl ?_
                refine T_zlald xr_19_41 hw.2.1 (pc' := 42) rfl ?_
                refine T_lc_ne xr_19_42 xr_19_43 (t := 48) (pc' := 46) rfl rfl (fun c350 => ?_) (fun c350 => ?_)
                · skip
                  have c350 : ¬ (q e) = (q k) := c350
                  refine T_ziinc xr_19_48 xn_19 (a := k) (z := k + 1) rfl (Nat.le_of_ble_eq_true rfl) (by omega) (ls' := [(2, .int (iI (k + 1))), (1, .int (iI e)), (0, .ref a)]) rfl (pc' := 51) rfl ?_
                  refine T_p xr_19_51 xn_19 (pc' := 14) (ls' := [(2, .int (iI (k + 1))), (1, .int (iI e)), (0, .ref a)]) (st' := []) rfl ?_
                  exact ih339 (k + 1)  (by omega) (fun k1 h1 h2 h3 => by
                        by_cases hk : k1 = k
                        · subst hk; first | assumption | exact absurd (by assumption) h3
                        · exact hnk k1 h1 (by omega) h3) (by omega)
                · skip
                  have c350 : ¬ (¬ (q e) = (q k)) := c350
                  refine T_p xr_19_46 xn_19 (pc' := 47) (ls' := [(2, .int (iI k)), (1, .int (iI e)), (0, .ref a)]) (st' := [.int (iI 1)]) rfl ?_
                  refine T_iret xr_19_47 xf_19.2.2 (by decide) ?_
                  refine hQ _ _ ?_
                  exact ⟨by rw [bI_t ⟨e, k, by omega, by omega, by omega, by assumption, by first | assumption | exact Classical.not_not.mp (by assumption)⟩], rfl⟩
        exact L338 (d 3 0 + 1).toNat (e + 1)  (by omega) (fun k1 h1 h2 => (show False by omega).elim) (by omega)
  exact L332 (d 3 0 + 1).toNat 0  (by omega) (fun e1 k1 h1 h2 => (show False by omega).elim) (by omega)
theorem c_shareAPart (sc : X_Sc) (S : X_S) (a : Nat) (d : Nat → Int → Int) (q : Int → Int64) (a2 : Nat) (d2 : Nat → Int → Int) (q2 : Int → Int64) (hw : C_wd S a d q) (hr : X_wr d) (hw2 : C_wd S a2 d2 q2) (hR2 : X_wr d2) : X_T sc 20 (0, [(0, .ref a), (1, .ref a2)], [], S) (fun v S' => v = some (.int (iI (bI (X_sp d q d2 q2)))) ∧ S' = S) := by
  obtain ⟨⟨hr0, hr0b⟩, ⟨hr1, hr1b⟩, ⟨hr2, hr2b⟩, ⟨hr3, hr3b⟩, ⟨hr4, hr4b⟩, ⟨hr5, hr5b⟩, ⟨hr6, hr6b⟩, ⟨hr7, hr7b⟩⟩ := id hr
  refine X_QI (fun Q hQ => ?_)
  refine T_p xr_20_0 xn_20 (pc' := 1) (ls' := [(0, .ref a), (1, .ref a2)]) (st' := [.int (iI 0)]) rfl ?_
  refine T_p xr_20_1 xn_20 (pc' := 2) (ls' := [(2, .int (iI 0)), (0, .ref a), (1, .ref a2)]) (st' := []) rfl ?_
  have L351 : ∀ (m353 : Nat) (e : Int) (he : 0 ≤ e ∧ e ≤ d 3 0) (hno : ∀ e1, 0 ≤ e1 → e1 < e → ¬ X_hl d q e1 → ¬ X_hp d2 q2 (q e1)) (hm354 : d 3 0 - e < m353), X_T sc 20 (2, [(2, .int (iI e)), (0, .ref a), (1, .ref a2)], [], S) Q := by
    intro m353
    induction m353 with
    | zero =>
      intro e he hno hm354
      exact (show False by omega).elim
    | succ m353 ih352 =>
      intro e he hno hm354
      refine T_p xr_20_2 xn_20 (pc' := 3) (ls' := [(2, .int (iI e)), (0, .ref a), (1, .ref a2)]) (st' := [.int (iI e)]) rfl ?_
      refine T_p xr_20_3 xn_20 (pc' := 4) (ls' := [(2, .int (iI e)), (0, .ref a), (1, .ref a2)]) (st' := [.ref a, .int (iI e)]) rfl ?_
      refine T_get xr_20_4 hw.1 rfl (v := .int (iI (d 3 0))) rfl (pc' := 7) rfl ?_
      refine T_zicmp_ge xr_20_7 (t := 39) (pc' := 10) rfl rfl (fun c356 => ?_) (fun c356 => ?_)
      · skip
        have c356 : (d 3 0) ≤ e := c356
        refine T_p xr_20_39 xn_20 (pc' := 40) (ls' := [(2, .int (iI e)), (0, .ref a), (1, .ref a2)]) (st' := [.int (iI 0)]) rfl ?_
        refine T_iret xr_20_40 xf_20.2.2 (by decide) ?_
        refine hQ _ _ ?_
        exact ⟨by rw [bI_f (by rintro ⟨e1, h1, h2, h3, h4⟩; exact hno e1 h1 (by omega) h3 h4)], rfl⟩
      · skip
        have c356 : ¬ ((d 3 0) ≤ e) := c356
        refine T_p xr_20_10 xn_20 (pc' := 11) (ls' := [(2, .int (iI e)), (0, .ref a), (1, .ref a2)]) (st' := [.ref a]) rfl ?_
        refine T_p xr_20_11 xn_20 (pc' := 12) (ls' := [(2, .int (iI e)), (0, .ref a), (1, .ref a2)]) (st' := [.int (iI e), .ref a]) rfl ?_
        refine T_cv (S := S) (q := a) xr_20_12 xf_100.1 xf_100.2.1 xn_100 (as := [.int (iI e)]) (r := []) rfl hw.1 (Nat.le_of_ble_eq_true rfl) (Nat.le_of_ble_eq_true rfl) (pc' := 15) rfl (ls' := [(0, .ref a), (1, .int (iI e))]) rfl ?_
        refine T_mono (c_isHole sc S a d q e ⟨hw.1, hw.2.1, hw.2.2.1, hw.2.2.2.1, hw.2.2.2.2.1, hw.2.2.2.2.2.1, hw.2.2.2.2.2.2.1, hw.2.2.2.2.2.2.2⟩ hr (by omega)) (fun v358 S359 h357 => ?_)
        obtain ⟨h360, h361⟩ := h357
        rw [h360, h361]
        show X_T sc 20 (15, [(2, .int (iI e)), (0, .ref a), (1, .ref a2)], [.int (iI (bI (X_hl d q e)))], S) _
        refine T_bif_ne xr_20_15 (t := 33) (pc' := 18) rfl rfl (fun c362 => ?_) (fun c362 => ?_)
        · skip
          have c362 : (X_hl d q e) := c362
          refine T_ziinc xr_20_33 xn_20 (a := e) (z := e + 1) rfl (Nat.le_of_ble_eq_true rfl) (by omega) (ls' := [(2, .int (iI (e + 1))), (0, .ref a), (1, .ref a2)]) rfl (pc' := 36) rfl ?_
          refine T_p xr_20_36 xn_20 (pc' := 2) (ls' := [(2, .int (iI (e + 1))), (0, .ref a), (1, .ref a2)]) (st' := []) rfl ?_
          exact ih352 (e + 1)  (by omega) (fun e1 h1 h2 h3 => by
                by_cases hk : e1 = e
                · subst hk; first | assumption | exact absurd (by assumption) h3
                · exact hno e1 h1 (by omega) h3) (by omega)
        · skip
          have c362 : ¬ (X_hl d q e) := c362
          refine T_p xr_20_18 xn_20 (pc' := 19) (ls' := [(2, .int (iI e)), (0, .ref a), (1, .ref a2)]) (st' := [.ref a2]) rfl ?_
          refine T_p xr_20_19 xn_20 (pc' := 20) (ls' := [(2, .int (iI e)), (0, .ref a), (1, .ref a2)]) (st' := [.ref a, .ref a2]) rfl ?_
          refine T_get xr_20_20 hw.1 rfl (v := .ref (a + 1)) rfl (pc' := 23) rfl ?_
          refine T_p xr_20_23 xn_20 (pc' := 24) (ls' := [(2, .int (iI e)), (0, .ref a), (1, .ref a2)]) (st' := [.int (iI e), .ref (a + 1), .ref a2]) rfl ?_
          refine T_zlald xr_20_24 hw.2.1 (pc' := 25) rfl ?_
          refine T_cv (S := S) (q := a2) xr_20_25 xf_103.1 xf_103.2.1 xn_103 (as := [.long (q e)]) (r := []) rfl hw2.1 (Nat.le_of_ble_eq_true rfl) (Nat.le_of_ble_eq_true rfl) (pc' := 28) rfl (ls' := [(0, .ref a2), (1, .long (q e))]) rfl ?_
          refine T_mono (c_hasPart sc S a2 d2 q2 (q e) ⟨hw2.1, hw2.2.1, hw2.2.2.1, hw2.2.2.2.1, hw2.2.2.2.2.1, hw2.2.2.2.2.2.1, hw2.2.2.2.2.2.2.1, hw2.2.2.2.2.2.2.2⟩ hR2) (fun v364 S365 h363 => ?_)
          obtain ⟨h366, h367⟩ := h363
          rw [h366, h367]
          show X_T sc 20 (28, [(2, .int (iI e)), (0, .ref a), (1, .ref a2)], [.int (iI (bI (X_hp d2 q2 (q e))))], S) _
          refine T_bif_eq xr_20_28 (t := 33) (pc' := 31) rfl rfl (fun c368 => ?_) (fun c368 => ?_)
          · skip
            have c368 : ¬ (X_hp d2 q2 (q e)) := c368
            refine T_ziinc xr_20_33 xn_20 (a := e) (z := e + 1) rfl (Nat.le_of_ble_eq_true rfl) (by omega) (ls' := [(2, .int (iI (e + 1))), (0, .ref a), (1, .ref a2)]) rfl (pc' := 36) rfl ?_
            refine T_p xr_20_36 xn_20 (pc' := 2) (ls' := [(2, .int (iI (e + 1))), (0, .ref a), (1, .ref a2)]) (st' := []) rfl ?_
            exact ih352 (e + 1)  (by omega) (fun e1 h1 h2 h3 => by
                  by_cases hk : e1 = e
                  · subst hk; first | assumption | exact absurd (by assumption) h3
                  · exact hno e1 h1 (by omega) h3) (by omega)
          · skip
            have c368 : (X_hp d2 q2 (q e)) := c368
            refine T_p xr_20_31 xn_20 (pc' := 32) (ls' := [(2, .int (iI e)), (0, .ref a), (1, .ref a2)]) (st' := [.int (iI 1)]) rfl ?_
            refine T_iret xr_20_32 xf_20.2.2 (by decide) ?_
            refine hQ _ _ ?_
            exact ⟨by rw [bI_t ⟨e, by omega, by omega, by assumption, by assumption⟩], rfl⟩
  exact L351 (d 3 0 + 1).toNat 0  (by omega) (fun e1 h1 h2 => (show False by omega).elim) (by omega)
theorem c_isAgainst (sc : X_Sc) (S : X_S) (B : Nat) (rc kc wc : Int) (rn : Int → Int64) (lo : Int → Int) (kn : Int → Int64) (ab : Int → Int) (D : Int → Nat → Int → Int) (W : Int → Int → Int64) (x y : Int) (hb : C_bk S B rc kc wc rn lo kn ab) (hs : C_ws S B D W) (hx : 0 ≤ x ∧ x < wc) (hy : 0 ≤ y ∧ y < wc) : X_T sc 18 (0, [(0, .ref B), (1, .int (iI x)), (2, .int (iI y))], [], S) (fun v S' => v = some (.int (iI (bI (X_ag lo D W x y)))) ∧ S' = S) := by
  obtain ⟨hb0, hb1, hb2, hb3, hb4, ⟨f, hb5, hf⟩, ⟨hrc, hrcb⟩, ⟨hkc, hkcb⟩, ⟨hwc, hwcb⟩⟩ := id hb
  have hex := X_en_r (D x) (W x)
  have hey := X_en_r (D y) (W y)
  refine X_QI (fun Q hQ => ?_)
  refine T_p xr_18_0 xn_18 (pc' := 1) (ls' := [(0, .ref B), (1, .int (iI x)), (2, .int (iI y))]) (st' := [.ref B]) rfl ?_
  refine T_get xr_18_1 hb0 rfl (v := .ref (B + 5)) rfl (pc' := 4) rfl ?_
  refine T_p xr_18_4 xn_18 (pc' := 5) (ls' := [(0, .ref B), (1, .int (iI x)), (2, .int (iI y))]) (st' := [.int (iI x), .ref (B + 5)]) rfl ?_
  have hw369 := hs x (by omega) (by omega)
  obtain ⟨a370, ha371⟩ : ∃ z : Nat, z = B + 6 + 8 * (x : Int).toNat := ⟨_, rfl⟩
  rw [← ha371] at hw369
  obtain ⟨⟨_, _⟩, ⟨_, _⟩, ⟨_, _⟩, ⟨_, _⟩, ⟨_, _⟩, ⟨_, _⟩, ⟨_, _⟩, ⟨_, _⟩⟩ := id hw369.2
  refine T_zaald xr_18_5 hb5 (w := a370) (by rw [ha371]; exact hf _ (by omega)) (pc' := 6) rfl ?_
  refine T_p xr_18_6 xn_18 (pc' := 7) (ls' := [(3, .ref a370), (0, .ref B), (1, .int (iI x)), (2, .int (iI y))]) (st' := []) rfl ?_
  refine T_p xr_18_7 xn_18 (pc' := 8) (ls' := [(3, .ref a370), (0, .ref B), (1, .int (iI x)), (2, .int (iI y))]) (st' := [.ref B]) rfl ?_
  refine T_get xr_18_8 hb0 rfl (v := .ref (B + 5)) rfl (pc' := 11) rfl ?_
  refine T_p xr_18_11 xn_18 (pc' := 12) (ls' := [(3, .ref a370), (0, .ref B), (1, .int (iI x)), (2, .int (iI y))]) (st' := [.int (iI y), .ref (B + 5)]) rfl ?_
  have hw372 := hs y (by omega) (by omega)
  obtain ⟨a373, ha374⟩ : ∃ z : Nat, z = B + 6 + 8 * (y : Int).toNat := ⟨_, rfl⟩
  rw [← ha374] at hw372
  obtain ⟨⟨_, _⟩, ⟨_, _⟩, ⟨_, _⟩, ⟨_, _⟩, ⟨_, _⟩, ⟨_, _⟩, ⟨_, _⟩, ⟨_, _⟩⟩ := id hw372.2
  refine T_zaald xr_18_12 hb5 (w := a373) (by rw [ha374]; exact hf _ (by omega)) (pc' := 13) rfl ?_
  refine T_p xr_18_13 xn_18 (pc' := 15) (ls' := [(4, .ref a373), (3, .ref a370), (0, .ref B), (1, .int (iI x)), (2, .int (iI y))]) (st' := []) rfl ?_
  refine T_p xr_18_15 xn_18 (pc' := 16) (ls' := [(4, .ref a373), (3, .ref a370), (0, .ref B), (1, .int (iI x)), (2, .int (iI y))]) (st' := [.int (iI x)]) rfl ?_
  refine T_p xr_18_16 xn_18 (pc' := 17) (ls' := [(4, .ref a373), (3, .ref a370), (0, .ref B), (1, .int (iI x)), (2, .int (iI y))]) (st' := [.int (iI y), .int (iI x)]) rfl ?_
  refine T_zicmp_ne xr_18_17 (t := 48) (pc' := 20) rfl rfl (fun c375 => ?_) (fun c375 => ?_)
  · skip
    have c375 : ¬ x = y := c375
    refine T_p xr_18_48 xn_18 (pc' := 49) (ls' := [(4, .ref a373), (3, .ref a370), (0, .ref B), (1, .int (iI x)), (2, .int (iI y))]) (st' := [.ref a370]) rfl ?_
    refine T_p xr_18_49 xn_18 (pc' := 51) (ls' := [(4, .ref a373), (3, .ref a370), (0, .ref B), (1, .int (iI x)), (2, .int (iI y))]) (st' := [.ref a373, .ref a370]) rfl ?_
    refine T_cs xr_18_51 (by decide) xf_20.1 xn_20 (as := [.ref a370, .ref a373]) (r := []) rfl (Nat.le_of_ble_eq_true rfl) (Nat.le_of_ble_eq_true rfl) (pc' := 54) rfl (ls' := [(0, .ref a370), (1, .ref a373)]) rfl ?_
    refine T_mono (c_shareAPart sc S a370 (D x) (W x) a373 (D y) (W y) ⟨hw369.1.1, hw369.1.2.1, hw369.1.2.2.1, hw369.1.2.2.2.1, hw369.1.2.2.2.2.1, hw369.1.2.2.2.2.2.1, hw369.1.2.2.2.2.2.2.1, hw369.1.2.2.2.2.2.2.2⟩ hw369.2 ⟨hw372.1.1, hw372.1.2.1, hw372.1.2.2.1, hw372.1.2.2.2.1, hw372.1.2.2.2.2.1, hw372.1.2.2.2.2.2.1, hw372.1.2.2.2.2.2.2.1, hw372.1.2.2.2.2.2.2.2⟩ hw372.2) (fun v377 S378 h376 => ?_)
    obtain ⟨h379, h380⟩ := h376
    rw [h379, h380]
    show X_T sc 18 (54, [(4, .ref a373), (3, .ref a370), (0, .ref B), (1, .int (iI x)), (2, .int (iI y))], [.int (iI (bI (X_sp (D x) (W x) (D y) (W y))))], S) _
    refine T_bif_eq xr_18_54 (t := 59) (pc' := 57) rfl rfl (fun c381 => ?_) (fun c381 => ?_)
    · skip
      have c381 : ¬ (X_sp (D x) (W x) (D y) (W y)) := c381
      refine T_p xr_18_59 xn_18 (pc' := 60) (ls' := [(4, .ref a373), (3, .ref a370), (0, .ref B), (1, .int (iI x)), (2, .int (iI y))]) (st' := [.ref a370]) rfl ?_
      refine T_cv (S := S) (q := a370) xr_18_60 xf_102.1 xf_102.2.1 xn_102 (as := []) (r := []) rfl hw369.1.1 (Nat.le_of_ble_eq_true rfl) (Nat.le_of_ble_eq_true rfl) (pc' := 63) rfl (ls' := [(0, .ref a370)]) rfl ?_
      refine T_mono (c_isClosed sc S a370 (D x) (W x) ⟨hw369.1.1, hw369.1.2.1, hw369.1.2.2.1, hw369.1.2.2.2.1, hw369.1.2.2.2.2.1, hw369.1.2.2.2.2.2.1, hw369.1.2.2.2.2.2.2.1, hw369.1.2.2.2.2.2.2.2⟩ hw369.2) (fun v383 S384 h382 => ?_)
      obtain ⟨h385, h386⟩ := h382
      rw [h385, h386]
      show X_T sc 18 (63, [(4, .ref a373), (3, .ref a370), (0, .ref B), (1, .int (iI x)), (2, .int (iI y))], [.int (iI (bI (X_en (D x) (W x) = 0)))], S) _
      refine T_bif_ne xr_18_63 (t := 74) (pc' := 66) rfl rfl (fun c387 => ?_) (fun c387 => ?_)
      · skip
        have c387 : (X_en (D x) (W x) = 0) := c387
        refine T_p xr_18_74 xn_18 (pc' := 75) (ls' := [(4, .ref a373), (3, .ref a370), (0, .ref B), (1, .int (iI x)), (2, .int (iI y))]) (st' := [.int (iI 0)]) rfl ?_
        refine T_iret xr_18_75 xf_18.2.2 (by decide) ?_
        refine hQ _ _ ?_
        exact ⟨by rw [bI_f (by unfold X_ag; rintro (⟨h1, h2 | ⟨h2, h3⟩⟩ | ⟨h1, h2 | ⟨h2, h3, h4, h5, h6⟩⟩) <;> first | omega | contradiction)], rfl⟩
      · skip
        have c387 : ¬ (X_en (D x) (W x) = 0) := c387
        refine T_p xr_18_66 xn_18 (pc' := 68) (ls' := [(4, .ref a373), (3, .ref a370), (0, .ref B), (1, .int (iI x)), (2, .int (iI y))]) (st' := [.ref a373]) rfl ?_
        refine T_cv (S := S) (q := a373) xr_18_68 xf_102.1 xf_102.2.1 xn_102 (as := []) (r := []) rfl hw372.1.1 (Nat.le_of_ble_eq_true rfl) (Nat.le_of_ble_eq_true rfl) (pc' := 71) rfl (ls' := [(0, .ref a373)]) rfl ?_
        refine T_mono (c_isClosed sc S a373 (D y) (W y) ⟨hw372.1.1, hw372.1.2.1, hw372.1.2.2.1, hw372.1.2.2.2.1, hw372.1.2.2.2.2.1, hw372.1.2.2.2.2.2.1, hw372.1.2.2.2.2.2.2.1, hw372.1.2.2.2.2.2.2.2⟩ hw372.2) (fun v389 S390 h388 => ?_)
        obtain ⟨h391, h392⟩ := h388
        rw [h391, h392]
        show X_T sc 18 (71, [(4, .ref a373), (3, .ref a370), (0, .ref B), (1, .int (iI x)), (2, .int (iI y))], [.int (iI (bI (X_en (D y) (W y) = 0)))], S) _
        refine T_bif_eq xr_18_71 (t := 76) (pc' := 74) rfl rfl (fun c393 => ?_) (fun c393 => ?_)
        · skip
          have c393 : ¬ (X_en (D y) (W y) = 0) := c393
          have J394 : X_T sc 18 (112, [(4, .ref a373), (3, .ref a370), (0, .ref B), (1, .int (iI x)), (2, .int (iI y))], [.int (iI (bI (D x 0 0 = D y 0 0 ∧ ¬ D x 1 0 = 0 ∧ D x 1 0 = D y 1 0)))], S) Q := by
            refine T_p xr_18_112 xn_18 (pc' := 114) (ls' := [(5, .int (iI (bI (D x 0 0 = D y 0 0 ∧ ¬ D x 1 0 = 0 ∧ D x 1 0 = D y 1 0)))), (4, .ref a373), (3, .ref a370), (0, .ref B), (1, .int (iI x)), (2, .int (iI y))]) (st' := []) rfl ?_
            refine T_p xr_18_114 xn_18 (pc' := 116) (ls' := [(5, .int (iI (bI (D x 0 0 = D y 0 0 ∧ ¬ D x 1 0 = 0 ∧ D x 1 0 = D y 1 0)))), (4, .ref a373), (3, .ref a370), (0, .ref B), (1, .int (iI x)), (2, .int (iI y))]) (st' := [.int (iI (bI (D x 0 0 = D y 0 0 ∧ ¬ D x 1 0 = 0 ∧ D x 1 0 = D y 1 0)))]) rfl ?_
            refine T_bif_ne xr_18_116 (t := 155) (pc' := 119) rfl rfl (fun c395 => ?_) (fun c395 => ?_)
            · skip
              have c395 : (D x 0 0 = D y 0 0 ∧ ¬ D x 1 0 = 0 ∧ D x 1 0 = D y 1 0) := c395
              refine T_p xr_18_155 xn_18 (pc' := 156) (ls' := [(5, .int (iI (bI (D x 0 0 = D y 0 0 ∧ ¬ D x 1 0 = 0 ∧ D x 1 0 = D y 1 0)))), (4, .ref a373), (3, .ref a370), (0, .ref B), (1, .int (iI x)), (2, .int (iI y))]) (st' := [.int (iI 0)]) rfl ?_
              refine T_iret xr_18_156 xf_18.2.2 (by decide) ?_
              refine hQ _ _ ?_
              exact ⟨by rw [bI_f (by unfold X_ag; rintro (⟨h1, h2 | ⟨h2, h3⟩⟩ | ⟨h1, h2 | ⟨h2, h3, h4, h5, h6⟩⟩) <;> first | omega | contradiction)], rfl⟩
            · skip
              have c395 : ¬ (D x 0 0 = D y 0 0 ∧ ¬ D x 1 0 = 0 ∧ D x 1 0 = D y 1 0) := c395
              refine T_p xr_18_119 xn_18 (pc' := 120) (ls' := [(5, .int (iI (bI (D x 0 0 = D y 0 0 ∧ ¬ D x 1 0 = 0 ∧ D x 1 0 = D y 1 0)))), (4, .ref a373), (3, .ref a370), (0, .ref B), (1, .int (iI x)), (2, .int (iI y))]) (st' := [.ref B]) rfl ?_
              refine T_p xr_18_120 xn_18 (pc' := 121) (ls' := [(5, .int (iI (bI (D x 0 0 = D y 0 0 ∧ ¬ D x 1 0 = 0 ∧ D x 1 0 = D y 1 0)))), (4, .ref a373), (3, .ref a370), (0, .ref B), (1, .int (iI x)), (2, .int (iI y))]) (st' := [.ref a370, .ref B]) rfl ?_
              refine T_get xr_18_121 hw369.1.1 rfl (v := .int (iI (D x 0 0))) rfl (pc' := 124) rfl ?_
              refine T_p xr_18_124 xn_18 (pc' := 126) (ls' := [(5, .int (iI (bI (D x 0 0 = D y 0 0 ∧ ¬ D x 1 0 = 0 ∧ D x 1 0 = D y 1 0)))), (4, .ref a373), (3, .ref a370), (0, .ref B), (1, .int (iI x)), (2, .int (iI y))]) (st' := [.ref a373, .int (iI (D x 0 0)), .ref B]) rfl ?_
              refine T_get xr_18_126 hw372.1.1 rfl (v := .int (iI (D y 0 0))) rfl (pc' := 129) rfl ?_
              refine T_cv (S := S) (q := B) xr_18_129 xf_11.1 xf_11.2.1 xn_11 (as := [.int (iI (D x 0 0)), .int (iI (D y 0 0))]) (r := []) rfl hb0 (Nat.le_of_ble_eq_true rfl) (Nat.le_of_ble_eq_true rfl) (pc' := 132) rfl (ls' := [(0, .ref B), (1, .int (iI (D x 0 0))), (2, .int (iI (D y 0 0)))]) rfl ?_
              refine T_mono (c_isTighter sc S B rc kc wc rn lo kn ab (D x 0 0) (D y 0 0) ⟨hb0, hb1, hb2, hb3, hb4, ⟨f, hb5, hf⟩, ⟨by omega, by omega⟩, ⟨by omega, by omega⟩, ⟨by omega, by omega⟩⟩ (by omega)) (fun v397 S398 h396 => ?_)
              obtain ⟨h399, h400⟩ := h396
              rw [h399, h400]
              show X_T sc 18 (132, [(5, .int (iI (bI (D x 0 0 = D y 0 0 ∧ ¬ D x 1 0 = 0 ∧ D x 1 0 = D y 1 0)))), (4, .ref a373), (3, .ref a370), (0, .ref B), (1, .int (iI x)), (2, .int (iI y))], [.int (iI (bI (X_bt (lo (D x 0 0)) (D y 0 0))))], S) _
              refine T_bif_ne xr_18_132 (t := 155) (pc' := 135) rfl rfl (fun c401 => ?_) (fun c401 => ?_)
              · skip
                have c401 : (X_bt (lo (D x 0 0)) (D y 0 0)) := c401
                refine T_p xr_18_155 xn_18 (pc' := 156) (ls' := [(5, .int (iI (bI (D x 0 0 = D y 0 0 ∧ ¬ D x 1 0 = 0 ∧ D x 1 0 = D y 1 0)))), (4, .ref a373), (3, .ref a370), (0, .ref B), (1, .int (iI x)), (2, .int (iI y))]) (st' := [.int (iI 0)]) rfl ?_
                refine T_iret xr_18_156 xf_18.2.2 (by decide) ?_
                refine hQ _ _ ?_
                exact ⟨by rw [bI_f (by unfold X_ag; rintro (⟨h1, h2 | ⟨h2, h3⟩⟩ | ⟨h1, h2 | ⟨h2, h3, h4, h5, h6⟩⟩) <;> first | omega | contradiction)], rfl⟩
              · skip
                have c401 : ¬ (X_bt (lo (D x 0 0)) (D y 0 0)) := c401
                refine T_p xr_18_135 xn_18 (pc' := 136) (ls' := [(5, .int (iI (bI (D x 0 0 = D y 0 0 ∧ ¬ D x 1 0 = 0 ∧ D x 1 0 = D y 1 0)))), (4, .ref a373), (3, .ref a370), (0, .ref B), (1, .int (iI x)), (2, .int (iI y))]) (st' := [.ref B]) rfl ?_
                refine T_p xr_18_136 xn_18 (pc' := 138) (ls' := [(5, .int (iI (bI (D x 0 0 = D y 0 0 ∧ ¬ D x 1 0 = 0 ∧ D x 1 0 = D y 1 0)))), (4, .ref a373), (3, .ref a370), (0, .ref B), (1, .int (iI x)), (2, .int (iI y))]) (st' := [.ref a373, .ref B]) rfl ?_
                refine T_get xr_18_138 hw372.1.1 rfl (v := .int (iI (D y 0 0))) rfl (pc' := 141) rfl ?_
                refine T_p xr_18_141 xn_18 (pc' := 142) (ls' := [(5, .int (iI (bI (D x 0 0 = D y 0 0 ∧ ¬ D x 1 0 = 0 ∧ D x 1 0 = D y 1 0)))), (4, .ref a373), (3, .ref a370), (0, .ref B), (1, .int (iI x)), (2, .int (iI y))]) (st' := [.ref a370, .int (iI (D y 0 0)), .ref B]) rfl ?_
                refine T_get xr_18_142 hw369.1.1 rfl (v := .int (iI (D x 0 0))) rfl (pc' := 145) rfl ?_
                refine T_cv (S := S) (q := B) xr_18_145 xf_11.1 xf_11.2.1 xn_11 (as := [.int (iI (D y 0 0)), .int (iI (D x 0 0))]) (r := []) rfl hb0 (Nat.le_of_ble_eq_true rfl) (Nat.le_of_ble_eq_true rfl) (pc' := 148) rfl (ls' := [(0, .ref B), (1, .int (iI (D y 0 0))), (2, .int (iI (D x 0 0)))]) rfl ?_
                refine T_mono (c_isTighter sc S B rc kc wc rn lo kn ab (D y 0 0) (D x 0 0) ⟨hb0, hb1, hb2, hb3, hb4, ⟨f, hb5, hf⟩, ⟨by omega, by omega⟩, ⟨by omega, by omega⟩, ⟨by omega, by omega⟩⟩ (by omega)) (fun v403 S404 h402 => ?_)
                obtain ⟨h405, h406⟩ := h402
                rw [h405, h406]
                show X_T sc 18 (148, [(5, .int (iI (bI (D x 0 0 = D y 0 0 ∧ ¬ D x 1 0 = 0 ∧ D x 1 0 = D y 1 0)))), (4, .ref a373), (3, .ref a370), (0, .ref B), (1, .int (iI x)), (2, .int (iI y))], [.int (iI (bI (X_bt (lo (D y 0 0)) (D x 0 0))))], S) _
                refine T_bif_ne xr_18_148 (t := 155) (pc' := 151) rfl rfl (fun c407 => ?_) (fun c407 => ?_)
                · skip
                  have c407 : (X_bt (lo (D y 0 0)) (D x 0 0)) := c407
                  refine T_p xr_18_155 xn_18 (pc' := 156) (ls' := [(5, .int (iI (bI (D x 0 0 = D y 0 0 ∧ ¬ D x 1 0 = 0 ∧ D x 1 0 = D y 1 0)))), (4, .ref a373), (3, .ref a370), (0, .ref B), (1, .int (iI x)), (2, .int (iI y))]) (st' := [.int (iI 0)]) rfl ?_
                  refine T_iret xr_18_156 xf_18.2.2 (by decide) ?_
                  refine hQ _ _ ?_
                  exact ⟨by rw [bI_f (by unfold X_ag; rintro (⟨h1, h2 | ⟨h2, h3⟩⟩ | ⟨h1, h2 | ⟨h2, h3, h4, h5, h6⟩⟩) <;> first | omega | contradiction)], rfl⟩
                · skip
                  have c407 : ¬ (X_bt (lo (D y 0 0)) (D x 0 0)) := c407
                  refine T_p xr_18_151 xn_18 (pc' := 152) (ls' := [(5, .int (iI (bI (D x 0 0 = D y 0 0 ∧ ¬ D x 1 0 = 0 ∧ D x 1 0 = D y 1 0)))), (4, .ref a373), (3, .ref a370), (0, .ref B), (1, .int (iI x)), (2, .int (iI y))]) (st' := [.int (iI 1)]) rfl ?_
                  refine T_p xr_18_152 xn_18 (pc' := 156) (ls' := [(5, .int (iI (bI (D x 0 0 = D y 0 0 ∧ ¬ D x 1 0 = 0 ∧ D x 1 0 = D y 1 0)))), (4, .ref a373), (3, .ref a370), (0, .ref B), (1, .int (iI x)), (2, .int (iI y))]) (st' := [.int (iI 1)]) rfl ?_
                  refine T_iret xr_18_156 xf_18.2.2 (by decide) ?_
                  refine hQ _ _ ?_
                  exact ⟨by rw [bI_t (by unfold X_ag; first
                          | exact Or.inl ⟨by omega, Or.inl (by assumption)⟩
                          | exact Or.inl ⟨by omega, Or.inr ⟨by omega, by omega⟩⟩
                          | exact Or.inr ⟨by omega, Or.inl (by assumption)⟩
                          | exact Or.inr ⟨by omega, Or.inr ⟨by assumption, by assumption, by assumption, by assumption, by assumption⟩⟩)], rfl⟩
          refine T_p xr_18_76 xn_18 (pc' := 77) (ls' := [(4, .ref a373), (3, .ref a370), (0, .ref B), (1, .int (iI x)), (2, .int (iI y))]) (st' := [.ref a370]) rfl ?_
          refine T_get xr_18_77 hw369.1.1 rfl (v := .int (iI (D x 0 0))) rfl (pc' := 80) rfl ?_
          refine T_p xr_18_80 xn_18 (pc' := 82) (ls' := [(4, .ref a373), (3, .ref a370), (0, .ref B), (1, .int (iI x)), (2, .int (iI y))]) (st' := [.ref a373, .int (iI (D x 0 0))]) rfl ?_
          refine T_get xr_18_82 hw372.1.1 rfl (v := .int (iI (D y 0 0))) rfl (pc' := 85) rfl ?_
          refine T_zicmp_ne xr_18_85 (t := 111) (pc' := 88) rfl rfl (fun c408 => ?_) (fun c408 => ?_)
          · skip
            have c408 : ¬ (D x 0 0) = (D y 0 0) := c408
            refine T_p xr_18_111 xn_18 (pc' := 112) (ls' := [(4, .ref a373), (3, .ref a370), (0, .ref B), (1, .int (iI x)), (2, .int (iI y))]) (st' := [.int (iI 0)]) rfl ?_
            refine T_ie (y := iI (bI (D x 0 0 = D y 0 0 ∧ ¬ D x 1 0 = 0 ∧ D x 1 0 = D y 1 0))) (by rw [bI_f (by omega)]) ?_
            exact J394
          · skip
            have c408 : ¬ (¬ (D x 0 0) = (D y 0 0)) := c408
            refine T_p xr_18_88 xn_18 (pc' := 89) (ls' := [(4, .ref a373), (3, .ref a370), (0, .ref B), (1, .int (iI x)), (2, .int (iI y))]) (st' := [.ref a370]) rfl ?_
            refine T_get xr_18_89 hw369.1.1 rfl (v := .int (iI (D x 1 0))) rfl (pc' := 92) rfl ?_
            refine T_zif_eq xr_18_92 (t := 111) (pc' := 95) rfl rfl (fun c409 => ?_) (fun c409 => ?_)
            · skip
              have c409 : (D x 1 0) = 0 := c409
              refine T_p xr_18_111 xn_18 (pc' := 112) (ls' := [(4, .ref a373), (3, .ref a370), (0, .ref B), (1, .int (iI x)), (2, .int (iI y))]) (st' := [.int (iI 0)]) rfl ?_
              refine T_ie (y := iI (bI (D x 0 0 = D y 0 0 ∧ ¬ D x 1 0 = 0 ∧ D x 1 0 = D y 1 0))) (by rw [bI_f (by omega)]) ?_
              exact J394
            · skip
              have c409 : ¬ ((D x 1 0) = 0) := c409
              refine T_p xr_18_95 xn_18 (pc' := 96) (ls' := [(4, .ref a373), (3, .ref a370), (0, .ref B), (1, .int (iI x)), (2, .int (iI y))]) (st' := [.ref a370]) rfl ?_
              refine T_get xr_18_96 hw369.1.1 rfl (v := .int (iI (D x 1 0))) rfl (pc' := 99) rfl ?_
              refine T_p xr_18_99 xn_18 (pc' := 101) (ls' := [(4, .ref a373), (3, .ref a370), (0, .ref B), (1, .int (iI x)), (2, .int (iI y))]) (st' := [.ref a373, .int (iI (D x 1 0))]) rfl ?_
              refine T_get xr_18_101 hw372.1.1 rfl (v := .int (iI (D y 1 0))) rfl (pc' := 104) rfl ?_
              refine T_zicmp_ne xr_18_104 (t := 111) (pc' := 107) rfl rfl (fun c410 => ?_) (fun c410 => ?_)
              · skip
                have c410 : ¬ (D x 1 0) = (D y 1 0) := c410
                refine T_p xr_18_111 xn_18 (pc' := 112) (ls' := [(4, .ref a373), (3, .ref a370), (0, .ref B), (1, .int (iI x)), (2, .int (iI y))]) (st' := [.int (iI 0)]) rfl ?_
                refine T_ie (y := iI (bI (D x 0 0 = D y 0 0 ∧ ¬ D x 1 0 = 0 ∧ D x 1 0 = D y 1 0))) (by rw [bI_f (by omega)]) ?_
                exact J394
              · skip
                have c410 : ¬ (¬ (D x 1 0) = (D y 1 0)) := c410
                refine T_p xr_18_107 xn_18 (pc' := 108) (ls' := [(4, .ref a373), (3, .ref a370), (0, .ref B), (1, .int (iI x)), (2, .int (iI y))]) (st' := [.int (iI 1)]) rfl ?_
                refine T_p xr_18_108 xn_18 (pc' := 112) (ls' := [(4, .ref a373), (3, .ref a370), (0, .ref B), (1, .int (iI x)), (2, .int (iI y))]) (st' := [.int (iI 1)]) rfl ?_
                refine T_ie (y := iI (bI (D x 0 0 = D y 0 0 ∧ ¬ D x 1 0 = 0 ∧ D x 1 0 = D y 1 0))) (by rw [bI_t (by exact ⟨by omega, by omega, by omega⟩)]) ?_
                exact J394
        · skip
          have c393 : (X_en (D y) (W y) = 0) := c393
          refine T_p xr_18_74 xn_18 (pc' := 75) (ls' := [(4, .ref a373), (3, .ref a370), (0, .ref B), (1, .int (iI x)), (2, .int (iI y))]) (st' := [.int (iI 0)]) rfl ?_
          refine T_iret xr_18_75 xf_18.2.2 (by decide) ?_
          refine hQ _ _ ?_
          exact ⟨by rw [bI_f (by unfold X_ag; rintro (⟨h1, h2 | ⟨h2, h3⟩⟩ | ⟨h1, h2 | ⟨h2, h3, h4, h5, h6⟩⟩) <;> first | omega | contradiction)], rfl⟩
    · skip
      have c381 : (X_sp (D x) (W x) (D y) (W y)) := c381
      refine T_p xr_18_57 xn_18 (pc' := 58) (ls' := [(4, .ref a373), (3, .ref a370), (0, .ref B), (1, .int (iI x)), (2, .int (iI y))]) (st' := [.int (iI 1)]) rfl ?_
      refine T_iret xr_18_58 xf_18.2.2 (by decide) ?_
      refine hQ _ _ ?_
      exact ⟨by rw [bI_t (by unfold X_ag; first
              | exact Or.inl ⟨by omega, Or.inl (by assumption)⟩
              | exact Or.inl ⟨by omega, Or.inr ⟨by omega, by omega⟩⟩
              | exact Or.inr ⟨by omega, Or.inl (by assumption)⟩
              | exact Or.inr ⟨by omega, Or.inr ⟨by assumption, by assumption, by assumption, by assumption, by assumption⟩⟩)], rfl⟩
  · skip
    have c375 : ¬ (¬ x = y) := c375
    refine T_p xr_18_20 xn_18 (pc' := 21) (ls' := [(4, .ref a373), (3, .ref a370), (0, .ref B), (1, .int (iI x)), (2, .int (iI y))]) (st' := [.ref a370]) rfl ?_
    refine T_cs xr_18_21 (by decide) xf_19.1 xn_19 (as := [.ref a370]) (r := []) rfl (Nat.le_of_ble_eq_true rfl) (Nat.le_of_ble_eq_true rfl) (pc' := 24) rfl (ls' := [(0, .ref a370)]) rfl ?_
    refine T_mono (c_hasPartTwice sc S a370 (D x) (W x) ⟨hw369.1.1, hw369.1.2.1, hw369.1.2.2.1, hw369.1.2.2.2.1, hw369.1.2.2.2.2.1, hw369.1.2.2.2.2.2.1, hw369.1.2.2.2.2.2.2.1, hw369.1.2.2.2.2.2.2.2⟩ hw369.2) (fun v412 S413 h411 => ?_)
    obtain ⟨h414, h415⟩ := h411
    rw [h414, h415]
    show X_T sc 18 (24, [(4, .ref a373), (3, .ref a370), (0, .ref B), (1, .int (iI x)), (2, .int (iI y))], [.int (iI (bI (X_h2 (D x) (W x))))], S) _
    refine T_bif_ne xr_18_24 (t := 42) (pc' := 27) rfl rfl (fun c416 => ?_) (fun c416 => ?_)
    · skip
      have c416 : (X_h2 (D x) (W x)) := c416
      refine T_p xr_18_42 xn_18 (pc' := 43) (ls' := [(4, .ref a373), (3, .ref a370), (0, .ref B), (1, .int (iI x)), (2, .int (iI y))]) (st' := [.int (iI 1)]) rfl ?_
      refine T_p xr_18_43 xn_18 (pc' := 47) (ls' := [(4, .ref a373), (3, .ref a370), (0, .ref B), (1, .int (iI x)), (2, .int (iI y))]) (st' := [.int (iI 1)]) rfl ?_
      refine T_iret xr_18_47 xf_18.2.2 (by decide) ?_
      refine hQ _ _ ?_
      exact ⟨by rw [bI_t (by unfold X_ag; first
              | exact Or.inl ⟨by omega, Or.inl (by assumption)⟩
              | exact Or.inl ⟨by omega, Or.inr ⟨by omega, by omega⟩⟩
              | exact Or.inr ⟨by omega, Or.inl (by assumption)⟩
              | exact Or.inr ⟨by omega, Or.inr ⟨by assumption, by assumption, by assumption, by assumption, by assumption⟩⟩)], rfl⟩
    · skip
      have c416 : ¬ (X_h2 (D x) (W x)) := c416
      refine T_p xr_18_27 xn_18 (pc' := 28) (ls' := [(4, .ref a373), (3, .ref a370), (0, .ref B), (1, .int (iI x)), (2, .int (iI y))]) (st' := [.ref a370]) rfl ?_
      refine T_cv (S := S) (q := a370) xr_18_28 xf_101.1 xf_101.2.1 xn_101 (as := []) (r := []) rfl hw369.1.1 (Nat.le_of_ble_eq_true rfl) (Nat.le_of_ble_eq_true rfl) (pc' := 31) rfl (ls' := [(0, .ref a370)]) rfl ?_
      refine T_mono (c_ends sc S a370 (D x) (W x) ⟨hw369.1.1, hw369.1.2.1, hw369.1.2.2.1, hw369.1.2.2.2.1, hw369.1.2.2.2.2.1, hw369.1.2.2.2.2.2.1, hw369.1.2.2.2.2.2.2.1, hw369.1.2.2.2.2.2.2.2⟩ hw369.2) (fun v418 S419 h417 => ?_)
      obtain ⟨h420, h421⟩ := h417
      rw [h420, h421]
      show X_T sc 18 (31, [(4, .ref a373), (3, .ref a370), (0, .ref B), (1, .int (iI x)), (2, .int (iI y))], [.int (iI (X_en (D x) (W x)))], S) _
      refine T_p xr_18_31 xn_18 (pc' := 32) (ls' := [(4, .ref a373), (3, .ref a370), (0, .ref B), (1, .int (iI x)), (2, .int (iI y))]) (st' := [.int (iI 3), .int (iI (X_en (D x) (W x)))]) rfl ?_
      refine T_zicmp_ne xr_18_32 (t := 46) (pc' := 35) rfl rfl (fun c422 => ?_) (fun c422 => ?_)
      · skip
        have c422 : ¬ (X_en (D x) (W x)) = 3 := c422
        refine T_p xr_18_46 xn_18 (pc' := 47) (ls' := [(4, .ref a373), (3, .ref a370), (0, .ref B), (1, .int (iI x)), (2, .int (iI y))]) (st' := [.int (iI 0)]) rfl ?_
        refine T_iret xr_18_47 xf_18.2.2 (by decide) ?_
        refine hQ _ _ ?_
        exact ⟨by rw [bI_f (by unfold X_ag; rintro (⟨h1, h2 | ⟨h2, h3⟩⟩ | ⟨h1, h2 | ⟨h2, h3, h4, h5, h6⟩⟩) <;> first | omega | contradiction)], rfl⟩
      · skip
        have c422 : ¬ (¬ (X_en (D x) (W x)) = 3) := c422
        refine T_p xr_18_35 xn_18 (pc' := 36) (ls' := [(4, .ref a373), (3, .ref a370), (0, .ref B), (1, .int (iI x)), (2, .int (iI y))]) (st' := [.ref a370]) rfl ?_
        refine T_get xr_18_36 hw369.1.1 rfl (v := .int (iI (D x 1 0))) rfl (pc' := 39) rfl ?_
        refine T_zif_ne xr_18_39 (t := 46) (pc' := 42) rfl rfl (fun c423 => ?_) (fun c423 => ?_)
        · skip
          have c423 : ¬ (D x 1 0) = 0 := c423
          refine T_p xr_18_46 xn_18 (pc' := 47) (ls' := [(4, .ref a373), (3, .ref a370), (0, .ref B), (1, .int (iI x)), (2, .int (iI y))]) (st' := [.int (iI 0)]) rfl ?_
          refine T_iret xr_18_47 xf_18.2.2 (by decide) ?_
          refine hQ _ _ ?_
          exact ⟨by rw [bI_f (by unfold X_ag; rintro (⟨h1, h2 | ⟨h2, h3⟩⟩ | ⟨h1, h2 | ⟨h2, h3, h4, h5, h6⟩⟩) <;> first | omega | contradiction)], rfl⟩
        · skip
          have c423 : ¬ (¬ (D x 1 0) = 0) := c423
          refine T_p xr_18_42 xn_18 (pc' := 43) (ls' := [(4, .ref a373), (3, .ref a370), (0, .ref B), (1, .int (iI x)), (2, .int (iI y))]) (st' := [.int (iI 1)]) rfl ?_
          refine T_p xr_18_43 xn_18 (pc' := 47) (ls' := [(4, .ref a373), (3, .ref a370), (0, .ref B), (1, .int (iI x)), (2, .int (iI y))]) (st' := [.int (iI 1)]) rfl ?_
          refine T_iret xr_18_47 xf_18.2.2 (by decide) ?_
          refine hQ _ _ ?_
          exact ⟨by rw [bI_t (by unfold X_ag; first
                  | exact Or.inl ⟨by omega, Or.inl (by assumption)⟩
                  | exact Or.inl ⟨by omega, Or.inr ⟨by omega, by omega⟩⟩
                  | exact Or.inr ⟨by omega, Or.inl (by assumption)⟩
                  | exact Or.inr ⟨by omega, Or.inr ⟨by assumption, by assumption, by assumption, by assumption, by assumption⟩⟩)], rfl⟩
end
section
theorem xr_17_0 : X_row 17 0 = some (0, (.iload_n 2, 1), (0, 0, 0)) := by decide +kernel
theorem xr_17_1 : X_row 17 1 = some (1, (.ifCond .ne 7, 3), (0, 0, 0)) := by decide +kernel
theorem xr_17_4 : X_row 17 4 = some (4, (.iconst 1, 1), (0, 0, 0)) := by decide +kernel
theorem xr_17_5 : X_row 17 5 = some (5, (.goto 4, 3), (0, 0, 0)) := by decide +kernel
theorem xr_17_8 : X_row 17 8 = some (8, (.iconst 0, 1), (0, 0, 0)) := by decide +kernel
theorem xr_17_9 : X_row 17 9 = some (9, (.istore_n 3, 1), (0, 0, 0)) := by decide +kernel
theorem xr_17_10 : X_row 17 10 = some (10, (.iload_n 2, 1), (0, 0, 0)) := by decide +kernel
theorem xr_17_11 : X_row 17 11 = some (11, (.aload_n 1, 1), (0, 0, 0)) := by decide +kernel
theorem xr_17_12 : X_row 17 12 = some (12, (.getfield 68, 3), (8, 3, 7)) := by decide +kernel
theorem xr_17_15 : X_row 17 15 = some (15, (.iconst 1, 1), (0, 0, 0)) := by decide +kernel
theorem xr_17_16 : X_row 17 16 = some (16, (.isub, 1), (0, 0, 0)) := by decide +kernel
theorem xr_17_17 : X_row 17 17 = some (17, (.if_icmp .ne 7, 3), (0, 0, 0)) := by decide +kernel
theorem xr_17_20 : X_row 17 20 = some (20, (.iconst 1, 1), (0, 0, 0)) := by decide +kernel
theorem xr_17_21 : X_row 17 21 = some (21, (.goto 4, 3), (0, 0, 0)) := by decide +kernel
theorem xr_17_24 : X_row 17 24 = some (24, (.iconst 0, 1), (0, 0, 0)) := by decide +kernel
theorem xr_17_25 : X_row 17 25 = some (25, (.istore 4, 2), (0, 0, 0)) := by decide +kernel
theorem xr_17_27 : X_row 17 27 = some (27, (.iload_n 3, 1), (0, 0, 0)) := by decide +kernel
theorem xr_17_28 : X_row 17 28 = some (28, (.ifCond .eq 11, 3), (0, 0, 0)) := by decide +kernel
theorem xr_17_31 : X_row 17 31 = some (31, (.aload_n 1, 1), (0, 0, 0)) := by decide +kernel
theorem xr_17_32 : X_row 17 32 = some (32, (.getfield 97, 3), (8, 1, 3)) := by decide +kernel
theorem xr_17_35 : X_row 17 35 = some (35, (.iconst 1, 1), (0, 0, 0)) := by decide +kernel
theorem xr_17_36 : X_row 17 36 = some (36, (.if_icmp .eq 16, 3), (0, 0, 0)) := by decide +kernel
theorem xr_17_39 : X_row 17 39 = some (39, (.iload 4, 2), (0, 0, 0)) := by decide +kernel
theorem xr_17_41 : X_row 17 41 = some (41, (.ifCond .eq 15, 3), (0, 0, 0)) := by decide +kernel
theorem xr_17_44 : X_row 17 44 = some (44, (.aload_n 1, 1), (0, 0, 0)) := by decide +kernel
theorem xr_17_45 : X_row 17 45 = some (45, (.getfield 97, 3), (8, 1, 3)) := by decide +kernel
theorem xr_17_48 : X_row 17 48 = some (48, (.iconst 2, 1), (0, 0, 0)) := by decide +kernel
theorem xr_17_49 : X_row 17 49 = some (49, (.if_icmp .ne 7, 3), (0, 0, 0)) := by decide +kernel
theorem xr_17_52 : X_row 17 52 = some (52, (.iconst 1, 1), (0, 0, 0)) := by decide +kernel
theorem xr_17_53 : X_row 17 53 = some (53, (.goto 4, 3), (0, 0, 0)) := by decide +kernel
theorem xr_17_56 : X_row 17 56 = some (56, (.iconst 0, 1), (0, 0, 0)) := by decide +kernel
theorem xr_17_57 : X_row 17 57 = some (57, (.istore 5, 2), (0, 0, 0)) := by decide +kernel
theorem xr_17_59 : X_row 17 59 = some (59, (.iconst 0, 1), (0, 0, 0)) := by decide +kernel
theorem xr_17_60 : X_row 17 60 = some (60, (.istore 6, 2), (0, 0, 0)) := by decide +kernel
theorem xr_17_62 : X_row 17 62 = some (62, (.iconst 0, 1), (0, 0, 0)) := by decide +kernel
theorem xr_17_63 : X_row 17 63 = some (63, (.istore 7, 2), (0, 0, 0)) := by decide +kernel
theorem xr_17_65 : X_row 17 65 = some (65, (.iload 7, 2), (0, 0, 0)) := by decide +kernel
theorem xr_17_67 : X_row 17 67 = some (67, (.aload_n 0, 1), (0, 0, 0)) := by decide +kernel
theorem xr_17_68 : X_row 17 68 = some (68, (.getfield 42, 3), (0, 2, 22)) := by decide +kernel
theorem xr_17_71 : X_row 17 71 = some (71, (.if_icmp .ge 89, 3), (0, 0, 0)) := by decide +kernel
theorem xr_17_74 : X_row 17 74 = some (74, (.aload_n 0, 1), (0, 0, 0)) := by decide +kernel
theorem xr_17_75 : X_row 17 75 = some (75, (.getfield 27, 3), (0, 7, 32)) := by decide +kernel
theorem xr_17_78 : X_row 17 78 = some (78, (.iload 7, 2), (0, 0, 0)) := by decide +kernel
theorem xr_17_80 : X_row 17 80 = some (80, (.aaload, 1), (0, 0, 0)) := by decide +kernel
theorem xr_17_81 : X_row 17 81 = some (81, (.astore 8, 2), (0, 0, 0)) := by decide +kernel
theorem xr_17_83 : X_row 17 83 = some (83, (.iload_n 3, 1), (0, 0, 0)) := by decide +kernel
theorem xr_17_84 : X_row 17 84 = some (84, (.ifCond .ne 8, 3), (0, 0, 0)) := by decide +kernel
theorem xr_17_87 : X_row 17 87 = some (87, (.iload 4, 2), (0, 0, 0)) := by decide +kernel
theorem xr_17_89 : X_row 17 89 = some (89, (.ifCond .eq 44, 3), (0, 0, 0)) := by decide +kernel
theorem xr_17_92 : X_row 17 92 = some (92, (.aload 8, 2), (0, 0, 0)) := by decide +kernel
theorem xr_17_94 : X_row 17 94 = some (94, (.invokevirtual 100, 3), (102, 22, 0)) := by decide +kernel
theorem xr_17_97 : X_row 17 97 = some (97, (.ifCond .ne 36, 3), (0, 0, 0)) := by decide +kernel
theorem xr_17_100 : X_row 17 100 = some (100, (.aload_n 0, 1), (0, 0, 0)) := by decide +kernel
theorem xr_17_101 : X_row 17 101 = some (101, (.aload 8, 2), (0, 0, 0)) := by decide +kernel
theorem xr_17_103 : X_row 17 103 = some (103, (.getfield 104, 3), (8, 0, 1)) := by decide +kernel
theorem xr_17_106 : X_row 17 106 = some (106, (.aload_n 1, 1), (0, 0, 0)) := by decide +kernel
theorem xr_17_107 : X_row 17 107 = some (107, (.getfield 104, 3), (8, 0, 1)) := by decide +kernel
theorem xr_17_110 : X_row 17 110 = some (110, (.invokevirtual 55, 3), (11, 8, 0)) := by decide +kernel
theorem xr_17_113 : X_row 17 113 = some (113, (.ifCond .ne 20, 3), (0, 0, 0)) := by decide +kernel
theorem xr_17_116 : X_row 17 116 = some (116, (.iload 5, 2), (0, 0, 0)) := by decide +kernel
theorem xr_17_118 : X_row 17 118 = some (118, (.ifCond .eq 19, 3), (0, 0, 0)) := by decide +kernel
theorem xr_17_121 : X_row 17 121 = some (121, (.aload 8, 2), (0, 0, 0)) := by decide +kernel
theorem xr_17_123 : X_row 17 123 = some (123, (.getfield 104, 3), (8, 0, 1)) := by decide +kernel
theorem xr_17_126 : X_row 17 126 = some (126, (.aload_n 1, 1), (0, 0, 0)) := by decide +kernel
theorem xr_17_127 : X_row 17 127 = some (127, (.getfield 104, 3), (8, 0, 1)) := by decide +kernel
theorem xr_17_130 : X_row 17 130 = some (130, (.if_icmp .ne 7, 3), (0, 0, 0)) := by decide +kernel
theorem xr_17_133 : X_row 17 133 = some (133, (.iconst 1, 1), (0, 0, 0)) := by decide +kernel
theorem xr_17_134 : X_row 17 134 = some (134, (.goto 4, 3), (0, 0, 0)) := by decide +kernel
theorem xr_17_137 : X_row 17 137 = some (137, (.iconst 0, 1), (0, 0, 0)) := by decide +kernel
theorem xr_17_138 : X_row 17 138 = some (138, (.istore 9, 2), (0, 0, 0)) := by decide +kernel
theorem xr_17_140 : X_row 17 140 = some (140, (.iload 9, 2), (0, 0, 0)) := by decide +kernel
theorem xr_17_142 : X_row 17 142 = some (142, (.ifCond .eq 12, 3), (0, 0, 0)) := by decide +kernel
theorem xr_17_145 : X_row 17 145 = some (145, (.iload 6, 2), (0, 0, 0)) := by decide +kernel
theorem xr_17_147 : X_row 17 147 = some (147, (.iconst 1, 1), (0, 0, 0)) := by decide +kernel
theorem xr_17_148 : X_row 17 148 = some (148, (.iload 7, 2), (0, 0, 0)) := by decide +kernel
theorem xr_17_150 : X_row 17 150 = some (150, (.ishl, 1), (0, 0, 0)) := by decide +kernel
theorem xr_17_151 : X_row 17 151 = some (151, (.ior, 1), (0, 0, 0)) := by decide +kernel
theorem xr_17_152 : X_row 17 152 = some (152, (.istore 6, 2), (0, 0, 0)) := by decide +kernel
theorem xr_17_154 : X_row 17 154 = some (154, (.iinc 7 1, 3), (0, 0, 0)) := by decide +kernel
theorem xr_17_157 : X_row 17 157 = some (157, (.goto (-92), 3), (0, 0, 0)) := by decide +kernel
theorem xr_17_160 : X_row 17 160 = some (160, (.iload 6, 2), (0, 0, 0)) := by decide +kernel
theorem xr_17_162 : X_row 17 162 = some (162, (.ireturn, 1), (0, 0, 0)) := by decide +kernel
theorem xn_17 : X_nL 17 = 10 := by decide +kernel
theorem xf_17 : X_na 17 = 2 ∧ X_ci 17 = 0 ∧ X_rt 17 = (some .int) := by decide +kernel
/-- whether word v fits by its rank the hole at element e of the word d, q -/
def X_fi (lo : Int → Int) (D : Int → Nat → Int → Int) (W : Int → Int → Int64) (d : Nat → Int → Int) (e v : Int) : Prop :=
  (¬ e = 0 ∧ ¬ e = d 3 0 - 1) ∨ X_en (D v) (W v) = 0 ∨ X_bt (lo (D v 0 0)) (d 0 0) ∨ (((e = 0 ∧ d 1 0 = 1) ∨ (e = d 3 0 - 1 ∧ d 1 0 = 2)) ∧ D v 0 0 = d 0 0)
theorem c_wordsFitting (sc : X_Sc) (S : X_S) (B : Nat) (rc kc wc : Int) (rn : Int → Int64) (lo : Int → Int) (kn : Int → Int64) (ab : Int → Int) (D : Int → Nat → Int → Int) (W : Int → Int → Int64) (a : Nat) (d : Nat → Int → Int) (q : Int → Int64) (e : Int) (hb : C_bk S B rc kc wc rn lo kn ab) (hs : C_ws S B D W) (hw : C_wd S a d q) (hr : X_wr d) (he : 0 ≤ e ∧ e < 8) : X_T sc 17 (0, [(0, .ref B), (1, .ref a), (2, .int (iI e))], [], S) (fun v S' => ∃ b, v = some (.int (iI b)) ∧ (∀ k, 0 ≤ k → k < 32 → (X_bt b k ↔ k < wc ∧ X_fi lo D W d e k)) ∧ S' = S) := by
  obtain ⟨hb0, hb1, hb2, hb3, hb4, ⟨f, hb5, hf⟩, ⟨hrc, hrcb⟩, ⟨hkc, hkcb⟩, ⟨hwc, hwcb⟩⟩ := id hb
  obtain ⟨⟨hr0, hr0b⟩, ⟨hr1, hr1b⟩, ⟨hr2, hr2b⟩, ⟨hr3, hr3b⟩, ⟨hr4, hr4b⟩, ⟨hr5, hr5b⟩, ⟨hr6, hr6b⟩, ⟨hr7, hr7b⟩⟩ := id hr
  refine X_QI (fun Q hQ => ?_)
  have J424 : X_T sc 17 (9, [(0, .ref B), (1, .ref a), (2, .int (iI e))], [.int (iI (bI (e = 0)))], S) Q := by
    refine T_p xr_17_9 xn_17 (pc' := 10) (ls' := [(3, .int (iI (bI (e = 0)))), (0, .ref B), (1, .ref a), (2, .int (iI e))]) (st' := []) rfl ?_
    have J425 : X_T sc 17 (25, [(3, .int (iI (bI (e = 0)))), (0, .ref B), (1, .ref a), (2, .int (iI e))], [.int (iI (bI (e = d 3 0 - 1)))], S) Q := by
      refine T_p xr_17_25 xn_17 (pc' := 27) (ls' := [(4, .int (iI (bI (e = d 3 0 - 1)))), (3, .int (iI (bI (e = 0)))), (0, .ref B), (1, .ref a), (2, .int (iI e))]) (st' := []) rfl ?_
      have J426 : X_T sc 17 (57, [(4, .int (iI (bI (e = d 3 0 - 1)))), (3, .int (iI (bI (e = 0)))), (0, .ref B), (1, .ref a), (2, .int (iI e))], [.int (iI (bI ((e = 0 ∧ d 1 0 = 1) ∨ (e = d 3 0 - 1 ∧ d 1 0 = 2))))], S) Q := by
        refine T_p xr_17_57 xn_17 (pc' := 59) (ls' := [(5, .int (iI (bI ((e = 0 ∧ d 1 0 = 1) ∨ (e = d 3 0 - 1 ∧ d 1 0 = 2))))), (4, .int (iI (bI (e = d 3 0 - 1)))), (3, .int (iI (bI (e = 0)))), (0, .ref B), (1, .ref a), (2, .int (iI e))]) (st' := []) rfl ?_
        refine T_p xr_17_59 xn_17 (pc' := 60) (ls' := [(5, .int (iI (bI ((e = 0 ∧ d 1 0 = 1) ∨ (e = d 3 0 - 1 ∧ d 1 0 = 2))))), (4, .int (iI (bI (e = d 3 0 - 1)))), (3, .int (iI (bI (e = 0)))), (0, .ref B), (1, .ref a), (2, .int (iI e))]) (st' := [.int (iI 0)]) rfl ?_
        refine T_p xr_17_60 xn_17 (pc' := 62) (ls' := [(6, .int (iI 0)), (5, .int (iI (bI ((e = 0 ∧ d 1 0 = 1) ∨ (e = d 3 0 - 1 ∧ d 1 0 = 2))))), (4, .int (iI (bI (e = d 3 0 - 1)))), (3, .int (iI (bI (e = 0)))), (0, .ref B), (1, .ref a), (2, .int (iI e))]) (st' := []) rfl ?_
        refine T_p xr_17_62 xn_17 (pc' := 63) (ls' := [(6, .int (iI 0)), (5, .int (iI (bI ((e = 0 ∧ d 1 0 = 1) ∨ (e = d 3 0 - 1 ∧ d 1 0 = 2))))), (4, .int (iI (bI (e = d 3 0 - 1)))), (3, .int (iI (bI (e = 0)))), (0, .ref B), (1, .ref a), (2, .int (iI e))]) (st' := [.int (iI 0)]) rfl ?_
        refine T_p xr_17_63 xn_17 (pc' := 65) (ls' := [(7, .int (iI 0)), (6, .int (iI 0)), (5, .int (iI (bI ((e = 0 ∧ d 1 0 = 1) ∨ (e = d 3 0 - 1 ∧ d 1 0 = 2))))), (4, .int (iI (bI (e = d 3 0 - 1)))), (3, .int (iI (bI (e = 0)))), (0, .ref B), (1, .ref a), (2, .int (iI e))]) (st' := []) rfl ?_
        have L427 : ∀ (m429 : Nat) (i : Int) (b : Int) (hi : 0 ≤ i ∧ i ≤ wc) (hbt : ∀ k, 0 ≤ k → k < 32 → (X_bt b k ↔ k < i ∧ X_fi lo D W d e k)) (hm430 : wc - i < m429), X_T sc 17 (65, [(7, .int (iI i)), (6, .int (iI b)), (5, .int (iI (bI ((e = 0 ∧ d 1 0 = 1) ∨ (e = d 3 0 - 1 ∧ d 1 0 = 2))))), (4, .int (iI (bI (e = d 3 0 - 1)))), (3, .int (iI (bI (e = 0)))), (0, .ref B), (1, .ref a), (2, .int (iI e))], [], S) Q := by
          intro m429
          induction m429 with
          | zero =>
            intro i b hi hbt hm430
            exact (show False by omega).elim
          | succ m429 ih428 =>
            intro i b hi hbt hm430
            refine T_p xr_17_65 xn_17 (pc' := 67) (ls' := [(7, .int (iI i)), (6, .int (iI b)), (5, .int (iI (bI ((e = 0 ∧ d 1 0 = 1) ∨ (e = d 3 0 - 1 ∧ d 1 0 = 2))))), (4, .int (iI (bI (e = d 3 0 - 1)))), (3, .int (iI (bI (e = 0)))), (0, .ref B), (1, .ref a), (2, .int (iI e))]) (st' := [.int (iI i)]) rfl ?_
            refine T_p xr_17_67 xn_17 (pc' := 68) (ls' := [(7, .int (iI i)), (6, .int (iI b)), (5, .int (iI (bI ((e = 0 ∧ d 1 0 = 1) ∨ (e = d 3 0 - 1 ∧ d 1 0 = 2))))), (4, .int (iI (bI (e = d 3 0 - 1)))), (3, .int (iI (bI (e = 0)))), (0, .ref B), (1, .ref a), (2, .int (iI e))]) (st' := [.ref B, .int (iI i)]) rfl ?_
            refine T_get xr_17_68 hb0 rfl (v := .int (iI wc)) rfl (pc' := 71) rfl ?_
            refine T_zicmp_ge xr_17_71 (t := 160) (pc' := 74) rfl rfl (fun c432 => ?_) (fun c432 => ?_)
            · skip
              have c432 : wc ≤ i := c432
              refine T_p xr_17_160 xn_17 (pc' := 162) (ls' := [(7, .int (iI i)), (6, .int (iI b)), (5, .int (iI (bI ((e = 0 ∧ d 1 0 = 1) ∨ (e = d 3 0 - 1 ∧ d 1 0 = 2))))), (4, .int (iI (bI (e = d 3 0 - 1)))), (3, .int (iI (bI (e = 0)))), (0, .ref B), (1, .ref a), (2, .int (iI e))]) (st' := [.int (iI b)]) rfl ?_
              refine T_iret xr_17_162 xf_17.2.2 rfl ?_
              refine hQ _ _ ?_
              exact ⟨b, rfl, fun k h1 h2 => by rw [hbt k h1 h2, show i = wc by omega], rfl⟩
            · skip
              have c432 : ¬ (wc ≤ i) := c432
              refine T_p xr_17_74 xn_17 (pc' := 75) (ls' := [(7, .int (iI i)), (6, .int (iI b)), (5, .int (iI (bI ((e = 0 ∧ d 1 0 = 1) ∨ (e = d 3 0 - 1 ∧ d 1 0 = 2))))), (4, .int (iI (bI (e = d 3 0 - 1)))), (3, .int (iI (bI (e = 0)))), (0, .ref B), (1, .ref a), (2, .int (iI e))]) (st' := [.ref B]) rfl ?_
              refine T_get xr_17_75 hb0 rfl (v := .ref (B + 5)) rfl (pc' := 78) rfl ?_
              refine T_p xr_17_78 xn_17 (pc' := 80) (ls' := [(7, .int (iI i)), (6, .int (iI b)), (5, .int (iI (bI ((e = 0 ∧ d 1 0 = 1) ∨ (e = d 3 0 - 1 ∧ d 1 0 = 2))))), (4, .int (iI (bI (e = d 3 0 - 1)))), (3, .int (iI (bI (e = 0)))), (0, .ref B), (1, .ref a), (2, .int (iI e))]) (st' := [.int (iI i), .ref (B + 5)]) rfl ?_
              have hw433 := hs i (by omega) (by omega)
              obtain ⟨a434, ha435⟩ : ∃ z : Nat, z = B + 6 + 8 * (i : Int).toNat := ⟨_, rfl⟩
              rw [← ha435] at hw433
              obtain ⟨⟨_, _⟩, ⟨_, _⟩, ⟨_, _⟩, ⟨_, _⟩, ⟨_, _⟩, ⟨_, _⟩, ⟨_, _⟩, ⟨_, _⟩⟩ := id hw433.2
              refine T_zaald xr_17_80 hb5 (w := a434) (by rw [ha435]; exact hf _ (by omega)) (pc' := 81) rfl ?_
              refine T_p xr_17_81 xn_17 (pc' := 83) (ls' := [(8, .ref a434), (7, .int (iI i)), (6, .int (iI b)), (5, .int (iI (bI ((e = 0 ∧ d 1 0 = 1) ∨ (e = d 3 0 - 1 ∧ d 1 0 = 2))))), (4, .int (iI (bI (e = d 3 0 - 1)))), (3, .int (iI (bI (e = 0)))), (0, .ref B), (1, .ref a), (2, .int (iI e))]) (st' := []) rfl ?_
              have J436 : X_T sc 17 (138, [(8, .ref a434), (7, .int (iI i)), (6, .int (iI b)), (5, .int (iI (bI ((e = 0 ∧ d 1 0 = 1) ∨ (e = d 3 0 - 1 ∧ d 1 0 = 2))))), (4, .int (iI (bI (e = d 3 0 - 1)))), (3, .int (iI (bI (e = 0)))), (0, .ref B), (1, .ref a), (2, .int (iI e))], [.int (iI (bI (X_fi lo D W d e i)))], S) Q := by
                refine T_p xr_17_138 xn_17 (pc' := 140) (ls' := [(9, .int (iI (bI (X_fi lo D W d e i)))), (8, .ref a434), (7, .int (iI i)), (6, .int (iI b)), (5, .int (iI (bI ((e = 0 ∧ d 1 0 = 1) ∨ (e = d 3 0 - 1 ∧ d 1 0 = 2))))), (4, .int (iI (bI (e = d 3 0 - 1)))), (3, .int (iI (bI (e = 0)))), (0, .ref B), (1, .ref a), (2, .int (iI e))]) (st' := []) rfl ?_
                refine T_p xr_17_140 xn_17 (pc' := 142) (ls' := [(9, .int (iI (bI (X_fi lo D W d e i)))), (8, .ref a434), (7, .int (iI i)), (6, .int (iI b)), (5, .int (iI (bI ((e = 0 ∧ d 1 0 = 1) ∨ (e = d 3 0 - 1 ∧ d 1 0 = 2))))), (4, .int (iI (bI (e = d 3 0 - 1)))), (3, .int (iI (bI (e = 0)))), (0, .ref B), (1, .ref a), (2, .int (iI e))]) (st' := [.int (iI (bI (X_fi lo D W d e i)))]) rfl ?_
                refine T_bif_eq xr_17_142 (t := 154) (pc' := 145) rfl rfl (fun c437 => ?_) (fun c437 => ?_)
                · skip
                  have c437 : ¬ (X_fi lo D W d e i) := c437
                  refine T_ziinc xr_17_154 xn_17 (a := i) (z := i + 1) rfl (Nat.le_of_ble_eq_true rfl) (by omega) (ls' := [(7, .int (iI (i + 1))), (9, .int (iI (bI (X_fi lo D W d e i)))), (8, .ref a434), (6, .int (iI b)), (5, .int (iI (bI ((e = 0 ∧ d 1 0 = 1) ∨ (e = d 3 0 - 1 ∧ d 1 0 = 2))))), (4, .int (iI (bI (e = d 3 0 - 1)))), (3, .int (iI (bI (e = 0)))), (0, .ref B), (1, .ref a), (2, .int (iI e))]) rfl (pc' := 157) rfl ?_
                  refine T_p xr_17_157 xn_17 (pc' := 65) (ls' := [(7, .int (iI (i + 1))), (9, .int (iI (bI (X_fi lo D W d e i)))), (8, .ref a434), (6, .int (iI b)), (5, .int (iI (bI ((e = 0 ∧ d 1 0 = 1) ∨ (e = d 3 0 - 1 ∧ d 1 0 = 2))))), (4, .int (iI (bI (e = d 3 0 - 1)))), (3, .int (iI (bI (e = 0)))), (0, .ref B), (1, .ref a), (2, .int (iI e))]) (st' := []) rfl ?_
                  refine T_sub (ls := [(7, .int (iI (i + 1))), (6, .int (iI b)), (5, .int (iI (bI ((e = 0 ∧ d 1 0 = 1) ∨ (e = d 3 0 - 1 ∧ d 1 0 = 2))))), (4, .int (iI (bI (e = d 3 0 - 1)))), (3, .int (iI (bI (e = 0)))), (0, .ref B), (1, .ref a), (2, .int (iI e))]) ⟨rfl, rfl, rfl, rfl, rfl, rfl, rfl, rfl, trivial⟩ rfl rfl ?_
                  exact ih428 (i + 1) b  (by omega) (fun k h1 h2 => by
                        rw [hbt k h1 h2]
                        constructor
                        · rintro ⟨g1, g2⟩; exact ⟨by omega, g2⟩
                        · rintro ⟨g1, g2⟩
                          by_cases hk : k = i
                          · subst hk; exact absurd g2 (by assumption)
                          · exact ⟨by omega, g2⟩) (by omega)
                · skip
                  have c437 : (X_fi lo D W d e i) := c437
                  refine T_p xr_17_145 xn_17 (pc' := 147) (ls' := [(9, .int (iI (bI (X_fi lo D W d e i)))), (8, .ref a434), (7, .int (iI i)), (6, .int (iI b)), (5, .int (iI (bI ((e = 0 ∧ d 1 0 = 1) ∨ (e = d 3 0 - 1 ∧ d 1 0 = 2))))), (4, .int (iI (bI (e = d 3 0 - 1)))), (3, .int (iI (bI (e = 0)))), (0, .ref B), (1, .ref a), (2, .int (iI e))]) (st' := [.int (iI b)]) rfl ?_
                  refine T_p xr_17_147 xn_17 (pc' := 148) (ls' := [(9, .int (iI (bI (X_fi lo D W d e i)))), (8, .ref a434), (7, .int (iI i)), (6, .int (iI b)), (5, .int (iI (bI ((e = 0 ∧ d 1 0 = 1) ∨ (e = d 3 0 - 1 ∧ d 1 0 = 2))))), (4, .int (iI (bI (e = d 3 0 - 1)))), (3, .int (iI (bI (e = 0)))), (0, .ref B), (1, .ref a), (2, .int (iI e))]) (st' := [.int (iI 1), .int (iI b)]) rfl ?_
                  refine T_p xr_17_148 xn_17 (pc' := 150) (ls' := [(9, .int (iI (bI (X_fi lo D W d e i)))), (8, .ref a434), (7, .int (iI i)), (6, .int (iI b)), (5, .int (iI (bI ((e = 0 ∧ d 1 0 = 1) ∨ (e = d 3 0 - 1 ∧ d 1 0 = 2))))), (4, .int (iI (bI (e = d 3 0 - 1)))), (3, .int (iI (bI (e = 0)))), (0, .ref B), (1, .ref a), (2, .int (iI e))]) (st' := [.int (iI i), .int (iI 1), .int (iI b)]) rfl ?_
                  refine T_zop xr_17_150 (pc' := 151) rfl (z := (iI 1 <<< (iI i &&& 31)).toInt) (iI_of _) ?_
                  refine T_zop xr_17_151 (pc' := 152) rfl (z := (iI b ||| iI ((iI 1 <<< (iI i &&& 31)).toInt)).toInt) (iI_of _) ?_
                  refine T_p xr_17_152 xn_17 (pc' := 154) (ls' := [(6, .int (iI ((iI b ||| iI ((iI 1 <<< (iI i &&& 31)).toInt)).toInt))), (9, .int (iI (bI (X_fi lo D W d e i)))), (8, .ref a434), (7, .int (iI i)), (5, .int (iI (bI ((e = 0 ∧ d 1 0 = 1) ∨ (e = d 3 0 - 1 ∧ d 1 0 = 2))))), (4, .int (iI (bI (e = d 3 0 - 1)))), (3, .int (iI (bI (e = 0)))), (0, .ref B), (1, .ref a), (2, .int (iI e))]) (st' := []) rfl ?_
                  refine T_ziinc xr_17_154 xn_17 (a := i) (z := i + 1) rfl (Nat.le_of_ble_eq_true rfl) (by omega) (ls' := [(7, .int (iI (i + 1))), (6, .int (iI ((iI b ||| iI ((iI 1 <<< (iI i &&& 31)).toInt)).toInt))), (9, .int (iI (bI (X_fi lo D W d e i)))), (8, .ref a434), (5, .int (iI (bI ((e = 0 ∧ d 1 0 = 1) ∨ (e = d 3 0 - 1 ∧ d 1 0 = 2))))), (4, .int (iI (bI (e = d 3 0 - 1)))), (3, .int (iI (bI (e = 0)))), (0, .ref B), (1, .ref a), (2, .int (iI e))]) rfl (pc' := 157) rfl ?_
                  refine T_p xr_17_157 xn_17 (pc' := 65) (ls' := [(7, .int (iI (i + 1))), (6, .int (iI ((iI b ||| iI ((iI 1 <<< (iI i &&& 31)).toInt)).toInt))), (9, .int (iI (bI (X_fi lo D W d e i)))), (8, .ref a434), (5, .int (iI (bI ((e = 0 ∧ d 1 0 = 1) ∨ (e = d 3 0 - 1 ∧ d 1 0 = 2))))), (4, .int (iI (bI (e = d 3 0 - 1)))), (3, .int (iI (bI (e = 0)))), (0, .ref B), (1, .ref a), (2, .int (iI e))]) (st' := []) rfl ?_
                  refine T_sub (ls := [(7, .int (iI (i + 1))), (6, .int (iI ((iI b ||| iI ((iI 1 <<< (iI i &&& 31)).toInt)).toInt))), (5, .int (iI (bI ((e = 0 ∧ d 1 0 = 1) ∨ (e = d 3 0 - 1 ∧ d 1 0 = 2))))), (4, .int (iI (bI (e = d 3 0 - 1)))), (3, .int (iI (bI (e = 0)))), (0, .ref B), (1, .ref a), (2, .int (iI e))]) ⟨rfl, rfl, rfl, rfl, rfl, rfl, rfl, rfl, trivial⟩ rfl rfl ?_
                  exact ih428 (i + 1) ((iI b ||| iI ((iI 1 <<< (iI i &&& 31)).toInt)).toInt)  (by omega) (fun k h1 h2 => by
                        show X_bt (X_bO b (X_bS i)) k ↔ _
                        rw [X_bt_or _ _ _ ⟨h1, h2⟩, hbt k h1 h2, X_bt_sh _ _ (by omega) ⟨h1, h2⟩]
                        constructor
                        · rintro (⟨g1, g2⟩ | g1)
                          · exact ⟨by omega, g2⟩
                          · subst g1; exact ⟨by omega, by assumption⟩
                        · rintro ⟨g1, g2⟩
                          by_cases hk : k = i
                          · exact Or.inr hk
                          · exact Or.inl ⟨by omega, g2⟩) (by omega)
              refine T_p xr_17_83 xn_17 (pc' := 84) (ls' := [(8, .ref a434), (7, .int (iI i)), (6, .int (iI b)), (5, .int (iI (bI ((e = 0 ∧ d 1 0 = 1) ∨ (e = d 3 0 - 1 ∧ d 1 0 = 2))))), (4, .int (iI (bI (e = d 3 0 - 1)))), (3, .int (iI (bI (e = 0)))), (0, .ref B), (1, .ref a), (2, .int (iI e))]) (st' := [.int (iI (bI (e = 0)))]) rfl ?_
              refine T_bif_ne xr_17_84 (t := 92) (pc' := 87) rfl rfl (fun c438 => ?_) (fun c438 => ?_)
              · skip
                have c438 : (e = 0) := c438
                refine T_p xr_17_92 xn_17 (pc' := 94) (ls' := [(8, .ref a434), (7, .int (iI i)), (6, .int (iI b)), (5, .int (iI (bI ((e = 0 ∧ d 1 0 = 1) ∨ (e = d 3 0 - 1 ∧ d 1 0 = 2))))), (4, .int (iI (bI (e = d 3 0 - 1)))), (3, .int (iI (bI (e = 0)))), (0, .ref B), (1, .ref a), (2, .int (iI e))]) (st' := [.ref a434]) rfl ?_
                refine T_cv (S := S) (q := a434) xr_17_94 xf_102.1 xf_102.2.1 xn_102 (as := []) (r := []) rfl hw433.1.1 (Nat.le_of_ble_eq_true rfl) (Nat.le_of_ble_eq_true rfl) (pc' := 97) rfl (ls' := [(0, .ref a434)]) rfl ?_
                refine T_mono (c_isClosed sc S a434 (D i) (W i) ⟨hw433.1.1, hw433.1.2.1, hw433.1.2.2.1, hw433.1.2.2.2.1, hw433.1.2.2.2.2.1, hw433.1.2.2.2.2.2.1, hw433.1.2.2.2.2.2.2.1, hw433.1.2.2.2.2.2.2.2⟩ hw433.2) (fun v440 S441 h439 => ?_)
                obtain ⟨h442, h443⟩ := h439
                rw [h442, h443]
                show X_T sc 17 (97, [(8, .ref a434), (7, .int (iI i)), (6, .int (iI b)), (5, .int (iI (bI ((e = 0 ∧ d 1 0 = 1) ∨ (e = d 3 0 - 1 ∧ d 1 0 = 2))))), (4, .int (iI (bI (e = d 3 0 - 1)))), (3, .int (iI (bI (e = 0)))), (0, .ref B), (1, .ref a), (2, .int (iI e))], [.int (iI (bI (X_en (D i) (W i) = 0)))], S) _
                refine T_bif_ne xr_17_97 (t := 133) (pc' := 100) rfl rfl (fun c444 => ?_) (fun c444 => ?_)
                · skip
                  have c444 : (X_en (D i) (W i) = 0) := c444
                  refine T_p xr_17_133 xn_17 (pc' := 134) (ls' := [(8, .ref a434), (7, .int (iI i)), (6, .int (iI b)), (5, .int (iI (bI ((e = 0 ∧ d 1 0 = 1) ∨ (e = d 3 0 - 1 ∧ d 1 0 = 2))))), (4, .int (iI (bI (e = d 3 0 - 1)))), (3, .int (iI (bI (e = 0)))), (0, .ref B), (1, .ref a), (2, .int (iI e))]) (st' := [.int (iI 1)]) rfl ?_
                  refine T_p xr_17_134 xn_17 (pc' := 138) (ls' := [(8, .ref a434), (7, .int (iI i)), (6, .int (iI b)), (5, .int (iI (bI ((e = 0 ∧ d 1 0 = 1) ∨ (e = d 3 0 - 1 ∧ d 1 0 = 2))))), (4, .int (iI (bI (e = d 3 0 - 1)))), (3, .int (iI (bI (e = 0)))), (0, .ref B), (1, .ref a), (2, .int (iI e))]) (st' := [.int (iI 1)]) rfl ?_
                  refine T_ie (y := iI (bI (X_fi lo D W d e i))) (by rw [bI_t (by unfold X_fi; first
                          | exact Or.inl ⟨by assumption, by assumption⟩
                          | exact Or.inr (Or.inl (by assumption))
                          | exact Or.inr (Or.inr (Or.inl (by assumption)))
                          | exact Or.inr (Or.inr (Or.inr ⟨by assumption, by omega⟩)))]) ?_
                  exact J436
                · skip
                  have c444 : ¬ (X_en (D i) (W i) = 0) := c444
                  refine T_p xr_17_100 xn_17 (pc' := 101) (ls' := [(8, .ref a434), (7, .int (iI i)), (6, .int (iI b)), (5, .int (iI (bI ((e = 0 ∧ d 1 0 = 1) ∨ (e = d 3 0 - 1 ∧ d 1 0 = 2))))), (4, .int (iI (bI (e = d 3 0 - 1)))), (3, .int (iI (bI (e = 0)))), (0, .ref B), (1, .ref a), (2, .int (iI e))]) (st' := [.ref B]) rfl ?_
                  refine T_p xr_17_101 xn_17 (pc' := 103) (ls' := [(8, .ref a434), (7, .int (iI i)), (6, .int (iI b)), (5, .int (iI (bI ((e = 0 ∧ d 1 0 = 1) ∨ (e = d 3 0 - 1 ∧ d 1 0 = 2))))), (4, .int (iI (bI (e = d 3 0 - 1)))), (3, .int (iI (bI (e = 0)))), (0, .ref B), (1, .ref a), (2, .int (iI e))]) (st' := [.ref a434, .ref B]) rfl ?_
                  refine T_get xr_17_103 hw433.1.1 rfl (v := .int (iI (D i 0 0))) rfl (pc' := 106) rfl ?_
                  refine T_p xr_17_106 xn_17 (pc' := 107) (ls' := [(8, .ref a434), (7, .int (iI i)), (6, .int (iI b)), (5, .int (iI (bI ((e = 0 ∧ d 1 0 = 1) ∨ (e = d 3 0 - 1 ∧ d 1 0 = 2))))), (4, .int (iI (bI (e = d 3 0 - 1)))), (3, .int (iI (bI (e = 0)))), (0, .ref B), (1, .ref a), (2, .int (iI e))]) (st' := [.ref a, .int (iI (D i 0 0)), .ref B]) rfl ?_
                  refine T_get xr_17_107 hw.1 rfl (v := .int (iI (d 0 0))) rfl (pc' := 110) rfl ?_
                  refine T_cv (S := S) (q := B) xr_17_110 xf_11.1 xf_11.2.1 xn_11 (as := [.int (iI (D i 0 0)), .int (iI (d 0 0))]) (r := []) rfl hb0 (Nat.le_of_ble_eq_true rfl) (Nat.le_of_ble_eq_true rfl) (pc' := 113) rfl (ls' := [(0, .ref B), (1, .int (iI (D i 0 0))), (2, .int (iI (d 0 0)))]) rfl ?_
                  refine T_mono (c_isTighter sc S B rc kc wc rn lo kn ab (D i 0 0) (d 0 0) ⟨hb0, hb1, hb2, hb3, hb4, ⟨f, hb5, hf⟩, ⟨by omega, by omega⟩, ⟨by omega, by omega⟩, ⟨by omega, by omega⟩⟩ (by omega)) (fun v446 S447 h445 => ?_)
                  obtain ⟨h448, h449⟩ := h445
                  rw [h448, h449]
                  show X_T sc 17 (113, [(8, .ref a434), (7, .int (iI i)), (6, .int (iI b)), (5, .int (iI (bI ((e = 0 ∧ d 1 0 = 1) ∨ (e = d 3 0 - 1 ∧ d 1 0 = 2))))), (4, .int (iI (bI (e = d 3 0 - 1)))), (3, .int (iI (bI (e = 0)))), (0, .ref B), (1, .ref a), (2, .int (iI e))], [.int (iI (bI (X_bt (lo (D i 0 0)) (d 0 0))))], S) _
                  refine T_bif_ne xr_17_113 (t := 133) (pc' := 116) rfl rfl (fun c450 => ?_) (fun c450 => ?_)
                  · skip
                    have c450 : (X_bt (lo (D i 0 0)) (d 0 0)) := c450
                    refine T_p xr_17_133 xn_17 (pc' := 134) (ls' := [(8, .ref a434), (7, .int (iI i)), (6, .int (iI b)), (5, .int (iI (bI ((e = 0 ∧ d 1 0 = 1) ∨ (e = d 3 0 - 1 ∧ d 1 0 = 2))))), (4, .int (iI (bI (e = d 3 0 - 1)))), (3, .int (iI (bI (e = 0)))), (0, .ref B), (1, .ref a), (2, .int (iI e))]) (st' := [.int (iI 1)]) rfl ?_
                    refine T_p xr_17_134 xn_17 (pc' := 138) (ls' := [(8, .ref a434), (7, .int (iI i)), (6, .int (iI b)), (5, .int (iI (bI ((e = 0 ∧ d 1 0 = 1) ∨ (e = d 3 0 - 1 ∧ d 1 0 = 2))))), (4, .int (iI (bI (e = d 3 0 - 1)))), (3, .int (iI (bI (e = 0)))), (0, .ref B), (1, .ref a), (2, .int (iI e))]) (st' := [.int (iI 1)]) rfl ?_
                    refine T_ie (y := iI (bI (X_fi lo D W d e i))) (by rw [bI_t (by unfold X_fi; first
                            | exact Or.inl ⟨by assumption, by assumption⟩
                            | exact Or.inr (Or.inl (by assumption))
                            | exact Or.inr (Or.inr (Or.inl (by assumption)))
                            | exact Or.inr (Or.inr (Or.inr ⟨by assumption, by omega⟩)))]) ?_
                    exact J436
                  · skip
                    have c450 : ¬ (X_bt (lo (D i 0 0)) (d 0 0)) := c450
                    refine T_p xr_17_116 xn_17 (pc' := 118) (ls' := [(8, .ref a434), (7, .int (iI i)), (6, .int (iI b)), (5, .int (iI (bI ((e = 0 ∧ d 1 0 = 1) ∨ (e = d 3 0 - 1 ∧ d 1 0 = 2))))), (4, .int (iI (bI (e = d 3 0 - 1)))), (3, .int (iI (bI (e = 0)))), (0, .ref B), (1, .ref a), (2, .int (iI e))]) (st' := [.int (iI (bI ((e = 0 ∧ d 1 0 = 1) ∨ (e = d 3 0 - 1 ∧ d 1 0 = 2))))]) rfl ?_
                    refine T_bif_eq xr_17_118 (t := 137) (pc' := 121) rfl rfl (fun c451 => ?_) (fun c451 => ?_)
                    · skip
                      have c451 : ¬ ((e = 0 ∧ d 1 0 = 1) ∨ (e = d 3 0 - 1 ∧ d 1 0 = 2)) := c451
                      refine T_p xr_17_137 xn_17 (pc' := 138) (ls' := [(8, .ref a434), (7, .int (iI i)), (6, .int (iI b)), (5, .int (iI (bI ((e = 0 ∧ d 1 0 = 1) ∨ (e = d 3 0 - 1 ∧ d 1 0 = 2))))), (4, .int (iI (bI (e = d 3 0 - 1)))), (3, .int (iI (bI (e = 0)))), (0, .ref B), (1, .ref a), (2, .int (iI e))]) (st' := [.int (iI 0)]) rfl ?_
                      refine T_ie (y := iI (bI (X_fi lo D W d e i))) (by rw [bI_f (by unfold X_fi; rintro (⟨h1, h2⟩ | h1 | h1 | ⟨h1, h2⟩) <;> first | contradiction | omega)]) ?_
                      exact J436
                    · skip
                      have c451 : ((e = 0 ∧ d 1 0 = 1) ∨ (e = d 3 0 - 1 ∧ d 1 0 = 2)) := c451
                      refine T_p xr_17_121 xn_17 (pc' := 123) (ls' := [(8, .ref a434), (7, .int (iI i)), (6, .int (iI b)), (5, .int (iI (bI ((e = 0 ∧ d 1 0 = 1) ∨ (e = d 3 0 - 1 ∧ d 1 0 = 2))))), (4, .int (iI (bI (e = d 3 0 - 1)))), (3, .int (iI (bI (e = 0)))), (0, .ref B), (1, .ref a), (2, .int (iI e))]) (st' := [.ref a434]) rfl ?_
                      refine T_get xr_17_123 hw433.1.1 rfl (v := .int (iI (D i 0 0))) rfl (pc' := 126) rfl ?_
                      refine T_p xr_17_126 xn_17 (pc' := 127) (ls' := [(8, .ref a434), (7, .int (iI i)), (6, .int (iI b)), (5, .int (iI (bI ((e = 0 ∧ d 1 0 = 1) ∨ (e = d 3 0 - 1 ∧ d 1 0 = 2))))), (4, .int (iI (bI (e = d 3 0 - 1)))), (3, .int (iI (bI (e = 0)))), (0, .ref B), (1, .ref a), (2, .int (iI e))]) (st' := [.ref a, .int (iI (D i 0 0))]) rfl ?_
                      refine T_get xr_17_127 hw.1 rfl (v := .int (iI (d 0 0))) rfl (pc' := 130) rfl ?_
                      refine T_zicmp_ne xr_17_130 (t := 137) (pc' := 133) rfl rfl (fun c452 => ?_) (fun c452 => ?_)
                      · skip
                        have c452 : ¬ (D i 0 0) = (d 0 0) := c452
                        refine T_p xr_17_137 xn_17 (pc' := 138) (ls' := [(8, .ref a434), (7, .int (iI i)), (6, .int (iI b)), (5, .int (iI (bI ((e = 0 ∧ d 1 0 = 1) ∨ (e = d 3 0 - 1 ∧ d 1 0 = 2))))), (4, .int (iI (bI (e = d 3 0 - 1)))), (3, .int (iI (bI (e = 0)))), (0, .ref B), (1, .ref a), (2, .int (iI e))]) (st' := [.int (iI 0)]) rfl ?_
                        refine T_ie (y := iI (bI (X_fi lo D W d e i))) (by rw [bI_f (by unfold X_fi; rintro (⟨h1, h2⟩ | h1 | h1 | ⟨h1, h2⟩) <;> first | contradiction | omega)]) ?_
                        exact J436
                      · skip
                        have c452 : ¬ (¬ (D i 0 0) = (d 0 0)) := c452
                        refine T_p xr_17_133 xn_17 (pc' := 134) (ls' := [(8, .ref a434), (7, .int (iI i)), (6, .int (iI b)), (5, .int (iI (bI ((e = 0 ∧ d 1 0 = 1) ∨ (e = d 3 0 - 1 ∧ d 1 0 = 2))))), (4, .int (iI (bI (e = d 3 0 - 1)))), (3, .int (iI (bI (e = 0)))), (0, .ref B), (1, .ref a), (2, .int (iI e))]) (st' := [.int (iI 1)]) rfl ?_
                        refine T_p xr_17_134 xn_17 (pc' := 138) (ls' := [(8, .ref a434), (7, .int (iI i)), (6, .int (iI b)), (5, .int (iI (bI ((e = 0 ∧ d 1 0 = 1) ∨ (e = d 3 0 - 1 ∧ d 1 0 = 2))))), (4, .int (iI (bI (e = d 3 0 - 1)))), (3, .int (iI (bI (e = 0)))), (0, .ref B), (1, .ref a), (2, .int (iI e))]) (st' := [.int (iI 1)]) rfl ?_
                        refine T_ie (y := iI (bI (X_fi lo D W d e i))) (by rw [bI_t (by unfold X_fi; first
                                | exact Or.inl ⟨by assumption, by assumption⟩
                                | exact Or.inr (Or.inl (by assumption))
                                | exact Or.inr (Or.inr (Or.inl (by assumption)))
                                | exact Or.inr (Or.inr (Or.inr ⟨by assumption, by omega⟩)))]) ?_
                        exact J436
              · skip
                have c438 : ¬ (e = 0) := c438
                refine T_p xr_17_87 xn_17 (pc' := 89) (ls' := [(8, .ref a434), (7, .int (iI i)), (6, .int (iI b)), (5, .int (iI (bI ((e = 0 ∧ d 1 0 = 1) ∨ (e = d 3 0 - 1 ∧ d 1 0 = 2))))), (4, .int (iI (bI (e = d 3 0 - 1)))), (3, .int (iI (bI (e = 0)))), (0, .ref B), (1, .ref a), (2, .int (iI e))]) (st' := [.int (iI (bI (e = d 3 0 - 1)))]) rfl ?_
                refine T_bif_eq xr_17_89 (t := 133) (pc' := 92) rfl rfl (fun c453 => ?_) (fun c453 => ?_)
                · skip
                  have c453 : ¬ (e = d 3 0 - 1) := c453
                  refine T_p xr_17_133 xn_17 (pc' := 134) (ls' := [(8, .ref a434), (7, .int (iI i)), (6, .int (iI b)), (5, .int (iI (bI ((e = 0 ∧ d 1 0 = 1) ∨ (e = d 3 0 - 1 ∧ d 1 0 = 2))))), (4, .int (iI (bI (e = d 3 0 - 1)))), (3, .int (iI (bI (e = 0)))), (0, .ref B), (1, .ref a), (2, .int (iI e))]) (st' := [.int (iI 1)]) rfl ?_
                  refine T_p xr_17_134 xn_17 (pc' := 138) (ls' := [(8, .ref a434), (7, .int (iI i)), (6, .int (iI b)), (5, .int (iI (bI ((e = 0 ∧ d 1 0 = 1) ∨ (e = d 3 0 - 1 ∧ d 1 0 = 2))))), (4, .int (iI (bI (e = d 3 0 - 1)))), (3, .int (iI (bI (e = 0)))), (0, .ref B), (1, .ref a), (2, .int (iI e))]) (st' := [.int (iI 1)]) rfl ?_
                  refine T_ie (y := iI (bI (X_fi lo D W d e i))) (by rw [bI_t (by unfold X_fi; first
                          | exact Or.inl ⟨by assumption, by assumption⟩
                          | exact Or.inr (Or.inl (by assumption))
                          | exact Or.inr (Or.inr (Or.inl (by assumption)))
                          | exact Or.inr (Or.inr (Or.inr ⟨by assumption, by omega⟩)))]) ?_
                  exact J436
                · skip
                  have c453 : (e = d 3 0 - 1) := c453
                  refine T_p xr_17_92 xn_17 (pc' := 94) (ls' := [(8, .ref a434), (7, .int (iI i)), (6, .int (iI b)), (5, .int (iI (bI ((e = 0 ∧ d 1 0 = 1) ∨ (e = d 3 0 - 1 ∧ d 1 0 = 2))))), (4, .int (iI (bI (e = d 3 0 - 1)))), (3, .int (iI (bI (e = 0)))), (0, .ref B), (1, .ref a), (2, .int (iI e))]) (st' := [.ref a434]) rfl ?_
                  refine T_cv (S := S) (q := a434) xr_17_94 xf_102.1 xf_102.2.1 xn_102 (as := []) (r := []) rfl hw433.1.1 (Nat.le_of_ble_eq_true rfl) (Nat.le_of_ble_eq_true rfl) (pc' := 97) rfl (ls' := [(0, .ref a434)]) rfl ?_
                  refine T_mono (c_isClosed sc S a434 (D i) (W i) ⟨hw433.1.1, hw433.1.2.1, hw433.1.2.2.1, hw433.1.2.2.2.1, hw433.1.2.2.2.2.1, hw433.1.2.2.2.2.2.1, hw433.1.2.2.2.2.2.2.1, hw433.1.2.2.2.2.2.2.2⟩ hw433.2) (fun v455 S456 h454 => ?_)
                  obtain ⟨h457, h458⟩ := h454
                  rw [h457, h458]
                  show X_T sc 17 (97, [(8, .ref a434), (7, .int (iI i)), (6, .int (iI b)), (5, .int (iI (bI ((e = 0 ∧ d 1 0 = 1) ∨ (e = d 3 0 - 1 ∧ d 1 0 = 2))))), (4, .int (iI (bI (e = d 3 0 - 1)))), (3, .int (iI (bI (e = 0)))), (0, .ref B), (1, .ref a), (2, .int (iI e))], [.int (iI (bI (X_en (D i) (W i) = 0)))], S) _
                  refine T_bif_ne xr_17_97 (t := 133) (pc' := 100) rfl rfl (fun c459 => ?_) (fun c459 => ?_)
                  · skip
                    have c459 : (X_en (D i) (W i) = 0) := c459
                    refine T_p xr_17_133 xn_17 (pc' := 134) (ls' := [(8, .ref a434), (7, .int (iI i)), (6, .int (iI b)), (5, .int (iI (bI ((e = 0 ∧ d 1 0 = 1) ∨ (e = d 3 0 - 1 ∧ d 1 0 = 2))))), (4, .int (iI (bI (e = d 3 0 - 1)))), (3, .int (iI (bI (e = 0)))), (0, .ref B), (1, .ref a), (2, .int (iI e))]) (st' := [.int (iI 1)]) rfl ?_
                    refine T_p xr_17_134 xn_17 (pc' := 138) (ls' := [(8, .ref a434), (7, .int (iI i)), (6, .int (iI b)), (5, .int (iI (bI ((e = 0 ∧ d 1 0 = 1) ∨ (e = d 3 0 - 1 ∧ d 1 0 = 2))))), (4, .int (iI (bI (e = d 3 0 - 1)))), (3, .int (iI (bI (e = 0)))), (0, .ref B), (1, .ref a), (2, .int (iI e))]) (st' := [.int (iI 1)]) rfl ?_
                    refine T_ie (y := iI (bI (X_fi lo D W d e i))) (by rw [bI_t (by unfold X_fi; first
                            | exact Or.inl ⟨by assumption, by assumption⟩
                            | exact Or.inr (Or.inl (by assumption))
                            | exact Or.inr (Or.inr (Or.inl (by assumption)))
                            | exact Or.inr (Or.inr (Or.inr ⟨by assumption, by omega⟩)))]) ?_
                    exact J436
                  · skip
                    have c459 : ¬ (X_en (D i) (W i) = 0) := c459
                    refine T_p xr_17_100 xn_17 (pc' := 101) (ls' := [(8, .ref a434), (7, .int (iI i)), (6, .int (iI b)), (5, .int (iI (bI ((e = 0 ∧ d 1 0 = 1) ∨ (e = d 3 0 - 1 ∧ d 1 0 = 2))))), (4, .int (iI (bI (e = d 3 0 - 1)))), (3, .int (iI (bI (e = 0)))), (0, .ref B), (1, .ref a), (2, .int (iI e))]) (st' := [.ref B]) rfl ?_
                    refine T_p xr_17_101 xn_17 (pc' := 103) (ls' := [(8, .ref a434), (7, .int (iI i)), (6, .int (iI b)), (5, .int (iI (bI ((e = 0 ∧ d 1 0 = 1) ∨ (e = d 3 0 - 1 ∧ d 1 0 = 2))))), (4, .int (iI (bI (e = d 3 0 - 1)))), (3, .int (iI (bI (e = 0)))), (0, .ref B), (1, .ref a), (2, .int (iI e))]) (st' := [.ref a434, .ref B]) rfl ?_
                    refine T_get xr_17_103 hw433.1.1 rfl (v := .int (iI (D i 0 0))) rfl (pc' := 106) rfl ?_
                    refine T_p xr_17_106 xn_17 (pc' := 107) (ls' := [(8, .ref a434), (7, .int (iI i)), (6, .int (iI b)), (5, .int (iI (bI ((e = 0 ∧ d 1 0 = 1) ∨ (e = d 3 0 - 1 ∧ d 1 0 = 2))))), (4, .int (iI (bI (e = d 3 0 - 1)))), (3, .int (iI (bI (e = 0)))), (0, .ref B), (1, .ref a), (2, .int (iI e))]) (st' := [.ref a, .int (iI (D i 0 0)), .ref B]) rfl ?_
                    refine T_get xr_17_107 hw.1 rfl (v := .int (iI (d 0 0))) rfl (pc' := 110) rfl ?_
                    refine T_cv (S := S) (q := B) xr_17_110 xf_11.1 xf_11.2.1 xn_11 (as := [.int (iI (D i 0 0)), .int (iI (d 0 0))]) (r := []) rfl hb0 (Nat.le_of_ble_eq_true rfl) (Nat.le_of_ble_eq_true rfl) (pc' := 113) rfl (ls' := [(0, .ref B), (1, .int (iI (D i 0 0))), (2, .int (iI (d 0 0)))]) rfl ?_
                    refine T_mono (c_isTighter sc S B rc kc wc rn lo kn ab (D i 0 0) (d 0 0) ⟨hb0, hb1, hb2, hb3, hb4, ⟨f, hb5, hf⟩, ⟨by omega, by omega⟩, ⟨by omega, by omega⟩, ⟨by omega, by omega⟩⟩ (by omega)) (fun v461 S462 h460 => ?_)
                    obtain ⟨h463, h464⟩ := h460
                    rw [h463, h464]
                    show X_T sc 17 (113, [(8, .ref a434), (7, .int (iI i)), (6, .int (iI b)), (5, .int (iI (bI ((e = 0 ∧ d 1 0 = 1) ∨ (e = d 3 0 - 1 ∧ d 1 0 = 2))))), (4, .int (iI (bI (e = d 3 0 - 1)))), (3, .int (iI (bI (e = 0)))), (0, .ref B), (1, .ref a), (2, .int (iI e))], [.int (iI (bI (X_bt (lo (D i 0 0)) (d 0 0))))], S) _
                    refine T_bif_ne xr_17_113 (t := 133) (pc' := 116) rfl rfl (fun c465 => ?_) (fun c465 => ?_)
                    · skip
                      have c465 : (X_bt (lo (D i 0 0)) (d 0 0)) := c465
                      refine T_p xr_17_133 xn_17 (pc' := 134) (ls' := [(8, .ref a434), (7, .int (iI i)), (6, .int (iI b)), (5, .int (iI (bI ((e = 0 ∧ d 1 0 = 1) ∨ (e = d 3 0 - 1 ∧ d 1 0 = 2))))), (4, .int (iI (bI (e = d 3 0 - 1)))), (3, .int (iI (bI (e = 0)))), (0, .ref B), (1, .ref a), (2, .int (iI e))]) (st' := [.int (iI 1)]) rfl ?_
                      refine T_p xr_17_134 xn_17 (pc' := 138) (ls' := [(8, .ref a434), (7, .int (iI i)), (6, .int (iI b)), (5, .int (iI (bI ((e = 0 ∧ d 1 0 = 1) ∨ (e = d 3 0 - 1 ∧ d 1 0 = 2))))), (4, .int (iI (bI (e = d 3 0 - 1)))), (3, .int (iI (bI (e = 0)))), (0, .ref B), (1, .ref a), (2, .int (iI e))]) (st' := [.int (iI 1)]) rfl ?_
                      refine T_ie (y := iI (bI (X_fi lo D W d e i))) (by rw [bI_t (by unfold X_fi; first
                              | exact Or.inl ⟨by assumption, by assumption⟩
                              | exact Or.inr (Or.inl (by assumption))
                              | exact Or.inr (Or.inr (Or.inl (by assumption)))
                              | exact Or.inr (Or.inr (Or.inr ⟨by assumption, by omega⟩)))]) ?_
                      exact J436
                    · skip
                      have c465 : ¬ (X_bt (lo (D i 0 0)) (d 0 0)) := c465
                      refine T_p xr_17_116 xn_17 (pc' := 118) (ls' := [(8, .ref a434), (7, .int (iI i)), (6, .int (iI b)), (5, .int (iI (bI ((e = 0 ∧ d 1 0 = 1) ∨ (e = d 3 0 - 1 ∧ d 1 0 = 2))))), (4, .int (iI (bI (e = d 3 0 - 1)))), (3, .int (iI (bI (e = 0)))), (0, .ref B), (1, .ref a), (2, .int (iI e))]) (st' := [.int (iI (bI ((e = 0 ∧ d 1 0 = 1) ∨ (e = d 3 0 - 1 ∧ d 1 0 = 2))))]) rfl ?_
                      refine T_bif_eq xr_17_118 (t := 137) (pc' := 121) rfl rfl (fun c466 => ?_) (fun c466 => ?_)
                      · skip
                        have c466 : ¬ ((e = 0 ∧ d 1 0 = 1) ∨ (e = d 3 0 - 1 ∧ d 1 0 = 2)) := c466
                        refine T_p xr_17_137 xn_17 (pc' := 138) (ls' := [(8, .ref a434), (7, .int (iI i)), (6, .int (iI b)), (5, .int (iI (bI ((e = 0 ∧ d 1 0 = 1) ∨ (e = d 3 0 - 1 ∧ d 1 0 = 2))))), (4, .int (iI (bI (e = d 3 0 - 1)))), (3, .int (iI (bI (e = 0)))), (0, .ref B), (1, .ref a), (2, .int (iI e))]) (st' := [.int (iI 0)]) rfl ?_
                        refine T_ie (y := iI (bI (X_fi lo D W d e i))) (by rw [bI_f (by unfold X_fi; rintro (⟨h1, h2⟩ | h1 | h1 | ⟨h1, h2⟩) <;> first | contradiction | omega)]) ?_
                        exact J436
                      · skip
                        have c466 : ((e = 0 ∧ d 1 0 = 1) ∨ (e = d 3 0 - 1 ∧ d 1 0 = 2)) := c466
                        refine T_p xr_17_121 xn_17 (pc' := 123) (ls' := [(8, .ref a434), (7, .int (iI i)), (6, .int (iI b)), (5, .int (iI (bI ((e = 0 ∧ d 1 0 = 1) ∨ (e = d 3 0 - 1 ∧ d 1 0 = 2))))), (4, .int (iI (bI (e = d 3 0 - 1)))), (3, .int (iI (bI (e = 0)))), (0, .ref B), (1, .ref a), (2, .int (iI e))]) (st' := [.ref a434]) rfl ?_
                        refine T_get xr_17_123 hw433.1.1 rfl (v := .int (iI (D i 0 0))) rfl (pc' := 126) rfl ?_
                        refine T_p xr_17_126 xn_17 (pc' := 127) (ls' := [(8, .ref a434), (7, .int (iI i)), (6, .int (iI b)), (5, .int (iI (bI ((e = 0 ∧ d 1 0 = 1) ∨ (e = d 3 0 - 1 ∧ d 1 0 = 2))))), (4, .int (iI (bI (e = d 3 0 - 1)))), (3, .int (iI (bI (e = 0)))), (0, .ref B), (1, .ref a), (2, .int (iI e))]) (st' := [.ref a, .int (iI (D i 0 0))]) rfl ?_
                        refine T_get xr_17_127 hw.1 rfl (v := .int (iI (d 0 0))) rfl (pc' := 130) rfl ?_
                        refine T_zicmp_ne xr_17_130 (t := 137) (pc' := 133) rfl rfl (fun c467 => ?_) (fun c467 => ?_)
                        · skip
                          have c467 : ¬ (D i 0 0) = (d 0 0) := c467
                          refine T_p xr_17_137 xn_17 (pc' := 138) (ls' := [(8, .ref a434), (7, .int (iI i)), (6, .int (iI b)), (5, .int (iI (bI ((e = 0 ∧ d 1 0 = 1) ∨ (e = d 3 0 - 1 ∧ d 1 0 = 2))))), (4, .int (iI (bI (e = d 3 0 - 1)))), (3, .int (iI (bI (e = 0)))), (0, .ref B), (1, .ref a), (2, .int (iI e))]) (st' := [.int (iI 0)]) rfl ?_
                          refine T_ie (y := iI (bI (X_fi lo D W d e i))) (by rw [bI_f (by unfold X_fi; rintro (⟨h1, h2⟩ | h1 | h1 | ⟨h1, h2⟩) <;> first | contradiction | omega)]) ?_
                          exact J436
                        · skip
                          have c467 : ¬ (¬ (D i 0 0) = (d 0 0)) := c467
                          refine T_p xr_17_133 xn_17 (pc' := 134) (ls' := [(8, .ref a434), (7, .int (iI i)), (6, .int (iI b)), (5, .int (iI (bI ((e = 0 ∧ d 1 0 = 1) ∨ (e = d 3 0 - 1 ∧ d 1 0 = 2))))), (4, .int (iI (bI (e = d 3 0 - 1)))), (3, .int (iI (bI (e = 0)))), (0, .ref B), (1, .ref a), (2, .int (iI e))]) (st' := [.int (iI 1)]) rfl ?_
                          refine T_p xr_17_134 xn_17 (pc' := 138) (ls' := [(8, .ref a434), (7, .int (iI i)), (6, .int (iI b)), (5, .int (iI (bI ((e = 0 ∧ d 1 0 = 1) ∨ (e = d 3 0 - 1 ∧ d 1 0 = 2))))), (4, .int (iI (bI (e = d 3 0 - 1)))), (3, .int (iI (bI (e = 0)))), (0, .ref B), (1, .ref a), (2, .int (iI e))]) (st' := [.int (iI 1)]) rfl ?_
                          refine T_ie (y := iI (bI (X_fi lo D W d e i))) (by rw [bI_t (by unfold X_fi; first
                                  | exact Or.inl ⟨by assumption, by assumption⟩
                                  | exact Or.inr (Or.inl (by assumption))
                                  | exact Or.inr (Or.inr (Or.inl (by assumption)))
                                  | exact Or.inr (Or.inr (Or.inr ⟨by assumption, by omega⟩)))]) ?_
                          exact J436
        exact L427 (wc + 1).toNat 0 0  (by omega) (fun k h1 h2 => ⟨fun h => absurd h (X_bt_0 k ⟨h1, h2⟩), fun h => absurd h.1 (by omega)⟩) (by omega)
      refine T_p xr_17_27 xn_17 (pc' := 28) (ls' := [(4, .int (iI (bI (e = d 3 0 - 1)))), (3, .int (iI (bI (e = 0)))), (0, .ref B), (1, .ref a), (2, .int (iI e))]) (st' := [.int (iI (bI (e = 0)))]) rfl ?_
      refine T_bif_eq xr_17_28 (t := 39) (pc' := 31) rfl rfl (fun c468 => ?_) (fun c468 => ?_)
      · skip
        have c468 : ¬ (e = 0) := c468
        refine T_p xr_17_39 xn_17 (pc' := 41) (ls' := [(4, .int (iI (bI (e = d 3 0 - 1)))), (3, .int (iI (bI (e = 0)))), (0, .ref B), (1, .ref a), (2, .int (iI e))]) (st' := [.int (iI (bI (e = d 3 0 - 1)))]) rfl ?_
        refine T_bif_eq xr_17_41 (t := 56) (pc' := 44) rfl rfl (fun c469 => ?_) (fun c469 => ?_)
        · skip
          have c469 : ¬ (e = d 3 0 - 1) := c469
          refine T_p xr_17_56 xn_17 (pc' := 57) (ls' := [(4, .int (iI (bI (e = d 3 0 - 1)))), (3, .int (iI (bI (e = 0)))), (0, .ref B), (1, .ref a), (2, .int (iI e))]) (st' := [.int (iI 0)]) rfl ?_
          refine T_ie (y := iI (bI ((e = 0 ∧ d 1 0 = 1) ∨ (e = d 3 0 - 1 ∧ d 1 0 = 2)))) (by rw [bI_f (by rintro (⟨h1, h2⟩ | ⟨h1, h2⟩) <;> first | contradiction | omega)]) ?_
          exact J426
        · skip
          have c469 : (e = d 3 0 - 1) := c469
          refine T_p xr_17_44 xn_17 (pc' := 45) (ls' := [(4, .int (iI (bI (e = d 3 0 - 1)))), (3, .int (iI (bI (e = 0)))), (0, .ref B), (1, .ref a), (2, .int (iI e))]) (st' := [.ref a]) rfl ?_
          refine T_get xr_17_45 hw.1 rfl (v := .int (iI (d 1 0))) rfl (pc' := 48) rfl ?_
          refine T_p xr_17_48 xn_17 (pc' := 49) (ls' := [(4, .int (iI (bI (e = d 3 0 - 1)))), (3, .int (iI (bI (e = 0)))), (0, .ref B), (1, .ref a), (2, .int (iI e))]) (st' := [.int (iI 2), .int (iI (d 1 0))]) rfl ?_
          refine T_zicmp_ne xr_17_49 (t := 56) (pc' := 52) rfl rfl (fun c470 => ?_) (fun c470 => ?_)
          · skip
            have c470 : ¬ (d 1 0) = 2 := c470
            refine T_p xr_17_56 xn_17 (pc' := 57) (ls' := [(4, .int (iI (bI (e = d 3 0 - 1)))), (3, .int (iI (bI (e = 0)))), (0, .ref B), (1, .ref a), (2, .int (iI e))]) (st' := [.int (iI 0)]) rfl ?_
            refine T_ie (y := iI (bI ((e = 0 ∧ d 1 0 = 1) ∨ (e = d 3 0 - 1 ∧ d 1 0 = 2)))) (by rw [bI_f (by rintro (⟨h1, h2⟩ | ⟨h1, h2⟩) <;> first | contradiction | omega)]) ?_
            exact J426
          · skip
            have c470 : ¬ (¬ (d 1 0) = 2) := c470
            refine T_p xr_17_52 xn_17 (pc' := 53) (ls' := [(4, .int (iI (bI (e = d 3 0 - 1)))), (3, .int (iI (bI (e = 0)))), (0, .ref B), (1, .ref a), (2, .int (iI e))]) (st' := [.int (iI 1)]) rfl ?_
            refine T_p xr_17_53 xn_17 (pc' := 57) (ls' := [(4, .int (iI (bI (e = d 3 0 - 1)))), (3, .int (iI (bI (e = 0)))), (0, .ref B), (1, .ref a), (2, .int (iI e))]) (st' := [.int (iI 1)]) rfl ?_
            refine T_ie (y := iI (bI ((e = 0 ∧ d 1 0 = 1) ∨ (e = d 3 0 - 1 ∧ d 1 0 = 2)))) (by rw [bI_t (by first | exact Or.inl ⟨by assumption, by omega⟩ | exact Or.inr ⟨by assumption, by omega⟩)]) ?_
            exact J426
      · skip
        have c468 : (e = 0) := c468
        refine T_p xr_17_31 xn_17 (pc' := 32) (ls' := [(4, .int (iI (bI (e = d 3 0 - 1)))), (3, .int (iI (bI (e = 0)))), (0, .ref B), (1, .ref a), (2, .int (iI e))]) (st' := [.ref a]) rfl ?_
        refine T_get xr_17_32 hw.1 rfl (v := .int (iI (d 1 0))) rfl (pc' := 35) rfl ?_
        refine T_p xr_17_35 xn_17 (pc' := 36) (ls' := [(4, .int (iI (bI (e = d 3 0 - 1)))), (3, .int (iI (bI (e = 0)))), (0, .ref B), (1, .ref a), (2, .int (iI e))]) (st' := [.int (iI 1), .int (iI (d 1 0))]) rfl ?_
        refine T_zicmp_eq xr_17_36 (t := 52) (pc' := 39) rfl rfl (fun c471 => ?_) (fun c471 => ?_)
        · skip
          have c471 : (d 1 0) = 1 := c471
          refine T_p xr_17_52 xn_17 (pc' := 53) (ls' := [(4, .int (iI (bI (e = d 3 0 - 1)))), (3, .int (iI (bI (e = 0)))), (0, .ref B), (1, .ref a), (2, .int (iI e))]) (st' := [.int (iI 1)]) rfl ?_
          refine T_p xr_17_53 xn_17 (pc' := 57) (ls' := [(4, .int (iI (bI (e = d 3 0 - 1)))), (3, .int (iI (bI (e = 0)))), (0, .ref B), (1, .ref a), (2, .int (iI e))]) (st' := [.int (iI 1)]) rfl ?_
          refine T_ie (y := iI (bI ((e = 0 ∧ d 1 0 = 1) ∨ (e = d 3 0 - 1 ∧ d 1 0 = 2)))) (by rw [bI_t (by first | exact Or.inl ⟨by assumption, by omega⟩ | exact Or.inr ⟨by assumption, by omega⟩)]) ?_
          exact J426
        · skip
          have c471 : ¬ ((d 1 0) = 1) := c471
          refine T_p xr_17_39 xn_17 (pc' := 41) (ls' := [(4, .int (iI (bI (e = d 3 0 - 1)))), (3, .int (iI (bI (e = 0)))), (0, .ref B), (1, .ref a), (2, .int (iI e))]) (st' := [.int (iI (bI (e = d 3 0 - 1)))]) rfl ?_
          refine T_bif_eq xr_17_41 (t := 56) (pc' := 44) rfl rfl (fun c472 => ?_) (fun c472 => ?_)
          · skip
            have c472 : ¬ (e = d 3 0 - 1) := c472
            refine T_p xr_17_56 xn_17 (pc' := 57) (ls' := [(4, .int (iI (bI (e = d 3 0 - 1)))), (3, .int (iI (bI (e = 0)))), (0, .ref B), (1, .ref a), (2, .int (iI e))]) (st' := [.int (iI 0)]) rfl ?_
            refine T_ie (y := iI (bI ((e = 0 ∧ d 1 0 = 1) ∨ (e = d 3 0 - 1 ∧ d 1 0 = 2)))) (by rw [bI_f (by rintro (⟨h1, h2⟩ | ⟨h1, h2⟩) <;> first | contradiction | omega)]) ?_
            exact J426
          · skip
            have c472 : (e = d 3 0 - 1) := c472
            refine T_p xr_17_44 xn_17 (pc' := 45) (ls' := [(4, .int (iI (bI (e = d 3 0 - 1)))), (3, .int (iI (bI (e = 0)))), (0, .ref B), (1, .ref a), (2, .int (iI e))]) (st' := [.ref a]) rfl ?_
            refine T_get xr_17_45 hw.1 rfl (v := .int (iI (d 1 0))) rfl (pc' := 48) rfl ?_
            refine T_p xr_17_48 xn_17 (pc' := 49) (ls' := [(4, .int (iI (bI (e = d 3 0 - 1)))), (3, .int (iI (bI (e = 0)))), (0, .ref B), (1, .ref a), (2, .int (iI e))]) (st' := [.int (iI 2), .int (iI (d 1 0))]) rfl ?_
            refine T_zicmp_ne xr_17_49 (t := 56) (pc' := 52) rfl rfl (fun c473 => ?_) (fun c473 => ?_)
            · skip
              have c473 : ¬ (d 1 0) = 2 := c473
              refine T_p xr_17_56 xn_17 (pc' := 57) (ls' := [(4, .int (iI (bI (e = d 3 0 - 1)))), (3, .int (iI (bI (e = 0)))), (0, .ref B), (1, .ref a), (2, .int (iI e))]) (st' := [.int (iI 0)]) rfl ?_
              refine T_ie (y := iI (bI ((e = 0 ∧ d 1 0 = 1) ∨ (e = d 3 0 - 1 ∧ d 1 0 = 2)))) (by rw [bI_f (by rintro (⟨h1, h2⟩ | ⟨h1, h2⟩) <;> first | contradiction | omega)]) ?_
              exact J426
            · skip
              have c473 : ¬ (¬ (d 1 0) = 2) := c473
              refine T_p xr_17_52 xn_17 (pc' := 53) (ls' := [(4, .int (iI (bI (e = d 3 0 - 1)))), (3, .int (iI (bI (e = 0)))), (0, .ref B), (1, .ref a), (2, .int (iI e))]) (st' := [.int (iI 1)]) rfl ?_
              refine T_p xr_17_53 xn_17 (pc' := 57) (ls' := [(4, .int (iI (bI (e = d 3 0 - 1)))), (3, .int (iI (bI (e = 0)))), (0, .ref B), (1, .ref a), (2, .int (iI e))]) (st' := [.int (iI 1)]) rfl ?_
              refine T_ie (y := iI (bI ((e = 0 ∧ d 1 0 = 1) ∨ (e = d 3 0 - 1 ∧ d 1 0 = 2)))) (by rw [bI_t (by first | exact Or.inl ⟨by assumption, by omega⟩ | exact Or.inr ⟨by assumption, by omega⟩)]) ?_
              exact J426
    refine T_p xr_17_10 xn_17 (pc' := 11) (ls' := [(3, .int (iI (bI (e = 0)))), (0, .ref B), (1, .ref a), (2, .int (iI e))]) (st' := [.int (iI e)]) rfl ?_
    refine T_p xr_17_11 xn_17 (pc' := 12) (ls' := [(3, .int (iI (bI (e = 0)))), (0, .ref B), (1, .ref a), (2, .int (iI e))]) (st' := [.ref a, .int (iI e)]) rfl ?_
    refine T_get xr_17_12 hw.1 rfl (v := .int (iI (d 3 0))) rfl (pc' := 15) rfl ?_
    refine T_p xr_17_15 xn_17 (pc' := 16) (ls' := [(3, .int (iI (bI (e = 0)))), (0, .ref B), (1, .ref a), (2, .int (iI e))]) (st' := [.int (iI 1), .int (iI (d 3 0)), .int (iI e)]) rfl ?_
    refine T_zisub xr_17_16 (z := (d 3 0) - 1) rfl (pc' := 17) rfl ?_
    refine T_zicmp_ne xr_17_17 (t := 24) (pc' := 20) rfl rfl (fun c474 => ?_) (fun c474 => ?_)
    · skip
      have c474 : ¬ e = ((d 3 0) - 1) := c474
      refine T_p xr_17_24 xn_17 (pc' := 25) (ls' := [(3, .int (iI (bI (e = 0)))), (0, .ref B), (1, .ref a), (2, .int (iI e))]) (st' := [.int (iI 0)]) rfl ?_
      refine T_ie (y := iI (bI (e = d 3 0 - 1))) (by rw [bI_f (by omega)]) ?_
      exact J425
    · skip
      have c474 : ¬ (¬ e = ((d 3 0) - 1)) := c474
      refine T_p xr_17_20 xn_17 (pc' := 21) (ls' := [(3, .int (iI (bI (e = 0)))), (0, .ref B), (1, .ref a), (2, .int (iI e))]) (st' := [.int (iI 1)]) rfl ?_
      refine T_p xr_17_21 xn_17 (pc' := 25) (ls' := [(3, .int (iI (bI (e = 0)))), (0, .ref B), (1, .ref a), (2, .int (iI e))]) (st' := [.int (iI 1)]) rfl ?_
      refine T_ie (y := iI (bI (e = d 3 0 - 1))) (by rw [bI_t (by omega)]) ?_
      exact J425
  refine T_p xr_17_0 xn_17 (pc' := 1) (ls' := [(0, .ref B), (1, .ref a), (2, .int (iI e))]) (st' := [.int (iI e)]) rfl ?_
  refine T_zif_ne xr_17_1 (t := 8) (pc' := 4) rfl rfl (fun c475 => ?_) (fun c475 => ?_)
  · skip
    have c475 : ¬ e = 0 := c475
    refine T_p xr_17_8 xn_17 (pc' := 9) (ls' := [(0, .ref B), (1, .ref a), (2, .int (iI e))]) (st' := [.int (iI 0)]) rfl ?_
    refine T_ie (y := iI (bI (e = 0))) (by rw [bI_f (by omega)]) ?_
    exact J424
  · skip
    have c475 : ¬ (¬ e = 0) := c475
    refine T_p xr_17_4 xn_17 (pc' := 5) (ls' := [(0, .ref B), (1, .ref a), (2, .int (iI e))]) (st' := [.int (iI 1)]) rfl ?_
    refine T_p xr_17_5 xn_17 (pc' := 9) (ls' := [(0, .ref B), (1, .ref a), (2, .int (iI e))]) (st' := [.int (iI 1)]) rfl ?_
    refine T_ie (y := iI (bI (e = 0))) (by rw [bI_t (by omega)]) ?_
    exact J424
end
section
theorem xr_16_0 : X_row 16 0 = some (0, (.iconst 0, 1), (0, 0, 0)) := by decide +kernel
theorem xr_16_1 : X_row 16 1 = some (1, (.istore_n 1, 1), (0, 0, 0)) := by decide +kernel
theorem xr_16_2 : X_row 16 2 = some (2, (.iload_n 1, 1), (0, 0, 0)) := by decide +kernel
theorem xr_16_3 : X_row 16 3 = some (3, (.aload_n 0, 1), (0, 0, 0)) := by decide +kernel
theorem xr_16_4 : X_row 16 4 = some (4, (.getfield 42, 3), (0, 2, 22)) := by decide +kernel
theorem xr_16_7 : X_row 16 7 = some (7, (.if_icmp .ge 90, 3), (0, 0, 0)) := by decide +kernel
theorem xr_16_10 : X_row 16 10 = some (10, (.aload_n 0, 1), (0, 0, 0)) := by decide +kernel
theorem xr_16_11 : X_row 16 11 = some (11, (.getfield 27, 3), (0, 7, 32)) := by decide +kernel
theorem xr_16_14 : X_row 16 14 = some (14, (.iload_n 1, 1), (0, 0, 0)) := by decide +kernel
theorem xr_16_15 : X_row 16 15 = some (15, (.aaload, 1), (0, 0, 0)) := by decide +kernel
theorem xr_16_16 : X_row 16 16 = some (16, (.astore_n 2, 1), (0, 0, 0)) := by decide +kernel
theorem xr_16_17 : X_row 16 17 = some (17, (.iconst 0, 1), (0, 0, 0)) := by decide +kernel
theorem xr_16_18 : X_row 16 18 = some (18, (.istore_n 3, 1), (0, 0, 0)) := by decide +kernel
theorem xr_16_19 : X_row 16 19 = some (19, (.iload_n 3, 1), (0, 0, 0)) := by decide +kernel
theorem xr_16_20 : X_row 16 20 = some (20, (.aload_n 2, 1), (0, 0, 0)) := by decide +kernel
theorem xr_16_21 : X_row 16 21 = some (21, (.getfield 68, 3), (8, 3, 7)) := by decide +kernel
theorem xr_16_24 : X_row 16 24 = some (24, (.if_icmp .ge 67, 3), (0, 0, 0)) := by decide +kernel
theorem xr_16_27 : X_row 16 27 = some (27, (.aload_n 2, 1), (0, 0, 0)) := by decide +kernel
theorem xr_16_28 : X_row 16 28 = some (28, (.iload_n 3, 1), (0, 0, 0)) := by decide +kernel
theorem xr_16_29 : X_row 16 29 = some (29, (.invokevirtual 71, 3), (100, 12, 0)) := by decide +kernel
theorem xr_16_32 : X_row 16 32 = some (32, (.ifCond .eq 53, 3), (0, 0, 0)) := by decide +kernel
theorem xr_16_35 : X_row 16 35 = some (35, (.aload_n 2, 1), (0, 0, 0)) := by decide +kernel
theorem xr_16_36 : X_row 16 36 = some (36, (.getfield 74, 3), (8, 9, 11)) := by decide +kernel
theorem xr_16_39 : X_row 16 39 = some (39, (.iload_n 3, 1), (0, 0, 0)) := by decide +kernel
theorem xr_16_40 : X_row 16 40 = some (40, (.iaload, 1), (0, 0, 0)) := by decide +kernel
theorem xr_16_41 : X_row 16 41 = some (41, (.istore 4, 2), (0, 0, 0)) := by decide +kernel
theorem xr_16_43 : X_row 16 43 = some (43, (.aload_n 0, 1), (0, 0, 0)) := by decide +kernel
theorem xr_16_44 : X_row 16 44 = some (44, (.aload_n 2, 1), (0, 0, 0)) := by decide +kernel
theorem xr_16_45 : X_row 16 45 = some (45, (.getfield 77, 3), (8, 10, 13)) := by decide +kernel
theorem xr_16_48 : X_row 16 48 = some (48, (.iload 4, 2), (0, 0, 0)) := by decide +kernel
theorem xr_16_50 : X_row 16 50 = some (50, (.iaload, 1), (0, 0, 0)) := by decide +kernel
theorem xr_16_51 : X_row 16 51 = some (51, (.invokevirtual 80, 3), (14, 14, 0)) := by decide +kernel
theorem xr_16_54 : X_row 16 54 = some (54, (.istore 5, 2), (0, 0, 0)) := by decide +kernel
theorem xr_16_56 : X_row 16 56 = some (56, (.aload_n 2, 1), (0, 0, 0)) := by decide +kernel
theorem xr_16_57 : X_row 16 57 = some (57, (.getfield 84, 3), (8, 12, 17)) := by decide +kernel
theorem xr_16_60 : X_row 16 60 = some (60, (.iload 4, 2), (0, 0, 0)) := by decide +kernel
theorem xr_16_62 : X_row 16 62 = some (62, (.iload 5, 2), (0, 0, 0)) := by decide +kernel
theorem xr_16_64 : X_row 16 64 = some (64, (.iastore, 1), (0, 0, 0)) := by decide +kernel
theorem xr_16_65 : X_row 16 65 = some (65, (.aload_n 2, 1), (0, 0, 0)) := by decide +kernel
theorem xr_16_66 : X_row 16 66 = some (66, (.getfield 87, 3), (8, 11, 15)) := by decide +kernel
theorem xr_16_69 : X_row 16 69 = some (69, (.iload 4, 2), (0, 0, 0)) := by decide +kernel
theorem xr_16_71 : X_row 16 71 = some (71, (.aload_n 0, 1), (0, 0, 0)) := by decide +kernel
theorem xr_16_72 : X_row 16 72 = some (72, (.iload 5, 2), (0, 0, 0)) := by decide +kernel
theorem xr_16_74 : X_row 16 74 = some (74, (.invokevirtual 90, 3), (15, 18, 0)) := by decide +kernel
theorem xr_16_77 : X_row 16 77 = some (77, (.aload_n 0, 1), (0, 0, 0)) := by decide +kernel
theorem xr_16_78 : X_row 16 78 = some (78, (.aload_n 2, 1), (0, 0, 0)) := by decide +kernel
theorem xr_16_79 : X_row 16 79 = some (79, (.iload_n 3, 1), (0, 0, 0)) := by decide +kernel
theorem xr_16_80 : X_row 16 80 = some (80, (.invokevirtual 93, 3), (17, 20, 0)) := by decide +kernel
theorem xr_16_83 : X_row 16 83 = some (83, (.iand, 1), (0, 0, 0)) := by decide +kernel
theorem xr_16_84 : X_row 16 84 = some (84, (.iastore, 1), (0, 0, 0)) := by decide +kernel
theorem xr_16_85 : X_row 16 85 = some (85, (.iinc 3 1, 3), (0, 0, 0)) := by decide +kernel
theorem xr_16_88 : X_row 16 88 = some (88, (.goto (-69), 3), (0, 0, 0)) := by decide +kernel
theorem xr_16_91 : X_row 16 91 = some (91, (.iinc 1 1, 3), (0, 0, 0)) := by decide +kernel
theorem xr_16_94 : X_row 16 94 = some (94, (.goto (-92), 3), (0, 0, 0)) := by decide +kernel
theorem xr_16_97 : X_row 16 97 = some (97, (.return_, 1), (0, 0, 0)) := by decide +kernel
theorem xn_16 : X_nL 16 = 6 := by decide +kernel
theorem xf_16 : X_na 16 = 0 ∧ X_ci 16 = 0 ∧ X_rt 16 = none := by decide +kernel
def X_sD (D D' : Int → Nat → Int → Int) : Prop := ∀ v f, f ≠ 10 → f ≠ 11 → D' v f = D v f
theorem X_sD_up {D D1 : Int → Nat → Int → Int} (w : Int) (tw tk : Int → Int) (h : X_sD D D1) : X_sD D (X_ug D1 w (X_wu (X_wu (D1 w) 10 tw) 11 tk)) := by
  intro v f h1 h2
  by_cases hv : v = w
  · subst hv
    rw [X_ug_s]
    show X_wu (X_wu (D1 v) 10 tw) 11 tk f = D v f
    unfold X_wu
    rw [if_neg h2, if_neg h1]
    exact h v f h1 h2
  · rw [X_ug_n _ _ hv]
    exact h v f h1 h2
theorem X_hl_c {d d' : Nat → Int → Int} {q : Int → Int64} {e : Int} (h : d' 3 = d 3) : X_hl d' q e ↔ X_hl d q e := by
  unfold X_hl
  rw [h]
theorem X_en_c {d d' : Nat → Int → Int} {q : Int → Int64} (h : d' 3 = d 3) : X_en d' q = X_en d q := by
  unfold X_en X_hl
  rw [h]
theorem X_fi_c {lo : Int → Int} {D D' : Int → Nat → Int → Int} {W : Int → Int → Int64} {d d' : Nat → Int → Int} {e v : Int} (h : X_sD D D') (h0 : d' 0 = d 0) (h1 : d' 1 = d 1) (h3 : d' 3 = d 3) : X_fi lo D' W d' e v ↔ X_fi lo D W d e v := by
  unfold X_fi
  rw [X_en_c (h v 3 (by decide) (by decide)), h v 0 (by decide) (by decide), h0, h1, h3]
/-- what a hole takes: kinds, words -/
def X_tkn (lo ab : Int → Int) (kc wc : Int) (D : Int → Nat → Int → Int) (W : Int → Int → Int64) (w e tk tw : Int) : Prop :=
  (∀ k, 0 ≤ k → k < 32 → (X_bt tk k ↔ k < kc ∧ X_bt (ab k) (D w 9 (D w 8 e)))) ∧ (∀ v, 0 ≤ v → v < 32 → (X_bt tw v ↔ v < wc ∧ X_bt tk (D v 2 0) ∧ X_fi lo D W (D w) e v))
/-- a word's holes are told apart -/
def X_wg (d : Nat → Int → Int) (q : Int → Int64) : Prop := (∀ e, X_hl d q e → 0 ≤ d 8 e ∧ d 8 e < d 4 0) ∧ (∀ e e', X_hl d q e → X_hl d q e' → d 8 e = d 8 e' → e = e')
theorem C_ws.upd {S S' : X_S} {B a : Nat} {D : Int → Nat → Int → Int} {W : Int → Int → Int64} {w : Int} {d' : Nat → Int → Int} (h : C_ws S B D W) (hf : X_Fr (fun r => a ≤ r ∧ r ≤ a + 7) S S') (ha : a = B + 6 + 8 * w.toNat) (h0 : 0 ≤ w) (hd : C_wd S' a d' (W w)) (hr : X_wr d') : C_ws S' B (X_ug D w d') W := by
  intro v h1 h2
  by_cases hv : v = w
  · subst hv
    rw [X_ug_s, ← ha]
    exact ⟨hd, hr⟩
  · rw [X_ug_n _ _ hv]
    exact ⟨(h v h1 h2).1.fr hf (fun k hk => by omega), (h v h1 h2).2⟩
theorem c_settleHoles (sc : X_Sc) (S : X_S) (B : Nat) (rc kc wc : Int) (rn : Int → Int64) (lo : Int → Int) (kn : Int → Int64) (ab : Int → Int) (D : Int → Nat → Int → Int) (W : Int → Int → Int64) (hb : C_bk S B rc kc wc rn lo kn ab) (hs : C_ws S B D W) (hg : ∀ w, 0 ≤ w → w < wc → X_wg (D w) (W w)) : X_T sc 16 (0, [(0, .ref B)], [], S) (fun v S' => v = none ∧ (∃ D', C_ws S' B D' W ∧ X_sD D D' ∧ ∀ w, 0 ≤ w → w < wc → ∀ e, X_hl (D w) (W w) e → X_tkn lo ab kc wc D W w e (D' w 11 (D w 8 e)) (D' w 10 (D w 8 e))) ∧ X_Fr (fun r => B + 6 ≤ r ∧ r < B + 246) S S') := by
  obtain ⟨hb0, hb1, hb2, hb3, hb4, ⟨f, hb5, hf⟩, ⟨hrc, hrcb⟩, ⟨hkc, hkcb⟩, ⟨hwc, hwcb⟩⟩ := id hb
  refine X_QI (fun Q hQ => ?_)
  refine T_p xr_16_0 xn_16 (pc' := 1) (ls' := [(0, .ref B)]) (st' := [.int (iI 0)]) rfl ?_
  refine T_p xr_16_1 xn_16 (pc' := 2) (ls' := [(1, .int (iI 0)), (0, .ref B)]) (st' := []) rfl ?_
  have L476 : ∀ (m478 : Nat) (S1 : X_S) (w : Int) (D1 : Int → Nat → Int → Int) (hF480 : X_Fr (fun r => B + 6 ≤ r ∧ r < B + 246) S S1) (hw : 0 ≤ w ∧ w ≤ wc) (hs1 : C_ws S1 B D1 W) (hsm : X_sD D D1) (hdo : ∀ v, 0 ≤ v → v < w → ∀ e, X_hl (D v) (W v) e → X_tkn lo ab kc wc D W v e (D1 v 11 (D v 8 e)) (D1 v 10 (D v 8 e))) (hm479 : wc - w < m478), X_T sc 16 (2, [(1, .int (iI w)), (0, .ref B)], [], S1) Q := by
    intro m478
    induction m478 with
    | zero =>
      intro S1 w D1 hF480 hw hs1 hsm hdo hm479
      exact (show False by omega).elim
    | succ m478 ih477 =>
      intro S1 w D1 hF480 hw hs1 hsm hdo hm479
      refine T_p xr_16_2 xn_16 (pc' := 3) (ls' := [(1, .int (iI w)), (0, .ref B)]) (st' := [.int (iI w)]) rfl ?_
      refine T_p xr_16_3 xn_16 (pc' := 4) (ls' := [(1, .int (iI w)), (0, .ref B)]) (st' := [.ref B, .int (iI w)]) rfl ?_
      have h481 := (hF480.1 B (by omega)).trans (hb0)
      refine T_get xr_16_4 h481 rfl (v := .int (iI wc)) rfl (pc' := 7) rfl ?_
      refine T_zicmp_ge xr_16_7 (t := 97) (pc' := 10) rfl rfl (fun c482 => ?_) (fun c482 => ?_)
      · skip
        have c482 : wc ≤ w := c482
        refine T_vret xr_16_97 xf_16.2.2 ?_
        refine hQ _ _ ?_
        exact ⟨rfl, ⟨D1, hs1, hsm, fun v h1 h2 => hdo v h1 (by omega)⟩, (X_Fr.rf).tr (X_Fr.mono ⟨hF480.1, hF480.2⟩ (fun q hq => (by omega)))⟩
      · skip
        have c482 : ¬ (wc ≤ w) := c482
        refine T_p xr_16_10 xn_16 (pc' := 11) (ls' := [(1, .int (iI w)), (0, .ref B)]) (st' := [.ref B]) rfl ?_
        refine T_get xr_16_11 h481 rfl (v := .ref (B + 5)) rfl (pc' := 14) rfl ?_
        refine T_p xr_16_14 xn_16 (pc' := 15) (ls' := [(1, .int (iI w)), (0, .ref B)]) (st' := [.int (iI w), .ref (B + 5)]) rfl ?_
        have h483 := (hF480.1 (B + 5) (by omega)).trans (hb5)
        have hwaw := hs1 w (by omega) (by omega)
        obtain ⟨aw, haaw⟩ : ∃ z : Nat, z = B + 6 + 8 * (w : Int).toNat := ⟨_, rfl⟩
        rw [← haaw] at hwaw
        obtain ⟨⟨_, _⟩, ⟨_, _⟩, ⟨_, _⟩, ⟨_, _⟩, ⟨_, _⟩, ⟨_, _⟩, ⟨_, _⟩, ⟨_, _⟩⟩ := id hwaw.2
        refine T_zaald xr_16_15 h483 (w := aw) (by rw [haaw]; exact hf _ (by omega)) (pc' := 16) rfl ?_
        refine T_p xr_16_16 xn_16 (pc' := 17) (ls' := [(2, .ref aw), (1, .int (iI w)), (0, .ref B)]) (st' := []) rfl ?_
        refine T_p xr_16_17 xn_16 (pc' := 18) (ls' := [(2, .ref aw), (1, .int (iI w)), (0, .ref B)]) (st' := [.int (iI 0)]) rfl ?_
        refine T_p xr_16_18 xn_16 (pc' := 19) (ls' := [(3, .int (iI 0)), (2, .ref aw), (1, .int (iI w)), (0, .ref B)]) (st' := []) rfl ?_
        have L487 : ∀ (m489 : Nat) (S492 : X_S) (e : Int) (tw : Int → Int) (tk : Int → Int) (htw : S492.1 (aw + 4) = .inl (.int, 4, .inl fun k : Nat => iI (tw (k : Int)))) (htk : S492.1 (aw + 5) = .inl (.int, 4, .inl fun k : Nat => iI (tk (k : Int)))) (hF491 : X_Fr (fun r => r = aw + 4 ∨ r = aw + 5) S1 S492) (he : 0 ≤ e ∧ e ≤ D1 w 3 0) (hin : ∀ e1, 0 ≤ e1 → e1 < e → X_hl (D w) (W w) e1 → X_tkn lo ab kc wc D W w e1 (tk (D w 8 e1)) (tw (D w 8 e1))) (hm490 : D1 w 3 0 - e < m489), X_T sc 16 (19, [(3, .int (iI e)), (2, .ref aw), (1, .int (iI w)), (0, .ref B)], [], S492) Q := by
          intro m489
          induction m489 with
          | zero =>
            intro S492 e tw tk htw htk hF491 he hin hm490
            exact (show False by omega).elim
          | succ m489 ih488 =>
            intro S492 e tw tk htw htk hF491 he hin hm490
            refine T_p xr_16_19 xn_16 (pc' := 20) (ls' := [(3, .int (iI e)), (2, .ref aw), (1, .int (iI w)), (0, .ref B)]) (st' := [.int (iI e)]) rfl ?_
            refine T_p xr_16_20 xn_16 (pc' := 21) (ls' := [(3, .int (iI e)), (2, .ref aw), (1, .int (iI w)), (0, .ref B)]) (st' := [.ref aw, .int (iI e)]) rfl ?_
            have h493 := (hF491.1 aw (by omega)).trans (hwaw.1.1)
            refine T_get xr_16_21 h493 rfl (v := .int (iI (D1 w 3 0))) rfl (pc' := 24) rfl ?_
            refine T_zicmp_ge xr_16_24 (t := 91) (pc' := 27) rfl rfl (fun c494 => ?_) (fun c494 => ?_)
            · skip
              have c494 : (D1 w 3 0) ≤ e := c494
              refine T_ziinc xr_16_91 xn_16 (a := w) (z := w + 1) rfl (Nat.le_of_ble_eq_true rfl) (by omega) (ls' := [(1, .int (iI (w + 1))), (3, .int (iI e)), (2, .ref aw), (0, .ref B)]) rfl (pc' := 94) rfl ?_
              refine T_p xr_16_94 xn_16 (pc' := 2) (ls' := [(1, .int (iI (w + 1))), (3, .int (iI e)), (2, .ref aw), (0, .ref B)]) (st' := []) rfl ?_
              have h496 := (hF491.1 (aw + 1) (by omega)).trans (hwaw.1.2.1)
              have h497 := (hF491.1 (aw + 2) (by omega)).trans (hwaw.1.2.2.1)
              have h498 := (hF491.1 (aw + 3) (by omega)).trans (hwaw.1.2.2.2.1)
              have h499 := (hF491.1 (aw + 6) (by omega)).trans (hwaw.1.2.2.2.2.2.2.1)
              have h500 := (hF491.1 (aw + 7) (by omega)).trans (hwaw.1.2.2.2.2.2.2.2)
              have hs495 : C_ws S492 B (X_ug D1 w (X_wu (X_wu (D1 w) 10 tw) 11 tk)) W := C_ws.upd hs1 ((X_Fr.rf).tr (X_Fr.mono ⟨hF491.1, hF491.2⟩ (fun q hq => (by omega)))) haaw (by omega) ⟨h493, h496, h497, h498, htw, htk, h499, h500⟩ hwaw.2
              refine T_sub (ls := [(1, .int (iI (w + 1))), (0, .ref B)]) ⟨rfl, rfl, trivial⟩ rfl rfl ?_
              exact ih477 S492 (w + 1) (X_ug D1 w (X_wu (X_wu (D1 w) 10 tw) 11 tk)) (hF480.tr ((X_Fr.rf).tr (X_Fr.mono ⟨hF491.1, hF491.2⟩ (fun q hq => (by omega))))) (by omega) hs495 (X_sD_up w _ _ hsm) (fun v h1 h2 e0 hhe => by
                    by_cases hv : v = w
                    · subst hv
                      rw [X_ug_s]
                      exact hin e0 (by have := hhe.1; omega) (by have := hhe.2.1; have hq := congrFun (hsm v 3 (by decide) (by decide)) 0; omega) hhe
                    · rw [X_ug_n _ _ hv]
                      exact hdo v h1 (by omega) e0 hhe) (by omega)
            · skip
              have c494 : ¬ ((D1 w 3 0) ≤ e) := c494
              refine T_p xr_16_27 xn_16 (pc' := 28) (ls' := [(3, .int (iI e)), (2, .ref aw), (1, .int (iI w)), (0, .ref B)]) (st' := [.ref aw]) rfl ?_
              refine T_p xr_16_28 xn_16 (pc' := 29) (ls' := [(3, .int (iI e)), (2, .ref aw), (1, .int (iI w)), (0, .ref B)]) (st' := [.int (iI e), .ref aw]) rfl ?_
              refine T_cv (S := S492) (q := aw) xr_16_29 xf_100.1 xf_100.2.1 xn_100 (as := [.int (iI e)]) (r := []) rfl h493 (Nat.le_of_ble_eq_true rfl) (Nat.le_of_ble_eq_true rfl) (pc' := 32) rfl (ls' := [(0, .ref aw), (1, .int (iI e))]) rfl ?_
              have h501 := (hF491.1 (aw + 1) (by omega)).trans (hwaw.1.2.1)
              have h502 := (hF491.1 (aw + 2) (by omega)).trans (hwaw.1.2.2.1)
              have h503 := (hF491.1 (aw + 3) (by omega)).trans (hwaw.1.2.2.2.1)
              have h504 := (hF491.1 (aw + 6) (by omega)).trans (hwaw.1.2.2.2.2.2.2.1)
              have h505 := (hF491.1 (aw + 7) (by omega)).trans (hwaw.1.2.2.2.2.2.2.2)
              refine T_mono (c_isHole sc S492 aw (X_wu (X_wu (D1 w) 10 tw) 11 tk) (W w) e ⟨h493, h501, h502, h503, htw, htk, h504, h505⟩ hwaw.2 (by omega)) (fun v507 S508 h506 => ?_)
              obtain ⟨h509, h510⟩ := h506
              rw [h509, h510]
              show X_T sc 16 (32, [(3, .int (iI e)), (2, .ref aw), (1, .int (iI w)), (0, .ref B)], [.int (iI (bI (X_hl (X_wu (X_wu (D1 w) 10 tw) 11 tk) (W w) e)))], S492) _
              refine T_bif_eq xr_16_32 (t := 85) (pc' := 35) rfl rfl (fun c511 => ?_) (fun c511 => ?_)
              · skip
                have c511 : ¬ (X_hl (X_wu (X_wu (D1 w) 10 tw) 11 tk) (W w) e) := c511
                refine T_ziinc xr_16_85 xn_16 (a := e) (z := e + 1) rfl (Nat.le_of_ble_eq_true rfl) (by omega) (ls' := [(3, .int (iI (e + 1))), (2, .ref aw), (1, .int (iI w)), (0, .ref B)]) rfl (pc' := 88) rfl ?_
                refine T_p xr_16_88 xn_16 (pc' := 19) (ls' := [(3, .int (iI (e + 1))), (2, .ref aw), (1, .int (iI w)), (0, .ref B)]) (st' := []) rfl ?_
                exact ih488 S492 (e + 1) tw tk htw htk (hF491.tr (X_Fr.rf)) (by omega) (fun e1 h1 h2 hhe => by
                      by_cases hv : e1 = e
                      · subst hv
                        exact absurd ((X_hl_c (hsm w 3 (by decide) (by decide))).mpr hhe) (by assumption)
                      · exact hin e1 h1 (by omega) hhe) (by omega)
              · skip
                have c511 : (X_hl (X_wu (X_wu (D1 w) 10 tw) 11 tk) (W w) e) := c511
                have hH8 : 0 ≤ D1 w 8 e ∧ D1 w 8 e < 4 := by
                  have hb8 := (hg w (by omega) (by omega)).1 e ((X_hl_c (hsm w 3 (by decide) (by decide))).mp (by assumption))
                  rw [← hsm w 8 (by decide) (by decide), ← hsm w 4 (by decide) (by decide)] at hb8
                  omega
                refine T_p xr_16_35 xn_16 (pc' := 36) (ls' := [(3, .int (iI e)), (2, .ref aw), (1, .int (iI w)), (0, .ref B)]) (st' := [.ref aw]) rfl ?_
                refine T_get xr_16_36 h493 rfl (v := .ref (aw + 2)) rfl (pc' := 39) rfl ?_
                refine T_p xr_16_39 xn_16 (pc' := 40) (ls' := [(3, .int (iI e)), (2, .ref aw), (1, .int (iI w)), (0, .ref B)]) (st' := [.int (iI e), .ref (aw + 2)]) rfl ?_
                refine T_ziald xr_16_40 h502 (pc' := 41) rfl ?_
                refine T_p xr_16_41 xn_16 (pc' := 43) (ls' := [(4, .int (iI ((D1 w 8) e))), (3, .int (iI e)), (2, .ref aw), (1, .int (iI w)), (0, .ref B)]) (st' := []) rfl ?_
                refine T_p xr_16_43 xn_16 (pc' := 44) (ls' := [(4, .int (iI ((D1 w 8) e))), (3, .int (iI e)), (2, .ref aw), (1, .int (iI w)), (0, .ref B)]) (st' := [.ref B]) rfl ?_
                refine T_p xr_16_44 xn_16 (pc' := 45) (ls' := [(4, .int (iI ((D1 w 8) e))), (3, .int (iI e)), (2, .ref aw), (1, .int (iI w)), (0, .ref B)]) (st' := [.ref aw, .ref B]) rfl ?_
                refine T_get xr_16_45 h493 rfl (v := .ref (aw + 3)) rfl (pc' := 48) rfl ?_
                refine T_p xr_16_48 xn_16 (pc' := 50) (ls' := [(4, .int (iI ((D1 w 8) e))), (3, .int (iI e)), (2, .ref aw), (1, .int (iI w)), (0, .ref B)]) (st' := [.int (iI ((D1 w 8) e)), .ref (aw + 3), .ref B]) rfl ?_
                refine T_ziald xr_16_50 h503 (pc' := 51) rfl ?_
                have h512 := (hF491.1 B (by omega)).trans (h481)
                refine T_cv (S := S492) (q := B) xr_16_51 xf_14.1 xf_14.2.1 xn_14 (as := [.int (iI ((D1 w 9) ((D1 w 8) e)))]) (r := []) rfl h512 (Nat.le_of_ble_eq_true rfl) (Nat.le_of_ble_eq_true rfl) (pc' := 54) rfl (ls' := [(0, .ref B), (1, .int (iI ((D1 w 9) ((D1 w 8) e))))]) rfl ?_
                have h520 := (hF491.1 (B + 1) (by omega)).trans ((hF480.1 (B + 1) (by omega)).trans (hb1))
                have h521 := (hF491.1 (B + 2) (by omega)).trans ((hF480.1 (B + 2) (by omega)).trans (hb2))
                have h522 := (hF491.1 (B + 3) (by omega)).trans ((hF480.1 (B + 3) (by omega)).trans (hb3))
                have h523 := (hF491.1 (B + 4) (by omega)).trans ((hF480.1 (B + 4) (by omega)).trans (hb4))
                have h524 := (hF491.1 (B + 5) (by omega)).trans (h483)
                refine T_mono (c_kindsUnder sc S492 B rc kc wc rn lo kn ab ((D1 w 9) ((D1 w 8) e)) ⟨h512, h520, h521, h522, h523, ⟨f, h524, hf⟩, ⟨by omega, by omega⟩, ⟨by omega, by omega⟩, ⟨by omega, by omega⟩⟩) (fun v513 S514 h515 => ?_)
                obtain ⟨r516, h517, hx518, h519⟩ := h515
                rw [h517, h519]
                show X_T sc 16 (54, [(4, .int (iI ((D1 w 8) e))), (3, .int (iI e)), (2, .ref aw), (1, .int (iI w)), (0, .ref B)], [.int (iI r516)], S492) _
                refine T_p xr_16_54 xn_16 (pc' := 56) (ls' := [(5, .int (iI r516)), (4, .int (iI ((D1 w 8) e))), (3, .int (iI e)), (2, .ref aw), (1, .int (iI w)), (0, .ref B)]) (st' := []) rfl ?_
                refine T_p xr_16_56 xn_16 (pc' := 57) (ls' := [(5, .int (iI r516)), (4, .int (iI ((D1 w 8) e))), (3, .int (iI e)), (2, .ref aw), (1, .int (iI w)), (0, .ref B)]) (st' := [.ref aw]) rfl ?_
                refine T_get xr_16_57 h493 rfl (v := .ref (aw + 5)) rfl (pc' := 60) rfl ?_
                refine T_p xr_16_60 xn_16 (pc' := 62) (ls' := [(5, .int (iI r516)), (4, .int (iI ((D1 w 8) e))), (3, .int (iI e)), (2, .ref aw), (1, .int (iI w)), (0, .ref B)]) (st' := [.int (iI ((D1 w 8) e)), .ref (aw + 5)]) rfl ?_
                refine T_p xr_16_62 xn_16 (pc' := 64) (ls' := [(5, .int (iI r516)), (4, .int (iI ((D1 w 8) e))), (3, .int (iI e)), (2, .ref aw), (1, .int (iI w)), (0, .ref B)]) (st' := [.int (iI r516), .int (iI ((D1 w 8) e)), .ref (aw + 5)]) rfl ?_
                refine T_ziast xr_16_64 htk (pc' := 65) rfl (fun S525 h526 n527 e528 => ?_)
                refine T_p xr_16_65 xn_16 (pc' := 66) (ls' := [(5, .int (iI r516)), (4, .int (iI ((D1 w 8) e))), (3, .int (iI e)), (2, .ref aw), (1, .int (iI w)), (0, .ref B)]) (st' := [.ref aw]) rfl ?_
                have h529 := (n527 aw (by omega)).trans (h493)
                refine T_get xr_16_66 h529 rfl (v := .ref (aw + 4)) rfl (pc' := 69) rfl ?_
                refine T_p xr_16_69 xn_16 (pc' := 71) (ls' := [(5, .int (iI r516)), (4, .int (iI ((D1 w 8) e))), (3, .int (iI e)), (2, .ref aw), (1, .int (iI w)), (0, .ref B)]) (st' := [.int (iI ((D1 w 8) e)), .ref (aw + 4)]) rfl ?_
                refine T_p xr_16_71 xn_16 (pc' := 72) (ls' := [(5, .int (iI r516)), (4, .int (iI ((D1 w 8) e))), (3, .int (iI e)), (2, .ref aw), (1, .int (iI w)), (0, .ref B)]) (st' := [.ref B, .int (iI ((D1 w 8) e)), .ref (aw + 4)]) rfl ?_
                refine T_p xr_16_72 xn_16 (pc' := 74) (ls' := [(5, .int (iI r516)), (4, .int (iI ((D1 w 8) e))), (3, .int (iI e)), (2, .ref aw), (1, .int (iI w)), (0, .ref B)]) (st' := [.int (iI r516), .ref B, .int (iI ((D1 w 8) e)), .ref (aw + 4)]) rfl ?_
                have h530 := (n527 B (by omega)).trans (h512)
                refine T_cv (S := S525) (q := B) xr_16_74 xf_15.1 xf_15.2.1 xn_15 (as := [.int (iI r516)]) (r := [.int (iI ((D1 w 8) e)), .ref (aw + 4)]) rfl h530 (Nat.le_of_ble_eq_true rfl) (Nat.le_of_ble_eq_true rfl) (pc' := 77) rfl (ls' := [(0, .ref B), (1, .int (iI r516))]) rfl ?_
                have h538 := (n527 (aw + 4) (by omega)).trans (htw)
                have h540 := (n527 (aw + 1) (by omega)).trans (h501)
                have h541 := (n527 (aw + 2) (by omega)).trans (h502)
                have h542 := (n527 (aw + 3) (by omega)).trans (h503)
                have h543 := (n527 (aw + 6) (by omega)).trans (h504)
                have h544 := (n527 (aw + 7) (by omega)).trans (h505)
                have hs539 : C_ws S525 B (X_ug D1 w (X_wu (X_wu (D1 w) 10 tw) 11 (X_ug tk ((D1 w 8) e) r516))) W := C_ws.upd hs1 (((X_Fr.rf).tr (X_Fr.mono ⟨hF491.1, hF491.2⟩ (fun q hq => (by omega)))).tr (X_Fr.of n527 e528 (by first | decide | exact ⟨Nat.le_add_right _ _, Nat.add_le_add_left (by decide) _⟩ | omega))) haaw (by omega) ⟨h529, h540, h541, h542, h538, h526, h543, h544⟩ hwaw.2
                have h545 := (n527 (B + 1) (by first | exact (fun h => absurd (Nat.add_left_cancel h) (by decide)) | omega)).trans (h520)
                have h546 := (n527 (B + 2) (by first | exact (fun h => absurd (Nat.add_left_cancel h) (by decide)) | omega)).trans (h521)
                have h547 := (n527 (B + 3) (by first | exact (fun h => absurd (Nat.add_left_cancel h) (by decide)) | omega)).trans (h522)
                have h548 := (n527 (B + 4) (by first | exact (fun h => absurd (Nat.add_left_cancel h) (by decide)) | omega)).trans (h523)
                have h549 := (n527 (B + 5) (by first | exact (fun h => absurd (Nat.add_left_cancel h) (by decide)) | omega)).trans (h524)
                refine T_mono (c_wordsOfKinds sc S525 B rc kc wc rn lo kn ab (X_ug D1 w (X_wu (X_wu (D1 w) 10 tw) 11 (X_ug tk ((D1 w 8) e) r516))) W r516 ⟨h530, h545, h546, h547, h548, ⟨f, h549, hf⟩, ⟨by omega, by omega⟩, ⟨by omega, by omega⟩, ⟨by omega, by omega⟩⟩ hs539) (fun v531 S532 h533 => ?_)
                obtain ⟨r534, h535, hx536, h537⟩ := h533
                rw [h535, h537]
                show X_T sc 16 (77, [(5, .int (iI r516)), (4, .int (iI ((D1 w 8) e))), (3, .int (iI e)), (2, .ref aw), (1, .int (iI w)), (0, .ref B)], [.int (iI r534), .int (iI ((D1 w 8) e)), .ref (aw + 4)], S525) _
                refine T_p xr_16_77 xn_16 (pc' := 78) (ls' := [(5, .int (iI r516)), (4, .int (iI ((D1 w 8) e))), (3, .int (iI e)), (2, .ref aw), (1, .int (iI w)), (0, .ref B)]) (st' := [.ref B, .int (iI r534), .int (iI ((D1 w 8) e)), .ref (aw + 4)]) rfl ?_
                refine T_p xr_16_78 xn_16 (pc' := 79) (ls' := [(5, .int (iI r516)), (4, .int (iI ((D1 w 8) e))), (3, .int (iI e)), (2, .ref aw), (1, .int (iI w)), (0, .ref B)]) (st' := [.ref aw, .ref B, .int (iI r534), .int (iI ((D1 w 8) e)), .ref (aw + 4)]) rfl ?_
                refine T_p xr_16_79 xn_16 (pc' := 80) (ls' := [(5, .int (iI r516)), (4, .int (iI ((D1 w 8) e))), (3, .int (iI e)), (2, .ref aw), (1, .int (iI w)), (0, .ref B)]) (st' := [.int (iI e), .ref aw, .ref B, .int (iI r534), .int (iI ((D1 w 8) e)), .ref (aw + 4)]) rfl ?_
                refine T_cv (S := S525) (q := B) xr_16_80 xf_17.1 xf_17.2.1 xn_17 (as := [.ref aw, .int (iI e)]) (r := [.int (iI r534), .int (iI ((D1 w 8) e)), .ref (aw + 4)]) rfl h530 (Nat.le_of_ble_eq_true rfl) (Nat.le_of_ble_eq_true rfl) (pc' := 83) rfl (ls' := [(0, .ref B), (1, .ref aw), (2, .int (iI e))]) rfl ?_
                refine T_mono (c_wordsFitting sc S525 B rc kc wc rn lo kn ab (X_ug D1 w (X_wu (X_wu (D1 w) 10 tw) 11 (X_ug tk ((D1 w 8) e) r516))) W aw (X_wu (X_wu (D1 w) 10 tw) 11 (X_ug tk ((D1 w 8) e) r516)) (W w) e ⟨h530, h545, h546, h547, h548, ⟨f, h549, hf⟩, ⟨by omega, by omega⟩, ⟨by omega, by omega⟩, ⟨by omega, by omega⟩⟩ hs539 ⟨h529, h540, h541, h542, h538, h526, h543, h544⟩ hwaw.2 (by omega)) (fun v550 S551 h552 => ?_)
                obtain ⟨r553, h554, hx555, h556⟩ := h552
                rw [h554, h556]
                show X_T sc 16 (83, [(5, .int (iI r516)), (4, .int (iI ((D1 w 8) e))), (3, .int (iI e)), (2, .ref aw), (1, .int (iI w)), (0, .ref B)], [.int (iI r553), .int (iI r534), .int (iI ((D1 w 8) e)), .ref (aw + 4)], S525) _
                refine T_zop xr_16_83 (pc' := 84) rfl (z := (iI r534 &&& iI r553).toInt) (iI_of _) ?_
                refine T_ziast xr_16_84 h538 (pc' := 85) rfl (fun S557 h558 n559 e560 => ?_)
                refine T_ziinc xr_16_85 xn_16 (a := e) (z := e + 1) rfl (Nat.le_of_ble_eq_true rfl) (by omega) (ls' := [(3, .int (iI (e + 1))), (5, .int (iI r516)), (4, .int (iI ((D1 w 8) e))), (2, .ref aw), (1, .int (iI w)), (0, .ref B)]) rfl (pc' := 88) rfl ?_
                refine T_p xr_16_88 xn_16 (pc' := 19) (ls' := [(3, .int (iI (e + 1))), (5, .int (iI r516)), (4, .int (iI ((D1 w 8) e))), (2, .ref aw), (1, .int (iI w)), (0, .ref B)]) (st' := []) rfl ?_
                have h561 := (n559 (aw + 5) (by omega)).trans (h526)
                refine T_sub (ls := [(3, .int (iI (e + 1))), (2, .ref aw), (1, .int (iI w)), (0, .ref B)]) ⟨rfl, rfl, rfl, rfl, trivial⟩ rfl rfl ?_
                exact ih488 S557 (e + 1) (X_ug tw ((D1 w 8) e) ((iI r534 &&& iI r553).toInt)) (X_ug tk ((D1 w 8) e) r516) h558 h561 (hF491.tr (((X_Fr.rf).tr (X_Fr.of n527 e528 (by first | decide | exact ⟨Nat.le_add_right _ _, Nat.add_le_add_left (by decide) _⟩ | omega))).tr (X_Fr.of n559 e560 (by first | decide | exact ⟨Nat.le_add_right _ _, Nat.add_le_add_left (by decide) _⟩ | omega)))) (by omega) (fun e1 h1 h2 hhe => by
                      have q8 : D1 w 8 = D w 8 := hsm w 8 (by decide) (by decide)
                      have q9 : D1 w 9 = D w 9 := hsm w 9 (by decide) (by decide)
                      have hH : X_hl (D w) (W w) e := (X_hl_c (hsm w 3 (by decide) (by decide))).mp (by assumption)
                      rw [q8]
                      by_cases hv : e1 = e
                      · subst hv
                        rw [X_ug_s, X_ug_s]
                        constructor
                        · intro k g1 g2
                          rw [hx518 k g1 g2, q8, q9]
                        · intro v g1 g2
                          show X_bt (X_bA r534 r553) v ↔ _
                          rw [X_bt_an _ _ _ ⟨g1, g2⟩, hx536 v g1 g2, hx555 v g1 g2]
                          rw [(X_sD_up w tw (X_ug tk (D1 w 8 e1) r516) hsm v 2 (by decide) (by decide) : _)]
                          rw [X_fi_c (D := D) (d := D w) (d' := X_wu (X_wu (D1 w) 10 tw) 11 (X_ug tk (D1 w 8 e1) r516)) (X_sD_up w tw (X_ug tk (D1 w 8 e1) r516) hsm) (hsm w 0 (by decide) (by decide)) (hsm w 1 (by decide) (by decide)) (hsm w 3 (by decide) (by decide))]
                          constructor
                          · rintro ⟨⟨p1, p2⟩, p3, p4⟩; exact ⟨p1, p2, p4⟩
                          · rintro ⟨p1, p2, p3⟩; exact ⟨⟨p1, p2⟩, p1, p3⟩
                      · have hne : D w 8 e1 ≠ D w 8 e := fun hh => hv ((hg w (by omega) (by omega)).2 e1 e hhe hH hh)
                        rw [X_ug_n _ _ hne, X_ug_n _ _ hne]
                        exact hin e1 h1 (by omega) hhe) (by omega)
        exact L487 (D1 w 3 0 + 1).toNat S1 0 (D1 w 10) (D1 w 11) hwaw.1.2.2.2.2.1 hwaw.1.2.2.2.2.2.1 ((X_Fr.rf)) (by omega) (fun e1 h1 h2 => (show False by omega).elim) (by omega)
  exact L476 (wc + 1).toNat S 0 D ((X_Fr.rf)) (by omega) hs (fun v f _ _ => rfl) (fun v h1 h2 => (show False by omega).elim) (by omega)
end
section
theorem xr_48_0 : X_row 48 0 = some (0, (.aload_n 0, 1), (0, 0, 0)) := by decide +kernel
theorem xr_48_1 : X_row 48 1 = some (1, (.getfield 9, 3), (3, 3, 8)) := by decide +kernel
theorem xr_48_4 : X_row 48 4 = some (4, (.aload_n 0, 1), (0, 0, 0)) := by decide +kernel
theorem xr_48_5 : X_row 48 5 = some (5, (.getfield 26, 3), (3, 6, 14)) := by decide +kernel
theorem xr_48_8 : X_row 48 8 = some (8, (.iaload, 1), (0, 0, 0)) := by decide +kernel
theorem xr_48_9 : X_row 48 9 = some (9, (.ireturn, 1), (0, 0, 0)) := by decide +kernel
theorem xr_49_0 : X_row 49 0 = some (0, (.aload_n 0, 1), (0, 0, 0)) := by decide +kernel
theorem xr_49_1 : X_row 49 1 = some (1, (.getfield 15, 3), (3, 4, 10)) := by decide +kernel
theorem xr_49_4 : X_row 49 4 = some (4, (.aload_n 0, 1), (0, 0, 0)) := by decide +kernel
theorem xr_49_5 : X_row 49 5 = some (5, (.getfield 26, 3), (3, 6, 14)) := by decide +kernel
theorem xr_49_8 : X_row 49 8 = some (8, (.iaload, 1), (0, 0, 0)) := by decide +kernel
theorem xr_49_9 : X_row 49 9 = some (9, (.ireturn, 1), (0, 0, 0)) := by decide +kernel
theorem xr_50_0 : X_row 50 0 = some (0, (.aload_n 0, 1), (0, 0, 0)) := by decide +kernel
theorem xr_50_1 : X_row 50 1 = some (1, (.getfield 18, 3), (3, 5, 12)) := by decide +kernel
theorem xr_50_4 : X_row 50 4 = some (4, (.aload_n 0, 1), (0, 0, 0)) := by decide +kernel
theorem xr_50_5 : X_row 50 5 = some (5, (.getfield 26, 3), (3, 6, 14)) := by decide +kernel
theorem xr_50_8 : X_row 50 8 = some (8, (.laload, 1), (0, 0, 0)) := by decide +kernel
theorem xr_50_9 : X_row 50 9 = some (9, (.lreturn, 1), (0, 0, 0)) := by decide +kernel
theorem xr_51_0 : X_row 51 0 = some (0, (.aload_n 0, 1), (0, 0, 0)) := by decide +kernel
theorem xr_51_1 : X_row 51 1 = some (1, (.invokevirtual 30, 3), (48, 26, 0)) := by decide +kernel
theorem xr_51_4 : X_row 51 4 = some (4, (.iconst 3, 1), (0, 0, 0)) := by decide +kernel
theorem xr_51_5 : X_row 51 5 = some (5, (.if_icmp .ne 16, 3), (0, 0, 0)) := by decide +kernel
theorem xr_51_8 : X_row 51 8 = some (8, (.aload_n 0, 1), (0, 0, 0)) := by decide +kernel
theorem xr_51_9 : X_row 51 9 = some (9, (.invokevirtual 34, 3), (50, 28, 0)) := by decide +kernel
theorem xr_51_12 : X_row 51 12 = some (12, (.lload_n 1, 1), (0, 0, 0)) := by decide +kernel
theorem xr_51_13 : X_row 51 13 = some (13, (.lcmp, 1), (0, 0, 0)) := by decide +kernel
theorem xr_51_14 : X_row 51 14 = some (14, (.ifCond .ne 7, 3), (0, 0, 0)) := by decide +kernel
theorem xr_51_17 : X_row 51 17 = some (17, (.iconst 1, 1), (0, 0, 0)) := by decide +kernel
theorem xr_51_18 : X_row 51 18 = some (18, (.goto 4, 3), (0, 0, 0)) := by decide +kernel
theorem xr_51_21 : X_row 51 21 = some (21, (.iconst 0, 1), (0, 0, 0)) := by decide +kernel
theorem xr_51_22 : X_row 51 22 = some (22, (.ireturn, 1), (0, 0, 0)) := by decide +kernel
theorem xr_52_0 : X_row 52 0 = some (0, (.aload_n 0, 1), (0, 0, 0)) := by decide +kernel
theorem xr_52_1 : X_row 52 1 = some (1, (.getfield 26, 3), (3, 6, 14)) := by decide +kernel
theorem xr_52_4 : X_row 52 4 = some (4, (.iconst 1, 1), (0, 0, 0)) := by decide +kernel
theorem xr_52_5 : X_row 52 5 = some (5, (.iadd, 1), (0, 0, 0)) := by decide +kernel
theorem xr_52_6 : X_row 52 6 = some (6, (.aload_n 0, 1), (0, 0, 0)) := by decide +kernel
theorem xr_52_7 : X_row 52 7 = some (7, (.getfield 38, 3), (3, 2, 6)) := by decide +kernel
theorem xr_52_10 : X_row 52 10 = some (10, (.if_icmp .ge 13, 3), (0, 0, 0)) := by decide +kernel
theorem xr_52_13 : X_row 52 13 = some (13, (.aload_n 0, 1), (0, 0, 0)) := by decide +kernel
theorem xr_52_14 : X_row 52 14 = some (14, (.dup, 1), (0, 0, 0)) := by decide +kernel
theorem xr_52_15 : X_row 52 15 = some (15, (.getfield 26, 3), (3, 6, 14)) := by decide +kernel
theorem xr_52_18 : X_row 52 18 = some (18, (.iconst 1, 1), (0, 0, 0)) := by decide +kernel
theorem xr_52_19 : X_row 52 19 = some (19, (.iadd, 1), (0, 0, 0)) := by decide +kernel
theorem xr_52_20 : X_row 52 20 = some (20, (.putfield 26, 3), (3, 6, 14)) := by decide +kernel
theorem xr_52_23 : X_row 52 23 = some (23, (.return_, 1), (0, 0, 0)) := by decide +kernel
theorem xr_66_0 : X_row 66 0 = some (0, (.aload_n 0, 1), (0, 0, 0)) := by decide +kernel
theorem xr_66_1 : X_row 66 1 = some (1, (.iload_n 1, 1), (0, 0, 0)) := by decide +kernel
theorem xr_66_2 : X_row 66 2 = some (2, (.putfield 9, 3), (4, 2, 22)) := by decide +kernel
theorem xr_66_5 : X_row 66 5 = some (5, (.aload_n 0, 1), (0, 0, 0)) := by decide +kernel
theorem xr_66_6 : X_row 66 6 = some (6, (.iload_n 2, 1), (0, 0, 0)) := by decide +kernel
theorem xr_66_7 : X_row 66 7 = some (7, (.putfield 15, 3), (4, 3, 24)) := by decide +kernel
theorem xr_66_10 : X_row 66 10 = some (10, (.return_, 1), (0, 0, 0)) := by decide +kernel
theorem xr_67_0 : X_row 67 0 = some (0, (.aload_n 0, 1), (0, 0, 0)) := by decide +kernel
theorem xr_67_1 : X_row 67 1 = some (1, (.aload_n 0, 1), (0, 0, 0)) := by decide +kernel
theorem xr_67_2 : X_row 67 2 = some (2, (.getfield 23, 3), (4, 0, 18)) := by decide +kernel
theorem xr_67_5 : X_row 67 5 = some (5, (.invokevirtual 39, 3), (48, 6, 0)) := by decide +kernel
theorem xr_67_8 : X_row 67 8 = some (8, (.iconst 1, 1), (0, 0, 0)) := by decide +kernel
theorem xr_67_9 : X_row 67 9 = some (9, (.if_icmp .ne 7, 3), (0, 0, 0)) := by decide +kernel
theorem xr_67_12 : X_row 67 12 = some (12, (.iconst 1, 1), (0, 0, 0)) := by decide +kernel
theorem xr_67_13 : X_row 67 13 = some (13, (.goto 4, 3), (0, 0, 0)) := by decide +kernel
theorem xr_67_16 : X_row 67 16 = some (16, (.iconst 2, 1), (0, 0, 0)) := by decide +kernel
theorem xr_67_17 : X_row 67 17 = some (17, (.aload_n 0, 1), (0, 0, 0)) := by decide +kernel
theorem xr_67_18 : X_row 67 18 = some (18, (.getfield 23, 3), (4, 0, 18)) := by decide +kernel
theorem xr_67_21 : X_row 67 21 = some (21, (.invokevirtual 73, 3), (49, 14, 0)) := by decide +kernel
theorem xr_67_24 : X_row 67 24 = some (24, (.invokevirtual 76, 3), (66, 16, 0)) := by decide +kernel
theorem xr_67_27 : X_row 67 27 = some (27, (.return_, 1), (0, 0, 0)) := by decide +kernel
theorem xr_68_0 : X_row 68 0 = some (0, (.aload_n 0, 1), (0, 0, 0)) := by decide +kernel
theorem xr_68_1 : X_row 68 1 = some (1, (.getfield 23, 3), (4, 0, 18)) := by decide +kernel
theorem xr_68_4 : X_row 68 4 = some (4, (.invokevirtual 39, 3), (48, 6, 0)) := by decide +kernel
theorem xr_68_7 : X_row 68 7 = some (7, (.iload_n 1, 1), (0, 0, 0)) := by decide +kernel
theorem xr_68_8 : X_row 68 8 = some (8, (.if_icmp .eq 9, 3), (0, 0, 0)) := by decide +kernel
theorem xr_68_11 : X_row 68 11 = some (11, (.aload_n 0, 1), (0, 0, 0)) := by decide +kernel
theorem xr_68_12 : X_row 68 12 = some (12, (.invokevirtual 67, 3), (67, 12, 0)) := by decide +kernel
theorem xr_68_15 : X_row 68 15 = some (15, (.iconst 0, 1), (0, 0, 0)) := by decide +kernel
theorem xr_68_16 : X_row 68 16 = some (16, (.ireturn, 1), (0, 0, 0)) := by decide +kernel
theorem xr_68_17 : X_row 68 17 = some (17, (.aload_n 0, 1), (0, 0, 0)) := by decide +kernel
theorem xr_68_18 : X_row 68 18 = some (18, (.getfield 23, 3), (4, 0, 18)) := by decide +kernel
theorem xr_68_21 : X_row 68 21 = some (21, (.invokevirtual 80, 3), (52, 18, 0)) := by decide +kernel
theorem xr_68_24 : X_row 68 24 = some (24, (.iconst 1, 1), (0, 0, 0)) := by decide +kernel
theorem xr_68_25 : X_row 68 25 = some (25, (.ireturn, 1), (0, 0, 0)) := by decide +kernel
theorem xr_69_0 : X_row 69 0 = some (0, (.aload_n 0, 1), (0, 0, 0)) := by decide +kernel
theorem xr_69_1 : X_row 69 1 = some (1, (.getfield 27, 3), (4, 1, 20)) := by decide +kernel
theorem xr_69_4 : X_row 69 4 = some (4, (.getfield 83, 3), (0, 0, 11)) := by decide +kernel
theorem xr_69_7 : X_row 69 7 = some (7, (.bipush 12, 2), (0, 0, 0)) := by decide +kernel
theorem xr_69_9 : X_row 69 9 = some (9, (.if_icmp .ne 8, 3), (0, 0, 0)) := by decide +kernel
theorem xr_69_12 : X_row 69 12 = some (12, (.aload_n 0, 1), (0, 0, 0)) := by decide +kernel
theorem xr_69_13 : X_row 69 13 = some (13, (.invokevirtual 67, 3), (67, 12, 0)) := by decide +kernel
theorem xr_69_16 : X_row 69 16 = some (16, (.return_, 1), (0, 0, 0)) := by decide +kernel
theorem xr_69_17 : X_row 69 17 = some (17, (.aload_n 0, 1), (0, 0, 0)) := by decide +kernel
theorem xr_69_18 : X_row 69 18 = some (18, (.getfield 23, 3), (4, 0, 18)) := by decide +kernel
theorem xr_69_21 : X_row 69 21 = some (21, (.invokevirtual 80, 3), (52, 18, 0)) := by decide +kernel
theorem xr_69_24 : X_row 69 24 = some (24, (.aload_n 0, 1), (0, 0, 0)) := by decide +kernel
theorem xr_69_25 : X_row 69 25 = some (25, (.getfield 23, 3), (4, 0, 18)) := by decide +kernel
theorem xr_69_28 : X_row 69 28 = some (28, (.invokevirtual 39, 3), (48, 6, 0)) := by decide +kernel
theorem xr_69_31 : X_row 69 31 = some (31, (.iconst 2, 1), (0, 0, 0)) := by decide +kernel
theorem xr_69_32 : X_row 69 32 = some (32, (.if_icmp .eq 10, 3), (0, 0, 0)) := by decide +kernel
theorem xr_69_35 : X_row 69 35 = some (35, (.aload_n 0, 1), (0, 0, 0)) := by decide +kernel
theorem xr_69_36 : X_row 69 36 = some (36, (.invokevirtual 67, 3), (67, 12, 0)) := by decide +kernel
theorem xr_69_39 : X_row 69 39 = some (39, (.goto 64, 3), (0, 0, 0)) := by decide +kernel
theorem xr_69_42 : X_row 69 42 = some (42, (.aload_n 0, 1), (0, 0, 0)) := by decide +kernel
theorem xr_69_43 : X_row 69 43 = some (43, (.getfield 27, 3), (4, 1, 20)) := by decide +kernel
theorem xr_69_46 : X_row 69 46 = some (46, (.aload_n 0, 1), (0, 0, 0)) := by decide +kernel
theorem xr_69_47 : X_row 69 47 = some (47, (.getfield 23, 3), (4, 0, 18)) := by decide +kernel
theorem xr_69_50 : X_row 69 50 = some (50, (.invokevirtual 86, 3), (50, 20, 0)) := by decide +kernel
theorem xr_69_53 : X_row 69 53 = some (53, (.invokevirtual 90, 3), (5, 22, 0)) := by decide +kernel
theorem xr_69_56 : X_row 69 56 = some (56, (.iconst (-1), 1), (0, 0, 0)) := by decide +kernel
theorem xr_69_57 : X_row 69 57 = some (57, (.if_icmp .eq 18, 3), (0, 0, 0)) := by decide +kernel
theorem xr_69_60 : X_row 69 60 = some (60, (.aload_n 0, 1), (0, 0, 0)) := by decide +kernel
theorem xr_69_61 : X_row 69 61 = some (61, (.iconst 3, 1), (0, 0, 0)) := by decide +kernel
theorem xr_69_62 : X_row 69 62 = some (62, (.aload_n 0, 1), (0, 0, 0)) := by decide +kernel
theorem xr_69_63 : X_row 69 63 = some (63, (.getfield 23, 3), (4, 0, 18)) := by decide +kernel
theorem xr_69_66 : X_row 69 66 = some (66, (.invokevirtual 73, 3), (49, 14, 0)) := by decide +kernel
theorem xr_69_69 : X_row 69 69 = some (69, (.invokevirtual 76, 3), (66, 16, 0)) := by decide +kernel
theorem xr_69_72 : X_row 69 72 = some (72, (.goto 31, 3), (0, 0, 0)) := by decide +kernel
theorem xr_69_75 : X_row 69 75 = some (75, (.aload_n 0, 1), (0, 0, 0)) := by decide +kernel
theorem xr_69_76 : X_row 69 76 = some (76, (.getfield 27, 3), (4, 1, 20)) := by decide +kernel
theorem xr_69_79 : X_row 69 79 = some (79, (.aload_n 0, 1), (0, 0, 0)) := by decide +kernel
theorem xr_69_80 : X_row 69 80 = some (80, (.getfield 23, 3), (4, 0, 18)) := by decide +kernel
theorem xr_69_83 : X_row 69 83 = some (83, (.invokevirtual 86, 3), (50, 20, 0)) := by decide +kernel
theorem xr_69_86 : X_row 69 86 = some (86, (.invokevirtual 94, 3), (8, 24, 0)) := by decide +kernel
theorem xr_69_89 : X_row 69 89 = some (89, (.aload_n 0, 1), (0, 0, 0)) := by decide +kernel
theorem xr_69_90 : X_row 69 90 = some (90, (.getfield 23, 3), (4, 0, 18)) := by decide +kernel
theorem xr_69_93 : X_row 69 93 = some (93, (.invokevirtual 80, 3), (52, 18, 0)) := by decide +kernel
theorem xr_69_96 : X_row 69 96 = some (96, (.aload_n 0, 1), (0, 0, 0)) := by decide +kernel
theorem xr_69_97 : X_row 69 97 = some (97, (.bipush 59, 2), (0, 0, 0)) := by decide +kernel
theorem xr_69_99 : X_row 69 99 = some (99, (.invokevirtual 98, 3), (68, 26, 0)) := by decide +kernel
theorem xr_69_102 : X_row 69 102 = some (102, (.pop, 1), (0, 0, 0)) := by decide +kernel
theorem xr_69_103 : X_row 69 103 = some (103, (.return_, 1), (0, 0, 0)) := by decide +kernel
theorem xn_48 : X_nL 48 = 1 := by decide +kernel
theorem xf_48 : X_na 48 = 0 ∧ X_ci 48 = 3 ∧ X_rt 48 = (some .int) := by decide +kernel
theorem xn_49 : X_nL 49 = 1 := by decide +kernel
theorem xf_49 : X_na 49 = 0 ∧ X_ci 49 = 3 ∧ X_rt 49 = (some .int) := by decide +kernel
theorem xn_50 : X_nL 50 = 1 := by decide +kernel
theorem xf_50 : X_na 50 = 0 ∧ X_ci 50 = 3 ∧ X_rt 50 = (some .long) := by decide +kernel
theorem xn_51 : X_nL 51 = 3 := by decide +kernel
theorem xf_51 : X_na 51 = 1 ∧ X_ci 51 = 3 ∧ X_rt 51 = (some .boolean) := by decide +kernel
theorem xn_52 : X_nL 52 = 1 := by decide +kernel
theorem xf_52 : X_na 52 = 0 ∧ X_ci 52 = 3 ∧ X_rt 52 = none := by decide +kernel
theorem xn_66 : X_nL 66 = 3 := by decide +kernel
theorem xf_66 : X_na 66 = 2 ∧ X_ci 66 = 4 ∧ X_rt 66 = none := by decide +kernel
theorem xn_67 : X_nL 67 = 1 := by decide +kernel
theorem xf_67 : X_na 67 = 0 ∧ X_ci 67 = 4 ∧ X_rt 67 = none := by decide +kernel
theorem xn_68 : X_nL 68 = 2 := by decide +kernel
theorem xf_68 : X_na 68 = 1 ∧ X_ci 68 = 4 ∧ X_rt 68 = (some .boolean) := by decide +kernel
theorem xn_69 : X_nL 69 = 1 := by decide +kernel
theorem xf_69 : X_na 69 = 0 ∧ X_ci 69 = 4 ∧ X_rt 69 = none := by decide +kernel
theorem c_sort (sc : X_Sc) (S : X_S) (at_ n cur : Int) (so pl : Int → Int) (ct : Int → Int64)  (hx : C_lx S at_ n cur so pl ct) (hcu : 0 ≤ cur ∧ cur < n ∧ n ≤ 2001)  : X_T sc 48 (0, [(0, .ref 497)], [], S) (fun v S' => v = some (.int (iI (so cur))) ∧ S' = S) := by
  refine X_QI (fun Q hQ => ?_)
  refine T_p xr_48_0 xn_48 (pc' := 1) (ls' := [(0, .ref 497)]) (st' := [.ref 497]) rfl ?_
  refine T_get xr_48_1 hx.1 rfl (v := .ref 498) rfl (pc' := 4) rfl ?_
  refine T_p xr_48_4 xn_48 (pc' := 5) (ls' := [(0, .ref 497)]) (st' := [.ref 497, .ref 498]) rfl ?_
  refine T_get xr_48_5 hx.1 rfl (v := .int (iI cur)) rfl (pc' := 8) rfl ?_
  refine T_ziald xr_48_8 hx.2.1 (pc' := 9) rfl ?_
  refine T_iret xr_48_9 xf_48.2.2 rfl ?_
  refine hQ _ _ ?_
  exact ⟨rfl, rfl⟩
theorem c_place (sc : X_Sc) (S : X_S) (at_ n cur : Int) (so pl : Int → Int) (ct : Int → Int64)  (hx : C_lx S at_ n cur so pl ct) (hcu : 0 ≤ cur ∧ cur < n ∧ n ≤ 2001)  : X_T sc 49 (0, [(0, .ref 497)], [], S) (fun v S' => v = some (.int (iI (pl cur))) ∧ S' = S) := by
  refine X_QI (fun Q hQ => ?_)
  refine T_p xr_49_0 xn_49 (pc' := 1) (ls' := [(0, .ref 497)]) (st' := [.ref 497]) rfl ?_
  refine T_get xr_49_1 hx.1 rfl (v := .ref 499) rfl (pc' := 4) rfl ?_
  refine T_p xr_49_4 xn_49 (pc' := 5) (ls' := [(0, .ref 497)]) (st' := [.ref 497, .ref 499]) rfl ?_
  refine T_get xr_49_5 hx.1 rfl (v := .int (iI cur)) rfl (pc' := 8) rfl ?_
  refine T_ziald xr_49_8 hx.2.2.1 (pc' := 9) rfl ?_
  refine T_iret xr_49_9 xf_49.2.2 rfl ?_
  refine hQ _ _ ?_
  exact ⟨rfl, rfl⟩
theorem c_content (sc : X_Sc) (S : X_S) (at_ n cur : Int) (so pl : Int → Int) (ct : Int → Int64)  (hx : C_lx S at_ n cur so pl ct) (hcu : 0 ≤ cur ∧ cur < n ∧ n ≤ 2001)  : X_T sc 50 (0, [(0, .ref 497)], [], S) (fun v S' => v = some (.long (ct cur)) ∧ S' = S) := by
  refine X_QI (fun Q hQ => ?_)
  refine T_p xr_50_0 xn_50 (pc' := 1) (ls' := [(0, .ref 497)]) (st' := [.ref 497]) rfl ?_
  refine T_get xr_50_1 hx.1 rfl (v := .ref 500) rfl (pc' := 4) rfl ?_
  refine T_p xr_50_4 xn_50 (pc' := 5) (ls' := [(0, .ref 497)]) (st' := [.ref 497, .ref 500]) rfl ?_
  refine T_get xr_50_5 hx.1 rfl (v := .int (iI cur)) rfl (pc' := 8) rfl ?_
  refine T_zlald xr_50_8 hx.2.2.2 (pc' := 9) rfl ?_
  refine T_lret xr_50_9 xf_50.2.2 rfl ?_
  refine hQ _ _ ?_
  exact ⟨rfl, rfl⟩
theorem c_isKeyword (sc : X_Sc) (S : X_S) (at_ n cur : Int) (so pl : Int → Int) (ct : Int → Int64) (k : Int64) (hx : C_lx S at_ n cur so pl ct) (hcu : 0 ≤ cur ∧ cur < n ∧ n ≤ 2001) (hso : ∀ i, 0 ≤ i → i < n → 0 ≤ so i ∧ so i ≤ 255) : X_T sc 51 (0, [(0, .ref 497), (1, .long k)], [], S) (fun v S' => v = some (.int (iI (bI (so cur = 3 ∧ ct cur = k)))) ∧ S' = S) := by
  refine X_QI (fun Q hQ => ?_)
  refine T_p xr_51_0 xn_51 (pc' := 1) (ls' := [(0, .ref 497), (1, .long k)]) (st' := [.ref 497]) rfl ?_
  refine T_cv (S := S) (q := 497) xr_51_1 xf_48.1 xf_48.2.1 xn_48 (as := []) (r := []) rfl hx.1 (Nat.le_of_ble_eq_true rfl) (Nat.le_of_ble_eq_true rfl) (pc' := 4) rfl (ls' := [(0, .ref 497)]) rfl ?_
  refine T_mono (c_sort sc S at_ n cur so pl ct ⟨hx.1, hx.2.1, hx.2.2.1, hx.2.2.2⟩ (by omega)) (fun v563 S564 h562 => ?_)
  obtain ⟨h565, h566⟩ := h562
  rw [h565, h566]
  show X_T sc 51 (4, [(0, .ref 497), (1, .long k)], [.int (iI (so cur))], S) _
  have hs567 := hso cur (by omega) (by omega)
  refine T_p xr_51_4 xn_51 (pc' := 5) (ls' := [(0, .ref 497), (1, .long k)]) (st' := [.int (iI 3), .int (iI (so cur))]) rfl ?_
  refine T_zicmp_ne xr_51_5 (t := 21) (pc' := 8) rfl rfl (fun c568 => ?_) (fun c568 => ?_)
  · skip
    have c568 : ¬ (so cur) = 3 := c568
    refine T_p xr_51_21 xn_51 (pc' := 22) (ls' := [(0, .ref 497), (1, .long k)]) (st' := [.int (iI 0)]) rfl ?_
    refine T_iret xr_51_22 xf_51.2.2 (by decide) ?_
    refine hQ _ _ ?_
    exact ⟨by rw [bI_f (by rintro ⟨h1, h2⟩; first | omega | contradiction)], rfl⟩
  · skip
    have c568 : ¬ (¬ (so cur) = 3) := c568
    refine T_p xr_51_8 xn_51 (pc' := 9) (ls' := [(0, .ref 497), (1, .long k)]) (st' := [.ref 497]) rfl ?_
    refine T_cv (S := S) (q := 497) xr_51_9 xf_50.1 xf_50.2.1 xn_50 (as := []) (r := []) rfl hx.1 (Nat.le_of_ble_eq_true rfl) (Nat.le_of_ble_eq_true rfl) (pc' := 12) rfl (ls' := [(0, .ref 497)]) rfl ?_
    refine T_mono (c_content sc S at_ n cur so pl ct ⟨hx.1, hx.2.1, hx.2.2.1, hx.2.2.2⟩ (by omega)) (fun v570 S571 h569 => ?_)
    obtain ⟨h572, h573⟩ := h569
    rw [h572, h573]
    show X_T sc 51 (12, [(0, .ref 497), (1, .long k)], [.long (ct cur)], S) _
    refine T_p xr_51_12 xn_51 (pc' := 13) (ls' := [(0, .ref 497), (1, .long k)]) (st' := [.long k, .long (ct cur)]) rfl ?_
    refine T_lc_ne xr_51_13 xr_51_14 (t := 21) (pc' := 17) rfl rfl (fun c574 => ?_) (fun c574 => ?_)
    · skip
      have c574 : ¬ (ct cur) = k := c574
      refine T_p xr_51_21 xn_51 (pc' := 22) (ls' := [(0, .ref 497), (1, .long k)]) (st' := [.int (iI 0)]) rfl ?_
      refine T_iret xr_51_22 xf_51.2.2 (by decide) ?_
      refine hQ _ _ ?_
      exact ⟨by rw [bI_f (by rintro ⟨h1, h2⟩; first | omega | contradiction)], rfl⟩
    · skip
      have c574 : ¬ (¬ (ct cur) = k) := c574
      refine T_p xr_51_17 xn_51 (pc' := 18) (ls' := [(0, .ref 497), (1, .long k)]) (st' := [.int (iI 1)]) rfl ?_
      refine T_p xr_51_18 xn_51 (pc' := 22) (ls' := [(0, .ref 497), (1, .long k)]) (st' := [.int (iI 1)]) rfl ?_
      refine T_iret xr_51_22 xf_51.2.2 (by decide) ?_
      refine hQ _ _ ?_
      exact ⟨by rw [bI_t ⟨by omega, by first | assumption | exact Classical.not_not.mp (by assumption)⟩], rfl⟩
theorem c_advance (sc : X_Sc) (S : X_S) (at_ n cur : Int) (so pl : Int → Int) (ct : Int → Int64) (hx : C_lx S at_ n cur so pl ct) (hcu : 0 ≤ cur ∧ cur < n ∧ n ≤ 2001) : X_T sc 52 (0, [(0, .ref 497)], [], S) (fun v S' => v = none ∧ S'.1 497 = .inr (3, [.ref 2, .int (iI at_), .int (iI n), .ref 498, .ref 499, .ref 500, .int (iI (X_av n cur))]) ∧ X_Fr (fun r => r = 497) S S') := by
  refine X_QI (fun Q hQ => ?_)
  refine T_p xr_52_0 xn_52 (pc' := 1) (ls' := [(0, .ref 497)]) (st' := [.ref 497]) rfl ?_
  refine T_get xr_52_1 hx.1 rfl (v := .int (iI cur)) rfl (pc' := 4) rfl ?_
  refine T_p xr_52_4 xn_52 (pc' := 5) (ls' := [(0, .ref 497)]) (st' := [.int (iI 1), .int (iI cur)]) rfl ?_
  refine T_ziadd xr_52_5 (z := cur + 1) rfl (pc' := 6) rfl ?_
  refine T_p xr_52_6 xn_52 (pc' := 7) (ls' := [(0, .ref 497)]) (st' := [.ref 497, .int (iI (cur + 1))]) rfl ?_
  refine T_get xr_52_7 hx.1 rfl (v := .int (iI n)) rfl (pc' := 10) rfl ?_
  refine T_zicmp_ge xr_52_10 (t := 23) (pc' := 13) rfl rfl (fun c575 => ?_) (fun c575 => ?_)
  · skip
    have c575 : n ≤ (cur + 1) := c575
    refine T_vret xr_52_23 xf_52.2.2 ?_
    refine hQ _ _ ?_
    have e : X_av n cur = cur := by unfold X_av; first | rw [if_pos (by omega)] | rw [if_neg (by omega)]
    exact ⟨rfl, by rw [e]; exact hx.1, X_Fr.rf⟩
  · skip
    have c575 : ¬ (n ≤ (cur + 1)) := c575
    refine T_p xr_52_13 xn_52 (pc' := 14) (ls' := [(0, .ref 497)]) (st' := [.ref 497]) rfl ?_
    refine T_p xr_52_14 xn_52 (pc' := 15) (ls' := [(0, .ref 497)]) (st' := [.ref 497, .ref 497]) rfl ?_
    refine T_get xr_52_15 hx.1 rfl (v := .int (iI cur)) rfl (pc' := 18) rfl ?_
    refine T_p xr_52_18 xn_52 (pc' := 19) (ls' := [(0, .ref 497)]) (st' := [.int (iI 1), .int (iI cur), .ref 497]) rfl ?_
    refine T_ziadd xr_52_19 (z := cur + 1) rfl (pc' := 20) rfl ?_
    refine T_put xr_52_20 hx.1 rfl (Nat.le_of_ble_eq_true rfl) rfl (fs' := [.ref 2, .int (iI at_), .int (iI n), .ref 498, .ref 499, .ref 500, .int (iI (cur + 1))]) rfl (pc' := 23) rfl (fun S576 h577 n578 e579 => ?_)
    refine T_vret xr_52_23 xf_52.2.2 ?_
    refine hQ _ _ ?_
    have e : X_av n cur = cur + 1 := by unfold X_av; first | rw [if_pos (by omega)] | rw [if_neg (by omega)]
    exact ⟨rfl, by rw [e]; exact h577, (X_Fr.rf).tr (X_Fr.of n578 e579 (by first | decide | exact ⟨Nat.le_add_right _ _, Nat.add_le_add_left (by decide) _⟩ | omega))⟩
theorem c_parseRank (sc : X_Sc) (S : X_S) (B : Nat) (fp at_ n : Int) (so pl : Int → Int) (ct : Int → Int64) (cur rc kc wc : Int) (rn : Int → Int64) (lo : Int → Int) (kn : Int → Int64) (ab : Int → Int) (D : Int → Nat → Int → Int) (W : Int → Int → Int64)  (hB : 4 ≤ B ∧ B + 246 ≤ 496) (hn : n ≤ 2001) (hso : ∀ i, 0 ≤ i → i < n → 0 ≤ so i ∧ so i ≤ 255) (hK : C_K S B 0 fp at_ n so pl ct (cur, rc, kc, wc, rn, lo, kn, ab, D, W))  : X_T sc 69 (0, [(0, .ref 496)], [], S) (fun v S' => (∃ K, sp_rank n so ct (cur, rc, kc, wc, rn, lo, kn, ab, D, W) = some K ∧ ∃ fp', C_K S' B 0 fp' at_ n so pl ct K ∧ X_Fr (fun q => q = 496 ∨ q = 497 ∨ (B ≤ q ∧ q < B + 246)) S S') ∨ (sp_rank n so ct (cur, rc, kc, wc, rn, lo, kn, ab, D, W) = none ∧ ∃ fl' fp' K, (¬ fl' = 0 ∧ 0 ≤ fl' ∧ fl' ≤ 5) ∧ C_K S' B fl' fp' at_ n so pl ct K ∧ X_Fr (fun q => q = 496 ∨ q = 497 ∨ (B ≤ q ∧ q < B + 246)) S S')) := by
  obtain ⟨hp, hx, hb, hs, hcu⟩ := id hK
  simp only at hx hb hs hcu
  obtain ⟨hb0, hb1, hb2, hb3, hb4, ⟨f, hb5, hf⟩, ⟨hrc, hrcb⟩, ⟨hkc, hkcb⟩, ⟨hwc, hwcb⟩⟩ := id hb
  refine X_QI (fun Q hQ => ?_)
  refine T_p xr_69_0 xn_69 (pc' := 1) (ls' := [(0, .ref 496)]) (st' := [.ref 496]) rfl ?_
  refine T_get xr_69_1 hp rfl (v := .ref B) rfl (pc' := 4) rfl ?_
  refine T_get xr_69_4 hb0 rfl (v := .int (iI rc)) rfl (pc' := 7) rfl ?_
  refine T_p xr_69_7 xn_69 (pc' := 9) (ls' := [(0, .ref 496)]) (st' := [.int (iI 12), .int (iI rc)]) rfl ?_
  refine T_zicmp_ne xr_69_9 (t := 17) (pc' := 12) rfl rfl (fun c580 => ?_) (fun c580 => ?_)
  · skip
    have c580 : ¬ rc = 12 := c580
    refine T_p xr_69_17 xn_69 (pc' := 18) (ls' := [(0, .ref 496)]) (st' := [.ref 496]) rfl ?_
    refine T_get xr_69_18 hp rfl (v := .ref 497) rfl (pc' := 21) rfl ?_
    refine T_cv (S := S) (q := 497) xr_69_21 xf_52.1 xf_52.2.1 xn_52 (as := []) (r := []) rfl hx.1 (Nat.le_of_ble_eq_true rfl) (Nat.le_of_ble_eq_true rfl) (pc' := 24) rfl (ls' := [(0, .ref 497)]) rfl ?_
    refine T_mono (c_advance sc S at_ n cur so pl ct ⟨hx.1, hx.2.1, hx.2.2.1, hx.2.2.2⟩ (by omega)) (fun v582 S583 h581 => ?_)
    obtain ⟨h584, h586, h585⟩ := h581
    rw [h584]
    show X_T sc 69 (24, [(0, .ref 496)], [], S583) _
    have hv587 := X_av_r (n := n) (c := cur) (by omega)
    refine T_p xr_69_24 xn_69 (pc' := 25) (ls' := [(0, .ref 496)]) (st' := [.ref 496]) rfl ?_
    have h588 := (h585.1 496 (by first | decide | omega)).trans (hp)
    refine T_get xr_69_25 h588 rfl (v := .ref 497) rfl (pc' := 28) rfl ?_
    refine T_cv (S := S583) (q := 497) xr_69_28 xf_48.1 xf_48.2.1 xn_48 (as := []) (r := []) rfl h586 (Nat.le_of_ble_eq_true rfl) (Nat.le_of_ble_eq_true rfl) (pc' := 31) rfl (ls' := [(0, .ref 497)]) rfl ?_
    have h589 := (h585.1 498 (by first | decide | omega)).trans (hx.2.1)
    have h590 := (h585.1 499 (by first | decide | omega)).trans (hx.2.2.1)
    have h591 := (h585.1 500 (by first | decide | omega)).trans (hx.2.2.2)
    refine T_mono (c_sort sc S583 at_ n (X_av n cur) so pl ct ⟨h586, h589, h590, h591⟩ (by omega)) (fun v593 S594 h592 => ?_)
    obtain ⟨h595, h596⟩ := h592
    rw [h595, h596]
    show X_T sc 69 (31, [(0, .ref 496)], [.int (iI (so (X_av n cur)))], S583) _
    have hs597 := hso (X_av n cur) (by omega) (by omega)
    refine T_p xr_69_31 xn_69 (pc' := 32) (ls' := [(0, .ref 496)]) (st' := [.int (iI 2), .int (iI (so (X_av n cur)))]) rfl ?_
    refine T_zicmp_eq xr_69_32 (t := 42) (pc' := 35) rfl rfl (fun c598 => ?_) (fun c598 => ?_)
    · skip
      have c598 : (so (X_av n cur)) = 2 := c598
      refine T_p xr_69_42 xn_69 (pc' := 43) (ls' := [(0, .ref 496)]) (st' := [.ref 496]) rfl ?_
      refine T_get xr_69_43 h588 rfl (v := .ref B) rfl (pc' := 46) rfl ?_
      refine T_p xr_69_46 xn_69 (pc' := 47) (ls' := [(0, .ref 496)]) (st' := [.ref 496, .ref B]) rfl ?_
      refine T_get xr_69_47 h588 rfl (v := .ref 497) rfl (pc' := 50) rfl ?_
      refine T_cv (S := S583) (q := 497) xr_69_50 xf_50.1 xf_50.2.1 xn_50 (as := []) (r := [.ref B]) rfl h586 (Nat.le_of_ble_eq_true rfl) (Nat.le_of_ble_eq_true rfl) (pc' := 53) rfl (ls' := [(0, .ref 497)]) rfl ?_
      refine T_mono (c_content sc S583 at_ n (X_av n cur) so pl ct ⟨h586, h589, h590, h591⟩ (by omega)) (fun v600 S601 h599 => ?_)
      obtain ⟨h602, h603⟩ := h599
      rw [h602, h603]
      show X_T sc 69 (53, [(0, .ref 496)], [.long (ct (X_av n cur)), .ref B], S583) _
      have h604 := (h585.1 B (by omega)).trans (hb0)
      refine T_cv (S := S583) (q := B) xr_69_53 xf_5.1 xf_5.2.1 xn_5 (as := [.long (ct (X_av n cur))]) (r := []) rfl h604 (Nat.le_of_ble_eq_true rfl) (Nat.le_of_ble_eq_true rfl) (pc' := 56) rfl (ls' := [(0, .ref B), (1, .long (ct (X_av n cur)))]) rfl ?_
      have h612 := (h585.1 (B + 1) (by omega)).trans (hb1)
      have h613 := (h585.1 (B + 2) (by omega)).trans (hb2)
      have h614 := (h585.1 (B + 3) (by omega)).trans (hb3)
      have h615 := (h585.1 (B + 4) (by omega)).trans (hb4)
      have h616 := (h585.1 (B + 5) (by omega)).trans (hb5)
      refine T_mono (c_rankNamed sc S583 B rc kc wc rn lo kn ab (ct (X_av n cur)) ⟨h604, h612, h613, h614, h615, ⟨f, h616, hf⟩, ⟨by omega, by omega⟩, ⟨by omega, by omega⟩, ⟨by omega, by omega⟩⟩) (fun v605 S606 h607 => ?_)
      obtain ⟨r608, h609, hx610, h611⟩ := h607
      rw [h609, h611]
      have hr617 := X_Ix_r (by omega) hx610
      have hq618 := X_ix_e hx610
      show X_T sc 69 (56, [(0, .ref 496)], [.int (iI r608)], S583) _
      refine T_p xr_69_56 xn_69 (pc' := 57) (ls' := [(0, .ref 496)]) (st' := [.int (iI (-1)), .int (iI r608)]) rfl ?_
      refine T_zicmp_eq xr_69_57 (t := 75) (pc' := 60) rfl rfl (fun c619 => ?_) (fun c619 => ?_)
      · skip
        have c619 : r608 = (-1) := c619
        refine T_p xr_69_75 xn_69 (pc' := 76) (ls' := [(0, .ref 496)]) (st' := [.ref 496]) rfl ?_
        refine T_get xr_69_76 h588 rfl (v := .ref B) rfl (pc' := 79) rfl ?_
        refine T_p xr_69_79 xn_69 (pc' := 80) (ls' := [(0, .ref 496)]) (st' := [.ref 496, .ref B]) rfl ?_
        refine T_get xr_69_80 h588 rfl (v := .ref 497) rfl (pc' := 83) rfl ?_
        refine T_cv (S := S583) (q := 497) xr_69_83 xf_50.1 xf_50.2.1 xn_50 (as := []) (r := [.ref B]) rfl h586 (Nat.le_of_ble_eq_true rfl) (Nat.le_of_ble_eq_true rfl) (pc' := 86) rfl (ls' := [(0, .ref 497)]) rfl ?_
        refine T_mono (c_content sc S583 at_ n (X_av n cur) so pl ct ⟨h586, h589, h590, h591⟩ (by omega)) (fun v621 S622 h620 => ?_)
        obtain ⟨h623, h624⟩ := h620
        rw [h623, h624]
        show X_T sc 69 (86, [(0, .ref 496)], [.long (ct (X_av n cur)), .ref B], S583) _
        refine T_cv (S := S583) (q := B) xr_69_86 xf_8.1 xf_8.2.1 xn_8 (as := [.long (ct (X_av n cur))]) (r := []) rfl h604 (Nat.le_of_ble_eq_true rfl) (Nat.le_of_ble_eq_true rfl) (pc' := 89) rfl (ls' := [(0, .ref B), (1, .long (ct (X_av n cur)))]) rfl ?_
        refine T_mono (c_addRank sc S583 B rc kc wc rn lo kn ab (ct (X_av n cur)) ⟨h604, h612, h613, h614, h615, ⟨f, h616, hf⟩, ⟨by omega, by omega⟩, ⟨by omega, by omega⟩, ⟨by omega, by omega⟩⟩ (by omega)) (fun v625 S626 h627 => ?_)
        obtain ⟨h628, hb629, h630⟩ := h627
        rw [h628]
        show X_T sc 69 (89, [(0, .ref 496)], [], S626) _
        refine T_p xr_69_89 xn_69 (pc' := 90) (ls' := [(0, .ref 496)]) (st' := [.ref 496]) rfl ?_
        have h631 := (h630.1 496 (by first | decide | omega)).trans (h588)
        refine T_get xr_69_90 h631 rfl (v := .ref 497) rfl (pc' := 93) rfl ?_
        have h632 := (h630.1 497 (by first | decide | omega)).trans (h586)
        refine T_cv (S := S626) (q := 497) xr_69_93 xf_52.1 xf_52.2.1 xn_52 (as := []) (r := []) rfl h632 (Nat.le_of_ble_eq_true rfl) (Nat.le_of_ble_eq_true rfl) (pc' := 96) rfl (ls' := [(0, .ref 497)]) rfl ?_
        have h633 := (h630.1 498 (by first | decide | omega)).trans (h589)
        have h634 := (h630.1 499 (by first | decide | omega)).trans (h590)
        have h635 := (h630.1 500 (by first | decide | omega)).trans (h591)
        refine T_mono (c_advance sc S626 at_ n (X_av n cur) so pl ct ⟨h632, h633, h634, h635⟩ (by omega)) (fun v637 S638 h636 => ?_)
        obtain ⟨h639, h641, h640⟩ := h636
        rw [h639]
        show X_T sc 69 (96, [(0, .ref 496)], [], S638) _
        have hv642 := X_av_r (n := n) (c := (X_av n cur)) (by omega)
        refine T_p xr_69_96 xn_69 (pc' := 97) (ls' := [(0, .ref 496)]) (st' := [.ref 496]) rfl ?_
        refine T_p xr_69_97 xn_69 (pc' := 99) (ls' := [(0, .ref 496)]) (st' := [.int (iI 59), .ref 496]) rfl ?_
        have h643 := (h640.1 496 (by first | decide | omega)).trans (h631)
        refine T_cv (S := S638) (q := 496) xr_69_99 xf_68.1 xf_68.2.1 xn_68 (as := [.int (iI 59)]) (r := []) rfl h643 (Nat.le_of_ble_eq_true rfl) (Nat.le_of_ble_eq_true rfl) (pc' := 102) rfl (ls' := [(0, .ref 496), (1, .int (iI 59))]) rfl ?_
        refine T_p xr_68_0 xn_68 (pc' := 1) (ls' := [(0, .ref 496), (1, .int (iI 59))]) (st' := [.ref 496]) rfl ?_
        refine T_get xr_68_1 h643 rfl (v := .ref 497) rfl (pc' := 4) rfl ?_
        refine T_cv (S := S638) (q := 497) xr_68_4 xf_48.1 xf_48.2.1 xn_48 (as := []) (r := []) rfl h641 (Nat.le_of_ble_eq_true rfl) (Nat.le_of_ble_eq_true rfl) (pc' := 7) rfl (ls' := [(0, .ref 497)]) rfl ?_
        have h644 := (h640.1 498 (by first | decide | omega)).trans (h633)
        have h645 := (h640.1 499 (by first | decide | omega)).trans (h634)
        have h646 := (h640.1 500 (by first | decide | omega)).trans (h635)
        refine T_mono (c_sort sc S638 at_ n (X_av n (X_av n cur)) so pl ct ⟨h641, h644, h645, h646⟩ (by omega)) (fun v648 S649 h647 => ?_)
        obtain ⟨h650, h651⟩ := h647
        rw [h650, h651]
        show X_T sc 68 (7, [(0, .ref 496), (1, .int (iI 59))], [.int (iI (so (X_av n (X_av n cur))))], S638) _
        have hs652 := hso (X_av n (X_av n cur)) (by omega) (by omega)
        refine T_p xr_68_7 xn_68 (pc' := 8) (ls' := [(0, .ref 496), (1, .int (iI 59))]) (st' := [.int (iI 59), .int (iI (so (X_av n (X_av n cur))))]) rfl ?_
        refine T_zicmp_eq xr_68_8 (t := 17) (pc' := 11) rfl rfl (fun c653 => ?_) (fun c653 => ?_)
        · skip
          have c653 : (so (X_av n (X_av n cur))) = 59 := c653
          refine T_p xr_68_17 xn_68 (pc' := 18) (ls' := [(0, .ref 496), (1, .int (iI 59))]) (st' := [.ref 496]) rfl ?_
          refine T_get xr_68_18 h643 rfl (v := .ref 497) rfl (pc' := 21) rfl ?_
          refine T_cv (S := S638) (q := 497) xr_68_21 xf_52.1 xf_52.2.1 xn_52 (as := []) (r := []) rfl h641 (Nat.le_of_ble_eq_true rfl) (Nat.le_of_ble_eq_true rfl) (pc' := 24) rfl (ls' := [(0, .ref 497)]) rfl ?_
          refine T_mono (c_advance sc S638 at_ n (X_av n (X_av n cur)) so pl ct ⟨h641, h644, h645, h646⟩ (by omega)) (fun v655 S656 h654 => ?_)
          obtain ⟨h657, h659, h658⟩ := h654
          rw [h657]
          show X_T sc 68 (24, [(0, .ref 496), (1, .int (iI 59))], [], S656) _
          have hv660 := X_av_r (n := n) (c := (X_av n (X_av n cur))) (by omega)
          refine T_p xr_68_24 xn_68 (pc' := 25) (ls' := [(0, .ref 496), (1, .int (iI 59))]) (st' := [.int (iI 1)]) rfl ?_
          refine T_iret xr_68_25 xf_68.2.2 (by decide) ?_
          show X_T sc 69 (102, [(0, .ref 496)], [.int (iI 1)], S656) _
          refine T_p xr_69_102 xn_69 (pc' := 103) (ls' := [(0, .ref 496)]) (st' := []) rfl ?_
          refine T_vret xr_69_103 xf_69.2.2 ?_
          refine hQ _ _ ?_
          have h661 := (h658.1 496 (by first | decide | omega)).trans (h643)
          have h662 := (h658.1 B (by omega)).trans ((h640.1 B (by omega)).trans (hb629.1))
          have hs663 : C_ws S656 B D W := C_ws.fr (P := fun r => ¬ (B + 6 ≤ r ∧ r < B + 246)) hs (((((X_Fr.rf).tr (X_Fr.mono ⟨h585.1, h585.2⟩ (fun q hq => (by omega)))).tr (X_Fr.mono ⟨h630.1, h630.2⟩ (fun q hq => (by omega)))).tr (X_Fr.mono ⟨h640.1, h640.2⟩ (fun q hq => (by omega)))).tr (X_Fr.mono ⟨h658.1, h658.2⟩ (fun q hq => (by omega)))) (fun k h1 h2 => by omega)
          have h664 := (h658.1 (B + 1) (by omega)).trans ((h640.1 (B + 1) (by omega)).trans (hb629.2.1))
          have h665 := (h658.1 (B + 2) (by omega)).trans ((h640.1 (B + 2) (by omega)).trans (hb629.2.2.1))
          have h666 := (h658.1 (B + 3) (by omega)).trans ((h640.1 (B + 3) (by omega)).trans (hb629.2.2.2.1))
          have h667 := (h658.1 (B + 4) (by omega)).trans ((h640.1 (B + 4) (by omega)).trans (hb629.2.2.2.2.1))
          have h670 := (h658.1 (B + 5) (by omega)).trans ((h640.1 (B + 5) (by omega)).trans ((h630.1 (B + 5) (by omega)).trans (h616)))
          have h671 := (h658.1 498 (by first | decide | omega)).trans (h644)
          have h672 := (h658.1 499 (by first | decide | omega)).trans (h645)
          have h673 := (h658.1 500 (by first | decide | omega)).trans (h646)
          have hb668 : C_bk S656 B (rc + 1) kc wc (X_ug rn rc (ct (X_av n cur))) (X_ug lo rc 0) kn ab := ⟨h662, h664, h665, h666, h667, ⟨f, h670, hf⟩, ⟨by omega, by omega⟩, ⟨by omega, by omega⟩, ⟨by omega, by omega⟩⟩
          have hc669 : 0 ≤ (X_av n (X_av n (X_av n cur))) ∧ (X_av n (X_av n (X_av n cur))) < n := by omega
          refine Or.inl ⟨(X_av n (X_av n (X_av n cur)), rc + 1, kc, wc, (X_ug rn rc (ct (X_av n cur))), (X_ug lo rc 0), kn, ab, D, W), ?_, fp, ⟨h661, ⟨h659, h671, h672, h673⟩, hb668, hs663, hc669⟩, ((((X_Fr.rf).tr (X_Fr.mono ⟨h585.1, h585.2⟩ (fun q hq => (by omega)))).tr (X_Fr.mono ⟨h630.1, h630.2⟩ (fun q hq => (by omega)))).tr (X_Fr.mono ⟨h640.1, h640.2⟩ (fun q hq => (by omega)))).tr (X_Fr.mono ⟨h658.1, h658.2⟩ (fun q hq => (by omega)))⟩
          simp only [sp_rank]
          (repeat' split) <;> first | rfl | (exfalso; omega) | contradiction
        · skip
          have c653 : ¬ ((so (X_av n (X_av n cur))) = 59) := c653
          refine T_p xr_68_11 xn_68 (pc' := 12) (ls' := [(0, .ref 496), (1, .int (iI 59))]) (st' := [.ref 496]) rfl ?_
          refine T_cv (S := S638) (q := 496) xr_68_12 xf_67.1 xf_67.2.1 xn_67 (as := []) (r := []) rfl h643 (Nat.le_of_ble_eq_true rfl) (Nat.le_of_ble_eq_true rfl) (pc' := 15) rfl (ls' := [(0, .ref 496)]) rfl ?_
          refine T_p xr_67_0 xn_67 (pc' := 1) (ls' := [(0, .ref 496)]) (st' := [.ref 496]) rfl ?_
          refine T_p xr_67_1 xn_67 (pc' := 2) (ls' := [(0, .ref 496)]) (st' := [.ref 496, .ref 496]) rfl ?_
          refine T_get xr_67_2 h643 rfl (v := .ref 497) rfl (pc' := 5) rfl ?_
          refine T_cv (S := S638) (q := 497) xr_67_5 xf_48.1 xf_48.2.1 xn_48 (as := []) (r := [.ref 496]) rfl h641 (Nat.le_of_ble_eq_true rfl) (Nat.le_of_ble_eq_true rfl) (pc' := 8) rfl (ls' := [(0, .ref 497)]) rfl ?_
          refine T_mono (c_sort sc S638 at_ n (X_av n (X_av n cur)) so pl ct ⟨h641, h644, h645, h646⟩ (by omega)) (fun v675 S676 h674 => ?_)
          obtain ⟨h677, h678⟩ := h674
          rw [h677, h678]
          show X_T sc 67 (8, [(0, .ref 496)], [.int (iI (so (X_av n (X_av n cur)))), .ref 496], S638) _
          have hs679 := hso (X_av n (X_av n cur)) (by omega) (by omega)
          refine T_p xr_67_8 xn_67 (pc' := 9) (ls' := [(0, .ref 496)]) (st' := [.int (iI 1), .int (iI (so (X_av n (X_av n cur)))), .ref 496]) rfl ?_
          refine T_zicmp_ne xr_67_9 (t := 16) (pc' := 12) rfl rfl (fun c680 => ?_) (fun c680 => ?_)
          · skip
            have c680 : ¬ (so (X_av n (X_av n cur))) = 1 := c680
            refine T_p xr_67_16 xn_67 (pc' := 17) (ls' := [(0, .ref 496)]) (st' := [.int (iI 2), .ref 496]) rfl ?_
            refine T_p xr_67_17 xn_67 (pc' := 18) (ls' := [(0, .ref 496)]) (st' := [.ref 496, .int (iI 2), .ref 496]) rfl ?_
            refine T_get xr_67_18 h643 rfl (v := .ref 497) rfl (pc' := 21) rfl ?_
            refine T_cv (S := S638) (q := 497) xr_67_21 xf_49.1 xf_49.2.1 xn_49 (as := []) (r := [.int (iI 2), .ref 496]) rfl h641 (Nat.le_of_ble_eq_true rfl) (Nat.le_of_ble_eq_true rfl) (pc' := 24) rfl (ls' := [(0, .ref 497)]) rfl ?_
            refine T_mono (c_place sc S638 at_ n (X_av n (X_av n cur)) so pl ct ⟨h641, h644, h645, h646⟩ (by omega)) (fun v682 S683 h681 => ?_)
            obtain ⟨h684, h685⟩ := h681
            rw [h684, h685]
            show X_T sc 67 (24, [(0, .ref 496)], [.int (iI (pl (X_av n (X_av n cur)))), .int (iI 2), .ref 496], S638) _
            refine T_cv (S := S638) (q := 496) xr_67_24 xf_66.1 xf_66.2.1 xn_66 (as := [.int (iI 2), .int (iI (pl (X_av n (X_av n cur))))]) (r := []) rfl h643 (Nat.le_of_ble_eq_true rfl) (Nat.le_of_ble_eq_true rfl) (pc' := 27) rfl (ls' := [(0, .ref 496), (1, .int (iI 2)), (2, .int (iI (pl (X_av n (X_av n cur)))))]) rfl ?_
            refine T_p xr_66_0 xn_66 (pc' := 1) (ls' := [(0, .ref 496), (1, .int (iI 2)), (2, .int (iI (pl (X_av n (X_av n cur)))))]) (st' := [.ref 496]) rfl ?_
            refine T_p xr_66_1 xn_66 (pc' := 2) (ls' := [(0, .ref 496), (1, .int (iI 2)), (2, .int (iI (pl (X_av n (X_av n cur)))))]) (st' := [.int (iI 2), .ref 496]) rfl ?_
            refine T_put xr_66_2 h643 rfl (Nat.le_of_ble_eq_true rfl) rfl (fs' := [.ref 497, .ref B, .int (iI 2), .int (iI fp)]) rfl (pc' := 5) rfl (fun S686 h687 n688 e689 => ?_)
            refine T_p xr_66_5 xn_66 (pc' := 6) (ls' := [(0, .ref 496), (1, .int (iI 2)), (2, .int (iI (pl (X_av n (X_av n cur)))))]) (st' := [.ref 496]) rfl ?_
            refine T_p xr_66_6 xn_66 (pc' := 7) (ls' := [(0, .ref 496), (1, .int (iI 2)), (2, .int (iI (pl (X_av n (X_av n cur)))))]) (st' := [.int (iI (pl (X_av n (X_av n cur)))), .ref 496]) rfl ?_
            refine T_put xr_66_7 h687 rfl (Nat.le_of_ble_eq_true rfl) rfl (fs' := [.ref 497, .ref B, .int (iI 2), .int (iI (pl (X_av n (X_av n cur))))]) rfl (pc' := 10) rfl (fun S690 h691 n692 e693 => ?_)
            refine T_vret xr_66_10 xf_66.2.2 ?_
            show X_T sc 67 (27, [(0, .ref 496)], [], S690) _
            refine T_vret xr_67_27 xf_67.2.2 ?_
            show X_T sc 68 (15, [(0, .ref 496), (1, .int (iI 59))], [], S690) _
            refine T_p xr_68_15 xn_68 (pc' := 16) (ls' := [(0, .ref 496), (1, .int (iI 59))]) (st' := [.int (iI 0)]) rfl ?_
            refine T_iret xr_68_16 xf_68.2.2 (by decide) ?_
            show X_T sc 69 (102, [(0, .ref 496)], [.int (iI 0)], S690) _
            refine T_p xr_69_102 xn_69 (pc' := 103) (ls' := [(0, .ref 496)]) (st' := []) rfl ?_
            refine T_vret xr_69_103 xf_69.2.2 ?_
            refine hQ _ _ ?_
            have h694 := (n692 B (by omega)).trans ((n688 B (by omega)).trans ((h640.1 B (by omega)).trans (hb629.1)))
            have hs695 : C_ws S690 B D W := C_ws.fr (P := fun r => ¬ (B + 6 ≤ r ∧ r < B + 246)) hs ((((((X_Fr.rf).tr (X_Fr.mono ⟨h585.1, h585.2⟩ (fun q hq => (by omega)))).tr (X_Fr.mono ⟨h630.1, h630.2⟩ (fun q hq => (by omega)))).tr (X_Fr.mono ⟨h640.1, h640.2⟩ (fun q hq => (by omega)))).tr (X_Fr.of n688 e689 (by first | decide | exact ⟨Nat.le_add_right _ _, Nat.add_le_add_left (by decide) _⟩ | omega))).tr (X_Fr.of n692 e693 (by first | decide | exact ⟨Nat.le_add_right _ _, Nat.add_le_add_left (by decide) _⟩ | omega))) (fun k h1 h2 => by omega)
            have h696 := (n692 497 (by decide)).trans ((n688 497 (by decide)).trans (h641))
            have h697 := (n692 (B + 1) (by first | exact (fun h => absurd (Nat.add_left_cancel h) (by decide)) | omega)).trans ((n688 (B + 1) (by first | exact (fun h => absurd (Nat.add_left_cancel h) (by decide)) | omega)).trans ((h640.1 (B + 1) (by omega)).trans (hb629.2.1)))
            have h698 := (n692 (B + 2) (by first | exact (fun h => absurd (Nat.add_left_cancel h) (by decide)) | omega)).trans ((n688 (B + 2) (by first | exact (fun h => absurd (Nat.add_left_cancel h) (by decide)) | omega)).trans ((h640.1 (B + 2) (by omega)).trans (hb629.2.2.1)))
            have h699 := (n692 (B + 3) (by first | exact (fun h => absurd (Nat.add_left_cancel h) (by decide)) | omega)).trans ((n688 (B + 3) (by first | exact (fun h => absurd (Nat.add_left_cancel h) (by decide)) | omega)).trans ((h640.1 (B + 3) (by omega)).trans (hb629.2.2.2.1)))
            have h700 := (n692 (B + 4) (by first | exact (fun h => absurd (Nat.add_left_cancel h) (by decide)) | omega)).trans ((n688 (B + 4) (by first | exact (fun h => absurd (Nat.add_left_cancel h) (by decide)) | omega)).trans ((h640.1 (B + 4) (by omega)).trans (hb629.2.2.2.2.1)))
            have h703 := (n692 (B + 5) (by first | exact (fun h => absurd (Nat.add_left_cancel h) (by decide)) | omega)).trans ((n688 (B + 5) (by first | exact (fun h => absurd (Nat.add_left_cancel h) (by decide)) | omega)).trans ((h640.1 (B + 5) (by omega)).trans ((h630.1 (B + 5) (by omega)).trans (h616))))
            have h704 := (n692 498 (by decide)).trans ((n688 498 (by decide)).trans (h644))
            have h705 := (n692 499 (by decide)).trans ((n688 499 (by decide)).trans (h645))
            have h706 := (n692 500 (by decide)).trans ((n688 500 (by decide)).trans (h646))
            have hb701 : C_bk S690 B (rc + 1) kc wc (X_ug rn rc (ct (X_av n cur))) (X_ug lo rc 0) kn ab := ⟨h694, h697, h698, h699, h700, ⟨f, h703, hf⟩, ⟨by omega, by omega⟩, ⟨by omega, by omega⟩, ⟨by omega, by omega⟩⟩
            have hc702 : 0 ≤ (X_av n (X_av n cur)) ∧ (X_av n (X_av n cur)) < n := by omega
            refine Or.inr ⟨?_, 2, pl (X_av n (X_av n cur)), (X_av n (X_av n cur), rc + 1, kc, wc, (X_ug rn rc (ct (X_av n cur))), (X_ug lo rc 0), kn, ab, D, W), by omega, ⟨h691, ⟨h696, h704, h705, h706⟩, hb701, hs695, hc702⟩, (((((X_Fr.rf).tr (X_Fr.mono ⟨h585.1, h585.2⟩ (fun q hq => (by omega)))).tr (X_Fr.mono ⟨h630.1, h630.2⟩ (fun q hq => (by omega)))).tr (X_Fr.mono ⟨h640.1, h640.2⟩ (fun q hq => (by omega)))).tr (X_Fr.of n688 e689 (by first | decide | exact ⟨Nat.le_add_right _ _, Nat.add_le_add_left (by decide) _⟩ | omega))).tr (X_Fr.of n692 e693 (by first | decide | exact ⟨Nat.le_add_right _ _, Nat.add_le_add_left (by decide) _⟩ | omega))⟩
            simp only [sp_rank]
            (repeat' split) <;> first | rfl | (exfalso; omega) | contradiction
          · skip
            have c680 : ¬ (¬ (so (X_av n (X_av n cur))) = 1) := c680
            refine T_p xr_67_12 xn_67 (pc' := 13) (ls' := [(0, .ref 496)]) (st' := [.int (iI 1), .ref 496]) rfl ?_
            refine T_p xr_67_13 xn_67 (pc' := 17) (ls' := [(0, .ref 496)]) (st' := [.int (iI 1), .ref 496]) rfl ?_
            refine T_p xr_67_17 xn_67 (pc' := 18) (ls' := [(0, .ref 496)]) (st' := [.ref 496, .int (iI 1), .ref 496]) rfl ?_
            refine T_get xr_67_18 h643 rfl (v := .ref 497) rfl (pc' := 21) rfl ?_
            refine T_cv (S := S638) (q := 497) xr_67_21 xf_49.1 xf_49.2.1 xn_49 (as := []) (r := [.int (iI 1), .ref 496]) rfl h641 (Nat.le_of_ble_eq_true rfl) (Nat.le_of_ble_eq_true rfl) (pc' := 24) rfl (ls' := [(0, .ref 497)]) rfl ?_
            refine T_mono (c_place sc S638 at_ n (X_av n (X_av n cur)) so pl ct ⟨h641, h644, h645, h646⟩ (by omega)) (fun v708 S709 h707 => ?_)
            obtain ⟨h710, h711⟩ := h707
            rw [h710, h711]
            show X_T sc 67 (24, [(0, .ref 496)], [.int (iI (pl (X_av n (X_av n cur)))), .int (iI 1), .ref 496], S638) _
            refine T_cv (S := S638) (q := 496) xr_67_24 xf_66.1 xf_66.2.1 xn_66 (as := [.int (iI 1), .int (iI (pl (X_av n (X_av n cur))))]) (r := []) rfl h643 (Nat.le_of_ble_eq_true rfl) (Nat.le_of_ble_eq_true rfl) (pc' := 27) rfl (ls' := [(0, .ref 496), (1, .int (iI 1)), (2, .int (iI (pl (X_av n (X_av n cur)))))]) rfl ?_
            refine T_p xr_66_0 xn_66 (pc' := 1) (ls' := [(0, .ref 496), (1, .int (iI 1)), (2, .int (iI (pl (X_av n (X_av n cur)))))]) (st' := [.ref 496]) rfl ?_
            refine T_p xr_66_1 xn_66 (pc' := 2) (ls' := [(0, .ref 496), (1, .int (iI 1)), (2, .int (iI (pl (X_av n (X_av n cur)))))]) (st' := [.int (iI 1), .ref 496]) rfl ?_
            refine T_put xr_66_2 h643 rfl (Nat.le_of_ble_eq_true rfl) rfl (fs' := [.ref 497, .ref B, .int (iI 1), .int (iI fp)]) rfl (pc' := 5) rfl (fun S712 h713 n714 e715 => ?_)
            refine T_p xr_66_5 xn_66 (pc' := 6) (ls' := [(0, .ref 496), (1, .int (iI 1)), (2, .int (iI (pl (X_av n (X_av n cur)))))]) (st' := [.ref 496]) rfl ?_
            refine T_p xr_66_6 xn_66 (pc' := 7) (ls' := [(0, .ref 496), (1, .int (iI 1)), (2, .int (iI (pl (X_av n (X_av n cur)))))]) (st' := [.int (iI (pl (X_av n (X_av n cur)))), .ref 496]) rfl ?_
            refine T_put xr_66_7 h713 rfl (Nat.le_of_ble_eq_true rfl) rfl (fs' := [.ref 497, .ref B, .int (iI 1), .int (iI (pl (X_av n (X_av n cur))))]) rfl (pc' := 10) rfl (fun S716 h717 n718 e719 => ?_)
            refine T_vret xr_66_10 xf_66.2.2 ?_
            show X_T sc 67 (27, [(0, .ref 496)], [], S716) _
            refine T_vret xr_67_27 xf_67.2.2 ?_
            show X_T sc 68 (15, [(0, .ref 496), (1, .int (iI 59))], [], S716) _
            refine T_p xr_68_15 xn_68 (pc' := 16) (ls' := [(0, .ref 496), (1, .int (iI 59))]) (st' := [.int (iI 0)]) rfl ?_
            refine T_iret xr_68_16 xf_68.2.2 (by decide) ?_
            show X_T sc 69 (102, [(0, .ref 496)], [.int (iI 0)], S716) _
            refine T_p xr_69_102 xn_69 (pc' := 103) (ls' := [(0, .ref 496)]) (st' := []) rfl ?_
            refine T_vret xr_69_103 xf_69.2.2 ?_
            refine hQ _ _ ?_
            have h720 := (n718 B (by omega)).trans ((n714 B (by omega)).trans ((h640.1 B (by omega)).trans (hb629.1)))
            have hs721 : C_ws S716 B D W := C_ws.fr (P := fun r => ¬ (B + 6 ≤ r ∧ r < B + 246)) hs ((((((X_Fr.rf).tr (X_Fr.mono ⟨h585.1, h585.2⟩ (fun q hq => (by omega)))).tr (X_Fr.mono ⟨h630.1, h630.2⟩ (fun q hq => (by omega)))).tr (X_Fr.mono ⟨h640.1, h640.2⟩ (fun q hq => (by omega)))).tr (X_Fr.of n714 e715 (by first | decide | exact ⟨Nat.le_add_right _ _, Nat.add_le_add_left (by decide) _⟩ | omega))).tr (X_Fr.of n718 e719 (by first | decide | exact ⟨Nat.le_add_right _ _, Nat.add_le_add_left (by decide) _⟩ | omega))) (fun k h1 h2 => by omega)
            have h722 := (n718 497 (by decide)).trans ((n714 497 (by decide)).trans (h641))
            have h723 := (n718 (B + 1) (by first | exact (fun h => absurd (Nat.add_left_cancel h) (by decide)) | omega)).trans ((n714 (B + 1) (by first | exact (fun h => absurd (Nat.add_left_cancel h) (by decide)) | omega)).trans ((h640.1 (B + 1) (by omega)).trans (hb629.2.1)))
            have h724 := (n718 (B + 2) (by first | exact (fun h => absurd (Nat.add_left_cancel h) (by decide)) | omega)).trans ((n714 (B + 2) (by first | exact (fun h => absurd (Nat.add_left_cancel h) (by decide)) | omega)).trans ((h640.1 (B + 2) (by omega)).trans (hb629.2.2.1)))
            have h725 := (n718 (B + 3) (by first | exact (fun h => absurd (Nat.add_left_cancel h) (by decide)) | omega)).trans ((n714 (B + 3) (by first | exact (fun h => absurd (Nat.add_left_cancel h) (by decide)) | omega)).trans ((h640.1 (B + 3) (by omega)).trans (hb629.2.2.2.1)))
            have h726 := (n718 (B + 4) (by first | exact (fun h => absurd (Nat.add_left_cancel h) (by decide)) | omega)).trans ((n714 (B + 4) (by first | exact (fun h => absurd (Nat.add_left_cancel h) (by decide)) | omega)).trans ((h640.1 (B + 4) (by omega)).trans (hb629.2.2.2.2.1)))
            have h729 := (n718 (B + 5) (by first | exact (fun h => absurd (Nat.add_left_cancel h) (by decide)) | omega)).trans ((n714 (B + 5) (by first | exact (fun h => absurd (Nat.add_left_cancel h) (by decide)) | omega)).trans ((h640.1 (B + 5) (by omega)).trans ((h630.1 (B + 5) (by omega)).trans (h616))))
            have h730 := (n718 498 (by decide)).trans ((n714 498 (by decide)).trans (h644))
            have h731 := (n718 499 (by decide)).trans ((n714 499 (by decide)).trans (h645))
            have h732 := (n718 500 (by decide)).trans ((n714 500 (by decide)).trans (h646))
            have hb727 : C_bk S716 B (rc + 1) kc wc (X_ug rn rc (ct (X_av n cur))) (X_ug lo rc 0) kn ab := ⟨h720, h723, h724, h725, h726, ⟨f, h729, hf⟩, ⟨by omega, by omega⟩, ⟨by omega, by omega⟩, ⟨by omega, by omega⟩⟩
            have hc728 : 0 ≤ (X_av n (X_av n cur)) ∧ (X_av n (X_av n cur)) < n := by omega
            refine Or.inr ⟨?_, 1, pl (X_av n (X_av n cur)), (X_av n (X_av n cur), rc + 1, kc, wc, (X_ug rn rc (ct (X_av n cur))), (X_ug lo rc 0), kn, ab, D, W), by omega, ⟨h717, ⟨h722, h730, h731, h732⟩, hb727, hs721, hc728⟩, (((((X_Fr.rf).tr (X_Fr.mono ⟨h585.1, h585.2⟩ (fun q hq => (by omega)))).tr (X_Fr.mono ⟨h630.1, h630.2⟩ (fun q hq => (by omega)))).tr (X_Fr.mono ⟨h640.1, h640.2⟩ (fun q hq => (by omega)))).tr (X_Fr.of n714 e715 (by first | decide | exact ⟨Nat.le_add_right _ _, Nat.add_le_add_left (by decide) _⟩ | omega))).tr (X_Fr.of n718 e719 (by first | decide | exact ⟨Nat.le_add_right _ _, Nat.add_le_add_left (by decide) _⟩ | omega))⟩
            simp only [sp_rank]
            (repeat' split) <;> first | rfl | (exfalso; omega) | contradiction
      · skip
        have c619 : ¬ (r608 = (-1)) := c619
        refine T_p xr_69_60 xn_69 (pc' := 61) (ls' := [(0, .ref 496)]) (st' := [.ref 496]) rfl ?_
        refine T_p xr_69_61 xn_69 (pc' := 62) (ls' := [(0, .ref 496)]) (st' := [.int (iI 3), .ref 496]) rfl ?_
        refine T_p xr_69_62 xn_69 (pc' := 63) (ls' := [(0, .ref 496)]) (st' := [.ref 496, .int (iI 3), .ref 496]) rfl ?_
        refine T_get xr_69_63 h588 rfl (v := .ref 497) rfl (pc' := 66) rfl ?_
        refine T_cv (S := S583) (q := 497) xr_69_66 xf_49.1 xf_49.2.1 xn_49 (as := []) (r := [.int (iI 3), .ref 496]) rfl h586 (Nat.le_of_ble_eq_true rfl) (Nat.le_of_ble_eq_true rfl) (pc' := 69) rfl (ls' := [(0, .ref 497)]) rfl ?_
        refine T_mono (c_place sc S583 at_ n (X_av n cur) so pl ct ⟨h586, h589, h590, h591⟩ (by omega)) (fun v734 S735 h733 => ?_)
        obtain ⟨h736, h737⟩ := h733
        rw [h736, h737]
        show X_T sc 69 (69, [(0, .ref 496)], [.int (iI (pl (X_av n cur))), .int (iI 3), .ref 496], S583) _
        refine T_cv (S := S583) (q := 496) xr_69_69 xf_66.1 xf_66.2.1 xn_66 (as := [.int (iI 3), .int (iI (pl (X_av n cur)))]) (r := []) rfl h588 (Nat.le_of_ble_eq_true rfl) (Nat.le_of_ble_eq_true rfl) (pc' := 72) rfl (ls' := [(0, .ref 496), (1, .int (iI 3)), (2, .int (iI (pl (X_av n cur))))]) rfl ?_
        refine T_p xr_66_0 xn_66 (pc' := 1) (ls' := [(0, .ref 496), (1, .int (iI 3)), (2, .int (iI (pl (X_av n cur))))]) (st' := [.ref 496]) rfl ?_
        refine T_p xr_66_1 xn_66 (pc' := 2) (ls' := [(0, .ref 496), (1, .int (iI 3)), (2, .int (iI (pl (X_av n cur))))]) (st' := [.int (iI 3), .ref 496]) rfl ?_
        refine T_put xr_66_2 h588 rfl (Nat.le_of_ble_eq_true rfl) rfl (fs' := [.ref 497, .ref B, .int (iI 3), .int (iI fp)]) rfl (pc' := 5) rfl (fun S738 h739 n740 e741 => ?_)
        refine T_p xr_66_5 xn_66 (pc' := 6) (ls' := [(0, .ref 496), (1, .int (iI 3)), (2, .int (iI (pl (X_av n cur))))]) (st' := [.ref 496]) rfl ?_
        refine T_p xr_66_6 xn_66 (pc' := 7) (ls' := [(0, .ref 496), (1, .int (iI 3)), (2, .int (iI (pl (X_av n cur))))]) (st' := [.int (iI (pl (X_av n cur))), .ref 496]) rfl ?_
        refine T_put xr_66_7 h739 rfl (Nat.le_of_ble_eq_true rfl) rfl (fs' := [.ref 497, .ref B, .int (iI 3), .int (iI (pl (X_av n cur)))]) rfl (pc' := 10) rfl (fun S742 h743 n744 e745 => ?_)
        refine T_vret xr_66_10 xf_66.2.2 ?_
        show X_T sc 69 (72, [(0, .ref 496)], [], S742) _
        refine T_p xr_69_72 xn_69 (pc' := 103) (ls' := [(0, .ref 496)]) (st' := []) rfl ?_
        refine T_vret xr_69_103 xf_69.2.2 ?_
        refine hQ _ _ ?_
        have h746 := (n744 B (by omega)).trans ((n740 B (by omega)).trans (h604))
        have hs747 : C_ws S742 B D W := C_ws.fr (P := fun r => ¬ (B + 6 ≤ r ∧ r < B + 246)) hs ((((X_Fr.rf).tr (X_Fr.mono ⟨h585.1, h585.2⟩ (fun q hq => (by omega)))).tr (X_Fr.of n740 e741 (by first | decide | exact ⟨Nat.le_add_right _ _, Nat.add_le_add_left (by decide) _⟩ | omega))).tr (X_Fr.of n744 e745 (by first | decide | exact ⟨Nat.le_add_right _ _, Nat.add_le_add_left (by decide) _⟩ | omega))) (fun k h1 h2 => by omega)
        have h748 := (n744 497 (by decide)).trans ((n740 497 (by decide)).trans (h586))
        have h749 := (n744 (B + 1) (by first | exact (fun h => absurd (Nat.add_left_cancel h) (by decide)) | omega)).trans ((n740 (B + 1) (by first | exact (fun h => absurd (Nat.add_left_cancel h) (by decide)) | omega)).trans (h612))
        have h750 := (n744 (B + 2) (by first | exact (fun h => absurd (Nat.add_left_cancel h) (by decide)) | omega)).trans ((n740 (B + 2) (by first | exact (fun h => absurd (Nat.add_left_cancel h) (by decide)) | omega)).trans (h613))
        have h751 := (n744 (B + 3) (by first | exact (fun h => absurd (Nat.add_left_cancel h) (by decide)) | omega)).trans ((n740 (B + 3) (by first | exact (fun h => absurd (Nat.add_left_cancel h) (by decide)) | omega)).trans (h614))
        have h752 := (n744 (B + 4) (by first | exact (fun h => absurd (Nat.add_left_cancel h) (by decide)) | omega)).trans ((n740 (B + 4) (by first | exact (fun h => absurd (Nat.add_left_cancel h) (by decide)) | omega)).trans (h615))
        have h755 := (n744 (B + 5) (by first | exact (fun h => absurd (Nat.add_left_cancel h) (by decide)) | omega)).trans ((n740 (B + 5) (by first | exact (fun h => absurd (Nat.add_left_cancel h) (by decide)) | omega)).trans (h616))
        have h756 := (n744 498 (by decide)).trans ((n740 498 (by decide)).trans (h589))
        have h757 := (n744 499 (by decide)).trans ((n740 499 (by decide)).trans (h590))
        have h758 := (n744 500 (by decide)).trans ((n740 500 (by decide)).trans (h591))
        have hb753 : C_bk S742 B rc kc wc rn lo kn ab := ⟨h746, h749, h750, h751, h752, ⟨f, h755, hf⟩, ⟨by omega, by omega⟩, ⟨by omega, by omega⟩, ⟨by omega, by omega⟩⟩
        have hc754 : 0 ≤ (X_av n cur) ∧ (X_av n cur) < n := by omega
        refine Or.inr ⟨?_, 3, pl (X_av n cur), (X_av n cur, rc, kc, wc, rn, lo, kn, ab, D, W), by omega, ⟨h743, ⟨h748, h756, h757, h758⟩, hb753, hs747, hc754⟩, (((X_Fr.rf).tr (X_Fr.mono ⟨h585.1, h585.2⟩ (fun q hq => (by omega)))).tr (X_Fr.of n740 e741 (by first | decide | exact ⟨Nat.le_add_right _ _, Nat.add_le_add_left (by decide) _⟩ | omega))).tr (X_Fr.of n744 e745 (by first | decide | exact ⟨Nat.le_add_right _ _, Nat.add_le_add_left (by decide) _⟩ | omega))⟩
        simp only [sp_rank]
        (repeat' split) <;> first | rfl | (exfalso; omega) | contradiction
    · skip
      have c598 : ¬ ((so (X_av n cur)) = 2) := c598
      refine T_p xr_69_35 xn_69 (pc' := 36) (ls' := [(0, .ref 496)]) (st' := [.ref 496]) rfl ?_
      refine T_cv (S := S583) (q := 496) xr_69_36 xf_67.1 xf_67.2.1 xn_67 (as := []) (r := []) rfl h588 (Nat.le_of_ble_eq_true rfl) (Nat.le_of_ble_eq_true rfl) (pc' := 39) rfl (ls' := [(0, .ref 496)]) rfl ?_
      refine T_p xr_67_0 xn_67 (pc' := 1) (ls' := [(0, .ref 496)]) (st' := [.ref 496]) rfl ?_
      refine T_p xr_67_1 xn_67 (pc' := 2) (ls' := [(0, .ref 496)]) (st' := [.ref 496, .ref 496]) rfl ?_
      refine T_get xr_67_2 h588 rfl (v := .ref 497) rfl (pc' := 5) rfl ?_
      refine T_cv (S := S583) (q := 497) xr_67_5 xf_48.1 xf_48.2.1 xn_48 (as := []) (r := [.ref 496]) rfl h586 (Nat.le_of_ble_eq_true rfl) (Nat.le_of_ble_eq_true rfl) (pc' := 8) rfl (ls' := [(0, .ref 497)]) rfl ?_
      refine T_mono (c_sort sc S583 at_ n (X_av n cur) so pl ct ⟨h586, h589, h590, h591⟩ (by omega)) (fun v760 S761 h759 => ?_)
      obtain ⟨h762, h763⟩ := h759
      rw [h762, h763]
      show X_T sc 67 (8, [(0, .ref 496)], [.int (iI (so (X_av n cur))), .ref 496], S583) _
      have hs764 := hso (X_av n cur) (by omega) (by omega)
      refine T_p xr_67_8 xn_67 (pc' := 9) (ls' := [(0, .ref 496)]) (st' := [.int (iI 1), .int (iI (so (X_av n cur))), .ref 496]) rfl ?_
      refine T_zicmp_ne xr_67_9 (t := 16) (pc' := 12) rfl rfl (fun c765 => ?_) (fun c765 => ?_)
      · skip
        have c765 : ¬ (so (X_av n cur)) = 1 := c765
        refine T_p xr_67_16 xn_67 (pc' := 17) (ls' := [(0, .ref 496)]) (st' := [.int (iI 2), .ref 496]) rfl ?_
        refine T_p xr_67_17 xn_67 (pc' := 18) (ls' := [(0, .ref 496)]) (st' := [.ref 496, .int (iI 2), .ref 496]) rfl ?_
        refine T_get xr_67_18 h588 rfl (v := .ref 497) rfl (pc' := 21) rfl ?_
        refine T_cv (S := S583) (q := 497) xr_67_21 xf_49.1 xf_49.2.1 xn_49 (as := []) (r := [.int (iI 2), .ref 496]) rfl h586 (Nat.le_of_ble_eq_true rfl) (Nat.le_of_ble_eq_true rfl) (pc' := 24) rfl (ls' := [(0, .ref 497)]) rfl ?_
        refine T_mono (c_place sc S583 at_ n (X_av n cur) so pl ct ⟨h586, h589, h590, h591⟩ (by omega)) (fun v767 S768 h766 => ?_)
        obtain ⟨h769, h770⟩ := h766
        rw [h769, h770]
        show X_T sc 67 (24, [(0, .ref 496)], [.int (iI (pl (X_av n cur))), .int (iI 2), .ref 496], S583) _
        refine T_cv (S := S583) (q := 496) xr_67_24 xf_66.1 xf_66.2.1 xn_66 (as := [.int (iI 2), .int (iI (pl (X_av n cur)))]) (r := []) rfl h588 (Nat.le_of_ble_eq_true rfl) (Nat.le_of_ble_eq_true rfl) (pc' := 27) rfl (ls' := [(0, .ref 496), (1, .int (iI 2)), (2, .int (iI (pl (X_av n cur))))]) rfl ?_
        refine T_p xr_66_0 xn_66 (pc' := 1) (ls' := [(0, .ref 496), (1, .int (iI 2)), (2, .int (iI (pl (X_av n cur))))]) (st' := [.ref 496]) rfl ?_
        refine T_p xr_66_1 xn_66 (pc' := 2) (ls' := [(0, .ref 496), (1, .int (iI 2)), (2, .int (iI (pl (X_av n cur))))]) (st' := [.int (iI 2), .ref 496]) rfl ?_
        refine T_put xr_66_2 h588 rfl (Nat.le_of_ble_eq_true rfl) rfl (fs' := [.ref 497, .ref B, .int (iI 2), .int (iI fp)]) rfl (pc' := 5) rfl (fun S771 h772 n773 e774 => ?_)
        refine T_p xr_66_5 xn_66 (pc' := 6) (ls' := [(0, .ref 496), (1, .int (iI 2)), (2, .int (iI (pl (X_av n cur))))]) (st' := [.ref 496]) rfl ?_
        refine T_p xr_66_6 xn_66 (pc' := 7) (ls' := [(0, .ref 496), (1, .int (iI 2)), (2, .int (iI (pl (X_av n cur))))]) (st' := [.int (iI (pl (X_av n cur))), .ref 496]) rfl ?_
        refine T_put xr_66_7 h772 rfl (Nat.le_of_ble_eq_true rfl) rfl (fs' := [.ref 497, .ref B, .int (iI 2), .int (iI (pl (X_av n cur)))]) rfl (pc' := 10) rfl (fun S775 h776 n777 e778 => ?_)
        refine T_vret xr_66_10 xf_66.2.2 ?_
        show X_T sc 67 (27, [(0, .ref 496)], [], S775) _
        refine T_vret xr_67_27 xf_67.2.2 ?_
        show X_T sc 69 (39, [(0, .ref 496)], [], S775) _
        refine T_p xr_69_39 xn_69 (pc' := 103) (ls' := [(0, .ref 496)]) (st' := []) rfl ?_
        refine T_vret xr_69_103 xf_69.2.2 ?_
        refine hQ _ _ ?_
        have h779 := (n777 B (by omega)).trans ((n773 B (by omega)).trans ((h585.1 B (by omega)).trans (hb0)))
        have hs780 : C_ws S775 B D W := C_ws.fr (P := fun r => ¬ (B + 6 ≤ r ∧ r < B + 246)) hs ((((X_Fr.rf).tr (X_Fr.mono ⟨h585.1, h585.2⟩ (fun q hq => (by omega)))).tr (X_Fr.of n773 e774 (by first | decide | exact ⟨Nat.le_add_right _ _, Nat.add_le_add_left (by decide) _⟩ | omega))).tr (X_Fr.of n777 e778 (by first | decide | exact ⟨Nat.le_add_right _ _, Nat.add_le_add_left (by decide) _⟩ | omega))) (fun k h1 h2 => by omega)
        have h781 := (n777 497 (by decide)).trans ((n773 497 (by decide)).trans (h586))
        have h782 := (n777 (B + 1) (by first | exact (fun h => absurd (Nat.add_left_cancel h) (by decide)) | omega)).trans ((n773 (B + 1) (by first | exact (fun h => absurd (Nat.add_left_cancel h) (by decide)) | omega)).trans ((h585.1 (B + 1) (by omega)).trans (hb1)))
        have h783 := (n777 (B + 2) (by first | exact (fun h => absurd (Nat.add_left_cancel h) (by decide)) | omega)).trans ((n773 (B + 2) (by first | exact (fun h => absurd (Nat.add_left_cancel h) (by decide)) | omega)).trans ((h585.1 (B + 2) (by omega)).trans (hb2)))
        have h784 := (n777 (B + 3) (by first | exact (fun h => absurd (Nat.add_left_cancel h) (by decide)) | omega)).trans ((n773 (B + 3) (by first | exact (fun h => absurd (Nat.add_left_cancel h) (by decide)) | omega)).trans ((h585.1 (B + 3) (by omega)).trans (hb3)))
        have h785 := (n777 (B + 4) (by first | exact (fun h => absurd (Nat.add_left_cancel h) (by decide)) | omega)).trans ((n773 (B + 4) (by first | exact (fun h => absurd (Nat.add_left_cancel h) (by decide)) | omega)).trans ((h585.1 (B + 4) (by omega)).trans (hb4)))
        have h788 := (n777 (B + 5) (by first | exact (fun h => absurd (Nat.add_left_cancel h) (by decide)) | omega)).trans ((n773 (B + 5) (by first | exact (fun h => absurd (Nat.add_left_cancel h) (by decide)) | omega)).trans ((h585.1 (B + 5) (by omega)).trans (hb5)))
        have h789 := (n777 498 (by decide)).trans ((n773 498 (by decide)).trans (h589))
        have h790 := (n777 499 (by decide)).trans ((n773 499 (by decide)).trans (h590))
        have h791 := (n777 500 (by decide)).trans ((n773 500 (by decide)).trans (h591))
        have hb786 : C_bk S775 B rc kc wc rn lo kn ab := ⟨h779, h782, h783, h784, h785, ⟨f, h788, hf⟩, ⟨by omega, by omega⟩, ⟨by omega, by omega⟩, ⟨by omega, by omega⟩⟩
        have hc787 : 0 ≤ (X_av n cur) ∧ (X_av n cur) < n := by omega
        refine Or.inr ⟨?_, 2, pl (X_av n cur), (X_av n cur, rc, kc, wc, rn, lo, kn, ab, D, W), by omega, ⟨h776, ⟨h781, h789, h790, h791⟩, hb786, hs780, hc787⟩, (((X_Fr.rf).tr (X_Fr.mono ⟨h585.1, h585.2⟩ (fun q hq => (by omega)))).tr (X_Fr.of n773 e774 (by first | decide | exact ⟨Nat.le_add_right _ _, Nat.add_le_add_left (by decide) _⟩ | omega))).tr (X_Fr.of n777 e778 (by first | decide | exact ⟨Nat.le_add_right _ _, Nat.add_le_add_left (by decide) _⟩ | omega))⟩
        simp only [sp_rank]
        (repeat' split) <;> first | rfl | (exfalso; omega) | contradiction
      · skip
        have c765 : ¬ (¬ (so (X_av n cur)) = 1) := c765
        refine T_p xr_67_12 xn_67 (pc' := 13) (ls' := [(0, .ref 496)]) (st' := [.int (iI 1), .ref 496]) rfl ?_
        refine T_p xr_67_13 xn_67 (pc' := 17) (ls' := [(0, .ref 496)]) (st' := [.int (iI 1), .ref 496]) rfl ?_
        refine T_p xr_67_17 xn_67 (pc' := 18) (ls' := [(0, .ref 496)]) (st' := [.ref 496, .int (iI 1), .ref 496]) rfl ?_
        refine T_get xr_67_18 h588 rfl (v := .ref 497) rfl (pc' := 21) rfl ?_
        refine T_cv (S := S583) (q := 497) xr_67_21 xf_49.1 xf_49.2.1 xn_49 (as := []) (r := [.int (iI 1), .ref 496]) rfl h586 (Nat.le_of_ble_eq_true rfl) (Nat.le_of_ble_eq_true rfl) (pc' := 24) rfl (ls' := [(0, .ref 497)]) rfl ?_
        refine T_mono (c_place sc S583 at_ n (X_av n cur) so pl ct ⟨h586, h589, h590, h591⟩ (by omega)) (fun v793 S794 h792 => ?_)
        obtain ⟨h795, h796⟩ := h792
        rw [h795, h796]
        show X_T sc 67 (24, [(0, .ref 496)], [.int (iI (pl (X_av n cur))), .int (iI 1), .ref 496], S583) _
        refine T_cv (S := S583) (q := 496) xr_67_24 xf_66.1 xf_66.2.1 xn_66 (as := [.int (iI 1), .int (iI (pl (X_av n cur)))]) (r := []) rfl h588 (Nat.le_of_ble_eq_true rfl) (Nat.le_of_ble_eq_true rfl) (pc' := 27) rfl (ls' := [(0, .ref 496), (1, .int (iI 1)), (2, .int (iI (pl (X_av n cur))))]) rfl ?_
        refine T_p xr_66_0 xn_66 (pc' := 1) (ls' := [(0, .ref 496), (1, .int (iI 1)), (2, .int (iI (pl (X_av n cur))))]) (st' := [.ref 496]) rfl ?_
        refine T_p xr_66_1 xn_66 (pc' := 2) (ls' := [(0, .ref 496), (1, .int (iI 1)), (2, .int (iI (pl (X_av n cur))))]) (st' := [.int (iI 1), .ref 496]) rfl ?_
        refine T_put xr_66_2 h588 rfl (Nat.le_of_ble_eq_true rfl) rfl (fs' := [.ref 497, .ref B, .int (iI 1), .int (iI fp)]) rfl (pc' := 5) rfl (fun S797 h798 n799 e800 => ?_)
        refine T_p xr_66_5 xn_66 (pc' := 6) (ls' := [(0, .ref 496), (1, .int (iI 1)), (2, .int (iI (pl (X_av n cur))))]) (st' := [.ref 496]) rfl ?_
        refine T_p xr_66_6 xn_66 (pc' := 7) (ls' := [(0, .ref 496), (1, .int (iI 1)), (2, .int (iI (pl (X_av n cur))))]) (st' := [.int (iI (pl (X_av n cur))), .ref 496]) rfl ?_
        refine T_put xr_66_7 h798 rfl (Nat.le_of_ble_eq_true rfl) rfl (fs' := [.ref 497, .ref B, .int (iI 1), .int (iI (pl (X_av n cur)))]) rfl (pc' := 10) rfl (fun S801 h802 n803 e804 => ?_)
        refine T_vret xr_66_10 xf_66.2.2 ?_
        show X_T sc 67 (27, [(0, .ref 496)], [], S801) _
        refine T_vret xr_67_27 xf_67.2.2 ?_
        show X_T sc 69 (39, [(0, .ref 496)], [], S801) _
        refine T_p xr_69_39 xn_69 (pc' := 103) (ls' := [(0, .ref 496)]) (st' := []) rfl ?_
        refine T_vret xr_69_103 xf_69.2.2 ?_
        refine hQ _ _ ?_
        have h805 := (n803 B (by omega)).trans ((n799 B (by omega)).trans ((h585.1 B (by omega)).trans (hb0)))
        have hs806 : C_ws S801 B D W := C_ws.fr (P := fun r => ¬ (B + 6 ≤ r ∧ r < B + 246)) hs ((((X_Fr.rf).tr (X_Fr.mono ⟨h585.1, h585.2⟩ (fun q hq => (by omega)))).tr (X_Fr.of n799 e800 (by first | decide | exact ⟨Nat.le_add_right _ _, Nat.add_le_add_left (by decide) _⟩ | omega))).tr (X_Fr.of n803 e804 (by first | decide | exact ⟨Nat.le_add_right _ _, Nat.add_le_add_left (by decide) _⟩ | omega))) (fun k h1 h2 => by omega)
        have h807 := (n803 497 (by decide)).trans ((n799 497 (by decide)).trans (h586))
        have h808 := (n803 (B + 1) (by first | exact (fun h => absurd (Nat.add_left_cancel h) (by decide)) | omega)).trans ((n799 (B + 1) (by first | exact (fun h => absurd (Nat.add_left_cancel h) (by decide)) | omega)).trans ((h585.1 (B + 1) (by omega)).trans (hb1)))
        have h809 := (n803 (B + 2) (by first | exact (fun h => absurd (Nat.add_left_cancel h) (by decide)) | omega)).trans ((n799 (B + 2) (by first | exact (fun h => absurd (Nat.add_left_cancel h) (by decide)) | omega)).trans ((h585.1 (B + 2) (by omega)).trans (hb2)))
        have h810 := (n803 (B + 3) (by first | exact (fun h => absurd (Nat.add_left_cancel h) (by decide)) | omega)).trans ((n799 (B + 3) (by first | exact (fun h => absurd (Nat.add_left_cancel h) (by decide)) | omega)).trans ((h585.1 (B + 3) (by omega)).trans (hb3)))
        have h811 := (n803 (B + 4) (by first | exact (fun h => absurd (Nat.add_left_cancel h) (by decide)) | omega)).trans ((n799 (B + 4) (by first | exact (fun h => absurd (Nat.add_left_cancel h) (by decide)) | omega)).trans ((h585.1 (B + 4) (by omega)).trans (hb4)))
        have h814 := (n803 (B + 5) (by first | exact (fun h => absurd (Nat.add_left_cancel h) (by decide)) | omega)).trans ((n799 (B + 5) (by first | exact (fun h => absurd (Nat.add_left_cancel h) (by decide)) | omega)).trans ((h585.1 (B + 5) (by omega)).trans (hb5)))
        have h815 := (n803 498 (by decide)).trans ((n799 498 (by decide)).trans (h589))
        have h816 := (n803 499 (by decide)).trans ((n799 499 (by decide)).trans (h590))
        have h817 := (n803 500 (by decide)).trans ((n799 500 (by decide)).trans (h591))
        have hb812 : C_bk S801 B rc kc wc rn lo kn ab := ⟨h805, h808, h809, h810, h811, ⟨f, h814, hf⟩, ⟨by omega, by omega⟩, ⟨by omega, by omega⟩, ⟨by omega, by omega⟩⟩
        have hc813 : 0 ≤ (X_av n cur) ∧ (X_av n cur) < n := by omega
        refine Or.inr ⟨?_, 1, pl (X_av n cur), (X_av n cur, rc, kc, wc, rn, lo, kn, ab, D, W), by omega, ⟨h802, ⟨h807, h815, h816, h817⟩, hb812, hs806, hc813⟩, (((X_Fr.rf).tr (X_Fr.mono ⟨h585.1, h585.2⟩ (fun q hq => (by omega)))).tr (X_Fr.of n799 e800 (by first | decide | exact ⟨Nat.le_add_right _ _, Nat.add_le_add_left (by decide) _⟩ | omega))).tr (X_Fr.of n803 e804 (by first | decide | exact ⟨Nat.le_add_right _ _, Nat.add_le_add_left (by decide) _⟩ | omega))⟩
        simp only [sp_rank]
        (repeat' split) <;> first | rfl | (exfalso; omega) | contradiction
  · skip
    have c580 : ¬ (¬ rc = 12) := c580
    refine T_p xr_69_12 xn_69 (pc' := 13) (ls' := [(0, .ref 496)]) (st' := [.ref 496]) rfl ?_
    refine T_cv (S := S) (q := 496) xr_69_13 xf_67.1 xf_67.2.1 xn_67 (as := []) (r := []) rfl hp (Nat.le_of_ble_eq_true rfl) (Nat.le_of_ble_eq_true rfl) (pc' := 16) rfl (ls' := [(0, .ref 496)]) rfl ?_
    refine T_p xr_67_0 xn_67 (pc' := 1) (ls' := [(0, .ref 496)]) (st' := [.ref 496]) rfl ?_
    refine T_p xr_67_1 xn_67 (pc' := 2) (ls' := [(0, .ref 496)]) (st' := [.ref 496, .ref 496]) rfl ?_
    refine T_get xr_67_2 hp rfl (v := .ref 497) rfl (pc' := 5) rfl ?_
    refine T_cv (S := S) (q := 497) xr_67_5 xf_48.1 xf_48.2.1 xn_48 (as := []) (r := [.ref 496]) rfl hx.1 (Nat.le_of_ble_eq_true rfl) (Nat.le_of_ble_eq_true rfl) (pc' := 8) rfl (ls' := [(0, .ref 497)]) rfl ?_
    refine T_mono (c_sort sc S at_ n cur so pl ct ⟨hx.1, hx.2.1, hx.2.2.1, hx.2.2.2⟩ (by omega)) (fun v819 S820 h818 => ?_)
    obtain ⟨h821, h822⟩ := h818
    rw [h821, h822]
    show X_T sc 67 (8, [(0, .ref 496)], [.int (iI (so cur)), .ref 496], S) _
    have hs823 := hso cur (by omega) (by omega)
    refine T_p xr_67_8 xn_67 (pc' := 9) (ls' := [(0, .ref 496)]) (st' := [.int (iI 1), .int (iI (so cur)), .ref 496]) rfl ?_
    refine T_zicmp_ne xr_67_9 (t := 16) (pc' := 12) rfl rfl (fun c824 => ?_) (fun c824 => ?_)
    · skip
      have c824 : ¬ (so cur) = 1 := c824
      refine T_p xr_67_16 xn_67 (pc' := 17) (ls' := [(0, .ref 496)]) (st' := [.int (iI 2), .ref 496]) rfl ?_
      refine T_p xr_67_17 xn_67 (pc' := 18) (ls' := [(0, .ref 496)]) (st' := [.ref 496, .int (iI 2), .ref 496]) rfl ?_
      refine T_get xr_67_18 hp rfl (v := .ref 497) rfl (pc' := 21) rfl ?_
      refine T_cv (S := S) (q := 497) xr_67_21 xf_49.1 xf_49.2.1 xn_49 (as := []) (r := [.int (iI 2), .ref 496]) rfl hx.1 (Nat.le_of_ble_eq_true rfl) (Nat.le_of_ble_eq_true rfl) (pc' := 24) rfl (ls' := [(0, .ref 497)]) rfl ?_
      refine T_mono (c_place sc S at_ n cur so pl ct ⟨hx.1, hx.2.1, hx.2.2.1, hx.2.2.2⟩ (by omega)) (fun v826 S827 h825 => ?_)
      obtain ⟨h828, h829⟩ := h825
      rw [h828, h829]
      show X_T sc 67 (24, [(0, .ref 496)], [.int (iI (pl cur)), .int (iI 2), .ref 496], S) _
      refine T_cv (S := S) (q := 496) xr_67_24 xf_66.1 xf_66.2.1 xn_66 (as := [.int (iI 2), .int (iI (pl cur))]) (r := []) rfl hp (Nat.le_of_ble_eq_true rfl) (Nat.le_of_ble_eq_true rfl) (pc' := 27) rfl (ls' := [(0, .ref 496), (1, .int (iI 2)), (2, .int (iI (pl cur)))]) rfl ?_
      refine T_p xr_66_0 xn_66 (pc' := 1) (ls' := [(0, .ref 496), (1, .int (iI 2)), (2, .int (iI (pl cur)))]) (st' := [.ref 496]) rfl ?_
      refine T_p xr_66_1 xn_66 (pc' := 2) (ls' := [(0, .ref 496), (1, .int (iI 2)), (2, .int (iI (pl cur)))]) (st' := [.int (iI 2), .ref 496]) rfl ?_
      refine T_put xr_66_2 hp rfl (Nat.le_of_ble_eq_true rfl) rfl (fs' := [.ref 497, .ref B, .int (iI 2), .int (iI fp)]) rfl (pc' := 5) rfl (fun S830 h831 n832 e833 => ?_)
      refine T_p xr_66_5 xn_66 (pc' := 6) (ls' := [(0, .ref 496), (1, .int (iI 2)), (2, .int (iI (pl cur)))]) (st' := [.ref 496]) rfl ?_
      refine T_p xr_66_6 xn_66 (pc' := 7) (ls' := [(0, .ref 496), (1, .int (iI 2)), (2, .int (iI (pl cur)))]) (st' := [.int (iI (pl cur)), .ref 496]) rfl ?_
      refine T_put xr_66_7 h831 rfl (Nat.le_of_ble_eq_true rfl) rfl (fs' := [.ref 497, .ref B, .int (iI 2), .int (iI (pl cur))]) rfl (pc' := 10) rfl (fun S834 h835 n836 e837 => ?_)
      refine T_vret xr_66_10 xf_66.2.2 ?_
      show X_T sc 67 (27, [(0, .ref 496)], [], S834) _
      refine T_vret xr_67_27 xf_67.2.2 ?_
      show X_T sc 69 (16, [(0, .ref 496)], [], S834) _
      refine T_vret xr_69_16 xf_69.2.2 ?_
      refine hQ _ _ ?_
      have h838 := (n836 B (by omega)).trans ((n832 B (by omega)).trans (hb0))
      have hs839 : C_ws S834 B D W := C_ws.fr (P := fun r => ¬ (B + 6 ≤ r ∧ r < B + 246)) hs (((X_Fr.rf).tr (X_Fr.of n832 e833 (by first | decide | exact ⟨Nat.le_add_right _ _, Nat.add_le_add_left (by decide) _⟩ | omega))).tr (X_Fr.of n836 e837 (by first | decide | exact ⟨Nat.le_add_right _ _, Nat.add_le_add_left (by decide) _⟩ | omega))) (fun k h1 h2 => by omega)
      have h840 := (n836 497 (by decide)).trans ((n832 497 (by decide)).trans (hx.1))
      have h841 := (n836 (B + 1) (by first | exact (fun h => absurd (Nat.add_left_cancel h) (by decide)) | omega)).trans ((n832 (B + 1) (by first | exact (fun h => absurd (Nat.add_left_cancel h) (by decide)) | omega)).trans (hb1))
      have h842 := (n836 (B + 2) (by first | exact (fun h => absurd (Nat.add_left_cancel h) (by decide)) | omega)).trans ((n832 (B + 2) (by first | exact (fun h => absurd (Nat.add_left_cancel h) (by decide)) | omega)).trans (hb2))
      have h843 := (n836 (B + 3) (by first | exact (fun h => absurd (Nat.add_left_cancel h) (by decide)) | omega)).trans ((n832 (B + 3) (by first | exact (fun h => absurd (Nat.add_left_cancel h) (by decide)) | omega)).trans (hb3))
      have h844 := (n836 (B + 4) (by first | exact (fun h => absurd (Nat.add_left_cancel h) (by decide)) | omega)).trans ((n832 (B + 4) (by first | exact (fun h => absurd (Nat.add_left_cancel h) (by decide)) | omega)).trans (hb4))
      have h847 := (n836 (B + 5) (by first | exact (fun h => absurd (Nat.add_left_cancel h) (by decide)) | omega)).trans ((n832 (B + 5) (by first | exact (fun h => absurd (Nat.add_left_cancel h) (by decide)) | omega)).trans (hb5))
      have h848 := (n836 498 (by decide)).trans ((n832 498 (by decide)).trans (hx.2.1))
      have h849 := (n836 499 (by decide)).trans ((n832 499 (by decide)).trans (hx.2.2.1))
      have h850 := (n836 500 (by decide)).trans ((n832 500 (by decide)).trans (hx.2.2.2))
      have hb845 : C_bk S834 B rc kc wc rn lo kn ab := ⟨h838, h841, h842, h843, h844, ⟨f, h847, hf⟩, ⟨by omega, by omega⟩, ⟨by omega, by omega⟩, ⟨by omega, by omega⟩⟩
      have hc846 : 0 ≤ cur ∧ cur < n := by omega
      refine Or.inr ⟨?_, 2, pl cur, (cur, rc, kc, wc, rn, lo, kn, ab, D, W), by omega, ⟨h835, ⟨h840, h848, h849, h850⟩, hb845, hs839, hc846⟩, ((X_Fr.rf).tr (X_Fr.of n832 e833 (by first | decide | exact ⟨Nat.le_add_right _ _, Nat.add_le_add_left (by decide) _⟩ | omega))).tr (X_Fr.of n836 e837 (by first | decide | exact ⟨Nat.le_add_right _ _, Nat.add_le_add_left (by decide) _⟩ | omega))⟩
      simp only [sp_rank]
      (repeat' split) <;> first | rfl | (exfalso; omega) | contradiction
    · skip
      have c824 : ¬ (¬ (so cur) = 1) := c824
      refine T_p xr_67_12 xn_67 (pc' := 13) (ls' := [(0, .ref 496)]) (st' := [.int (iI 1), .ref 496]) rfl ?_
      refine T_p xr_67_13 xn_67 (pc' := 17) (ls' := [(0, .ref 496)]) (st' := [.int (iI 1), .ref 496]) rfl ?_
      refine T_p xr_67_17 xn_67 (pc' := 18) (ls' := [(0, .ref 496)]) (st' := [.ref 496, .int (iI 1), .ref 496]) rfl ?_
      refine T_get xr_67_18 hp rfl (v := .ref 497) rfl (pc' := 21) rfl ?_
      refine T_cv (S := S) (q := 497) xr_67_21 xf_49.1 xf_49.2.1 xn_49 (as := []) (r := [.int (iI 1), .ref 496]) rfl hx.1 (Nat.le_of_ble_eq_true rfl) (Nat.le_of_ble_eq_true rfl) (pc' := 24) rfl (ls' := [(0, .ref 497)]) rfl ?_
      refine T_mono (c_place sc S at_ n cur so pl ct ⟨hx.1, hx.2.1, hx.2.2.1, hx.2.2.2⟩ (by omega)) (fun v852 S853 h851 => ?_)
      obtain ⟨h854, h855⟩ := h851
      rw [h854, h855]
      show X_T sc 67 (24, [(0, .ref 496)], [.int (iI (pl cur)), .int (iI 1), .ref 496], S) _
      refine T_cv (S := S) (q := 496) xr_67_24 xf_66.1 xf_66.2.1 xn_66 (as := [.int (iI 1), .int (iI (pl cur))]) (r := []) rfl hp (Nat.le_of_ble_eq_true rfl) (Nat.le_of_ble_eq_true rfl) (pc' := 27) rfl (ls' := [(0, .ref 496), (1, .int (iI 1)), (2, .int (iI (pl cur)))]) rfl ?_
      refine T_p xr_66_0 xn_66 (pc' := 1) (ls' := [(0, .ref 496), (1, .int (iI 1)), (2, .int (iI (pl cur)))]) (st' := [.ref 496]) rfl ?_
      refine T_p xr_66_1 xn_66 (pc' := 2) (ls' := [(0, .ref 496), (1, .int (iI 1)), (2, .int (iI (pl cur)))]) (st' := [.int (iI 1), .ref 496]) rfl ?_
      refine T_put xr_66_2 hp rfl (Nat.le_of_ble_eq_true rfl) rfl (fs' := [.ref 497, .ref B, .int (iI 1), .int (iI fp)]) rfl (pc' := 5) rfl (fun S856 h857 n858 e859 => ?_)
      refine T_p xr_66_5 xn_66 (pc' := 6) (ls' := [(0, .ref 496), (1, .int (iI 1)), (2, .int (iI (pl cur)))]) (st' := [.ref 496]) rfl ?_
      refine T_p xr_66_6 xn_66 (pc' := 7) (ls' := [(0, .ref 496), (1, .int (iI 1)), (2, .int (iI (pl cur)))]) (st' := [.int (iI (pl cur)), .ref 496]) rfl ?_
      refine T_put xr_66_7 h857 rfl (Nat.le_of_ble_eq_true rfl) rfl (fs' := [.ref 497, .ref B, .int (iI 1), .int (iI (pl cur))]) rfl (pc' := 10) rfl (fun S860 h861 n862 e863 => ?_)
      refine T_vret xr_66_10 xf_66.2.2 ?_
      show X_T sc 67 (27, [(0, .ref 496)], [], S860) _
      refine T_vret xr_67_27 xf_67.2.2 ?_
      show X_T sc 69 (16, [(0, .ref 496)], [], S860) _
      refine T_vret xr_69_16 xf_69.2.2 ?_
      refine hQ _ _ ?_
      have h864 := (n862 B (by omega)).trans ((n858 B (by omega)).trans (hb0))
      have hs865 : C_ws S860 B D W := C_ws.fr (P := fun r => ¬ (B + 6 ≤ r ∧ r < B + 246)) hs (((X_Fr.rf).tr (X_Fr.of n858 e859 (by first | decide | exact ⟨Nat.le_add_right _ _, Nat.add_le_add_left (by decide) _⟩ | omega))).tr (X_Fr.of n862 e863 (by first | decide | exact ⟨Nat.le_add_right _ _, Nat.add_le_add_left (by decide) _⟩ | omega))) (fun k h1 h2 => by omega)
      have h866 := (n862 497 (by decide)).trans ((n858 497 (by decide)).trans (hx.1))
      have h867 := (n862 (B + 1) (by first | exact (fun h => absurd (Nat.add_left_cancel h) (by decide)) | omega)).trans ((n858 (B + 1) (by first | exact (fun h => absurd (Nat.add_left_cancel h) (by decide)) | omega)).trans (hb1))
      have h868 := (n862 (B + 2) (by first | exact (fun h => absurd (Nat.add_left_cancel h) (by decide)) | omega)).trans ((n858 (B + 2) (by first | exact (fun h => absurd (Nat.add_left_cancel h) (by decide)) | omega)).trans (hb2))
      have h869 := (n862 (B + 3) (by first | exact (fun h => absurd (Nat.add_left_cancel h) (by decide)) | omega)).trans ((n858 (B + 3) (by first | exact (fun h => absurd (Nat.add_left_cancel h) (by decide)) | omega)).trans (hb3))
      have h870 := (n862 (B + 4) (by first | exact (fun h => absurd (Nat.add_left_cancel h) (by decide)) | omega)).trans ((n858 (B + 4) (by first | exact (fun h => absurd (Nat.add_left_cancel h) (by decide)) | omega)).trans (hb4))
      have h873 := (n862 (B + 5) (by first | exact (fun h => absurd (Nat.add_left_cancel h) (by decide)) | omega)).trans ((n858 (B + 5) (by first | exact (fun h => absurd (Nat.add_left_cancel h) (by decide)) | omega)).trans (hb5))
      have h874 := (n862 498 (by decide)).trans ((n858 498 (by decide)).trans (hx.2.1))
      have h875 := (n862 499 (by decide)).trans ((n858 499 (by decide)).trans (hx.2.2.1))
      have h876 := (n862 500 (by decide)).trans ((n858 500 (by decide)).trans (hx.2.2.2))
      have hb871 : C_bk S860 B rc kc wc rn lo kn ab := ⟨h864, h867, h868, h869, h870, ⟨f, h873, hf⟩, ⟨by omega, by omega⟩, ⟨by omega, by omega⟩, ⟨by omega, by omega⟩⟩
      have hc872 : 0 ≤ cur ∧ cur < n := by omega
      refine Or.inr ⟨?_, 1, pl cur, (cur, rc, kc, wc, rn, lo, kn, ab, D, W), by omega, ⟨h861, ⟨h866, h874, h875, h876⟩, hb871, hs865, hc872⟩, ((X_Fr.rf).tr (X_Fr.of n858 e859 (by first | decide | exact ⟨Nat.le_add_right _ _, Nat.add_le_add_left (by decide) _⟩ | omega))).tr (X_Fr.of n862 e863 (by first | decide | exact ⟨Nat.le_add_right _ _, Nat.add_le_add_left (by decide) _⟩ | omega))⟩
      simp only [sp_rank]
      (repeat' split) <;> first | rfl | (exfalso; omega) | contradiction
end
