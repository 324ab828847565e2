theorem xr_23_0 : X_row 23 0 = some (0, (.aload_n 0, 1), (0, 0, 0)) := by decide +kernel
theorem xr_23_1 : X_row 23 1 = some (1, (.getfield 22, 3), (1, 5, 32)) := by decide +kernel
theorem xr_23_4 : X_row 23 4 = some (4, (.iload_n 1, 1), (0, 0, 0)) := by decide +kernel
theorem xr_23_5 : X_row 23 5 = some (5, (.iload_n 2, 1), (0, 0, 0)) := by decide +kernel
theorem xr_23_6 : X_row 23 6 = some (6, (.invokestatic 40, 3), (24, 2, 0)) := by decide +kernel
theorem xr_23_9 : X_row 23 9 = some (9, (.laload, 1), (0, 0, 0)) := by decide +kernel
theorem xr_23_10 : X_row 23 10 = some (10, (.lreturn, 1), (0, 0, 0)) := by decide +kernel
theorem xr_122_0 : X_row 122 0 = some (0, (.iload_n 1, 1), (0, 0, 0)) := by decide +kernel
theorem xr_122_1 : X_row 122 1 = some (1, (.ifCond .lt 19, 3), (0, 0, 0)) := by decide +kernel
theorem xr_122_4 : X_row 122 4 = some (4, (.iload_n 2, 1), (0, 0, 0)) := by decide +kernel
theorem xr_122_5 : X_row 122 5 = some (5, (.aload_n 0, 1), (0, 0, 0)) := by decide +kernel
theorem xr_122_6 : X_row 122 6 = some (6, (.getfield 38, 3), (10, 4, 56)) := by decide +kernel
theorem xr_122_9 : X_row 122 9 = some (9, (.getfield 88, 3), (6, 0, 31)) := by decide +kernel
theorem xr_122_12 : X_row 122 12 = some (12, (.if_icmp .gt 8, 3), (0, 0, 0)) := by decide +kernel
theorem xr_122_15 : X_row 122 15 = some (15, (.iload_n 1, 1), (0, 0, 0)) := by decide +kernel
theorem xr_122_16 : X_row 122 16 = some (16, (.iload_n 2, 1), (0, 0, 0)) := by decide +kernel
theorem xr_122_17 : X_row 122 17 = some (17, (.if_icmp .lt 5, 3), (0, 0, 0)) := by decide +kernel
theorem xr_122_20 : X_row 122 20 = some (20, (.lconst 0, 1), (0, 0, 0)) := by decide +kernel
theorem xr_122_21 : X_row 122 21 = some (21, (.lreturn, 1), (0, 0, 0)) := by decide +kernel
theorem xr_122_22 : X_row 122 22 = some (22, (.aload_n 0, 1), (0, 0, 0)) := by decide +kernel
theorem xr_122_23 : X_row 122 23 = some (23, (.getfield 54, 3), (10, 6, 60)) := by decide +kernel
theorem xr_122_26 : X_row 122 26 = some (26, (.invokevirtual 159, 3), (31, 42, 0)) := by decide +kernel
theorem xr_122_29 : X_row 122 29 = some (29, (.aload_n 0, 1), (0, 0, 0)) := by decide +kernel
theorem xr_122_30 : X_row 122 30 = some (30, (.getfield 54, 3), (10, 6, 60)) := by decide +kernel
theorem xr_122_33 : X_row 122 33 = some (33, (.iload_n 1, 1), (0, 0, 0)) := by decide +kernel
theorem xr_122_34 : X_row 122 34 = some (34, (.iload_n 2, 1), (0, 0, 0)) := by decide +kernel
theorem xr_122_35 : X_row 122 35 = some (35, (.invokevirtual 162, 3), (23, 44, 0)) := by decide +kernel
theorem xr_122_38 : X_row 122 38 = some (38, (.lreturn, 1), (0, 0, 0)) := by decide +kernel
theorem xr_123_0 : X_row 123 0 = some (0, (.aload_n 0, 1), (0, 0, 0)) := by decide +kernel
theorem xr_123_1 : X_row 123 1 = some (1, (.getfield 54, 3), (10, 6, 60)) := by decide +kernel
theorem xr_123_4 : X_row 123 4 = some (4, (.invokevirtual 159, 3), (31, 42, 0)) := by decide +kernel
theorem xr_123_7 : X_row 123 7 = some (7, (.iconst 1, 1), (0, 0, 0)) := by decide +kernel
theorem xr_123_8 : X_row 123 8 = some (8, (.istore_n 1, 1), (0, 0, 0)) := by decide +kernel
theorem xr_123_9 : X_row 123 9 = some (9, (.iload_n 1, 1), (0, 0, 0)) := by decide +kernel
theorem xr_123_10 : X_row 123 10 = some (10, (.aload_n 0, 1), (0, 0, 0)) := by decide +kernel
theorem xr_123_11 : X_row 123 11 = some (11, (.getfield 38, 3), (10, 4, 56)) := by decide +kernel
theorem xr_123_14 : X_row 123 14 = some (14, (.getfield 88, 3), (6, 0, 31)) := by decide +kernel
theorem xr_123_17 : X_row 123 17 = some (17, (.if_icmp .gt 63, 3), (0, 0, 0)) := by decide +kernel
theorem xr_123_20 : X_row 123 20 = some (20, (.iconst 0, 1), (0, 0, 0)) := by decide +kernel
theorem xr_123_21 : X_row 123 21 = some (21, (.istore_n 2, 1), (0, 0, 0)) := by decide +kernel
theorem xr_123_22 : X_row 123 22 = some (22, (.iload_n 2, 1), (0, 0, 0)) := by decide +kernel
theorem xr_123_23 : X_row 123 23 = some (23, (.iload_n 1, 1), (0, 0, 0)) := by decide +kernel
theorem xr_123_24 : X_row 123 24 = some (24, (.iadd, 1), (0, 0, 0)) := by decide +kernel
theorem xr_123_25 : X_row 123 25 = some (25, (.aload_n 0, 1), (0, 0, 0)) := by decide +kernel
theorem xr_123_26 : X_row 123 26 = some (26, (.getfield 38, 3), (10, 4, 56)) := by decide +kernel
theorem xr_123_29 : X_row 123 29 = some (29, (.getfield 88, 3), (6, 0, 31)) := by decide +kernel
theorem xr_123_32 : X_row 123 32 = some (32, (.if_icmp .gt 42, 3), (0, 0, 0)) := by decide +kernel
theorem xr_123_35 : X_row 123 35 = some (35, (.aload_n 0, 1), (0, 0, 0)) := by decide +kernel
theorem xr_123_36 : X_row 123 36 = some (36, (.getfield 54, 3), (10, 6, 60)) := by decide +kernel
theorem xr_123_39 : X_row 123 39 = some (39, (.iload_n 2, 1), (0, 0, 0)) := by decide +kernel
theorem xr_123_40 : X_row 123 40 = some (40, (.iload_n 2, 1), (0, 0, 0)) := by decide +kernel
theorem xr_123_41 : X_row 123 41 = some (41, (.iload_n 1, 1), (0, 0, 0)) := by decide +kernel
theorem xr_123_42 : X_row 123 42 = some (42, (.iadd, 1), (0, 0, 0)) := by decide +kernel
theorem xr_123_43 : X_row 123 43 = some (43, (.invokevirtual 162, 3), (23, 44, 0)) := by decide +kernel
theorem xr_123_46 : X_row 123 46 = some (46, (.lstore_n 3, 1), (0, 0, 0)) := by decide +kernel
theorem xr_123_47 : X_row 123 47 = some (47, (.lload_n 3, 1), (0, 0, 0)) := by decide +kernel
theorem xr_123_48 : X_row 123 48 = some (48, (.lconst 1, 1), (0, 0, 0)) := by decide +kernel
theorem xr_123_49 : X_row 123 49 = some (49, (.lcmp, 1), (0, 0, 0)) := by decide +kernel
theorem xr_123_50 : X_row 123 50 = some (50, (.ifCond .gt 11, 3), (0, 0, 0)) := by decide +kernel
theorem xr_123_53 : X_row 123 53 = some (53, (.lload_n 3, 1), (0, 0, 0)) := by decide +kernel
theorem xr_123_54 : X_row 123 54 = some (54, (.ldc2_w 166, 3), (18446744073709551614, 863, 0)) := by decide +kernel
theorem xr_123_57 : X_row 123 57 = some (57, (.lcmp, 1), (0, 0, 0)) := by decide +kernel
theorem xr_123_58 : X_row 123 58 = some (58, (.ifCond .ne 10, 3), (0, 0, 0)) := by decide +kernel
theorem xr_123_61 : X_row 123 61 = some (61, (.bipush 100, 2), (0, 0, 0)) := by decide +kernel
theorem xr_123_63 : X_row 123 63 = some (63, (.iload_n 2, 1), (0, 0, 0)) := by decide +kernel
theorem xr_123_64 : X_row 123 64 = some (64, (.imul, 1), (0, 0, 0)) := by decide +kernel
theorem xr_123_65 : X_row 123 65 = some (65, (.iload_n 1, 1), (0, 0, 0)) := by decide +kernel
theorem xr_123_66 : X_row 123 66 = some (66, (.iadd, 1), (0, 0, 0)) := by decide +kernel
theorem xr_123_67 : X_row 123 67 = some (67, (.ireturn, 1), (0, 0, 0)) := by decide +kernel
theorem xr_123_68 : X_row 123 68 = some (68, (.iinc 2 1, 3), (0, 0, 0)) := by decide +kernel
theorem xr_123_71 : X_row 123 71 = some (71, (.goto (-49), 3), (0, 0, 0)) := by decide +kernel
theorem xr_123_74 : X_row 123 74 = some (74, (.iinc 1 1, 3), (0, 0, 0)) := by decide +kernel
theorem xr_123_77 : X_row 123 77 = some (77, (.goto (-68), 3), (0, 0, 0)) := by decide +kernel
theorem xr_123_80 : X_row 123 80 = some (80, (.iconst (-1), 1), (0, 0, 0)) := by decide +kernel
theorem xr_123_81 : X_row 123 81 = some (81, (.ireturn, 1), (0, 0, 0)) := by decide +kernel
theorem xr_124_0 : X_row 124 0 = some (0, (.lload_n 1, 1), (0, 0, 0)) := by decide +kernel
theorem xr_124_1 : X_row 124 1 = some (1, (.lconst 0, 1), (0, 0, 0)) := by decide +kernel
theorem xr_124_2 : X_row 124 2 = some (2, (.lcmp, 1), (0, 0, 0)) := by decide +kernel
theorem xr_124_3 : X_row 124 3 = some (3, (.ifCond .lt 13, 3), (0, 0, 0)) := by decide +kernel
theorem xr_124_6 : X_row 124 6 = some (6, (.aload_n 0, 1), (0, 0, 0)) := by decide +kernel
theorem xr_124_7 : X_row 124 7 = some (7, (.getfield 38, 3), (10, 4, 56)) := by decide +kernel
theorem xr_124_10 : X_row 124 10 = some (10, (.getfield 88, 3), (6, 0, 31)) := by decide +kernel
theorem xr_124_13 : X_row 124 13 = some (13, (.ifCond .ne 5, 3), (0, 0, 0)) := by decide +kernel
theorem xr_124_16 : X_row 124 16 = some (16, (.iconst (-1), 1), (0, 0, 0)) := by decide +kernel
theorem xr_124_17 : X_row 124 17 = some (17, (.ireturn, 1), (0, 0, 0)) := by decide +kernel
theorem xr_124_18 : X_row 124 18 = some (18, (.aload_n 0, 1), (0, 0, 0)) := by decide +kernel
theorem xr_124_19 : X_row 124 19 = some (19, (.getfield 54, 3), (10, 6, 60)) := by decide +kernel
theorem xr_124_22 : X_row 124 22 = some (22, (.invokevirtual 159, 3), (31, 42, 0)) := by decide +kernel
theorem xr_124_25 : X_row 124 25 = some (25, (.aload_n 0, 1), (0, 0, 0)) := by decide +kernel
theorem xr_124_26 : X_row 124 26 = some (26, (.getfield 54, 3), (10, 6, 60)) := by decide +kernel
theorem xr_124_29 : X_row 124 29 = some (29, (.iconst 0, 1), (0, 0, 0)) := by decide +kernel
theorem xr_124_30 : X_row 124 30 = some (30, (.aload_n 0, 1), (0, 0, 0)) := by decide +kernel
theorem xr_124_31 : X_row 124 31 = some (31, (.getfield 38, 3), (10, 4, 56)) := by decide +kernel
theorem xr_124_34 : X_row 124 34 = some (34, (.getfield 88, 3), (6, 0, 31)) := by decide +kernel
theorem xr_124_37 : X_row 124 37 = some (37, (.invokevirtual 162, 3), (23, 44, 0)) := by decide +kernel
theorem xr_124_40 : X_row 124 40 = some (40, (.lstore_n 3, 1), (0, 0, 0)) := by decide +kernel
theorem xr_124_41 : X_row 124 41 = some (41, (.lload_n 3, 1), (0, 0, 0)) := by decide +kernel
theorem xr_124_42 : X_row 124 42 = some (42, (.ldc2_w 166, 3), (18446744073709551614, 863, 0)) := by decide +kernel
theorem xr_124_45 : X_row 124 45 = some (45, (.lcmp, 1), (0, 0, 0)) := by decide +kernel
theorem xr_124_46 : X_row 124 46 = some (46, (.ifCond .eq 11, 3), (0, 0, 0)) := by decide +kernel
theorem xr_124_49 : X_row 124 49 = some (49, (.lload_n 1, 1), (0, 0, 0)) := by decide +kernel
theorem xr_124_50 : X_row 124 50 = some (50, (.lload_n 3, 1), (0, 0, 0)) := by decide +kernel
theorem xr_124_51 : X_row 124 51 = some (51, (.lcmp, 1), (0, 0, 0)) := by decide +kernel
theorem xr_124_52 : X_row 124 52 = some (52, (.ifCond .lt 5, 3), (0, 0, 0)) := by decide +kernel
theorem xr_124_55 : X_row 124 55 = some (55, (.iconst (-1), 1), (0, 0, 0)) := by decide +kernel
theorem xr_124_56 : X_row 124 56 = some (56, (.ireturn, 1), (0, 0, 0)) := by decide +kernel
theorem xr_124_57 : X_row 124 57 = some (57, (.aload_n 0, 1), (0, 0, 0)) := by decide +kernel
theorem xr_124_58 : X_row 124 58 = some (58, (.getfield 63, 3), (10, 7, 62)) := by decide +kernel
theorem xr_124_61 : X_row 124 61 = some (61, (.lload_n 1, 1), (0, 0, 0)) := by decide +kernel
theorem xr_124_62 : X_row 124 62 = some (62, (.invokevirtual 168, 3), (40, 46, 0)) := by decide +kernel
theorem xr_124_65 : X_row 124 65 = some (65, (.aload_n 0, 1), (0, 0, 0)) := by decide +kernel
theorem xr_124_66 : X_row 124 66 = some (66, (.getfield 72, 3), (10, 8, 64)) := by decide +kernel
theorem xr_124_69 : X_row 124 69 = some (69, (.invokevirtual 172, 3), (105, 26, 0)) := by decide +kernel
theorem xr_124_72 : X_row 124 72 = some (72, (.aload_n 0, 1), (0, 0, 0)) := by decide +kernel
theorem xr_124_73 : X_row 124 73 = some (73, (.getfield 45, 3), (10, 5, 58)) := by decide +kernel
theorem xr_124_76 : X_row 124 76 = some (76, (.getfield 109, 3), (5, 0, 33)) := by decide +kernel
theorem xr_124_79 : X_row 124 79 = some (79, (.ireturn, 1), (0, 0, 0)) := by decide +kernel
theorem xr_127_0 : X_row 127 0 = some (0, (.aload_n 0, 1), (0, 0, 0)) := by decide +kernel
theorem xr_127_1 : X_row 127 1 = some (1, (.getfield 45, 3), (10, 5, 58)) := by decide +kernel
theorem xr_127_4 : X_row 127 4 = some (4, (.getfield 109, 3), (5, 0, 33)) := by decide +kernel
theorem xr_127_7 : X_row 127 7 = some (7, (.ifCond .ne 7, 3), (0, 0, 0)) := by decide +kernel
theorem xr_127_10 : X_row 127 10 = some (10, (.iconst (-1), 1), (0, 0, 0)) := by decide +kernel
theorem xr_127_11 : X_row 127 11 = some (11, (.goto 14, 3), (0, 0, 0)) := by decide +kernel
theorem xr_127_14 : X_row 127 14 = some (14, (.aload_n 0, 1), (0, 0, 0)) := by decide +kernel
theorem xr_127_15 : X_row 127 15 = some (15, (.getfield 72, 3), (10, 8, 64)) := by decide +kernel
theorem xr_127_18 : X_row 127 18 = some (18, (.aload_n 0, 1), (0, 0, 0)) := by decide +kernel
theorem xr_127_19 : X_row 127 19 = some (19, (.getfield 19, 3), (10, 1, 50)) := by decide +kernel
theorem xr_127_22 : X_row 127 22 = some (22, (.invokevirtual 197, 3), (106, 48, 0)) := by decide +kernel
theorem xr_127_25 : X_row 127 25 = some (25, (.ireturn, 1), (0, 0, 0)) := by decide +kernel
theorem xn_23 : X_nL 23 = 3 := by decide +kernel
theorem xf_23 : X_na 23 = 2 ∧ X_ci 23 = 1 ∧ X_rt 23 = (some .long) := by decide +kernel
theorem xn_122 : X_nL 122 = 3 := by decide +kernel
theorem xf_122 : X_na 122 = 2 ∧ X_ci 122 = 10 ∧ X_rt 122 = (some .long) := by decide +kernel
theorem xn_123 : X_nL 123 = 5 := by decide +kernel
theorem xf_123 : X_na 123 = 0 ∧ X_ci 123 = 10 ∧ X_rt 123 = (some .int) := by decide +kernel
theorem xn_124 : X_nL 124 = 5 := by decide +kernel
theorem xf_124 : X_na 124 = 1 ∧ X_ci 124 = 10 ∧ X_rt 124 = (some .int) := by decide +kernel
theorem xn_127 : X_nL 127 = 1 := by decide +kernel
theorem xf_127 : X_na 127 = 0 ∧ X_ci 127 = 10 ∧ X_rt 127 = (some .int) := by decide +kernel
theorem c_count (sc : X_Sc) (S : X_S) (oK : Int → Int64) (oW : Int → Int64) (oA : Int → Int64) (oH : Int → Int64) (tl : Int → Int64) (B : Nat) (rc : Int) (rn : Int → Int64) (kn : Int → Int64) (G : X_G) (B2 : Nat) (tn : Int) (fl : Int) (i : Int) (j : Int) (hO1 : S.1 1 = .inr (10, [.ref 2, .ref B, .ref B2, .ref 496, .ref 501, .ref 504, .ref 511, .ref 517, .ref 527])) (hO501 : S.1 501 = .inr (6, [.int (iI tn), .ref 502, .ref 503])) (hO511 : S.1 511 = .inr (1, [.ref B, .ref 501, .int (iI fl), .ref 512, .ref 513, .ref 514, .ref 515, .ref 516])) (hA512 : S.1 512 = .inl (.long, 5115, .inr (.inl fun k : Nat => oK (k : Int)))) (hA513 : S.1 513 = .inl (.long, 13950, .inr (.inl fun k : Nat => oW (k : Int)))) (hA514 : S.1 514 = .inl (.long, 465, .inr (.inl fun k : Nat => oA (k : Int)))) (hA515 : S.1 515 = .inl (.long, 55800, .inr (.inl fun k : Nat => oH (k : Int)))) (hA516 : S.1 516 = .inl (.long, 7200, .inr (.inl fun k : Nat => tl (k : Int)))) (hB : B = 4 ∨ B = 250) (hb : C_bk S B rc (gk G) (gw G) rn (gl G) kn (ga G)) (hs : C_ws S B (gD G) (gW G)) (hG : X_Gok G) (hA502 : S.1 502 = .inl (.long, 30, .inr (.inl fun k : Nat => (gt G) (k : Int)))) (htn : 0 ≤ tn ∧ tn ≤ 30) (hfl : 0 ≤ fl ∧ fl ≤ 1) (hC : fl = 1 → X_cht G (-2) tn oK oW oA oH) (hi : -2147483648 ≤ i ∧ i ≤ 2147483647) (hj : -2147483648 ≤ j ∧ j ≤ 2147483647) : X_T sc 122 (0, [(0, .ref 1), (1, .int (iI i)), (2, .int (iI j))], [], S) (fun v S' => ∃ (oK1 : Int → Int64) (oW1 : Int → Int64) (oA1 : Int → Int64) (oH1 : Int → Int64) (tl1 : Int → Int64) (fl1 : Int), v = some (.long (X_qCt G tn i j)) ∧ (0 ≤ fl1 ∧ fl1 ≤ 1) ∧ (fl1 = 1 → X_cht G (-2) tn oK1 oW1 oA1 oH1) ∧ S'.1 511 = .inr (1, [.ref B, .ref 501, .int (iI fl1), .ref 512, .ref 513, .ref 514, .ref 515, .ref 516]) ∧ S'.1 512 = .inl (.long, 5115, .inr (.inl fun k : Nat => oK1 (k : Int))) ∧ S'.1 513 = .inl (.long, 13950, .inr (.inl fun k : Nat => oW1 (k : Int))) ∧ S'.1 514 = .inl (.long, 465, .inr (.inl fun k : Nat => oA1 (k : Int))) ∧ S'.1 515 = .inl (.long, 55800, .inr (.inl fun k : Nat => oH1 (k : Int))) ∧ S'.1 516 = .inl (.long, 7200, .inr (.inl fun k : Nat => tl1 (k : Int))) ∧ (X_Fr (fun q => 511 ≤ q ∧ q ≤ 516) S S')) := by
  obtain ⟨hb0, hb1, hb2, hb3, hb4, ⟨f, hb5, hf⟩, ⟨hrc, hrcb⟩, ⟨hkc, hkcb⟩, ⟨hwc, hwcb⟩⟩ := id hb
  refine X_QI (fun Q hQ => ?_)
  refine T_p xr_122_0 xn_122 (pc' := 1) (ls' := [(0, .ref 1), (1, .int (iI i)), (2, .int (iI j))]) (st' := [.int (iI i)]) rfl ?_
  refine T_zif_lt xr_122_1 (t := 20) (pc' := 4) rfl rfl (fun c2380 => ?_) (fun c2380 => ?_)
  · skip
    have c2380 : i < 0 := c2380
    refine T_p xr_122_20 xn_122 (pc' := 21) (ls' := [(0, .ref 1), (1, .int (iI i)), (2, .int (iI j))]) (st' := [.long (iL 0)]) rfl ?_
    refine T_lret xr_122_21 xf_122.2.2 rfl ?_
    refine hQ _ _ ?_
    exact ⟨oK, oW, oA, oH, tl, fl, (by rw [show X_qCt G tn i j = iL 0 from by unfold X_qCt; rw [if_neg (by omega)]]), hfl, hC, hO511, hA512, hA513, hA514, hA515, hA516, X_Fr.rf⟩
  · skip
    have c2380 : ¬ (i < 0) := c2380
    refine T_p xr_122_4 xn_122 (pc' := 5) (ls' := [(0, .ref 1), (1, .int (iI i)), (2, .int (iI j))]) (st' := [.int (iI j)]) rfl ?_
    refine T_p xr_122_5 xn_122 (pc' := 6) (ls' := [(0, .ref 1), (1, .int (iI i)), (2, .int (iI j))]) (st' := [.ref 1, .int (iI j)]) rfl ?_
    refine T_get xr_122_6 hO1 rfl (v := .ref 501) rfl (pc' := 9) rfl ?_
    refine T_get xr_122_9 hO501 rfl (v := .int (iI tn)) rfl (pc' := 12) rfl ?_
    refine T_zicmp_gt xr_122_12 (t := 20) (pc' := 15) rfl rfl (fun c2381 => ?_) (fun c2381 => ?_)
    · skip
      have c2381 : tn < j := c2381
      refine T_p xr_122_20 xn_122 (pc' := 21) (ls' := [(0, .ref 1), (1, .int (iI i)), (2, .int (iI j))]) (st' := [.long (iL 0)]) rfl ?_
      refine T_lret xr_122_21 xf_122.2.2 rfl ?_
      refine hQ _ _ ?_
      exact ⟨oK, oW, oA, oH, tl, fl, (by rw [show X_qCt G tn i j = iL 0 from by unfold X_qCt; rw [if_neg (by omega)]]), hfl, hC, hO511, hA512, hA513, hA514, hA515, hA516, X_Fr.rf⟩
    · skip
      have c2381 : ¬ (tn < j) := c2381
      refine T_p xr_122_15 xn_122 (pc' := 16) (ls' := [(0, .ref 1), (1, .int (iI i)), (2, .int (iI j))]) (st' := [.int (iI i)]) rfl ?_
      refine T_p xr_122_16 xn_122 (pc' := 17) (ls' := [(0, .ref 1), (1, .int (iI i)), (2, .int (iI j))]) (st' := [.int (iI j), .int (iI i)]) rfl ?_
      refine T_zicmp_lt xr_122_17 (t := 22) (pc' := 20) rfl rfl (fun c2382 => ?_) (fun c2382 => ?_)
      · skip
        have c2382 : i < j := c2382
        refine T_p xr_122_22 xn_122 (pc' := 23) (ls' := [(0, .ref 1), (1, .int (iI i)), (2, .int (iI j))]) (st' := [.ref 1]) rfl ?_
        refine T_get xr_122_23 hO1 rfl (v := .ref 511) rfl (pc' := 26) rfl ?_
        refine T_cv (S := S) (q := 511) xr_122_26 xf_31.1 xf_31.2.1 xn_31 (as := []) (r := []) rfl hO511 (Nat.le_of_ble_eq_true rfl) (Nat.le_of_ble_eq_true rfl) (pc' := 29) rfl (ls' := [(0, .ref 511)]) rfl ?_
        refine T_mono (c_fill sc S oK oW oA oH tl B rc rn kn G tn fl hO501 hO511 hA512 hA513 hA514 hA515 hA516 hB ⟨hb0, hb1, hb2, hb3, hb4, ⟨f, hb5, hf⟩, ⟨by omega, by omega⟩, ⟨by omega, by omega⟩, ⟨by omega, by omega⟩⟩ hs hG hA502 (by omega) (by omega) hC) (fun v2383 S2384 h2385 => ?_)
        rcases h2385 with ⟨oK2386, oW2387, oA2388, oH2389, tl2390, hv2391, hp2392, ho2393, ha2394, ha2395, ha2396, ha2397, ha2398, hf2399⟩
        rw [hv2391]
        show X_T sc 122 (29, [(0, .ref 1), (1, .int (iI i)), (2, .int (iI j))], [], S2384) _
        refine T_p xr_122_29 xn_122 (pc' := 30) (ls' := [(0, .ref 1), (1, .int (iI i)), (2, .int (iI j))]) (st' := [.ref 1]) rfl ?_
        have h2400 := (hf2399.1 1 (by omega)).trans (hO1)
        refine T_get xr_122_30 h2400 rfl (v := .ref 511) rfl (pc' := 33) rfl ?_
        refine T_p xr_122_33 xn_122 (pc' := 34) (ls' := [(0, .ref 1), (1, .int (iI i)), (2, .int (iI j))]) (st' := [.int (iI i), .ref 511]) rfl ?_
        refine T_p xr_122_34 xn_122 (pc' := 35) (ls' := [(0, .ref 1), (1, .int (iI i)), (2, .int (iI j))]) (st' := [.int (iI j), .int (iI i), .ref 511]) rfl ?_
        refine T_cv (S := S2384) (q := 511) xr_122_35 xf_23.1 xf_23.2.1 xn_23 (as := [.int (iI i), .int (iI j)]) (r := []) rfl ho2393 (Nat.le_of_ble_eq_true rfl) (Nat.le_of_ble_eq_true rfl) (pc' := 38) rfl (ls' := [(0, .ref 511), (1, .int (iI i)), (2, .int (iI j))]) rfl ?_
        refine T_p xr_23_0 xn_23 (pc' := 1) (ls' := [(0, .ref 511), (1, .int (iI i)), (2, .int (iI j))]) (st' := [.ref 511]) rfl ?_
        refine T_get xr_23_1 ho2393 rfl (v := .ref 514) rfl (pc' := 4) rfl ?_
        refine T_p xr_23_4 xn_23 (pc' := 5) (ls' := [(0, .ref 511), (1, .int (iI i)), (2, .int (iI j))]) (st' := [.int (iI i), .ref 514]) rfl ?_
        refine T_p xr_23_5 xn_23 (pc' := 6) (ls' := [(0, .ref 511), (1, .int (iI i)), (2, .int (iI j))]) (st' := [.int (iI j), .int (iI i), .ref 514]) rfl ?_
        refine T_cs xr_23_6 (by decide) xf_24.1 xn_24 (as := [.int (iI i), .int (iI j)]) (r := [.ref 514]) rfl (Nat.le_of_ble_eq_true rfl) (Nat.le_of_ble_eq_true rfl) (pc' := 9) rfl (ls' := [(0, .int (iI i)), (1, .int (iI j))]) rfl ?_
        refine T_mono (c_rowOf sc S2384 i j (by omega)) (fun v2401 S2402 h2403 => ?_)
        rcases h2403 with ⟨hv2404, hf2405⟩
        rw [hv2404]
        rw [hf2405]
        have hr2406 := X_ro_r (i := i) (j := j) (by omega) (by omega) (by omega)
        show X_T sc 23 (9, [(0, .ref 511), (1, .int (iI i)), (2, .int (iI j))], [.int (iI (X_ro i j)), .ref 514], S2384) _
        refine T_zlald xr_23_9 ha2396 (pc' := 10) rfl ?_
        refine T_le (y := (X_st (-2) (X_all G i j))) ((hp2392 i j (by omega) (by omega) (by omega)).2.2.1) ?_
        refine T_lret xr_23_10 xf_23.2.2 rfl ?_
        show X_T sc 122 (38, [(0, .ref 1), (1, .int (iI i)), (2, .int (iI j))], [.long (X_st (-2) (X_all G i j))], S2384) _
        refine T_lret xr_122_38 xf_122.2.2 rfl ?_
        refine hQ _ _ ?_
        exact ⟨oK2386, oW2387, oA2388, oH2389, tl2390, 1, (by rw [show X_qCt G tn i j = X_st (-2) (X_all G i j) from by unfold X_qCt; rw [if_pos (by omega)]]), (by omega), (fun _ => hp2392), ho2393, ha2394, ha2395, ha2396, ha2397, ha2398, (X_Fr.rf).tr (X_Fr.mono ⟨hf2399.1, hf2399.2⟩ (fun q hq => (by omega)))⟩
      · skip
        have c2382 : ¬ (i < j) := c2382
        refine T_p xr_122_20 xn_122 (pc' := 21) (ls' := [(0, .ref 1), (1, .int (iI i)), (2, .int (iI j))]) (st' := [.long (iL 0)]) rfl ?_
        refine T_lret xr_122_21 xf_122.2.2 rfl ?_
        refine hQ _ _ ?_
        exact ⟨oK, oW, oA, oH, tl, fl, (by rw [show X_qCt G tn i j = iL 0 from by unfold X_qCt; rw [if_neg (by omega)]]), hfl, hC, hO511, hA512, hA513, hA514, hA515, hA516, X_Fr.rf⟩
theorem c_quarrel (sc : X_Sc) (S : X_S) (oK : Int → Int64) (oW : Int → Int64) (oA : Int → Int64) (oH : Int → Int64) (tl : Int → Int64) (B : Nat) (rc : Int) (rn : Int → Int64) (kn : Int → Int64) (G : X_G) (B2 : Nat) (tn : Int) (fl : Int) (hO1 : S.1 1 = .inr (10, [.ref 2, .ref B, .ref B2, .ref 496, .ref 501, .ref 504, .ref 511, .ref 517, .ref 527])) (hO501 : S.1 501 = .inr (6, [.int (iI tn), .ref 502, .ref 503])) (hO511 : S.1 511 = .inr (1, [.ref B, .ref 501, .int (iI fl), .ref 512, .ref 513, .ref 514, .ref 515, .ref 516])) (hA512 : S.1 512 = .inl (.long, 5115, .inr (.inl fun k : Nat => oK (k : Int)))) (hA513 : S.1 513 = .inl (.long, 13950, .inr (.inl fun k : Nat => oW (k : Int)))) (hA514 : S.1 514 = .inl (.long, 465, .inr (.inl fun k : Nat => oA (k : Int)))) (hA515 : S.1 515 = .inl (.long, 55800, .inr (.inl fun k : Nat => oH (k : Int)))) (hA516 : S.1 516 = .inl (.long, 7200, .inr (.inl fun k : Nat => tl (k : Int)))) (hB : B = 4 ∨ B = 250) (hb : C_bk S B rc (gk G) (gw G) rn (gl G) kn (ga G)) (hs : C_ws S B (gD G) (gW G)) (hG : X_Gok G) (hA502 : S.1 502 = .inl (.long, 30, .inr (.inl fun k : Nat => (gt G) (k : Int)))) (htn : 0 ≤ tn ∧ tn ≤ 30) (hfl : 0 ≤ fl ∧ fl ≤ 1) (hC : fl = 1 → X_cht G (-2) tn oK oW oA oH) : X_T sc 123 (0, [(0, .ref 1)], [], S) (fun v S' => ∃ (oK1 : Int → Int64) (oW1 : Int → Int64) (oA1 : Int → Int64) (oH1 : Int → Int64) (tl1 : Int → Int64) (fl1 : Int) (r : Int), v = some (.int (iI r)) ∧ (0 ≤ fl1 ∧ fl1 ≤ 1) ∧ (fl1 = 1 → X_cht G (-2) tn oK1 oW1 oA1 oH1) ∧ X_qQu G tn r ∧ S'.1 511 = .inr (1, [.ref B, .ref 501, .int (iI fl1), .ref 512, .ref 513, .ref 514, .ref 515, .ref 516]) ∧ S'.1 512 = .inl (.long, 5115, .inr (.inl fun k : Nat => oK1 (k : Int))) ∧ S'.1 513 = .inl (.long, 13950, .inr (.inl fun k : Nat => oW1 (k : Int))) ∧ S'.1 514 = .inl (.long, 465, .inr (.inl fun k : Nat => oA1 (k : Int))) ∧ S'.1 515 = .inl (.long, 55800, .inr (.inl fun k : Nat => oH1 (k : Int))) ∧ S'.1 516 = .inl (.long, 7200, .inr (.inl fun k : Nat => tl1 (k : Int))) ∧ (X_Fr (fun q => 511 ≤ q ∧ q ≤ 516) S S')) := by
  obtain ⟨hb0, hb1, hb2, hb3, hb4, ⟨f, hb5, hf⟩, ⟨hrc, hrcb⟩, ⟨hkc, hkcb⟩, ⟨hwc, hwcb⟩⟩ := id hb
  refine X_QI (fun Q hQ => ?_)
  refine T_p xr_123_0 xn_123 (pc' := 1) (ls' := [(0, .ref 1)]) (st' := [.ref 1]) rfl ?_
  refine T_get xr_123_1 hO1 rfl (v := .ref 511) rfl (pc' := 4) rfl ?_
  refine T_cv (S := S) (q := 511) xr_123_4 xf_31.1 xf_31.2.1 xn_31 (as := []) (r := []) rfl hO511 (Nat.le_of_ble_eq_true rfl) (Nat.le_of_ble_eq_true rfl) (pc' := 7) rfl (ls' := [(0, .ref 511)]) rfl ?_
  refine T_mono (c_fill sc S oK oW oA oH tl B rc rn kn G tn fl hO501 hO511 hA512 hA513 hA514 hA515 hA516 hB ⟨hb0, hb1, hb2, hb3, hb4, ⟨f, hb5, hf⟩, ⟨by omega, by omega⟩, ⟨by omega, by omega⟩, ⟨by omega, by omega⟩⟩ hs hG hA502 (by omega) (by omega) hC) (fun v2407 S2408 h2409 => ?_)
  rcases h2409 with ⟨oK2410, oW2411, oA2412, oH2413, tl2414, hv2415, hp2416, ho2417, ha2418, ha2419, ha2420, ha2421, ha2422, hf2423⟩
  rw [hv2415]
  show X_T sc 123 (7, [(0, .ref 1)], [], S2408) _
  refine T_p xr_123_7 xn_123 (pc' := 8) (ls' := [(0, .ref 1)]) (st' := [.int (iI 1)]) rfl ?_
  refine T_p xr_123_8 xn_123 (pc' := 9) (ls' := [(1, .int (iI 1)), (0, .ref 1)]) (st' := []) rfl ?_
  have L2424 : ∀ (m2426 : Nat) (n : Int) (hn : 1 ≤ n ∧ n ≤ tn + 1) (hno : ∀ n1 i1, 1 ≤ n1 → 0 ≤ i1 → i1 + n1 ≤ tn → n1 < n → ¬ 1 < X_all G i1 (i1 + n1)) (hm2427 : tn + 1 - n < m2426), X_T sc 123 (9, [(1, .int (iI n)), (0, .ref 1)], [], S2408) Q := by
    intro m2426
    induction m2426 with
    | zero =>
      intro n hn hno hm2427
      exact (show False by omega).elim
    | succ m2426 ih2425 =>
      intro n hn hno hm2427
      refine T_p xr_123_9 xn_123 (pc' := 10) (ls' := [(1, .int (iI n)), (0, .ref 1)]) (st' := [.int (iI n)]) rfl ?_
      refine T_p xr_123_10 xn_123 (pc' := 11) (ls' := [(1, .int (iI n)), (0, .ref 1)]) (st' := [.ref 1, .int (iI n)]) rfl ?_
      have h2429 := (hf2423.1 1 (by omega)).trans (hO1)
      refine T_get xr_123_11 h2429 rfl (v := .ref 501) rfl (pc' := 14) rfl ?_
      have h2430 := (hf2423.1 501 (by omega)).trans (hO501)
      refine T_get xr_123_14 h2430 rfl (v := .int (iI tn)) rfl (pc' := 17) rfl ?_
      refine T_zicmp_gt xr_123_17 (t := 80) (pc' := 20) rfl rfl (fun c2431 => ?_) (fun c2431 => ?_)
      · skip
        have c2431 : tn < n := c2431
        refine T_p xr_123_80 xn_123 (pc' := 81) (ls' := [(1, .int (iI n)), (0, .ref 1)]) (st' := [.int (iI (-1))]) rfl ?_
        refine T_iret xr_123_81 xf_123.2.2 rfl ?_
        refine hQ _ _ ?_
        exact ⟨oK2410, oW2411, oA2412, oH2413, tl2414, 1, (-1), rfl, (by omega), (fun _ => hp2416), (Or.inl ⟨rfl, fun n1 i1 h1 h2 h3 => hno n1 i1 h1 h2 h3 (by omega)⟩), ho2417, ha2418, ha2419, ha2420, ha2421, ha2422, (X_Fr.rf).tr (X_Fr.mono ⟨hf2423.1, hf2423.2⟩ (fun q hq => (by omega)))⟩
      · skip
        have c2431 : ¬ (tn < n) := c2431
        refine T_p xr_123_20 xn_123 (pc' := 21) (ls' := [(1, .int (iI n)), (0, .ref 1)]) (st' := [.int (iI 0)]) rfl ?_
        refine T_p xr_123_21 xn_123 (pc' := 22) (ls' := [(2, .int (iI 0)), (1, .int (iI n)), (0, .ref 1)]) (st' := []) rfl ?_
        have L2432 : ∀ (m2434 : Nat) (i : Int) (hi : 0 ≤ i ∧ i + n ≤ tn + 1) (hno2 : ∀ n1 i1, 1 ≤ n1 → 0 ≤ i1 → i1 + n1 ≤ tn → (n1 < n ∨ (n1 = n ∧ i1 < i)) → ¬ 1 < X_all G i1 (i1 + n1)) (hm2435 : tn + 1 - i < m2434), X_T sc 123 (22, [(2, .int (iI i)), (1, .int (iI n)), (0, .ref 1)], [], S2408) Q := by
          intro m2434
          induction m2434 with
          | zero =>
            intro i hi hno2 hm2435
            exact (show False by omega).elim
          | succ m2434 ih2433 =>
            intro i hi hno2 hm2435
            refine T_p xr_123_22 xn_123 (pc' := 23) (ls' := [(2, .int (iI i)), (1, .int (iI n)), (0, .ref 1)]) (st' := [.int (iI i)]) rfl ?_
            refine T_p xr_123_23 xn_123 (pc' := 24) (ls' := [(2, .int (iI i)), (1, .int (iI n)), (0, .ref 1)]) (st' := [.int (iI n), .int (iI i)]) rfl ?_
            refine T_ziadd xr_123_24 (z := i + n) rfl (pc' := 25) rfl ?_
            refine T_p xr_123_25 xn_123 (pc' := 26) (ls' := [(2, .int (iI i)), (1, .int (iI n)), (0, .ref 1)]) (st' := [.ref 1, .int (iI (i + n))]) rfl ?_
            refine T_get xr_123_26 h2429 rfl (v := .ref 501) rfl (pc' := 29) rfl ?_
            refine T_get xr_123_29 h2430 rfl (v := .int (iI tn)) rfl (pc' := 32) rfl ?_
            refine T_zicmp_gt xr_123_32 (t := 74) (pc' := 35) rfl rfl (fun c2437 => ?_) (fun c2437 => ?_)
            · skip
              have c2437 : tn < (i + n) := c2437
              refine T_ziinc xr_123_74 xn_123 (a := n) (z := n + 1) rfl (Nat.le_of_ble_eq_true rfl) (by omega) (ls' := [(1, .int (iI (n + 1))), (2, .int (iI i)), (0, .ref 1)]) rfl (pc' := 77) rfl ?_
              refine T_p xr_123_77 xn_123 (pc' := 9) (ls' := [(1, .int (iI (n + 1))), (2, .int (iI i)), (0, .ref 1)]) (st' := []) rfl ?_
              refine T_sub (ls := [(1, .int (iI (n + 1))), (0, .ref 1)]) ⟨rfl, rfl, trivial⟩ rfl rfl ?_
              exact ih2425 (n + 1)  (by omega) (fun n1 i1 h1 h2 h3 h4 => hno2 n1 i1 h1 h2 h3 (by omega)) (by omega)
            · skip
              have c2437 : ¬ (tn < (i + n)) := c2437
              refine T_p xr_123_35 xn_123 (pc' := 36) (ls' := [(2, .int (iI i)), (1, .int (iI n)), (0, .ref 1)]) (st' := [.ref 1]) rfl ?_
              refine T_get xr_123_36 h2429 rfl (v := .ref 511) rfl (pc' := 39) rfl ?_
              refine T_p xr_123_39 xn_123 (pc' := 40) (ls' := [(2, .int (iI i)), (1, .int (iI n)), (0, .ref 1)]) (st' := [.int (iI i), .ref 511]) rfl ?_
              refine T_p xr_123_40 xn_123 (pc' := 41) (ls' := [(2, .int (iI i)), (1, .int (iI n)), (0, .ref 1)]) (st' := [.int (iI i), .int (iI i), .ref 511]) rfl ?_
              refine T_p xr_123_41 xn_123 (pc' := 42) (ls' := [(2, .int (iI i)), (1, .int (iI n)), (0, .ref 1)]) (st' := [.int (iI n), .int (iI i), .int (iI i), .ref 511]) rfl ?_
              refine T_ziadd xr_123_42 (z := i + n) rfl (pc' := 43) rfl ?_
              refine T_cv (S := S2408) (q := 511) xr_123_43 xf_23.1 xf_23.2.1 xn_23 (as := [.int (iI i), .int (iI (i + n))]) (r := []) rfl ho2417 (Nat.le_of_ble_eq_true rfl) (Nat.le_of_ble_eq_true rfl) (pc' := 46) rfl (ls' := [(0, .ref 511), (1, .int (iI i)), (2, .int (iI (i + n)))]) rfl ?_
              refine T_p xr_23_0 xn_23 (pc' := 1) (ls' := [(0, .ref 511), (1, .int (iI i)), (2, .int (iI (i + n)))]) (st' := [.ref 511]) rfl ?_
              refine T_get xr_23_1 ho2417 rfl (v := .ref 514) rfl (pc' := 4) rfl ?_
              refine T_p xr_23_4 xn_23 (pc' := 5) (ls' := [(0, .ref 511), (1, .int (iI i)), (2, .int (iI (i + n)))]) (st' := [.int (iI i), .ref 514]) rfl ?_
              refine T_p xr_23_5 xn_23 (pc' := 6) (ls' := [(0, .ref 511), (1, .int (iI i)), (2, .int (iI (i + n)))]) (st' := [.int (iI (i + n)), .int (iI i), .ref 514]) rfl ?_
              refine T_cs xr_23_6 (by decide) xf_24.1 xn_24 (as := [.int (iI i), .int (iI (i + n))]) (r := [.ref 514]) rfl (Nat.le_of_ble_eq_true rfl) (Nat.le_of_ble_eq_true rfl) (pc' := 9) rfl (ls' := [(0, .int (iI i)), (1, .int (iI (i + n)))]) rfl ?_
              refine T_mono (c_rowOf sc S2408 i (i + n) (by omega)) (fun v2438 S2439 h2440 => ?_)
              rcases h2440 with ⟨hv2441, hf2442⟩
              rw [hv2441]
              rw [hf2442]
              have hr2443 := X_ro_r (i := i) (j := (i + n)) (by omega) (by omega) (by omega)
              show X_T sc 23 (9, [(0, .ref 511), (1, .int (iI i)), (2, .int (iI (i + n)))], [.int (iI (X_ro i (i + n))), .ref 514], S2408) _
              refine T_zlald xr_23_9 ha2420 (pc' := 10) rfl ?_
              refine T_le (y := (X_st (-2) (X_all G i (i + n)))) ((hp2416 i (i + n) (by omega) (by omega) (by omega)).2.2.1) ?_
              refine T_lret xr_23_10 xf_23.2.2 rfl ?_
              show X_T sc 123 (46, [(2, .int (iI i)), (1, .int (iI n)), (0, .ref 1)], [.long (X_st (-2) (X_all G i (i + n)))], S2408) _
              refine T_p xr_123_46 xn_123 (pc' := 47) (ls' := [(3, .long (X_st (-2) (X_all G i (i + n)))), (2, .int (iI i)), (1, .int (iI n)), (0, .ref 1)]) (st' := []) rfl ?_
              refine T_p xr_123_47 xn_123 (pc' := 48) (ls' := [(3, .long (X_st (-2) (X_all G i (i + n)))), (2, .int (iI i)), (1, .int (iI n)), (0, .ref 1)]) (st' := [.long (X_st (-2) (X_all G i (i + n)))]) rfl ?_
              refine T_p xr_123_48 xn_123 (pc' := 49) (ls' := [(3, .long (X_st (-2) (X_all G i (i + n)))), (2, .int (iI i)), (1, .int (iI n)), (0, .ref 1)]) (st' := [.long (iL 1), .long (X_st (-2) (X_all G i (i + n)))]) rfl ?_
              refine T_lc_gt xr_123_49 xr_123_50 (t := 61) (pc' := 53) rfl rfl (fun c2444 => ?_) (fun c2444 => ?_)
              · skip
                have c2444 : (iL 1) < (X_st (-2) (X_all G i (i + n))) := c2444
                refine T_p xr_123_61 xn_123 (pc' := 63) (ls' := [(3, .long (X_st (-2) (X_all G i (i + n)))), (2, .int (iI i)), (1, .int (iI n)), (0, .ref 1)]) (st' := [.int (iI 100)]) rfl ?_
                refine T_p xr_123_63 xn_123 (pc' := 64) (ls' := [(3, .long (X_st (-2) (X_all G i (i + n)))), (2, .int (iI i)), (1, .int (iI n)), (0, .ref 1)]) (st' := [.int (iI i), .int (iI 100)]) rfl ?_
                refine T_zimul xr_123_64 (z := 100 * i) rfl (pc' := 65) rfl ?_
                refine T_p xr_123_65 xn_123 (pc' := 66) (ls' := [(3, .long (X_st (-2) (X_all G i (i + n)))), (2, .int (iI i)), (1, .int (iI n)), (0, .ref 1)]) (st' := [.int (iI n), .int (iI (100 * i))]) rfl ?_
                refine T_ziadd xr_123_66 (z := (100 * i) + n) rfl (pc' := 67) rfl ?_
                refine T_iret xr_123_67 xf_123.2.2 rfl ?_
                refine hQ _ _ ?_
                exact ⟨oK2410, oW2411, oA2412, oH2413, tl2414, 1, (100 * i) + n, rfl, (by omega), (fun _ => hp2416), (Or.inr ⟨n, i, by omega, by omega, (show 1 < X_all G i (i + n) from by
                      by_cases hm : X_all G i (i + n) ≤ 9223372036854775807
                      · have h1 : iL 1 < X_st (-2) (X_all G i (i + n)) := by first | assumption | exact absurd ((X_st_m (m := -2) (by omega)).mp (show X_st (-2) (X_all G i (i + n)) = iL (-2) by first | assumption | exact Classical.not_not.mp (by assumption))) (by omega)
                        rw [X_st_lo hm, iL_lt (by omega) (by omega) (by omega) (by omega)] at h1; omega
                      · omega), fun n1 i1 h1 h2 h3 h4 => hno2 n1 i1 h1 h2 h3 (by omega)⟩), ho2417, ha2418, ha2419, ha2420, ha2421, ha2422, (X_Fr.rf).tr (X_Fr.mono ⟨hf2423.1, hf2423.2⟩ (fun q hq => (by omega)))⟩
              · skip
                have c2444 : ¬ ((iL 1) < (X_st (-2) (X_all G i (i + n)))) := c2444
                refine T_p xr_123_53 xn_123 (pc' := 54) (ls' := [(3, .long (X_st (-2) (X_all G i (i + n)))), (2, .int (iI i)), (1, .int (iI n)), (0, .ref 1)]) (st' := [.long (X_st (-2) (X_all G i (i + n)))]) rfl ?_
                refine T_p xr_123_54 xn_123 (pc' := 57) (ls' := [(3, .long (X_st (-2) (X_all G i (i + n)))), (2, .int (iI i)), (1, .int (iI n)), (0, .ref 1)]) (st' := [.long (iL (-2)), .long (X_st (-2) (X_all G i (i + n)))]) rfl ?_
                refine T_lc_ne xr_123_57 xr_123_58 (t := 68) (pc' := 61) rfl rfl (fun c2445 => ?_) (fun c2445 => ?_)
                · skip
                  have c2445 : ¬ (X_st (-2) (X_all G i (i + n))) = (iL (-2)) := c2445
                  refine T_ziinc xr_123_68 xn_123 (a := i) (z := i + 1) rfl (Nat.le_of_ble_eq_true rfl) (by omega) (ls' := [(2, .int (iI (i + 1))), (3, .long (X_st (-2) (X_all G i (i + n)))), (1, .int (iI n)), (0, .ref 1)]) rfl (pc' := 71) rfl ?_
                  refine T_p xr_123_71 xn_123 (pc' := 22) (ls' := [(2, .int (iI (i + 1))), (3, .long (X_st (-2) (X_all G i (i + n)))), (1, .int (iI n)), (0, .ref 1)]) (st' := []) rfl ?_
                  refine T_sub (ls := [(2, .int (iI (i + 1))), (1, .int (iI n)), (0, .ref 1)]) ⟨rfl, rfl, rfl, trivial⟩ rfl rfl ?_
                  exact ih2433 (i + 1)  (by omega) (fun n1 i1 h1 h2 h3 h4 => by
                        by_cases hh : n1 = n ∧ i1 = i
                        · obtain ⟨e1, e2⟩ := hh
                          subst e1; subst e2; exact (show ¬ 1 < X_all G i1 (i1 + n1) from fun z => by
                        by_cases hm : X_all G i1 (i1 + n1) ≤ 9223372036854775807
                        · refine absurd (show iL 1 < X_st (-2) (X_all G i1 (i1 + n1)) from ?_) (by first | assumption | exact Int64.not_lt.mpr (by assumption))
                          rw [X_st_lo hm, iL_lt (by omega) (by omega) (by omega) (by omega)]; omega
                        · exact absurd (X_st_hi (m := -2) (a := X_all G i1 (i1 + n1)) (by omega)) (by assumption))
                        · exact hno2 n1 i1 h1 h2 h3 (by omega)) (by omega)
                · skip
                  have c2445 : ¬ (¬ (X_st (-2) (X_all G i (i + n))) = (iL (-2))) := c2445
                  refine T_p xr_123_61 xn_123 (pc' := 63) (ls' := [(3, .long (X_st (-2) (X_all G i (i + n)))), (2, .int (iI i)), (1, .int (iI n)), (0, .ref 1)]) (st' := [.int (iI 100)]) rfl ?_
                  refine T_p xr_123_63 xn_123 (pc' := 64) (ls' := [(3, .long (X_st (-2) (X_all G i (i + n)))), (2, .int (iI i)), (1, .int (iI n)), (0, .ref 1)]) (st' := [.int (iI i), .int (iI 100)]) rfl ?_
                  refine T_zimul xr_123_64 (z := 100 * i) rfl (pc' := 65) rfl ?_
                  refine T_p xr_123_65 xn_123 (pc' := 66) (ls' := [(3, .long (X_st (-2) (X_all G i (i + n)))), (2, .int (iI i)), (1, .int (iI n)), (0, .ref 1)]) (st' := [.int (iI n), .int (iI (100 * i))]) rfl ?_
                  refine T_ziadd xr_123_66 (z := (100 * i) + n) rfl (pc' := 67) rfl ?_
                  refine T_iret xr_123_67 xf_123.2.2 rfl ?_
                  refine hQ _ _ ?_
                  exact ⟨oK2410, oW2411, oA2412, oH2413, tl2414, 1, (100 * i) + n, rfl, (by omega), (fun _ => hp2416), (Or.inr ⟨n, i, by omega, by omega, (show 1 < X_all G i (i + n) from by
                        by_cases hm : X_all G i (i + n) ≤ 9223372036854775807
                        · have h1 : iL 1 < X_st (-2) (X_all G i (i + n)) := by first | assumption | exact absurd ((X_st_m (m := -2) (by omega)).mp (show X_st (-2) (X_all G i (i + n)) = iL (-2) by first | assumption | exact Classical.not_not.mp (by assumption))) (by omega)
                          rw [X_st_lo hm, iL_lt (by omega) (by omega) (by omega) (by omega)] at h1; omega
                        · omega), fun n1 i1 h1 h2 h3 h4 => hno2 n1 i1 h1 h2 h3 (by omega)⟩), ho2417, ha2418, ha2419, ha2420, ha2421, ha2422, (X_Fr.rf).tr (X_Fr.mono ⟨hf2423.1, hf2423.2⟩ (fun q hq => (by omega)))⟩
        exact L2432 ((tn + 1) + 1).toNat 0  (by omega) (fun n1 i1 h1 h2 h3 h4 => hno n1 i1 h1 h2 h3 (by omega)) (by omega)
  exact L2424 (tn + 1).toNat 1  (by omega) (fun n1 i1 h1 h2 h3 h4 => absurd h4 (by omega)) (by omega)
set_option maxHeartbeats 3000000 in
theorem c_read (sc : X_Sc) (S : X_S) (oK : Int → Int64) (oW : Int → Int64) (oA : Int → Int64) (oH : Int → Int64) (tl : Int → Int64) (nW : Int → Int) (nF : Int → Int) (nL : Int → Int) (nP : Int → Int) (nH : Int → Int) (nC : Int → Int) (fF : Int → Int) (fE : Int → Int) (fP : Int → Int) (fH : Int → Int) (fW : Int → Int) (fK : Int → Int) (fN : Int → Int64) (hF : Int → Int) (hE : Int → Int) (B : Nat) (rc : Int) (rn : Int → Int64) (kn : Int → Int64) (G : X_G) (B2 : Nat) (tn : Int) (fl : Int) (wt : Int) (nc : Int) (rs : Int) (re : Int) (hgt : Int) (kk : Int) (hO1 : S.1 1 = .inr (10, [.ref 2, .ref B, .ref B2, .ref 496, .ref 501, .ref 504, .ref 511, .ref 517, .ref 527])) (hO501 : S.1 501 = .inr (6, [.int (iI tn), .ref 502, .ref 503])) (hO511 : S.1 511 = .inr (1, [.ref B, .ref 501, .int (iI fl), .ref 512, .ref 513, .ref 514, .ref 515, .ref 516])) (hO517 : S.1 517 = .inr (2, [.ref 511, .ref 501, .ref 504, .int (iI wt), .ref 518, .ref 519, .ref 520, .ref 521, .ref 522, .ref 523, .ref 524, .ref 525, .ref 526])) (hO504 : S.1 504 = .inr (5, [.int (iI nc), .ref 505, .ref 506, .ref 507, .ref 508, .ref 509, .ref 510])) (hO527 : S.1 527 = .inr (9, [.ref 501, .ref 504, .int (iI rs), .int (iI re), .ref 528, .ref 529, .int (iI hgt)])) (hA512 : S.1 512 = .inl (.long, 5115, .inr (.inl fun k : Nat => oK (k : Int)))) (hA513 : S.1 513 = .inl (.long, 13950, .inr (.inl fun k : Nat => oW (k : Int)))) (hA514 : S.1 514 = .inl (.long, 465, .inr (.inl fun k : Nat => oA (k : Int)))) (hA515 : S.1 515 = .inl (.long, 55800, .inr (.inl fun k : Nat => oH (k : Int)))) (hA516 : S.1 516 = .inl (.long, 7200, .inr (.inl fun k : Nat => tl (k : Int)))) (hA505 : S.1 505 = .inl (.int, 30, .inl fun k : Nat => iI (nW (k : Int)))) (hA506 : S.1 506 = .inl (.int, 30, .inl fun k : Nat => iI (nF (k : Int)))) (hA507 : S.1 507 = .inl (.int, 30, .inl fun k : Nat => iI (nL (k : Int)))) (hA508 : S.1 508 = .inl (.int, 30, .inl fun k : Nat => iI (nP (k : Int)))) (hA509 : S.1 509 = .inl (.int, 30, .inl fun k : Nat => iI (nH (k : Int)))) (hA510 : S.1 510 = .inl (.int, 120, .inl fun k : Nat => iI (nC (k : Int)))) (hA518 : S.1 518 = .inl (.int, 30, .inl fun k : Nat => iI (fF (k : Int)))) (hA519 : S.1 519 = .inl (.int, 30, .inl fun k : Nat => iI (fE (k : Int)))) (hA520 : S.1 520 = .inl (.int, 30, .inl fun k : Nat => iI (fP (k : Int)))) (hA521 : S.1 521 = .inl (.int, 30, .inl fun k : Nat => iI (fH (k : Int)))) (hA522 : S.1 522 = .inl (.int, 30, .inl fun k : Nat => iI (fW (k : Int)))) (hA523 : S.1 523 = .inl (.int, 30, .inl fun k : Nat => iI (fK (k : Int)))) (hA524 : S.1 524 = .inl (.long, 30, .inr (.inl fun k : Nat => fN (k : Int)))) (hA525 : S.1 525 = .inl (.int, 4, .inl fun k : Nat => iI (hF (k : Int)))) (hA526 : S.1 526 = .inl (.int, 4, .inl fun k : Nat => iI (hE (k : Int)))) (hB : B = 4 ∨ B = 250) (hb : C_bk S B rc (gk G) (gw G) rn (gl G) kn (ga G)) (hs : C_ws S B (gD G) (gW G)) (hG : X_Gok G) (hA502 : S.1 502 = .inl (.long, 30, .inr (.inl fun k : Nat => (gt G) (k : Int)))) (htn : 0 ≤ tn ∧ tn ≤ 30) (hfl : 0 ≤ fl ∧ fl ≤ 1) (hC : fl = 1 → X_cht G (-2) tn oK oW oA oH) (hkr : -9223372036854775808 ≤ kk ∧ kk ≤ 9223372036854775807) : X_T sc 124 (0, [(0, .ref 1), (1, .long (iL kk))], [], S) (fun v S' => (∃ (oK1 : Int → Int64) (oW1 : Int → Int64) (oA1 : Int → Int64) (oH1 : Int → Int64) (tl1 : Int → Int64) (fl1 : Int), v = some (.int (iI (-1))) ∧ (0 ≤ fl1 ∧ fl1 ≤ 1) ∧ (fl1 = 1 → X_cht G (-2) tn oK1 oW1 oA1 oH1) ∧ ¬ X_qRk G tn kk ∧ S'.1 511 = .inr (1, [.ref B, .ref 501, .int (iI fl1), .ref 512, .ref 513, .ref 514, .ref 515, .ref 516]) ∧ S'.1 512 = .inl (.long, 5115, .inr (.inl fun k : Nat => oK1 (k : Int))) ∧ S'.1 513 = .inl (.long, 13950, .inr (.inl fun k : Nat => oW1 (k : Int))) ∧ S'.1 514 = .inl (.long, 465, .inr (.inl fun k : Nat => oA1 (k : Int))) ∧ S'.1 515 = .inl (.long, 55800, .inr (.inl fun k : Nat => oH1 (k : Int))) ∧ S'.1 516 = .inl (.long, 7200, .inr (.inl fun k : Nat => tl1 (k : Int))) ∧ (X_Fr (fun q => 511 ≤ q ∧ q ≤ 516) S S')) ∨ (∃ (oK1 : Int → Int64) (oW1 : Int → Int64) (oA1 : Int → Int64) (oH1 : Int → Int64) (tl1 : Int → Int64) (fl1 : Int) (r1 : Int) (nc1 : Int) (St1 : Int → X_It) (N1 : Int → Int → Int) (nW1 : Int → Int) (nF1 : Int → Int) (nL1 : Int → Int) (nP1 : Int → Int) (nH1 : Int → Int) (nC1 : Int → Int) (fF1 : Int → Int) (fE1 : Int → Int) (fP1 : Int → Int) (fH1 : Int → Int) (fW1 : Int → Int) (fK1 : Int → Int) (fN1 : Int → Int64) (hF1 : Int → Int) (hE1 : Int → Int), v = some (.int (iI nc1)) ∧ (0 ≤ fl1 ∧ fl1 ≤ 1) ∧ (fl1 = 1 → X_cht G (-2) tn oK1 oW1 oA1 oH1) ∧ X_qRk G tn kk ∧ X_rd G tn kk.toNat = (r1, St1, nc1, N1) ∧ F_nd nc1 N1 nW1 nF1 nL1 nP1 nH1 ∧ F_ch nc1 N1 nC1 ∧ S'.1 511 = .inr (1, [.ref B, .ref 501, .int (iI fl1), .ref 512, .ref 513, .ref 514, .ref 515, .ref 516]) ∧ S'.1 517 = .inr (2, [.ref 511, .ref 501, .ref 504, .int (iI r1), .ref 518, .ref 519, .ref 520, .ref 521, .ref 522, .ref 523, .ref 524, .ref 525, .ref 526]) ∧ S'.1 504 = .inr (5, [.int (iI nc1), .ref 505, .ref 506, .ref 507, .ref 508, .ref 509, .ref 510]) ∧ S'.1 527 = .inr (9, [.ref 501, .ref 504, .int (iI 0), .int (iI (-1)), .ref 528, .ref 529, .int (iI hgt)]) ∧ S'.1 512 = .inl (.long, 5115, .inr (.inl fun k : Nat => oK1 (k : Int))) ∧ S'.1 513 = .inl (.long, 13950, .inr (.inl fun k : Nat => oW1 (k : Int))) ∧ S'.1 514 = .inl (.long, 465, .inr (.inl fun k : Nat => oA1 (k : Int))) ∧ S'.1 515 = .inl (.long, 55800, .inr (.inl fun k : Nat => oH1 (k : Int))) ∧ S'.1 516 = .inl (.long, 7200, .inr (.inl fun k : Nat => tl1 (k : Int))) ∧ S'.1 505 = .inl (.int, 30, .inl fun k : Nat => iI (nW1 (k : Int))) ∧ S'.1 506 = .inl (.int, 30, .inl fun k : Nat => iI (nF1 (k : Int))) ∧ S'.1 507 = .inl (.int, 30, .inl fun k : Nat => iI (nL1 (k : Int))) ∧ S'.1 508 = .inl (.int, 30, .inl fun k : Nat => iI (nP1 (k : Int))) ∧ S'.1 509 = .inl (.int, 30, .inl fun k : Nat => iI (nH1 (k : Int))) ∧ S'.1 510 = .inl (.int, 120, .inl fun k : Nat => iI (nC1 (k : Int))) ∧ S'.1 518 = .inl (.int, 30, .inl fun k : Nat => iI (fF1 (k : Int))) ∧ S'.1 519 = .inl (.int, 30, .inl fun k : Nat => iI (fE1 (k : Int))) ∧ S'.1 520 = .inl (.int, 30, .inl fun k : Nat => iI (fP1 (k : Int))) ∧ S'.1 521 = .inl (.int, 30, .inl fun k : Nat => iI (fH1 (k : Int))) ∧ S'.1 522 = .inl (.int, 30, .inl fun k : Nat => iI (fW1 (k : Int))) ∧ S'.1 523 = .inl (.int, 30, .inl fun k : Nat => iI (fK1 (k : Int))) ∧ S'.1 524 = .inl (.long, 30, .inr (.inl fun k : Nat => fN1 (k : Int))) ∧ S'.1 525 = .inl (.int, 4, .inl fun k : Nat => iI (hF1 (k : Int))) ∧ S'.1 526 = .inl (.int, 4, .inl fun k : Nat => iI (hE1 (k : Int))) ∧ (X_Fr (fun q => 504 ≤ q ∧ q ≤ 527) S S'))) := by
  obtain ⟨hb0, hb1, hb2, hb3, hb4, ⟨f, hb5, hf⟩, ⟨hrc, hrcb⟩, ⟨hkc, hkcb⟩, ⟨hwc, hwcb⟩⟩ := id hb
  refine X_QI (fun Q hQ => ?_)
  refine T_p xr_124_0 xn_124 (pc' := 1) (ls' := [(0, .ref 1), (1, .long (iL kk))]) (st' := [.long (iL kk)]) rfl ?_
  refine T_p xr_124_1 xn_124 (pc' := 2) (ls' := [(0, .ref 1), (1, .long (iL kk))]) (st' := [.long (iL 0), .long (iL kk)]) rfl ?_
  refine T_lc_lt xr_124_2 xr_124_3 (t := 16) (pc' := 6) rfl rfl (fun c2446 => ?_) (fun c2446 => ?_)
  · skip
    have c2446 : (iL kk) < (iL 0) := c2446
    refine T_p xr_124_16 xn_124 (pc' := 17) (ls' := [(0, .ref 1), (1, .long (iL kk))]) (st' := [.int (iI (-1))]) rfl ?_
    refine T_iret xr_124_17 xf_124.2.2 rfl ?_
    refine hQ _ _ ?_
    exact Or.inl ⟨oK, oW, oA, oH, tl, fl, rfl, hfl, hC, (fun z => by
          by_cases ht : tn = 0
          · exact absurd z.2.1 (by omega)
          · by_cases h1 : iL kk < iL 0
            · rw [iL_lt (by omega) (by omega) (by omega) (by omega)] at h1
              have := z.1
              omega
            · first | exact absurd ht (by assumption) | exact absurd (by assumption) h1), hO511, hA512, hA513, hA514, hA515, hA516, X_Fr.rf⟩
  · skip
    have c2446 : ¬ ((iL kk) < (iL 0)) := c2446
    refine T_p xr_124_6 xn_124 (pc' := 7) (ls' := [(0, .ref 1), (1, .long (iL kk))]) (st' := [.ref 1]) rfl ?_
    refine T_get xr_124_7 hO1 rfl (v := .ref 501) rfl (pc' := 10) rfl ?_
    refine T_get xr_124_10 hO501 rfl (v := .int (iI tn)) rfl (pc' := 13) rfl ?_
    refine T_zif_ne xr_124_13 (t := 18) (pc' := 16) rfl rfl (fun c2447 => ?_) (fun c2447 => ?_)
    · skip
      have c2447 : ¬ tn = 0 := c2447
      refine T_p xr_124_18 xn_124 (pc' := 19) (ls' := [(0, .ref 1), (1, .long (iL kk))]) (st' := [.ref 1]) rfl ?_
      refine T_get xr_124_19 hO1 rfl (v := .ref 511) rfl (pc' := 22) rfl ?_
      refine T_cv (S := S) (q := 511) xr_124_22 xf_31.1 xf_31.2.1 xn_31 (as := []) (r := []) rfl hO511 (Nat.le_of_ble_eq_true rfl) (Nat.le_of_ble_eq_true rfl) (pc' := 25) rfl (ls' := [(0, .ref 511)]) rfl ?_
      refine T_mono (c_fill sc S oK oW oA oH tl B rc rn kn G tn fl hO501 hO511 hA512 hA513 hA514 hA515 hA516 hB ⟨hb0, hb1, hb2, hb3, hb4, ⟨f, hb5, hf⟩, ⟨by omega, by omega⟩, ⟨by omega, by omega⟩, ⟨by omega, by omega⟩⟩ hs hG hA502 (by omega) (by omega) hC) (fun v2448 S2449 h2450 => ?_)
      rcases h2450 with ⟨oK2451, oW2452, oA2453, oH2454, tl2455, hv2456, hp2457, ho2458, ha2459, ha2460, ha2461, ha2462, ha2463, hf2464⟩
      rw [hv2456]
      show X_T sc 124 (25, [(0, .ref 1), (1, .long (iL kk))], [], S2449) _
      refine T_p xr_124_25 xn_124 (pc' := 26) (ls' := [(0, .ref 1), (1, .long (iL kk))]) (st' := [.ref 1]) rfl ?_
      have h2465 := (hf2464.1 1 (by omega)).trans (hO1)
      refine T_get xr_124_26 h2465 rfl (v := .ref 511) rfl (pc' := 29) rfl ?_
      refine T_p xr_124_29 xn_124 (pc' := 30) (ls' := [(0, .ref 1), (1, .long (iL kk))]) (st' := [.int (iI 0), .ref 511]) rfl ?_
      refine T_p xr_124_30 xn_124 (pc' := 31) (ls' := [(0, .ref 1), (1, .long (iL kk))]) (st' := [.ref 1, .int (iI 0), .ref 511]) rfl ?_
      refine T_get xr_124_31 h2465 rfl (v := .ref 501) rfl (pc' := 34) rfl ?_
      have h2466 := (hf2464.1 501 (by omega)).trans (hO501)
      refine T_get xr_124_34 h2466 rfl (v := .int (iI tn)) rfl (pc' := 37) rfl ?_
      refine T_cv (S := S2449) (q := 511) xr_124_37 xf_23.1 xf_23.2.1 xn_23 (as := [.int (iI 0), .int (iI tn)]) (r := []) rfl ho2458 (Nat.le_of_ble_eq_true rfl) (Nat.le_of_ble_eq_true rfl) (pc' := 40) rfl (ls' := [(0, .ref 511), (1, .int (iI 0)), (2, .int (iI tn))]) rfl ?_
      refine T_p xr_23_0 xn_23 (pc' := 1) (ls' := [(0, .ref 511), (1, .int (iI 0)), (2, .int (iI tn))]) (st' := [.ref 511]) rfl ?_
      refine T_get xr_23_1 ho2458 rfl (v := .ref 514) rfl (pc' := 4) rfl ?_
      refine T_p xr_23_4 xn_23 (pc' := 5) (ls' := [(0, .ref 511), (1, .int (iI 0)), (2, .int (iI tn))]) (st' := [.int (iI 0), .ref 514]) rfl ?_
      refine T_p xr_23_5 xn_23 (pc' := 6) (ls' := [(0, .ref 511), (1, .int (iI 0)), (2, .int (iI tn))]) (st' := [.int (iI tn), .int (iI 0), .ref 514]) rfl ?_
      refine T_cs xr_23_6 (by decide) xf_24.1 xn_24 (as := [.int (iI 0), .int (iI tn)]) (r := [.ref 514]) rfl (Nat.le_of_ble_eq_true rfl) (Nat.le_of_ble_eq_true rfl) (pc' := 9) rfl (ls' := [(0, .int (iI 0)), (1, .int (iI tn))]) rfl ?_
      refine T_mono (c_rowOf sc S2449 0 tn (by omega)) (fun v2467 S2468 h2469 => ?_)
      rcases h2469 with ⟨hv2470, hf2471⟩
      rw [hv2470]
      rw [hf2471]
      have hr2472 := X_ro_r (i := 0) (j := tn) (by omega) (by omega) (by omega)
      show X_T sc 23 (9, [(0, .ref 511), (1, .int (iI 0)), (2, .int (iI tn))], [.int (iI (X_ro 0 tn)), .ref 514], S2449) _
      refine T_zlald xr_23_9 ha2461 (pc' := 10) rfl ?_
      refine T_le (y := (X_st (-2) (X_all G 0 tn))) ((hp2457 0 tn (by omega) (by omega) (by omega)).2.2.1) ?_
      refine T_lret xr_23_10 xf_23.2.2 rfl ?_
      show X_T sc 124 (40, [(0, .ref 1), (1, .long (iL kk))], [.long (X_st (-2) (X_all G 0 tn))], S2449) _
      refine T_p xr_124_40 xn_124 (pc' := 41) (ls' := [(3, .long (X_st (-2) (X_all G 0 tn))), (0, .ref 1), (1, .long (iL kk))]) (st' := []) rfl ?_
      refine T_p xr_124_41 xn_124 (pc' := 42) (ls' := [(3, .long (X_st (-2) (X_all G 0 tn))), (0, .ref 1), (1, .long (iL kk))]) (st' := [.long (X_st (-2) (X_all G 0 tn))]) rfl ?_
      refine T_p xr_124_42 xn_124 (pc' := 45) (ls' := [(3, .long (X_st (-2) (X_all G 0 tn))), (0, .ref 1), (1, .long (iL kk))]) (st' := [.long (iL (-2)), .long (X_st (-2) (X_all G 0 tn))]) rfl ?_
      refine T_lc_eq xr_124_45 xr_124_46 (t := 57) (pc' := 49) rfl rfl (fun c2473 => ?_) (fun c2473 => ?_)
      · skip
        have c2473 : (X_st (-2) (X_all G 0 tn)) = (iL (-2)) := c2473
        refine T_p xr_124_57 xn_124 (pc' := 58) (ls' := [(3, .long (X_st (-2) (X_all G 0 tn))), (0, .ref 1), (1, .long (iL kk))]) (st' := [.ref 1]) rfl ?_
        refine T_get xr_124_58 h2465 rfl (v := .ref 517) rfl (pc' := 61) rfl ?_
        have hkk : 0 ≤ kk ∧ (kk.toNat : Int) = kk := by
          have h1 : ¬ iL kk < iL 0 := by first | assumption | exact Int64.not_lt.mpr (by assumption)
          rw [iL_lt (by omega) (by omega) (by omega) (by omega)] at h1
          omega
        have hka : kk.toNat < X_all G 0 tn := by
          refine (X_st_lt (m := -2) (by omega) (by omega)).mp ?_
          rw [hkk.2]
          first
            | exact Or.inl (by first | assumption | exact Classical.not_not.mp (by assumption))
            | exact Or.inr (by first | assumption | exact Int64.not_le.mp (by assumption))
        have hcht := hp2457
        have hk := hka
        have hkm : kk.toNat ≤ 9223372036854775807 := by omega
        refine T_p xr_124_61 xn_124 (pc' := 62) (ls' := [(3, .long (X_st (-2) (X_all G 0 tn))), (0, .ref 1), (1, .long (iL kk))]) (st' := [.long (iL kk), .ref 517]) rfl ?_
        refine T_le (y := (iL (kk.toNat : Int))) (by rw [hkk.2]) ?_
        have h2474 := (hf2464.1 517 (by omega)).trans (hO517)
        refine T_cv (S := S2449) (q := 517) xr_124_62 xf_40.1 xf_40.2.1 xn_40 (as := [.long (iL (kk.toNat : Int))]) (r := []) rfl h2474 (Nat.le_of_ble_eq_true rfl) (Nat.le_of_ble_eq_true rfl) (pc' := 65) rfl (ls' := [(0, .ref 517), (1, .long (iL (kk.toNat : Int)))]) rfl ?_
        have h2475 := (hf2464.1 505 (by omega)).trans (hA505)
        have h2476 := (hf2464.1 506 (by omega)).trans (hA506)
        have h2477 := (hf2464.1 507 (by omega)).trans (hA507)
        have h2478 := (hf2464.1 508 (by omega)).trans (hA508)
        have h2479 := (hf2464.1 509 (by omega)).trans (hA509)
        have h2480 := (hf2464.1 510 (by omega)).trans (hA510)
        have h2481 := (hf2464.1 518 (by omega)).trans (hA518)
        have h2482 := (hf2464.1 519 (by omega)).trans (hA519)
        have h2483 := (hf2464.1 520 (by omega)).trans (hA520)
        have h2484 := (hf2464.1 521 (by omega)).trans (hA521)
        have h2485 := (hf2464.1 522 (by omega)).trans (hA522)
        have h2486 := (hf2464.1 523 (by omega)).trans (hA523)
        have h2487 := (hf2464.1 524 (by omega)).trans (hA524)
        have h2488 := (hf2464.1 525 (by omega)).trans (hA525)
        have h2489 := (hf2464.1 526 (by omega)).trans (hA526)
        have h2490 := (hf2464.1 504 (by omega)).trans (hO504)
        have h2491 := (hf2464.1 B (by omega)).trans (hb0)
        have h2492 := (hf2464.1 (B + 1) (by omega)).trans (hb1)
        have h2493 := (hf2464.1 (B + 2) (by omega)).trans (hb2)
        have h2494 := (hf2464.1 (B + 3) (by omega)).trans (hb3)
        have h2495 := (hf2464.1 (B + 4) (by omega)).trans (hb4)
        have h2496 := (hf2464.1 (B + 5) (by omega)).trans (hb5)
        have hs2497 : C_ws S2449 B (gD G) (gW G) := C_ws.fr (P := fun q => 501 ≤ q ∧ q ≤ 529) hs ((X_Fr.rf).tr (X_Fr.mono ⟨hf2464.1, hf2464.2⟩ (fun q hq => (by omega)))) (fun k h1 h2 => by omega)
        have h2498 := (hf2464.1 502 (by omega)).trans (hA502)
        refine T_mono (c_find sc S2449 oK2451 oW2452 oA2453 oH2454 tl2455 nW nF nL nP nH nC fF fE fP fH fW fK fN hF hE B rc rn kn G tn 1 wt nc kk.toNat h2466 ho2458 h2474 h2490 ha2459 ha2460 ha2461 ha2462 ha2463 h2475 h2476 h2477 h2478 h2479 h2480 h2481 h2482 h2483 h2484 h2485 h2486 h2487 h2488 h2489 hB ⟨h2491, h2492, h2493, h2494, h2495, ⟨f, h2496, hf⟩, ⟨by omega, by omega⟩, ⟨by omega, by omega⟩, ⟨by omega, by omega⟩⟩ hs2497 hG (by omega) h2498 hcht hk hkm) (fun v2499 S2500 h2501 => ?_)
        rcases h2501 with ⟨r2502, nc2503, St2504, N2505, nW2506, nF2507, nL2508, nP2509, nH2510, nC2511, fF2512, fE2513, fP2514, fH2515, fW2516, fK2517, fN2518, tl2519, hF2520, hE2521, hv2522, hp2523, hp2524, hp2525, hp2526, ho2527, ho2528, ha2529, ha2530, ha2531, ha2532, ha2533, ha2534, ha2535, ha2536, ha2537, ha2538, ha2539, ha2540, ha2541, ha2542, ha2543, ha2544, hf2545⟩
        rw [hv2522]
        show X_T sc 124 (65, [(3, .long (X_st (-2) (X_all G 0 tn))), (0, .ref 1), (1, .long (iL kk))], [], S2500) _
        refine T_p xr_124_65 xn_124 (pc' := 66) (ls' := [(3, .long (X_st (-2) (X_all G 0 tn))), (0, .ref 1), (1, .long (iL kk))]) (st' := [.ref 1]) rfl ?_
        have h2546 := (hf2545.1 1 (by omega)).trans (h2465)
        refine T_get xr_124_66 h2546 rfl (v := .ref 527) rfl (pc' := 69) rfl ?_
        have h2547 := (hf2545.1 527 (by omega)).trans ((hf2464.1 527 (by omega)).trans (hO527))
        refine T_cv (S := S2500) (q := 527) xr_124_69 xf_105.1 xf_105.2.1 xn_105 (as := []) (r := []) rfl h2547 (Nat.le_of_ble_eq_true rfl) (Nat.le_of_ble_eq_true rfl) (pc' := 72) rfl (ls' := [(0, .ref 527)]) rfl ?_
        refine T_mono (c_forget sc S2500 rs re hgt h2547) (fun v2548 S2549 h2550 => ?_)
        rcases h2550 with ⟨hv2551, ho2552, hf2553⟩
        rw [hv2551]
        show X_T sc 124 (72, [(3, .long (X_st (-2) (X_all G 0 tn))), (0, .ref 1), (1, .long (iL kk))], [], S2549) _
        refine T_p xr_124_72 xn_124 (pc' := 73) (ls' := [(3, .long (X_st (-2) (X_all G 0 tn))), (0, .ref 1), (1, .long (iL kk))]) (st' := [.ref 1]) rfl ?_
        have h2554 := (hf2553.1 1 (by omega)).trans (h2546)
        refine T_get xr_124_73 h2554 rfl (v := .ref 504) rfl (pc' := 76) rfl ?_
        have h2555 := (hf2553.1 504 (by omega)).trans (ho2528)
        refine T_get xr_124_76 h2555 rfl (v := .int (iI nc2503)) rfl (pc' := 79) rfl ?_
        refine T_iret xr_124_79 xf_124.2.2 rfl ?_
        refine hQ _ _ ?_
        have h2556 := (hf2553.1 512 (by omega)).trans ((hf2545.1 512 (by omega)).trans (ha2459))
        have h2557 := (hf2553.1 513 (by omega)).trans ((hf2545.1 513 (by omega)).trans (ha2460))
        have h2558 := (hf2553.1 514 (by omega)).trans ((hf2545.1 514 (by omega)).trans (ha2461))
        have h2559 := (hf2553.1 515 (by omega)).trans ((hf2545.1 515 (by omega)).trans (ha2462))
        have h2560 := (hf2553.1 516 (by omega)).trans (ha2542)
        have h2561 := (hf2553.1 511 (by omega)).trans ((hf2545.1 511 (by omega)).trans (ho2458))
        have h2562 := (hf2553.1 505 (by omega)).trans (ha2529)
        have h2563 := (hf2553.1 506 (by omega)).trans (ha2530)
        have h2564 := (hf2553.1 507 (by omega)).trans (ha2531)
        have h2565 := (hf2553.1 508 (by omega)).trans (ha2532)
        have h2566 := (hf2553.1 509 (by omega)).trans (ha2533)
        have h2567 := (hf2553.1 510 (by omega)).trans (ha2534)
        have h2568 := (hf2553.1 518 (by omega)).trans (ha2535)
        have h2569 := (hf2553.1 519 (by omega)).trans (ha2536)
        have h2570 := (hf2553.1 520 (by omega)).trans (ha2537)
        have h2571 := (hf2553.1 521 (by omega)).trans (ha2538)
        have h2572 := (hf2553.1 522 (by omega)).trans (ha2539)
        have h2573 := (hf2553.1 523 (by omega)).trans (ha2540)
        have h2574 := (hf2553.1 524 (by omega)).trans (ha2541)
        have h2575 := (hf2553.1 525 (by omega)).trans (ha2543)
        have h2576 := (hf2553.1 526 (by omega)).trans (ha2544)
        have h2577 := (hf2553.1 517 (by omega)).trans (ho2527)
        exact Or.inr ⟨oK2451, oW2452, oA2453, oH2454, tl2519, 1, r2502, nc2503, St2504, N2505, nW2506, nF2507, nL2508, nP2509, nH2510, nC2511, fF2512, fE2513, fP2514, fH2515, fW2516, fK2517, fN2518, hF2520, hE2521, rfl, (by omega), (fun _ => hp2457), ⟨hkk.1, by omega, by omega⟩, hp2523, hp2525, hp2526, h2561, h2577, h2555, ho2552, h2556, h2557, h2558, h2559, h2560, h2562, h2563, h2564, h2565, h2566, h2567, h2568, h2569, h2570, h2571, h2572, h2573, h2574, h2575, h2576, (((X_Fr.rf).tr (X_Fr.mono ⟨hf2464.1, hf2464.2⟩ (fun q hq => (by omega)))).tr (X_Fr.mono ⟨hf2545.1, hf2545.2⟩ (fun q hq => (by omega)))).tr (X_Fr.mono ⟨hf2553.1, hf2553.2⟩ (fun q hq => (by omega)))⟩
      · skip
        have c2473 : ¬ ((X_st (-2) (X_all G 0 tn)) = (iL (-2))) := c2473
        refine T_p xr_124_49 xn_124 (pc' := 50) (ls' := [(3, .long (X_st (-2) (X_all G 0 tn))), (0, .ref 1), (1, .long (iL kk))]) (st' := [.long (iL kk)]) rfl ?_
        refine T_p xr_124_50 xn_124 (pc' := 51) (ls' := [(3, .long (X_st (-2) (X_all G 0 tn))), (0, .ref 1), (1, .long (iL kk))]) (st' := [.long (X_st (-2) (X_all G 0 tn)), .long (iL kk)]) rfl ?_
        refine T_lc_lt xr_124_51 xr_124_52 (t := 57) (pc' := 55) rfl rfl (fun c2578 => ?_) (fun c2578 => ?_)
        · skip
          have c2578 : (iL kk) < (X_st (-2) (X_all G 0 tn)) := c2578
          refine T_p xr_124_57 xn_124 (pc' := 58) (ls' := [(3, .long (X_st (-2) (X_all G 0 tn))), (0, .ref 1), (1, .long (iL kk))]) (st' := [.ref 1]) rfl ?_
          refine T_get xr_124_58 h2465 rfl (v := .ref 517) rfl (pc' := 61) rfl ?_
          have hkk : 0 ≤ kk ∧ (kk.toNat : Int) = kk := by
            have h1 : ¬ iL kk < iL 0 := by first | assumption | exact Int64.not_lt.mpr (by assumption)
            rw [iL_lt (by omega) (by omega) (by omega) (by omega)] at h1
            omega
          have hka : kk.toNat < X_all G 0 tn := by
            refine (X_st_lt (m := -2) (by omega) (by omega)).mp ?_
            rw [hkk.2]
            first
              | exact Or.inl (by first | assumption | exact Classical.not_not.mp (by assumption))
              | exact Or.inr (by first | assumption | exact Int64.not_le.mp (by assumption))
          have hcht := hp2457
          have hk := hka
          have hkm : kk.toNat ≤ 9223372036854775807 := by omega
          refine T_p xr_124_61 xn_124 (pc' := 62) (ls' := [(3, .long (X_st (-2) (X_all G 0 tn))), (0, .ref 1), (1, .long (iL kk))]) (st' := [.long (iL kk), .ref 517]) rfl ?_
          refine T_le (y := (iL (kk.toNat : Int))) (by rw [hkk.2]) ?_
          have h2579 := (hf2464.1 517 (by omega)).trans (hO517)
          refine T_cv (S := S2449) (q := 517) xr_124_62 xf_40.1 xf_40.2.1 xn_40 (as := [.long (iL (kk.toNat : Int))]) (r := []) rfl h2579 (Nat.le_of_ble_eq_true rfl) (Nat.le_of_ble_eq_true rfl) (pc' := 65) rfl (ls' := [(0, .ref 517), (1, .long (iL (kk.toNat : Int)))]) rfl ?_
          have h2580 := (hf2464.1 505 (by omega)).trans (hA505)
          have h2581 := (hf2464.1 506 (by omega)).trans (hA506)
          have h2582 := (hf2464.1 507 (by omega)).trans (hA507)
          have h2583 := (hf2464.1 508 (by omega)).trans (hA508)
          have h2584 := (hf2464.1 509 (by omega)).trans (hA509)
          have h2585 := (hf2464.1 510 (by omega)).trans (hA510)
          have h2586 := (hf2464.1 518 (by omega)).trans (hA518)
          have h2587 := (hf2464.1 519 (by omega)).trans (hA519)
          have h2588 := (hf2464.1 520 (by omega)).trans (hA520)
          have h2589 := (hf2464.1 521 (by omega)).trans (hA521)
          have h2590 := (hf2464.1 522 (by omega)).trans (hA522)
          have h2591 := (hf2464.1 523 (by omega)).trans (hA523)
          have h2592 := (hf2464.1 524 (by omega)).trans (hA524)
          have h2593 := (hf2464.1 525 (by omega)).trans (hA525)
          have h2594 := (hf2464.1 526 (by omega)).trans (hA526)
          have h2595 := (hf2464.1 504 (by omega)).trans (hO504)
          have h2596 := (hf2464.1 B (by omega)).trans (hb0)
          have h2597 := (hf2464.1 (B + 1) (by omega)).trans (hb1)
          have h2598 := (hf2464.1 (B + 2) (by omega)).trans (hb2)
          have h2599 := (hf2464.1 (B + 3) (by omega)).trans (hb3)
          have h2600 := (hf2464.1 (B + 4) (by omega)).trans (hb4)
          have h2601 := (hf2464.1 (B + 5) (by omega)).trans (hb5)
          have hs2602 : C_ws S2449 B (gD G) (gW G) := C_ws.fr (P := fun q => 501 ≤ q ∧ q ≤ 529) hs ((X_Fr.rf).tr (X_Fr.mono ⟨hf2464.1, hf2464.2⟩ (fun q hq => (by omega)))) (fun k h1 h2 => by omega)
          have h2603 := (hf2464.1 502 (by omega)).trans (hA502)
          refine T_mono (c_find sc S2449 oK2451 oW2452 oA2453 oH2454 tl2455 nW nF nL nP nH nC fF fE fP fH fW fK fN hF hE B rc rn kn G tn 1 wt nc kk.toNat h2466 ho2458 h2579 h2595 ha2459 ha2460 ha2461 ha2462 ha2463 h2580 h2581 h2582 h2583 h2584 h2585 h2586 h2587 h2588 h2589 h2590 h2591 h2592 h2593 h2594 hB ⟨h2596, h2597, h2598, h2599, h2600, ⟨f, h2601, hf⟩, ⟨by omega, by omega⟩, ⟨by omega, by omega⟩, ⟨by omega, by omega⟩⟩ hs2602 hG (by omega) h2603 hcht hk hkm) (fun v2604 S2605 h2606 => ?_)
          rcases h2606 with ⟨r2607, nc2608, St2609, N2610, nW2611, nF2612, nL2613, nP2614, nH2615, nC2616, fF2617, fE2618, fP2619, fH2620, fW2621, fK2622, fN2623, tl2624, hF2625, hE2626, hv2627, hp2628, hp2629, hp2630, hp2631, ho2632, ho2633, ha2634, ha2635, ha2636, ha2637, ha2638, ha2639, ha2640, ha2641, ha2642, ha2643, ha2644, ha2645, ha2646, ha2647, ha2648, ha2649, hf2650⟩
          rw [hv2627]
          show X_T sc 124 (65, [(3, .long (X_st (-2) (X_all G 0 tn))), (0, .ref 1), (1, .long (iL kk))], [], S2605) _
          refine T_p xr_124_65 xn_124 (pc' := 66) (ls' := [(3, .long (X_st (-2) (X_all G 0 tn))), (0, .ref 1), (1, .long (iL kk))]) (st' := [.ref 1]) rfl ?_
          have h2651 := (hf2650.1 1 (by omega)).trans (h2465)
          refine T_get xr_124_66 h2651 rfl (v := .ref 527) rfl (pc' := 69) rfl ?_
          have h2652 := (hf2650.1 527 (by omega)).trans ((hf2464.1 527 (by omega)).trans (hO527))
          refine T_cv (S := S2605) (q := 527) xr_124_69 xf_105.1 xf_105.2.1 xn_105 (as := []) (r := []) rfl h2652 (Nat.le_of_ble_eq_true rfl) (Nat.le_of_ble_eq_true rfl) (pc' := 72) rfl (ls' := [(0, .ref 527)]) rfl ?_
          refine T_mono (c_forget sc S2605 rs re hgt h2652) (fun v2653 S2654 h2655 => ?_)
          rcases h2655 with ⟨hv2656, ho2657, hf2658⟩
          rw [hv2656]
          show X_T sc 124 (72, [(3, .long (X_st (-2) (X_all G 0 tn))), (0, .ref 1), (1, .long (iL kk))], [], S2654) _
          refine T_p xr_124_72 xn_124 (pc' := 73) (ls' := [(3, .long (X_st (-2) (X_all G 0 tn))), (0, .ref 1), (1, .long (iL kk))]) (st' := [.ref 1]) rfl ?_
          have h2659 := (hf2658.1 1 (by omega)).trans (h2651)
          refine T_get xr_124_73 h2659 rfl (v := .ref 504) rfl (pc' := 76) rfl ?_
          have h2660 := (hf2658.1 504 (by omega)).trans (ho2633)
          refine T_get xr_124_76 h2660 rfl (v := .int (iI nc2608)) rfl (pc' := 79) rfl ?_
          refine T_iret xr_124_79 xf_124.2.2 rfl ?_
          refine hQ _ _ ?_
          have h2661 := (hf2658.1 512 (by omega)).trans ((hf2650.1 512 (by omega)).trans (ha2459))
          have h2662 := (hf2658.1 513 (by omega)).trans ((hf2650.1 513 (by omega)).trans (ha2460))
          have h2663 := (hf2658.1 514 (by omega)).trans ((hf2650.1 514 (by omega)).trans (ha2461))
          have h2664 := (hf2658.1 515 (by omega)).trans ((hf2650.1 515 (by omega)).trans (ha2462))
          have h2665 := (hf2658.1 516 (by omega)).trans (ha2647)
          have h2666 := (hf2658.1 511 (by omega)).trans ((hf2650.1 511 (by omega)).trans (ho2458))
          have h2667 := (hf2658.1 505 (by omega)).trans (ha2634)
          have h2668 := (hf2658.1 506 (by omega)).trans (ha2635)
          have h2669 := (hf2658.1 507 (by omega)).trans (ha2636)
          have h2670 := (hf2658.1 508 (by omega)).trans (ha2637)
          have h2671 := (hf2658.1 509 (by omega)).trans (ha2638)
          have h2672 := (hf2658.1 510 (by omega)).trans (ha2639)
          have h2673 := (hf2658.1 518 (by omega)).trans (ha2640)
          have h2674 := (hf2658.1 519 (by omega)).trans (ha2641)
          have h2675 := (hf2658.1 520 (by omega)).trans (ha2642)
          have h2676 := (hf2658.1 521 (by omega)).trans (ha2643)
          have h2677 := (hf2658.1 522 (by omega)).trans (ha2644)
          have h2678 := (hf2658.1 523 (by omega)).trans (ha2645)
          have h2679 := (hf2658.1 524 (by omega)).trans (ha2646)
          have h2680 := (hf2658.1 525 (by omega)).trans (ha2648)
          have h2681 := (hf2658.1 526 (by omega)).trans (ha2649)
          have h2682 := (hf2658.1 517 (by omega)).trans (ho2632)
          exact Or.inr ⟨oK2451, oW2452, oA2453, oH2454, tl2624, 1, r2607, nc2608, St2609, N2610, nW2611, nF2612, nL2613, nP2614, nH2615, nC2616, fF2617, fE2618, fP2619, fH2620, fW2621, fK2622, fN2623, hF2625, hE2626, rfl, (by omega), (fun _ => hp2457), ⟨hkk.1, by omega, by omega⟩, hp2628, hp2630, hp2631, h2666, h2682, h2660, ho2657, h2661, h2662, h2663, h2664, h2665, h2667, h2668, h2669, h2670, h2671, h2672, h2673, h2674, h2675, h2676, h2677, h2678, h2679, h2680, h2681, (((X_Fr.rf).tr (X_Fr.mono ⟨hf2464.1, hf2464.2⟩ (fun q hq => (by omega)))).tr (X_Fr.mono ⟨hf2650.1, hf2650.2⟩ (fun q hq => (by omega)))).tr (X_Fr.mono ⟨hf2658.1, hf2658.2⟩ (fun q hq => (by omega)))⟩
        · skip
          have c2578 : ¬ ((iL kk) < (X_st (-2) (X_all G 0 tn))) := c2578
          refine T_p xr_124_55 xn_124 (pc' := 56) (ls' := [(3, .long (X_st (-2) (X_all G 0 tn))), (0, .ref 1), (1, .long (iL kk))]) (st' := [.int (iI (-1))]) rfl ?_
          refine T_iret xr_124_56 xf_124.2.2 rfl ?_
          refine hQ _ _ ?_
          have hkk : 0 ≤ kk ∧ (kk.toNat : Int) = kk := by
            have h1 : ¬ iL kk < iL 0 := by first | assumption | exact Int64.not_lt.mpr (by assumption)
            rw [iL_lt (by omega) (by omega) (by omega) (by omega)] at h1
            omega
          have hka : ¬ kk.toNat < X_all G 0 tn := fun z => by
            rcases (X_st_lt (m := -2) (a := X_all G 0 tn) (k := kk.toNat) (by omega) (by omega)).mpr z with h | h
            · exact absurd h (by assumption)
            · rw [hkk.2] at h; first | exact absurd h (by assumption) | exact absurd h (Int64.not_lt.mpr (by assumption)) | exact absurd h (Int64.not_lt.mpr (Classical.not_not.mp (by assumption)))
          exact Or.inl ⟨oK2451, oW2452, oA2453, oH2454, tl2455, 1, rfl, (by omega), (fun _ => hp2457), (fun z => by have := z.2.2; omega), ho2458, ha2459, ha2460, ha2461, ha2462, ha2463, (X_Fr.rf).tr (X_Fr.mono ⟨hf2464.1, hf2464.2⟩ (fun q hq => (by omega)))⟩
    · skip
      have c2447 : ¬ (¬ tn = 0) := c2447
      refine T_p xr_124_16 xn_124 (pc' := 17) (ls' := [(0, .ref 1), (1, .long (iL kk))]) (st' := [.int (iI (-1))]) rfl ?_
      refine T_iret xr_124_17 xf_124.2.2 rfl ?_
      refine hQ _ _ ?_
      exact Or.inl ⟨oK, oW, oA, oH, tl, fl, rfl, hfl, hC, (fun z => by
            by_cases ht : tn = 0
            · exact absurd z.2.1 (by omega)
            · by_cases h1 : iL kk < iL 0
              · rw [iL_lt (by omega) (by omega) (by omega) (by omega)] at h1
                have := z.1
                omega
              · first | exact absurd ht (by assumption) | exact absurd (by assumption) h1), hO511, hA512, hA513, hA514, hA515, hA516, X_Fr.rf⟩
theorem c_work (sc : X_Sc) (S : X_S) (nW : Int → Int) (nF : Int → Int) (nL : Int → Int) (nP : Int → Int) (nH : Int → Int) (nC : Int → Int) (vs : Int → Int) (pl : Int → Int) (B : Nat) (rc : Int) (rn : Int → Int64) (kn : Int → Int64) (G : X_G) (B2 : Nat) (tn : Int) (nc : Int) (N : Int → Int → Int) (rs : Int) (re : Int) (hgt : Int) (hO1 : S.1 1 = .inr (10, [.ref 2, .ref B, .ref B2, .ref 496, .ref 501, .ref 504, .ref 511, .ref 517, .ref 527])) (hO501 : S.1 501 = .inr (6, [.int (iI tn), .ref 502, .ref 503])) (hO504 : S.1 504 = .inr (5, [.int (iI nc), .ref 505, .ref 506, .ref 507, .ref 508, .ref 509, .ref 510])) (hO527 : S.1 527 = .inr (9, [.ref 501, .ref 504, .int (iI rs), .int (iI re), .ref 528, .ref 529, .int (iI hgt)])) (hA505 : S.1 505 = .inl (.int, 30, .inl fun k : Nat => iI (nW (k : Int)))) (hA506 : S.1 506 = .inl (.int, 30, .inl fun k : Nat => iI (nF (k : Int)))) (hA507 : S.1 507 = .inl (.int, 30, .inl fun k : Nat => iI (nL (k : Int)))) (hA508 : S.1 508 = .inl (.int, 30, .inl fun k : Nat => iI (nP (k : Int)))) (hA509 : S.1 509 = .inl (.int, 30, .inl fun k : Nat => iI (nH (k : Int)))) (hA510 : S.1 510 = .inl (.int, 120, .inl fun k : Nat => iI (nC (k : Int)))) (hA528 : S.1 528 = .inl (.int, 30, .inl fun k : Nat => iI (vs (k : Int)))) (hA529 : S.1 529 = .inl (.int, 16, .inl fun k : Nat => iI (pl (k : Int)))) (hB : B = 4 ∨ B = 250) (hb : C_bk S B rc (gk G) (gw G) rn (gl G) kn (ga G)) (hs : C_ws S B (gD G) (gW G)) (hG : X_Gok G) (hGs : X_Gst G) (hA502 : S.1 502 = .inl (.long, 30, .inr (.inl fun k : Nat => (gt G) (k : Int)))) (hR : X_Rok G tn nc N) (hnd : F_nd nc N nW nF nL nP nH) (hch : F_ch nc N nC) : X_T sc 127 (0, [(0, .ref 1)], [], S) (fun v S' => (v = some (.int (iI (-1))) ∧ nc = 0 ∧ S' = S) ∨ (∃ (vs1 : Int → Int) (pl1 : Int → Int) (h2 : Int), v = some (.int (iI ((X_wk G (fun w => gD G w 6 0) (fun w => gD G w 7 0) N nc).1))) ∧ ¬ nc = 0 ∧ S'.1 527 = .inr (9, [.ref 501, .ref 504, .int (iI ((X_wk G (fun w => gD G w 6 0) (fun w => gD G w 7 0) N nc).2.2)), .int (iI ((X_wk G (fun w => gD G w 6 0) (fun w => gD G w 7 0) N nc).2.1)), .ref 528, .ref 529, .int (iI h2)]) ∧ S'.1 528 = .inl (.int, 30, .inl fun k : Nat => iI (vs1 (k : Int))) ∧ S'.1 529 = .inl (.int, 16, .inl fun k : Nat => iI (pl1 (k : Int))) ∧ (X_Fr (fun q => 527 ≤ q ∧ q ≤ 529) S S'))) := by
  obtain ⟨hb0, hb1, hb2, hb3, hb4, ⟨f, hb5, hf⟩, ⟨hrc, hrcb⟩, ⟨hkc, hkcb⟩, ⟨hwc, hwcb⟩⟩ := id hb
  have hRn := hR.1
  refine X_QI (fun Q hQ => ?_)
  refine T_p xr_127_0 xn_127 (pc' := 1) (ls' := [(0, .ref 1)]) (st' := [.ref 1]) rfl ?_
  refine T_get xr_127_1 hO1 rfl (v := .ref 504) rfl (pc' := 4) rfl ?_
  refine T_get xr_127_4 hO504 rfl (v := .int (iI nc)) rfl (pc' := 7) rfl ?_
  refine T_zif_ne xr_127_7 (t := 14) (pc' := 10) rfl rfl (fun c2683 => ?_) (fun c2683 => ?_)
  · skip
    have c2683 : ¬ nc = 0 := c2683
    refine T_p xr_127_14 xn_127 (pc' := 15) (ls' := [(0, .ref 1)]) (st' := [.ref 1]) rfl ?_
    refine T_get xr_127_15 hO1 rfl (v := .ref 527) rfl (pc' := 18) rfl ?_
    refine T_p xr_127_18 xn_127 (pc' := 19) (ls' := [(0, .ref 1)]) (st' := [.ref 1, .ref 527]) rfl ?_
    refine T_get xr_127_19 hO1 rfl (v := .ref B) rfl (pc' := 22) rfl ?_
    refine T_cv (S := S) (q := 527) xr_127_22 xf_106.1 xf_106.2.1 xn_106 (as := [.ref B]) (r := []) rfl hO527 (Nat.le_of_ble_eq_true rfl) (Nat.le_of_ble_eq_true rfl) (pc' := 25) rfl (ls' := [(0, .ref 527), (1, .ref B)]) rfl ?_
    refine T_mono (c_run sc S nW nF nL nP nH nC vs pl B rc rn kn G tn nc N rs re hgt hO501 hO504 hO527 hA505 hA506 hA507 hA508 hA509 hA510 hA528 hA529 hB ⟨hb0, hb1, hb2, hb3, hb4, ⟨f, hb5, hf⟩, ⟨by omega, by omega⟩, ⟨by omega, by omega⟩, ⟨by omega, by omega⟩⟩ hs hG hGs hA502 hR (by omega) hnd hch) (fun v2684 S2685 h2686 => ?_)
    rcases h2686 with ⟨vs2687, pl2688, h2689, hv2690, ho2691, ha2692, ha2693, hf2694⟩
    rw [hv2690]
    show X_T sc 127 (25, [(0, .ref 1)], [.int (iI ((X_wk G (fun w => gD G w 6 0) (fun w => gD G w 7 0) N nc).1))], S2685) _
    refine T_iret xr_127_25 xf_127.2.2 rfl ?_
    refine hQ _ _ ?_
    exact Or.inr ⟨vs2687, pl2688, h2689, rfl, (by omega), ho2691, ha2692, ha2693, (X_Fr.rf).tr (X_Fr.mono ⟨hf2694.1, hf2694.2⟩ (fun q hq => (by omega)))⟩
  · skip
    have c2683 : ¬ (¬ nc = 0) := c2683
    refine T_p xr_127_10 xn_127 (pc' := 11) (ls' := [(0, .ref 1)]) (st' := [.int (iI (-1))]) rfl ?_
    refine T_p xr_127_11 xn_127 (pc' := 25) (ls' := [(0, .ref 1)]) (st' := [.int (iI (-1))]) rfl ?_
    refine T_iret xr_127_25 xf_127.2.2 rfl ?_
    refine hQ _ _ ?_
    exact Or.inl ⟨rfl, (by omega), rfl⟩
