theorem xr_19_0 : X_row 19 0 = some (0, (.aload_n 0, 1), (0, 0, 0)) := by decide +kernel
theorem xr_19_1 : X_row 19 1 = some (1, (.getfield 22, 3), (1, 5, 32)) := by decide +kernel
theorem xr_19_4 : X_row 19 4 = some (4, (.iload_n 1, 1), (0, 0, 0)) := by decide +kernel
theorem xr_19_5 : X_row 19 5 = some (5, (.iload_n 2, 1), (0, 0, 0)) := by decide +kernel
theorem xr_19_6 : X_row 19 6 = some (6, (.invokestatic 40, 3), (20, 2, 0)) := by decide +kernel
theorem xr_19_9 : X_row 19 9 = some (9, (.laload, 1), (0, 0, 0)) := by decide +kernel
theorem xr_19_10 : X_row 19 10 = some (10, (.lreturn, 1), (0, 0, 0)) := by decide +kernel
theorem xr_107_0 : X_row 107 0 = some (0, (.iload_n 1, 1), (0, 0, 0)) := by decide +kernel
theorem xr_107_1 : X_row 107 1 = some (1, (.ifCond .lt 19, 3), (0, 0, 0)) := by decide +kernel
theorem xr_107_4 : X_row 107 4 = some (4, (.iload_n 2, 1), (0, 0, 0)) := by decide +kernel
theorem xr_107_5 : X_row 107 5 = some (5, (.aload_n 0, 1), (0, 0, 0)) := by decide +kernel
theorem xr_107_6 : X_row 107 6 = some (6, (.getfield 38, 3), (10, 4, 44)) := by decide +kernel
theorem xr_107_9 : X_row 107 9 = some (9, (.getfield 88, 3), (6, 0, 23)) := by decide +kernel
theorem xr_107_12 : X_row 107 12 = some (12, (.if_icmp .gt 8, 3), (0, 0, 0)) := by decide +kernel
theorem xr_107_15 : X_row 107 15 = some (15, (.iload_n 1, 1), (0, 0, 0)) := by decide +kernel
theorem xr_107_16 : X_row 107 16 = some (16, (.iload_n 2, 1), (0, 0, 0)) := by decide +kernel
theorem xr_107_17 : X_row 107 17 = some (17, (.if_icmp .lt 5, 3), (0, 0, 0)) := by decide +kernel
theorem xr_107_20 : X_row 107 20 = some (20, (.lconst 0, 1), (0, 0, 0)) := by decide +kernel
theorem xr_107_21 : X_row 107 21 = some (21, (.lreturn, 1), (0, 0, 0)) := by decide +kernel
theorem xr_107_22 : X_row 107 22 = some (22, (.aload_n 0, 1), (0, 0, 0)) := by decide +kernel
theorem xr_107_23 : X_row 107 23 = some (23, (.getfield 54, 3), (10, 6, 48)) := by decide +kernel
theorem xr_107_26 : X_row 107 26 = some (26, (.invokevirtual 159, 3), (27, 28, 0)) := by decide +kernel
theorem xr_107_29 : X_row 107 29 = some (29, (.aload_n 0, 1), (0, 0, 0)) := by decide +kernel
theorem xr_107_30 : X_row 107 30 = some (30, (.getfield 54, 3), (10, 6, 48)) := by decide +kernel
theorem xr_107_33 : X_row 107 33 = some (33, (.iload_n 1, 1), (0, 0, 0)) := by decide +kernel
theorem xr_107_34 : X_row 107 34 = some (34, (.iload_n 2, 1), (0, 0, 0)) := by decide +kernel
theorem xr_107_35 : X_row 107 35 = some (35, (.invokevirtual 162, 3), (19, 30, 0)) := by decide +kernel
theorem xr_107_38 : X_row 107 38 = some (38, (.lreturn, 1), (0, 0, 0)) := by decide +kernel
theorem xr_108_0 : X_row 108 0 = some (0, (.aload_n 0, 1), (0, 0, 0)) := by decide +kernel
theorem xr_108_1 : X_row 108 1 = some (1, (.getfield 54, 3), (10, 6, 48)) := by decide +kernel
theorem xr_108_4 : X_row 108 4 = some (4, (.invokevirtual 159, 3), (27, 28, 0)) := by decide +kernel
theorem xr_108_7 : X_row 108 7 = some (7, (.iconst 1, 1), (0, 0, 0)) := by decide +kernel
theorem xr_108_8 : X_row 108 8 = some (8, (.istore_n 1, 1), (0, 0, 0)) := by decide +kernel
theorem xr_108_9 : X_row 108 9 = some (9, (.iload_n 1, 1), (0, 0, 0)) := by decide +kernel
theorem xr_108_10 : X_row 108 10 = some (10, (.aload_n 0, 1), (0, 0, 0)) := by decide +kernel
theorem xr_108_11 : X_row 108 11 = some (11, (.getfield 38, 3), (10, 4, 44)) := by decide +kernel
theorem xr_108_14 : X_row 108 14 = some (14, (.getfield 88, 3), (6, 0, 23)) := by decide +kernel
theorem xr_108_17 : X_row 108 17 = some (17, (.if_icmp .gt 63, 3), (0, 0, 0)) := by decide +kernel
theorem xr_108_20 : X_row 108 20 = some (20, (.iconst 0, 1), (0, 0, 0)) := by decide +kernel
theorem xr_108_21 : X_row 108 21 = some (21, (.istore_n 2, 1), (0, 0, 0)) := by decide +kernel
theorem xr_108_22 : X_row 108 22 = some (22, (.iload_n 2, 1), (0, 0, 0)) := by decide +kernel
theorem xr_108_23 : X_row 108 23 = some (23, (.iload_n 1, 1), (0, 0, 0)) := by decide +kernel
theorem xr_108_24 : X_row 108 24 = some (24, (.iadd, 1), (0, 0, 0)) := by decide +kernel
theorem xr_108_25 : X_row 108 25 = some (25, (.aload_n 0, 1), (0, 0, 0)) := by decide +kernel
theorem xr_108_26 : X_row 108 26 = some (26, (.getfield 38, 3), (10, 4, 44)) := by decide +kernel
theorem xr_108_29 : X_row 108 29 = some (29, (.getfield 88, 3), (6, 0, 23)) := by decide +kernel
theorem xr_108_32 : X_row 108 32 = some (32, (.if_icmp .gt 42, 3), (0, 0, 0)) := by decide +kernel
theorem xr_108_35 : X_row 108 35 = some (35, (.aload_n 0, 1), (0, 0, 0)) := by decide +kernel
theorem xr_108_36 : X_row 108 36 = some (36, (.getfield 54, 3), (10, 6, 48)) := by decide +kernel
theorem xr_108_39 : X_row 108 39 = some (39, (.iload_n 2, 1), (0, 0, 0)) := by decide +kernel
theorem xr_108_40 : X_row 108 40 = some (40, (.iload_n 2, 1), (0, 0, 0)) := by decide +kernel
theorem xr_108_41 : X_row 108 41 = some (41, (.iload_n 1, 1), (0, 0, 0)) := by decide +kernel
theorem xr_108_42 : X_row 108 42 = some (42, (.iadd, 1), (0, 0, 0)) := by decide +kernel
theorem xr_108_43 : X_row 108 43 = some (43, (.invokevirtual 162, 3), (19, 30, 0)) := by decide +kernel
theorem xr_108_46 : X_row 108 46 = some (46, (.lstore_n 3, 1), (0, 0, 0)) := by decide +kernel
theorem xr_108_47 : X_row 108 47 = some (47, (.lload_n 3, 1), (0, 0, 0)) := by decide +kernel
theorem xr_108_48 : X_row 108 48 = some (48, (.lconst 1, 1), (0, 0, 0)) := by decide +kernel
theorem xr_108_49 : X_row 108 49 = some (49, (.lcmp, 1), (0, 0, 0)) := by decide +kernel
theorem xr_108_50 : X_row 108 50 = some (50, (.ifCond .gt 11, 3), (0, 0, 0)) := by decide +kernel
theorem xr_108_53 : X_row 108 53 = some (53, (.lload_n 3, 1), (0, 0, 0)) := by decide +kernel
theorem xr_108_54 : X_row 108 54 = some (54, (.ldc2_w 166, 3), (18446744073709551614, 754, 0)) := by decide +kernel
theorem xr_108_57 : X_row 108 57 = some (57, (.lcmp, 1), (0, 0, 0)) := by decide +kernel
theorem xr_108_58 : X_row 108 58 = some (58, (.ifCond .ne 10, 3), (0, 0, 0)) := by decide +kernel
theorem xr_108_61 : X_row 108 61 = some (61, (.bipush 100, 2), (0, 0, 0)) := by decide +kernel
theorem xr_108_63 : X_row 108 63 = some (63, (.iload_n 2, 1), (0, 0, 0)) := by decide +kernel
theorem xr_108_64 : X_row 108 64 = some (64, (.imul, 1), (0, 0, 0)) := by decide +kernel
theorem xr_108_65 : X_row 108 65 = some (65, (.iload_n 1, 1), (0, 0, 0)) := by decide +kernel
theorem xr_108_66 : X_row 108 66 = some (66, (.iadd, 1), (0, 0, 0)) := by decide +kernel
theorem xr_108_67 : X_row 108 67 = some (67, (.ireturn, 1), (0, 0, 0)) := by decide +kernel
theorem xr_108_68 : X_row 108 68 = some (68, (.iinc 2 1, 3), (0, 0, 0)) := by decide +kernel
theorem xr_108_71 : X_row 108 71 = some (71, (.goto (-49), 3), (0, 0, 0)) := by decide +kernel
theorem xr_108_74 : X_row 108 74 = some (74, (.iinc 1 1, 3), (0, 0, 0)) := by decide +kernel
theorem xr_108_77 : X_row 108 77 = some (77, (.goto (-68), 3), (0, 0, 0)) := by decide +kernel
theorem xr_108_80 : X_row 108 80 = some (80, (.iconst (-1), 1), (0, 0, 0)) := by decide +kernel
theorem xr_108_81 : X_row 108 81 = some (81, (.ireturn, 1), (0, 0, 0)) := by decide +kernel
theorem xr_109_0 : X_row 109 0 = some (0, (.lload_n 1, 1), (0, 0, 0)) := by decide +kernel
theorem xr_109_1 : X_row 109 1 = some (1, (.lconst 0, 1), (0, 0, 0)) := by decide +kernel
theorem xr_109_2 : X_row 109 2 = some (2, (.lcmp, 1), (0, 0, 0)) := by decide +kernel
theorem xr_109_3 : X_row 109 3 = some (3, (.ifCond .lt 13, 3), (0, 0, 0)) := by decide +kernel
theorem xr_109_6 : X_row 109 6 = some (6, (.aload_n 0, 1), (0, 0, 0)) := by decide +kernel
theorem xr_109_7 : X_row 109 7 = some (7, (.getfield 38, 3), (10, 4, 44)) := by decide +kernel
theorem xr_109_10 : X_row 109 10 = some (10, (.getfield 88, 3), (6, 0, 23)) := by decide +kernel
theorem xr_109_13 : X_row 109 13 = some (13, (.ifCond .ne 5, 3), (0, 0, 0)) := by decide +kernel
theorem xr_109_16 : X_row 109 16 = some (16, (.iconst (-1), 1), (0, 0, 0)) := by decide +kernel
theorem xr_109_17 : X_row 109 17 = some (17, (.ireturn, 1), (0, 0, 0)) := by decide +kernel
theorem xr_109_18 : X_row 109 18 = some (18, (.aload_n 0, 1), (0, 0, 0)) := by decide +kernel
theorem xr_109_19 : X_row 109 19 = some (19, (.getfield 54, 3), (10, 6, 48)) := by decide +kernel
theorem xr_109_22 : X_row 109 22 = some (22, (.invokevirtual 159, 3), (27, 28, 0)) := by decide +kernel
theorem xr_109_25 : X_row 109 25 = some (25, (.aload_n 0, 1), (0, 0, 0)) := by decide +kernel
theorem xr_109_26 : X_row 109 26 = some (26, (.getfield 54, 3), (10, 6, 48)) := by decide +kernel
theorem xr_109_29 : X_row 109 29 = some (29, (.iconst 0, 1), (0, 0, 0)) := by decide +kernel
theorem xr_109_30 : X_row 109 30 = some (30, (.aload_n 0, 1), (0, 0, 0)) := by decide +kernel
theorem xr_109_31 : X_row 109 31 = some (31, (.getfield 38, 3), (10, 4, 44)) := by decide +kernel
theorem xr_109_34 : X_row 109 34 = some (34, (.getfield 88, 3), (6, 0, 23)) := by decide +kernel
theorem xr_109_37 : X_row 109 37 = some (37, (.invokevirtual 162, 3), (19, 30, 0)) := by decide +kernel
theorem xr_109_40 : X_row 109 40 = some (40, (.lstore_n 3, 1), (0, 0, 0)) := by decide +kernel
theorem xr_109_41 : X_row 109 41 = some (41, (.lload_n 3, 1), (0, 0, 0)) := by decide +kernel
theorem xr_109_42 : X_row 109 42 = some (42, (.ldc2_w 166, 3), (18446744073709551614, 754, 0)) := by decide +kernel
theorem xr_109_45 : X_row 109 45 = some (45, (.lcmp, 1), (0, 0, 0)) := by decide +kernel
theorem xr_109_46 : X_row 109 46 = some (46, (.ifCond .eq 11, 3), (0, 0, 0)) := by decide +kernel
theorem xr_109_49 : X_row 109 49 = some (49, (.lload_n 1, 1), (0, 0, 0)) := by decide +kernel
theorem xr_109_50 : X_row 109 50 = some (50, (.lload_n 3, 1), (0, 0, 0)) := by decide +kernel
theorem xr_109_51 : X_row 109 51 = some (51, (.lcmp, 1), (0, 0, 0)) := by decide +kernel
theorem xr_109_52 : X_row 109 52 = some (52, (.ifCond .lt 5, 3), (0, 0, 0)) := by decide +kernel
theorem xr_109_55 : X_row 109 55 = some (55, (.iconst (-1), 1), (0, 0, 0)) := by decide +kernel
theorem xr_109_56 : X_row 109 56 = some (56, (.ireturn, 1), (0, 0, 0)) := by decide +kernel
theorem xr_109_57 : X_row 109 57 = some (57, (.aload_n 0, 1), (0, 0, 0)) := by decide +kernel
theorem xr_109_58 : X_row 109 58 = some (58, (.getfield 63, 3), (10, 7, 50)) := by decide +kernel
theorem xr_109_61 : X_row 109 61 = some (61, (.lload_n 1, 1), (0, 0, 0)) := by decide +kernel
theorem xr_109_62 : X_row 109 62 = some (62, (.invokevirtual 168, 3), (36, 32, 0)) := by decide +kernel
theorem xr_109_65 : X_row 109 65 = some (65, (.aload_n 0, 1), (0, 0, 0)) := by decide +kernel
theorem xr_109_66 : X_row 109 66 = some (66, (.getfield 72, 3), (10, 8, 52)) := by decide +kernel
theorem xr_109_69 : X_row 109 69 = some (69, (.invokevirtual 172, 3), (99, 24, 0)) := by decide +kernel
theorem xr_109_72 : X_row 109 72 = some (72, (.aload_n 0, 1), (0, 0, 0)) := by decide +kernel
theorem xr_109_73 : X_row 109 73 = some (73, (.getfield 45, 3), (10, 5, 46)) := by decide +kernel
theorem xr_109_76 : X_row 109 76 = some (76, (.getfield 109, 3), (5, 0, 25)) := by decide +kernel
theorem xr_109_79 : X_row 109 79 = some (79, (.ireturn, 1), (0, 0, 0)) := by decide +kernel
theorem xn_19 : X_nL 19 = 3 := by decide +kernel
theorem xf_19 : X_na 19 = 2 ∧ X_ci 19 = 1 ∧ X_rt 19 = (some .long) := by decide +kernel
theorem xn_107 : X_nL 107 = 3 := by decide +kernel
theorem xf_107 : X_na 107 = 2 ∧ X_ci 107 = 10 ∧ X_rt 107 = (some .long) := by decide +kernel
theorem xn_108 : X_nL 108 = 5 := by decide +kernel
theorem xf_108 : X_na 108 = 0 ∧ X_ci 108 = 10 ∧ X_rt 108 = (some .int) := by decide +kernel
theorem xn_109 : X_nL 109 = 5 := by decide +kernel
theorem xf_109 : X_na 109 = 1 ∧ X_ci 109 = 10 ∧ X_rt 109 = (some .int) := by decide +kernel
theorem c_count (sc : X_Sc) (S : X_S) (oK : Int → Int64) (oW : Int → Int64) (oA : Int → Int64) (oH : Int → Int64) (tl : Int → Int64) (B : Nat) (rc : Int) (rn : Int → Int64) (kn : Int → Int64) (G : X_G) (B2 : Nat) (tn : Int) (fl : Int) (i : Int) (j : Int) (hO1 : S.1 1 = .inr (10, [.ref 2, .ref B, .ref B2, .ref 496, .ref 501, .ref 504, .ref 511, .ref 517, .ref 527])) (hO501 : S.1 501 = .inr (6, [.int (iI tn), .ref 502, .ref 503])) (hO511 : S.1 511 = .inr (1, [.ref B, .ref 501, .int (iI fl), .ref 512, .ref 513, .ref 514, .ref 515, .ref 516])) (hA512 : S.1 512 = .inl (.long, 5115, .inr (.inl fun k : Nat => oK (k : Int)))) (hA513 : S.1 513 = .inl (.long, 13950, .inr (.inl fun k : Nat => oW (k : Int)))) (hA514 : S.1 514 = .inl (.long, 465, .inr (.inl fun k : Nat => oA (k : Int)))) (hA515 : S.1 515 = .inl (.long, 55800, .inr (.inl fun k : Nat => oH (k : Int)))) (hA516 : S.1 516 = .inl (.long, 7200, .inr (.inl fun k : Nat => tl (k : Int)))) (hB : B = 4 ∨ B = 250) (hb : C_bk S B rc (gk G) (gw G) rn (gl G) kn (ga G)) (hs : C_ws S B (gD G) (gW G)) (hG : X_Gok G) (hA502 : S.1 502 = .inl (.long, 30, .inr (.inl fun k : Nat => (gt G) (k : Int)))) (htn : 0 ≤ tn ∧ tn ≤ 30) (hfl : 0 ≤ fl ∧ fl ≤ 1) (hC : fl = 1 → X_cht G (-2) tn oK oW oA oH) (hi : -2147483648 ≤ i ∧ i ≤ 2147483647) (hj : -2147483648 ≤ j ∧ j ≤ 2147483647) : X_T sc 107 (0, [(0, .ref 1), (1, .int (iI i)), (2, .int (iI j))], [], S) (fun v S' => ∃ (oK1 : Int → Int64) (oW1 : Int → Int64) (oA1 : Int → Int64) (oH1 : Int → Int64) (tl1 : Int → Int64) (fl1 : Int), v = some (.long (X_qCt G tn i j)) ∧ (0 ≤ fl1 ∧ fl1 ≤ 1) ∧ (fl1 = 1 → X_cht G (-2) tn oK1 oW1 oA1 oH1) ∧ S'.1 511 = .inr (1, [.ref B, .ref 501, .int (iI fl1), .ref 512, .ref 513, .ref 514, .ref 515, .ref 516]) ∧ S'.1 512 = .inl (.long, 5115, .inr (.inl fun k : Nat => oK1 (k : Int))) ∧ S'.1 513 = .inl (.long, 13950, .inr (.inl fun k : Nat => oW1 (k : Int))) ∧ S'.1 514 = .inl (.long, 465, .inr (.inl fun k : Nat => oA1 (k : Int))) ∧ S'.1 515 = .inl (.long, 55800, .inr (.inl fun k : Nat => oH1 (k : Int))) ∧ S'.1 516 = .inl (.long, 7200, .inr (.inl fun k : Nat => tl1 (k : Int))) ∧ (X_Fr (fun q => 511 ≤ q ∧ q ≤ 516) S S')) := by
  obtain ⟨hb0, hb1, hb2, hb3, hb4, ⟨f, hb5, hf⟩, ⟨hrc, hrcb⟩, ⟨hkc, hkcb⟩, ⟨hwc, hwcb⟩⟩ := id hb
  refine X_QI (fun Q hQ => ?_)
  refine T_p xr_107_0 xn_107 (pc' := 1) (ls' := [(0, .ref 1), (1, .int (iI i)), (2, .int (iI j))]) (st' := [.int (iI i)]) rfl ?_
  refine T_zif_lt xr_107_1 (t := 20) (pc' := 4) rfl rfl (fun c1937 => ?_) (fun c1937 => ?_)
  · skip
    have c1937 : i < 0 := c1937
    refine T_p xr_107_20 xn_107 (pc' := 21) (ls' := [(0, .ref 1), (1, .int (iI i)), (2, .int (iI j))]) (st' := [.long (iL 0)]) rfl ?_
    refine T_lret xr_107_21 xf_107.2.2 rfl ?_
    refine hQ _ _ ?_
    exact ⟨oK, oW, oA, oH, tl, fl, (by rw [show X_qCt G tn i j = iL 0 from by unfold X_qCt; rw [if_neg (by omega)]]), hfl, hC, hO511, hA512, hA513, hA514, hA515, hA516, X_Fr.rf⟩
  · skip
    have c1937 : ¬ (i < 0) := c1937
    refine T_p xr_107_4 xn_107 (pc' := 5) (ls' := [(0, .ref 1), (1, .int (iI i)), (2, .int (iI j))]) (st' := [.int (iI j)]) rfl ?_
    refine T_p xr_107_5 xn_107 (pc' := 6) (ls' := [(0, .ref 1), (1, .int (iI i)), (2, .int (iI j))]) (st' := [.ref 1, .int (iI j)]) rfl ?_
    refine T_get xr_107_6 hO1 rfl (v := .ref 501) rfl (pc' := 9) rfl ?_
    refine T_get xr_107_9 hO501 rfl (v := .int (iI tn)) rfl (pc' := 12) rfl ?_
    refine T_zicmp_gt xr_107_12 (t := 20) (pc' := 15) rfl rfl (fun c1938 => ?_) (fun c1938 => ?_)
    · skip
      have c1938 : tn < j := c1938
      refine T_p xr_107_20 xn_107 (pc' := 21) (ls' := [(0, .ref 1), (1, .int (iI i)), (2, .int (iI j))]) (st' := [.long (iL 0)]) rfl ?_
      refine T_lret xr_107_21 xf_107.2.2 rfl ?_
      refine hQ _ _ ?_
      exact ⟨oK, oW, oA, oH, tl, fl, (by rw [show X_qCt G tn i j = iL 0 from by unfold X_qCt; rw [if_neg (by omega)]]), hfl, hC, hO511, hA512, hA513, hA514, hA515, hA516, X_Fr.rf⟩
    · skip
      have c1938 : ¬ (tn < j) := c1938
      refine T_p xr_107_15 xn_107 (pc' := 16) (ls' := [(0, .ref 1), (1, .int (iI i)), (2, .int (iI j))]) (st' := [.int (iI i)]) rfl ?_
      refine T_p xr_107_16 xn_107 (pc' := 17) (ls' := [(0, .ref 1), (1, .int (iI i)), (2, .int (iI j))]) (st' := [.int (iI j), .int (iI i)]) rfl ?_
      refine T_zicmp_lt xr_107_17 (t := 22) (pc' := 20) rfl rfl (fun c1939 => ?_) (fun c1939 => ?_)
      · skip
        have c1939 : i < j := c1939
        refine T_p xr_107_22 xn_107 (pc' := 23) (ls' := [(0, .ref 1), (1, .int (iI i)), (2, .int (iI j))]) (st' := [.ref 1]) rfl ?_
        refine T_get xr_107_23 hO1 rfl (v := .ref 511) rfl (pc' := 26) rfl ?_
        refine T_cv (S := S) (q := 511) xr_107_26 xf_27.1 xf_27.2.1 xn_27 (as := []) (r := []) rfl hO511 (Nat.le_of_ble_eq_true rfl) (Nat.le_of_ble_eq_true rfl) (pc' := 29) rfl (ls' := [(0, .ref 511)]) rfl ?_
        refine T_mono (c_fill sc S oK oW oA oH tl B rc rn kn G tn fl hO501 hO511 hA512 hA513 hA514 hA515 hA516 hB ⟨hb0, hb1, hb2, hb3, hb4, ⟨f, hb5, hf⟩, ⟨by omega, by omega⟩, ⟨by omega, by omega⟩, ⟨by omega, by omega⟩⟩ hs hG hA502 (by omega) (by omega) hC) (fun v1940 S1941 h1942 => ?_)
        rcases h1942 with ⟨oK1943, oW1944, oA1945, oH1946, tl1947, hv1948, hp1949, ho1950, ha1951, ha1952, ha1953, ha1954, ha1955, hf1956⟩
        rw [hv1948]
        show X_T sc 107 (29, [(0, .ref 1), (1, .int (iI i)), (2, .int (iI j))], [], S1941) _
        refine T_p xr_107_29 xn_107 (pc' := 30) (ls' := [(0, .ref 1), (1, .int (iI i)), (2, .int (iI j))]) (st' := [.ref 1]) rfl ?_
        have h1957 := (hf1956.1 1 (by omega)).trans (hO1)
        refine T_get xr_107_30 h1957 rfl (v := .ref 511) rfl (pc' := 33) rfl ?_
        refine T_p xr_107_33 xn_107 (pc' := 34) (ls' := [(0, .ref 1), (1, .int (iI i)), (2, .int (iI j))]) (st' := [.int (iI i), .ref 511]) rfl ?_
        refine T_p xr_107_34 xn_107 (pc' := 35) (ls' := [(0, .ref 1), (1, .int (iI i)), (2, .int (iI j))]) (st' := [.int (iI j), .int (iI i), .ref 511]) rfl ?_
        refine T_cv (S := S1941) (q := 511) xr_107_35 xf_19.1 xf_19.2.1 xn_19 (as := [.int (iI i), .int (iI j)]) (r := []) rfl ho1950 (Nat.le_of_ble_eq_true rfl) (Nat.le_of_ble_eq_true rfl) (pc' := 38) rfl (ls' := [(0, .ref 511), (1, .int (iI i)), (2, .int (iI j))]) rfl ?_
        refine T_p xr_19_0 xn_19 (pc' := 1) (ls' := [(0, .ref 511), (1, .int (iI i)), (2, .int (iI j))]) (st' := [.ref 511]) rfl ?_
        refine T_get xr_19_1 ho1950 rfl (v := .ref 514) rfl (pc' := 4) rfl ?_
        refine T_p xr_19_4 xn_19 (pc' := 5) (ls' := [(0, .ref 511), (1, .int (iI i)), (2, .int (iI j))]) (st' := [.int (iI i), .ref 514]) rfl ?_
        refine T_p xr_19_5 xn_19 (pc' := 6) (ls' := [(0, .ref 511), (1, .int (iI i)), (2, .int (iI j))]) (st' := [.int (iI j), .int (iI i), .ref 514]) rfl ?_
        refine T_cs xr_19_6 (by decide) xf_20.1 xn_20 (as := [.int (iI i), .int (iI j)]) (r := [.ref 514]) rfl (Nat.le_of_ble_eq_true rfl) (Nat.le_of_ble_eq_true rfl) (pc' := 9) rfl (ls' := [(0, .int (iI i)), (1, .int (iI j))]) rfl ?_
        refine T_mono (c_rowOf sc S1941 i j (by omega)) (fun v1958 S1959 h1960 => ?_)
        rcases h1960 with ⟨hv1961, hf1962⟩
        rw [hv1961]
        rw [hf1962]
        have hr1963 := X_ro_r (i := i) (j := j) (by omega) (by omega) (by omega)
        show X_T sc 19 (9, [(0, .ref 511), (1, .int (iI i)), (2, .int (iI j))], [.int (iI (X_ro i j)), .ref 514], S1941) _
        refine T_zlald xr_19_9 ha1953 (pc' := 10) rfl ?_
        refine T_le (y := (X_st (-2) (X_all G i j))) ((hp1949 i j (by omega) (by omega) (by omega)).2.2.1) ?_
        refine T_lret xr_19_10 xf_19.2.2 rfl ?_
        show X_T sc 107 (38, [(0, .ref 1), (1, .int (iI i)), (2, .int (iI j))], [.long (X_st (-2) (X_all G i j))], S1941) _
        refine T_lret xr_107_38 xf_107.2.2 rfl ?_
        refine hQ _ _ ?_
        exact ⟨oK1943, oW1944, oA1945, oH1946, tl1947, 1, (by rw [show X_qCt G tn i j = X_st (-2) (X_all G i j) from by unfold X_qCt; rw [if_pos (by omega)]]), (by omega), (fun _ => hp1949), ho1950, ha1951, ha1952, ha1953, ha1954, ha1955, (X_Fr.rf).tr (X_Fr.mono ⟨hf1956.1, hf1956.2⟩ (fun q hq => (by omega)))⟩
      · skip
        have c1939 : ¬ (i < j) := c1939
        refine T_p xr_107_20 xn_107 (pc' := 21) (ls' := [(0, .ref 1), (1, .int (iI i)), (2, .int (iI j))]) (st' := [.long (iL 0)]) rfl ?_
        refine T_lret xr_107_21 xf_107.2.2 rfl ?_
        refine hQ _ _ ?_
        exact ⟨oK, oW, oA, oH, tl, fl, (by rw [show X_qCt G tn i j = iL 0 from by unfold X_qCt; rw [if_neg (by omega)]]), hfl, hC, hO511, hA512, hA513, hA514, hA515, hA516, X_Fr.rf⟩
theorem c_quarrel (sc : X_Sc) (S : X_S) (oK : Int → Int64) (oW : Int → Int64) (oA : Int → Int64) (oH : Int → Int64) (tl : Int → Int64) (B : Nat) (rc : Int) (rn : Int → Int64) (kn : Int → Int64) (G : X_G) (B2 : Nat) (tn : Int) (fl : Int) (hO1 : S.1 1 = .inr (10, [.ref 2, .ref B, .ref B2, .ref 496, .ref 501, .ref 504, .ref 511, .ref 517, .ref 527])) (hO501 : S.1 501 = .inr (6, [.int (iI tn), .ref 502, .ref 503])) (hO511 : S.1 511 = .inr (1, [.ref B, .ref 501, .int (iI fl), .ref 512, .ref 513, .ref 514, .ref 515, .ref 516])) (hA512 : S.1 512 = .inl (.long, 5115, .inr (.inl fun k : Nat => oK (k : Int)))) (hA513 : S.1 513 = .inl (.long, 13950, .inr (.inl fun k : Nat => oW (k : Int)))) (hA514 : S.1 514 = .inl (.long, 465, .inr (.inl fun k : Nat => oA (k : Int)))) (hA515 : S.1 515 = .inl (.long, 55800, .inr (.inl fun k : Nat => oH (k : Int)))) (hA516 : S.1 516 = .inl (.long, 7200, .inr (.inl fun k : Nat => tl (k : Int)))) (hB : B = 4 ∨ B = 250) (hb : C_bk S B rc (gk G) (gw G) rn (gl G) kn (ga G)) (hs : C_ws S B (gD G) (gW G)) (hG : X_Gok G) (hA502 : S.1 502 = .inl (.long, 30, .inr (.inl fun k : Nat => (gt G) (k : Int)))) (htn : 0 ≤ tn ∧ tn ≤ 30) (hfl : 0 ≤ fl ∧ fl ≤ 1) (hC : fl = 1 → X_cht G (-2) tn oK oW oA oH) : X_T sc 108 (0, [(0, .ref 1)], [], S) (fun v S' => ∃ (oK1 : Int → Int64) (oW1 : Int → Int64) (oA1 : Int → Int64) (oH1 : Int → Int64) (tl1 : Int → Int64) (fl1 : Int) (r : Int), v = some (.int (iI r)) ∧ (0 ≤ fl1 ∧ fl1 ≤ 1) ∧ (fl1 = 1 → X_cht G (-2) tn oK1 oW1 oA1 oH1) ∧ X_qQu G tn r ∧ S'.1 511 = .inr (1, [.ref B, .ref 501, .int (iI fl1), .ref 512, .ref 513, .ref 514, .ref 515, .ref 516]) ∧ S'.1 512 = .inl (.long, 5115, .inr (.inl fun k : Nat => oK1 (k : Int))) ∧ S'.1 513 = .inl (.long, 13950, .inr (.inl fun k : Nat => oW1 (k : Int))) ∧ S'.1 514 = .inl (.long, 465, .inr (.inl fun k : Nat => oA1 (k : Int))) ∧ S'.1 515 = .inl (.long, 55800, .inr (.inl fun k : Nat => oH1 (k : Int))) ∧ S'.1 516 = .inl (.long, 7200, .inr (.inl fun k : Nat => tl1 (k : Int))) ∧ (X_Fr (fun q => 511 ≤ q ∧ q ≤ 516) S S')) := by
  obtain ⟨hb0, hb1, hb2, hb3, hb4, ⟨f, hb5, hf⟩, ⟨hrc, hrcb⟩, ⟨hkc, hkcb⟩, ⟨hwc, hwcb⟩⟩ := id hb
  refine X_QI (fun Q hQ => ?_)
  refine T_p xr_108_0 xn_108 (pc' := 1) (ls' := [(0, .ref 1)]) (st' := [.ref 1]) rfl ?_
  refine T_get xr_108_1 hO1 rfl (v := .ref 511) rfl (pc' := 4) rfl ?_
  refine T_cv (S := S) (q := 511) xr_108_4 xf_27.1 xf_27.2.1 xn_27 (as := []) (r := []) rfl hO511 (Nat.le_of_ble_eq_true rfl) (Nat.le_of_ble_eq_true rfl) (pc' := 7) rfl (ls' := [(0, .ref 511)]) rfl ?_
  refine T_mono (c_fill sc S oK oW oA oH tl B rc rn kn G tn fl hO501 hO511 hA512 hA513 hA514 hA515 hA516 hB ⟨hb0, hb1, hb2, hb3, hb4, ⟨f, hb5, hf⟩, ⟨by omega, by omega⟩, ⟨by omega, by omega⟩, ⟨by omega, by omega⟩⟩ hs hG hA502 (by omega) (by omega) hC) (fun v1964 S1965 h1966 => ?_)
  rcases h1966 with ⟨oK1967, oW1968, oA1969, oH1970, tl1971, hv1972, hp1973, ho1974, ha1975, ha1976, ha1977, ha1978, ha1979, hf1980⟩
  rw [hv1972]
  show X_T sc 108 (7, [(0, .ref 1)], [], S1965) _
  refine T_p xr_108_7 xn_108 (pc' := 8) (ls' := [(0, .ref 1)]) (st' := [.int (iI 1)]) rfl ?_
  refine T_p xr_108_8 xn_108 (pc' := 9) (ls' := [(1, .int (iI 1)), (0, .ref 1)]) (st' := []) rfl ?_
  have L1981 : ∀ (m1983 : Nat) (n : Int) (hn : 1 ≤ n ∧ n ≤ tn + 1) (hno : ∀ n1 i1, 1 ≤ n1 → 0 ≤ i1 → i1 + n1 ≤ tn → n1 < n → ¬ 1 < X_all G i1 (i1 + n1)) (hm1984 : tn + 1 - n < m1983), X_T sc 108 (9, [(1, .int (iI n)), (0, .ref 1)], [], S1965) Q := by
    intro m1983
    induction m1983 with
    | zero =>
      intro n hn hno hm1984
      exact (show False by omega).elim
    | succ m1983 ih1982 =>
      intro n hn hno hm1984
      refine T_p xr_108_9 xn_108 (pc' := 10) (ls' := [(1, .int (iI n)), (0, .ref 1)]) (st' := [.int (iI n)]) rfl ?_
      refine T_p xr_108_10 xn_108 (pc' := 11) (ls' := [(1, .int (iI n)), (0, .ref 1)]) (st' := [.ref 1, .int (iI n)]) rfl ?_
      have h1986 := (hf1980.1 1 (by omega)).trans (hO1)
      refine T_get xr_108_11 h1986 rfl (v := .ref 501) rfl (pc' := 14) rfl ?_
      have h1987 := (hf1980.1 501 (by omega)).trans (hO501)
      refine T_get xr_108_14 h1987 rfl (v := .int (iI tn)) rfl (pc' := 17) rfl ?_
      refine T_zicmp_gt xr_108_17 (t := 80) (pc' := 20) rfl rfl (fun c1988 => ?_) (fun c1988 => ?_)
      · skip
        have c1988 : tn < n := c1988
        refine T_p xr_108_80 xn_108 (pc' := 81) (ls' := [(1, .int (iI n)), (0, .ref 1)]) (st' := [.int (iI (-1))]) rfl ?_
        refine T_iret xr_108_81 xf_108.2.2 rfl ?_
        refine hQ _ _ ?_
        exact ⟨oK1967, oW1968, oA1969, oH1970, tl1971, 1, (-1), rfl, (by omega), (fun _ => hp1973), (Or.inl ⟨rfl, fun n1 i1 h1 h2 h3 => hno n1 i1 h1 h2 h3 (by omega)⟩), ho1974, ha1975, ha1976, ha1977, ha1978, ha1979, (X_Fr.rf).tr (X_Fr.mono ⟨hf1980.1, hf1980.2⟩ (fun q hq => (by omega)))⟩
      · skip
        have c1988 : ¬ (tn < n) := c1988
        refine T_p xr_108_20 xn_108 (pc' := 21) (ls' := [(1, .int (iI n)), (0, .ref 1)]) (st' := [.int (iI 0)]) rfl ?_
        refine T_p xr_108_21 xn_108 (pc' := 22) (ls' := [(2, .int (iI 0)), (1, .int (iI n)), (0, .ref 1)]) (st' := []) rfl ?_
        have L1989 : ∀ (m1991 : Nat) (i : Int) (hi : 0 ≤ i ∧ i + n ≤ tn + 1) (hno2 : ∀ n1 i1, 1 ≤ n1 → 0 ≤ i1 → i1 + n1 ≤ tn → (n1 < n ∨ (n1 = n ∧ i1 < i)) → ¬ 1 < X_all G i1 (i1 + n1)) (hm1992 : tn + 1 - i < m1991), X_T sc 108 (22, [(2, .int (iI i)), (1, .int (iI n)), (0, .ref 1)], [], S1965) Q := by
          intro m1991
          induction m1991 with
          | zero =>
            intro i hi hno2 hm1992
            exact (show False by omega).elim
          | succ m1991 ih1990 =>
            intro i hi hno2 hm1992
            refine T_p xr_108_22 xn_108 (pc' := 23) (ls' := [(2, .int (iI i)), (1, .int (iI n)), (0, .ref 1)]) (st' := [.int (iI i)]) rfl ?_
            refine T_p xr_108_23 xn_108 (pc' := 24) (ls' := [(2, .int (iI i)), (1, .int (iI n)), (0, .ref 1)]) (st' := [.int (iI n), .int (iI i)]) rfl ?_
            refine T_ziadd xr_108_24 (z := i + n) rfl (pc' := 25) rfl ?_
            refine T_p xr_108_25 xn_108 (pc' := 26) (ls' := [(2, .int (iI i)), (1, .int (iI n)), (0, .ref 1)]) (st' := [.ref 1, .int (iI (i + n))]) rfl ?_
            refine T_get xr_108_26 h1986 rfl (v := .ref 501) rfl (pc' := 29) rfl ?_
            refine T_get xr_108_29 h1987 rfl (v := .int (iI tn)) rfl (pc' := 32) rfl ?_
            refine T_zicmp_gt xr_108_32 (t := 74) (pc' := 35) rfl rfl (fun c1994 => ?_) (fun c1994 => ?_)
            · skip
              have c1994 : tn < (i + n) := c1994
              refine T_ziinc xr_108_74 xn_108 (a := n) (z := n + 1) rfl (Nat.le_of_ble_eq_true rfl) (by omega) (ls' := [(1, .int (iI (n + 1))), (2, .int (iI i)), (0, .ref 1)]) rfl (pc' := 77) rfl ?_
              refine T_p xr_108_77 xn_108 (pc' := 9) (ls' := [(1, .int (iI (n + 1))), (2, .int (iI i)), (0, .ref 1)]) (st' := []) rfl ?_
              refine T_sub (ls := [(1, .int (iI (n + 1))), (0, .ref 1)]) ⟨rfl, rfl, trivial⟩ rfl rfl ?_
              exact ih1982 (n + 1)  (by omega) (fun n1 i1 h1 h2 h3 h4 => hno2 n1 i1 h1 h2 h3 (by omega)) (by omega)
            · skip
              have c1994 : ¬ (tn < (i + n)) := c1994
              refine T_p xr_108_35 xn_108 (pc' := 36) (ls' := [(2, .int (iI i)), (1, .int (iI n)), (0, .ref 1)]) (st' := [.ref 1]) rfl ?_
              refine T_get xr_108_36 h1986 rfl (v := .ref 511) rfl (pc' := 39) rfl ?_
              refine T_p xr_108_39 xn_108 (pc' := 40) (ls' := [(2, .int (iI i)), (1, .int (iI n)), (0, .ref 1)]) (st' := [.int (iI i), .ref 511]) rfl ?_
              refine T_p xr_108_40 xn_108 (pc' := 41) (ls' := [(2, .int (iI i)), (1, .int (iI n)), (0, .ref 1)]) (st' := [.int (iI i), .int (iI i), .ref 511]) rfl ?_
              refine T_p xr_108_41 xn_108 (pc' := 42) (ls' := [(2, .int (iI i)), (1, .int (iI n)), (0, .ref 1)]) (st' := [.int (iI n), .int (iI i), .int (iI i), .ref 511]) rfl ?_
              refine T_ziadd xr_108_42 (z := i + n) rfl (pc' := 43) rfl ?_
              refine T_cv (S := S1965) (q := 511) xr_108_43 xf_19.1 xf_19.2.1 xn_19 (as := [.int (iI i), .int (iI (i + n))]) (r := []) rfl ho1974 (Nat.le_of_ble_eq_true rfl) (Nat.le_of_ble_eq_true rfl) (pc' := 46) rfl (ls' := [(0, .ref 511), (1, .int (iI i)), (2, .int (iI (i + n)))]) rfl ?_
              refine T_p xr_19_0 xn_19 (pc' := 1) (ls' := [(0, .ref 511), (1, .int (iI i)), (2, .int (iI (i + n)))]) (st' := [.ref 511]) rfl ?_
              refine T_get xr_19_1 ho1974 rfl (v := .ref 514) rfl (pc' := 4) rfl ?_
              refine T_p xr_19_4 xn_19 (pc' := 5) (ls' := [(0, .ref 511), (1, .int (iI i)), (2, .int (iI (i + n)))]) (st' := [.int (iI i), .ref 514]) rfl ?_
              refine T_p xr_19_5 xn_19 (pc' := 6) (ls' := [(0, .ref 511), (1, .int (iI i)), (2, .int (iI (i + n)))]) (st' := [.int (iI (i + n)), .int (iI i), .ref 514]) rfl ?_
              refine T_cs xr_19_6 (by decide) xf_20.1 xn_20 (as := [.int (iI i), .int (iI (i + n))]) (r := [.ref 514]) rfl (Nat.le_of_ble_eq_true rfl) (Nat.le_of_ble_eq_true rfl) (pc' := 9) rfl (ls' := [(0, .int (iI i)), (1, .int (iI (i + n)))]) rfl ?_
              refine T_mono (c_rowOf sc S1965 i (i + n) (by omega)) (fun v1995 S1996 h1997 => ?_)
              rcases h1997 with ⟨hv1998, hf1999⟩
              rw [hv1998]
              rw [hf1999]
              have hr2000 := X_ro_r (i := i) (j := (i + n)) (by omega) (by omega) (by omega)
              show X_T sc 19 (9, [(0, .ref 511), (1, .int (iI i)), (2, .int (iI (i + n)))], [.int (iI (X_ro i (i + n))), .ref 514], S1965) _
              refine T_zlald xr_19_9 ha1977 (pc' := 10) rfl ?_
              refine T_le (y := (X_st (-2) (X_all G i (i + n)))) ((hp1973 i (i + n) (by omega) (by omega) (by omega)).2.2.1) ?_
              refine T_lret xr_19_10 xf_19.2.2 rfl ?_
              show X_T sc 108 (46, [(2, .int (iI i)), (1, .int (iI n)), (0, .ref 1)], [.long (X_st (-2) (X_all G i (i + n)))], S1965) _
              refine T_p xr_108_46 xn_108 (pc' := 47) (ls' := [(3, .long (X_st (-2) (X_all G i (i + n)))), (2, .int (iI i)), (1, .int (iI n)), (0, .ref 1)]) (st' := []) rfl ?_
              refine T_p xr_108_47 xn_108 (pc' := 48) (ls' := [(3, .long (X_st (-2) (X_all G i (i + n)))), (2, .int (iI i)), (1, .int (iI n)), (0, .ref 1)]) (st' := [.long (X_st (-2) (X_all G i (i + n)))]) rfl ?_
              refine T_p xr_108_48 xn_108 (pc' := 49) (ls' := [(3, .long (X_st (-2) (X_all G i (i + n)))), (2, .int (iI i)), (1, .int (iI n)), (0, .ref 1)]) (st' := [.long (iL 1), .long (X_st (-2) (X_all G i (i + n)))]) rfl ?_
              refine T_lc_gt xr_108_49 xr_108_50 (t := 61) (pc' := 53) rfl rfl (fun c2001 => ?_) (fun c2001 => ?_)
              · skip
                have c2001 : (iL 1) < (X_st (-2) (X_all G i (i + n))) := c2001
                refine T_p xr_108_61 xn_108 (pc' := 63) (ls' := [(3, .long (X_st (-2) (X_all G i (i + n)))), (2, .int (iI i)), (1, .int (iI n)), (0, .ref 1)]) (st' := [.int (iI 100)]) rfl ?_
                refine T_p xr_108_63 xn_108 (pc' := 64) (ls' := [(3, .long (X_st (-2) (X_all G i (i + n)))), (2, .int (iI i)), (1, .int (iI n)), (0, .ref 1)]) (st' := [.int (iI i), .int (iI 100)]) rfl ?_
                refine T_zimul xr_108_64 (z := 100 * i) rfl (pc' := 65) rfl ?_
                refine T_p xr_108_65 xn_108 (pc' := 66) (ls' := [(3, .long (X_st (-2) (X_all G i (i + n)))), (2, .int (iI i)), (1, .int (iI n)), (0, .ref 1)]) (st' := [.int (iI n), .int (iI (100 * i))]) rfl ?_
                refine T_ziadd xr_108_66 (z := (100 * i) + n) rfl (pc' := 67) rfl ?_
                refine T_iret xr_108_67 xf_108.2.2 rfl ?_
                refine hQ _ _ ?_
                exact ⟨oK1967, oW1968, oA1969, oH1970, tl1971, 1, (100 * i) + n, rfl, (by omega), (fun _ => hp1973), (Or.inr ⟨n, i, by omega, by omega, (show 1 < X_all G i (i + n) from by
                      by_cases hm : X_all G i (i + n) ≤ 9223372036854775807
                      · have h1 : iL 1 < X_st (-2) (X_all G i (i + n)) := by first | assumption | exact absurd ((X_st_m (m := -2) (by omega)).mp (show X_st (-2) (X_all G i (i + n)) = iL (-2) by first | assumption | exact Classical.not_not.mp (by assumption))) (by omega)
                        rw [X_st_lo hm, iL_lt (by omega) (by omega) (by omega) (by omega)] at h1; omega
                      · omega), fun n1 i1 h1 h2 h3 h4 => hno2 n1 i1 h1 h2 h3 (by omega)⟩), ho1974, ha1975, ha1976, ha1977, ha1978, ha1979, (X_Fr.rf).tr (X_Fr.mono ⟨hf1980.1, hf1980.2⟩ (fun q hq => (by omega)))⟩
              · skip
                have c2001 : ¬ ((iL 1) < (X_st (-2) (X_all G i (i + n)))) := c2001
                refine T_p xr_108_53 xn_108 (pc' := 54) (ls' := [(3, .long (X_st (-2) (X_all G i (i + n)))), (2, .int (iI i)), (1, .int (iI n)), (0, .ref 1)]) (st' := [.long (X_st (-2) (X_all G i (i + n)))]) rfl ?_
                refine T_p xr_108_54 xn_108 (pc' := 57) (ls' := [(3, .long (X_st (-2) (X_all G i (i + n)))), (2, .int (iI i)), (1, .int (iI n)), (0, .ref 1)]) (st' := [.long (iL (-2)), .long (X_st (-2) (X_all G i (i + n)))]) rfl ?_
                refine T_lc_ne xr_108_57 xr_108_58 (t := 68) (pc' := 61) rfl rfl (fun c2002 => ?_) (fun c2002 => ?_)
                · skip
                  have c2002 : ¬ (X_st (-2) (X_all G i (i + n))) = (iL (-2)) := c2002
                  refine T_ziinc xr_108_68 xn_108 (a := i) (z := i + 1) rfl (Nat.le_of_ble_eq_true rfl) (by omega) (ls' := [(2, .int (iI (i + 1))), (3, .long (X_st (-2) (X_all G i (i + n)))), (1, .int (iI n)), (0, .ref 1)]) rfl (pc' := 71) rfl ?_
                  refine T_p xr_108_71 xn_108 (pc' := 22) (ls' := [(2, .int (iI (i + 1))), (3, .long (X_st (-2) (X_all G i (i + n)))), (1, .int (iI n)), (0, .ref 1)]) (st' := []) rfl ?_
                  refine T_sub (ls := [(2, .int (iI (i + 1))), (1, .int (iI n)), (0, .ref 1)]) ⟨rfl, rfl, rfl, trivial⟩ rfl rfl ?_
                  exact ih1990 (i + 1)  (by omega) (fun n1 i1 h1 h2 h3 h4 => by
                        by_cases hh : n1 = n ∧ i1 = i
                        · obtain ⟨e1, e2⟩ := hh
                          subst e1; subst e2; exact (show ¬ 1 < X_all G i1 (i1 + n1) from fun z => by
                        by_cases hm : X_all G i1 (i1 + n1) ≤ 9223372036854775807
                        · refine absurd (show iL 1 < X_st (-2) (X_all G i1 (i1 + n1)) from ?_) (by first | assumption | exact Int64.not_lt.mpr (by assumption))
                          rw [X_st_lo hm, iL_lt (by omega) (by omega) (by omega) (by omega)]; omega
                        · exact absurd (X_st_hi (m := -2) (a := X_all G i1 (i1 + n1)) (by omega)) (by assumption))
                        · exact hno2 n1 i1 h1 h2 h3 (by omega)) (by omega)
                · skip
                  have c2002 : ¬ (¬ (X_st (-2) (X_all G i (i + n))) = (iL (-2))) := c2002
                  refine T_p xr_108_61 xn_108 (pc' := 63) (ls' := [(3, .long (X_st (-2) (X_all G i (i + n)))), (2, .int (iI i)), (1, .int (iI n)), (0, .ref 1)]) (st' := [.int (iI 100)]) rfl ?_
                  refine T_p xr_108_63 xn_108 (pc' := 64) (ls' := [(3, .long (X_st (-2) (X_all G i (i + n)))), (2, .int (iI i)), (1, .int (iI n)), (0, .ref 1)]) (st' := [.int (iI i), .int (iI 100)]) rfl ?_
                  refine T_zimul xr_108_64 (z := 100 * i) rfl (pc' := 65) rfl ?_
                  refine T_p xr_108_65 xn_108 (pc' := 66) (ls' := [(3, .long (X_st (-2) (X_all G i (i + n)))), (2, .int (iI i)), (1, .int (iI n)), (0, .ref 1)]) (st' := [.int (iI n), .int (iI (100 * i))]) rfl ?_
                  refine T_ziadd xr_108_66 (z := (100 * i) + n) rfl (pc' := 67) rfl ?_
                  refine T_iret xr_108_67 xf_108.2.2 rfl ?_
                  refine hQ _ _ ?_
                  exact ⟨oK1967, oW1968, oA1969, oH1970, tl1971, 1, (100 * i) + n, rfl, (by omega), (fun _ => hp1973), (Or.inr ⟨n, i, by omega, by omega, (show 1 < X_all G i (i + n) from by
                        by_cases hm : X_all G i (i + n) ≤ 9223372036854775807
                        · have h1 : iL 1 < X_st (-2) (X_all G i (i + n)) := by first | assumption | exact absurd ((X_st_m (m := -2) (by omega)).mp (show X_st (-2) (X_all G i (i + n)) = iL (-2) by first | assumption | exact Classical.not_not.mp (by assumption))) (by omega)
                          rw [X_st_lo hm, iL_lt (by omega) (by omega) (by omega) (by omega)] at h1; omega
                        · omega), fun n1 i1 h1 h2 h3 h4 => hno2 n1 i1 h1 h2 h3 (by omega)⟩), ho1974, ha1975, ha1976, ha1977, ha1978, ha1979, (X_Fr.rf).tr (X_Fr.mono ⟨hf1980.1, hf1980.2⟩ (fun q hq => (by omega)))⟩
        exact L1989 ((tn + 1) + 1).toNat 0  (by omega) (fun n1 i1 h1 h2 h3 h4 => hno n1 i1 h1 h2 h3 (by omega)) (by omega)
  exact L1981 (tn + 1).toNat 1  (by omega) (fun n1 i1 h1 h2 h3 h4 => absurd h4 (by omega)) (by omega)
set_option maxHeartbeats 3000000 in
theorem c_read (sc : X_Sc) (S : X_S) (oK : Int → Int64) (oW : Int → Int64) (oA : Int → Int64) (oH : Int → Int64) (tl : Int → Int64) (nW : Int → Int) (nF : Int → Int) (nL : Int → Int) (nP : Int → Int) (nH : Int → Int) (nC : Int → Int) (fF : Int → Int) (fE : Int → Int) (fP : Int → Int) (fH : Int → Int) (fW : Int → Int) (fK : Int → Int) (fN : Int → Int64) (hF : Int → Int) (hE : Int → Int) (B : Nat) (rc : Int) (rn : Int → Int64) (kn : Int → Int64) (G : X_G) (B2 : Nat) (tn : Int) (fl : Int) (wt : Int) (nc : Int) (rs : Int) (re : Int) (hgt : Int) (kk : Int) (hO1 : S.1 1 = .inr (10, [.ref 2, .ref B, .ref B2, .ref 496, .ref 501, .ref 504, .ref 511, .ref 517, .ref 527])) (hO501 : S.1 501 = .inr (6, [.int (iI tn), .ref 502, .ref 503])) (hO511 : S.1 511 = .inr (1, [.ref B, .ref 501, .int (iI fl), .ref 512, .ref 513, .ref 514, .ref 515, .ref 516])) (hO517 : S.1 517 = .inr (2, [.ref 511, .ref 501, .ref 504, .int (iI wt), .ref 518, .ref 519, .ref 520, .ref 521, .ref 522, .ref 523, .ref 524, .ref 525, .ref 526])) (hO504 : S.1 504 = .inr (5, [.int (iI nc), .ref 505, .ref 506, .ref 507, .ref 508, .ref 509, .ref 510])) (hO527 : S.1 527 = .inr (9, [.ref 501, .ref 504, .int (iI rs), .int (iI re), .ref 528, .ref 529, .int (iI hgt)])) (hA512 : S.1 512 = .inl (.long, 5115, .inr (.inl fun k : Nat => oK (k : Int)))) (hA513 : S.1 513 = .inl (.long, 13950, .inr (.inl fun k : Nat => oW (k : Int)))) (hA514 : S.1 514 = .inl (.long, 465, .inr (.inl fun k : Nat => oA (k : Int)))) (hA515 : S.1 515 = .inl (.long, 55800, .inr (.inl fun k : Nat => oH (k : Int)))) (hA516 : S.1 516 = .inl (.long, 7200, .inr (.inl fun k : Nat => tl (k : Int)))) (hA505 : S.1 505 = .inl (.int, 30, .inl fun k : Nat => iI (nW (k : Int)))) (hA506 : S.1 506 = .inl (.int, 30, .inl fun k : Nat => iI (nF (k : Int)))) (hA507 : S.1 507 = .inl (.int, 30, .inl fun k : Nat => iI (nL (k : Int)))) (hA508 : S.1 508 = .inl (.int, 30, .inl fun k : Nat => iI (nP (k : Int)))) (hA509 : S.1 509 = .inl (.int, 30, .inl fun k : Nat => iI (nH (k : Int)))) (hA510 : S.1 510 = .inl (.int, 120, .inl fun k : Nat => iI (nC (k : Int)))) (hA518 : S.1 518 = .inl (.int, 30, .inl fun k : Nat => iI (fF (k : Int)))) (hA519 : S.1 519 = .inl (.int, 30, .inl fun k : Nat => iI (fE (k : Int)))) (hA520 : S.1 520 = .inl (.int, 30, .inl fun k : Nat => iI (fP (k : Int)))) (hA521 : S.1 521 = .inl (.int, 30, .inl fun k : Nat => iI (fH (k : Int)))) (hA522 : S.1 522 = .inl (.int, 30, .inl fun k : Nat => iI (fW (k : Int)))) (hA523 : S.1 523 = .inl (.int, 30, .inl fun k : Nat => iI (fK (k : Int)))) (hA524 : S.1 524 = .inl (.long, 30, .inr (.inl fun k : Nat => fN (k : Int)))) (hA525 : S.1 525 = .inl (.int, 4, .inl fun k : Nat => iI (hF (k : Int)))) (hA526 : S.1 526 = .inl (.int, 4, .inl fun k : Nat => iI (hE (k : Int)))) (hB : B = 4 ∨ B = 250) (hb : C_bk S B rc (gk G) (gw G) rn (gl G) kn (ga G)) (hs : C_ws S B (gD G) (gW G)) (hG : X_Gok G) (hA502 : S.1 502 = .inl (.long, 30, .inr (.inl fun k : Nat => (gt G) (k : Int)))) (htn : 0 ≤ tn ∧ tn ≤ 30) (hfl : 0 ≤ fl ∧ fl ≤ 1) (hC : fl = 1 → X_cht G (-2) tn oK oW oA oH) (hkr : -9223372036854775808 ≤ kk ∧ kk ≤ 9223372036854775807) : X_T sc 109 (0, [(0, .ref 1), (1, .long (iL kk))], [], S) (fun v S' => (∃ (oK1 : Int → Int64) (oW1 : Int → Int64) (oA1 : Int → Int64) (oH1 : Int → Int64) (tl1 : Int → Int64) (fl1 : Int), v = some (.int (iI (-1))) ∧ (0 ≤ fl1 ∧ fl1 ≤ 1) ∧ (fl1 = 1 → X_cht G (-2) tn oK1 oW1 oA1 oH1) ∧ ¬ X_qRk G tn kk ∧ S'.1 511 = .inr (1, [.ref B, .ref 501, .int (iI fl1), .ref 512, .ref 513, .ref 514, .ref 515, .ref 516]) ∧ S'.1 512 = .inl (.long, 5115, .inr (.inl fun k : Nat => oK1 (k : Int))) ∧ S'.1 513 = .inl (.long, 13950, .inr (.inl fun k : Nat => oW1 (k : Int))) ∧ S'.1 514 = .inl (.long, 465, .inr (.inl fun k : Nat => oA1 (k : Int))) ∧ S'.1 515 = .inl (.long, 55800, .inr (.inl fun k : Nat => oH1 (k : Int))) ∧ S'.1 516 = .inl (.long, 7200, .inr (.inl fun k : Nat => tl1 (k : Int))) ∧ (X_Fr (fun q => 511 ≤ q ∧ q ≤ 516) S S')) ∨ (∃ (oK1 : Int → Int64) (oW1 : Int → Int64) (oA1 : Int → Int64) (oH1 : Int → Int64) (tl1 : Int → Int64) (fl1 : Int) (r1 : Int) (nc1 : Int) (St1 : Int → X_It) (N1 : Int → Int → Int) (nW1 : Int → Int) (nF1 : Int → Int) (nL1 : Int → Int) (nP1 : Int → Int) (nH1 : Int → Int) (nC1 : Int → Int) (fF1 : Int → Int) (fE1 : Int → Int) (fP1 : Int → Int) (fH1 : Int → Int) (fW1 : Int → Int) (fK1 : Int → Int) (fN1 : Int → Int64) (hF1 : Int → Int) (hE1 : Int → Int), v = some (.int (iI nc1)) ∧ (0 ≤ fl1 ∧ fl1 ≤ 1) ∧ (fl1 = 1 → X_cht G (-2) tn oK1 oW1 oA1 oH1) ∧ X_qRk G tn kk ∧ X_rd G tn kk.toNat = (r1, St1, nc1, N1) ∧ F_nd nc1 N1 nW1 nF1 nL1 nP1 nH1 ∧ F_ch nc1 N1 nC1 ∧ S'.1 511 = .inr (1, [.ref B, .ref 501, .int (iI fl1), .ref 512, .ref 513, .ref 514, .ref 515, .ref 516]) ∧ S'.1 517 = .inr (2, [.ref 511, .ref 501, .ref 504, .int (iI r1), .ref 518, .ref 519, .ref 520, .ref 521, .ref 522, .ref 523, .ref 524, .ref 525, .ref 526]) ∧ S'.1 504 = .inr (5, [.int (iI nc1), .ref 505, .ref 506, .ref 507, .ref 508, .ref 509, .ref 510]) ∧ S'.1 527 = .inr (9, [.ref 501, .ref 504, .int (iI 0), .int (iI (-1)), .ref 528, .ref 529, .int (iI hgt)]) ∧ S'.1 512 = .inl (.long, 5115, .inr (.inl fun k : Nat => oK1 (k : Int))) ∧ S'.1 513 = .inl (.long, 13950, .inr (.inl fun k : Nat => oW1 (k : Int))) ∧ S'.1 514 = .inl (.long, 465, .inr (.inl fun k : Nat => oA1 (k : Int))) ∧ S'.1 515 = .inl (.long, 55800, .inr (.inl fun k : Nat => oH1 (k : Int))) ∧ S'.1 516 = .inl (.long, 7200, .inr (.inl fun k : Nat => tl1 (k : Int))) ∧ S'.1 505 = .inl (.int, 30, .inl fun k : Nat => iI (nW1 (k : Int))) ∧ S'.1 506 = .inl (.int, 30, .inl fun k : Nat => iI (nF1 (k : Int))) ∧ S'.1 507 = .inl (.int, 30, .inl fun k : Nat => iI (nL1 (k : Int))) ∧ S'.1 508 = .inl (.int, 30, .inl fun k : Nat => iI (nP1 (k : Int))) ∧ S'.1 509 = .inl (.int, 30, .inl fun k : Nat => iI (nH1 (k : Int))) ∧ S'.1 510 = .inl (.int, 120, .inl fun k : Nat => iI (nC1 (k : Int))) ∧ S'.1 518 = .inl (.int, 30, .inl fun k : Nat => iI (fF1 (k : Int))) ∧ S'.1 519 = .inl (.int, 30, .inl fun k : Nat => iI (fE1 (k : Int))) ∧ S'.1 520 = .inl (.int, 30, .inl fun k : Nat => iI (fP1 (k : Int))) ∧ S'.1 521 = .inl (.int, 30, .inl fun k : Nat => iI (fH1 (k : Int))) ∧ S'.1 522 = .inl (.int, 30, .inl fun k : Nat => iI (fW1 (k : Int))) ∧ S'.1 523 = .inl (.int, 30, .inl fun k : Nat => iI (fK1 (k : Int))) ∧ S'.1 524 = .inl (.long, 30, .inr (.inl fun k : Nat => fN1 (k : Int))) ∧ S'.1 525 = .inl (.int, 4, .inl fun k : Nat => iI (hF1 (k : Int))) ∧ S'.1 526 = .inl (.int, 4, .inl fun k : Nat => iI (hE1 (k : Int))) ∧ (X_Fr (fun q => 504 ≤ q ∧ q ≤ 527) S S'))) := by
  obtain ⟨hb0, hb1, hb2, hb3, hb4, ⟨f, hb5, hf⟩, ⟨hrc, hrcb⟩, ⟨hkc, hkcb⟩, ⟨hwc, hwcb⟩⟩ := id hb
  refine X_QI (fun Q hQ => ?_)
  refine T_p xr_109_0 xn_109 (pc' := 1) (ls' := [(0, .ref 1), (1, .long (iL kk))]) (st' := [.long (iL kk)]) rfl ?_
  refine T_p xr_109_1 xn_109 (pc' := 2) (ls' := [(0, .ref 1), (1, .long (iL kk))]) (st' := [.long (iL 0), .long (iL kk)]) rfl ?_
  refine T_lc_lt xr_109_2 xr_109_3 (t := 16) (pc' := 6) rfl rfl (fun c2003 => ?_) (fun c2003 => ?_)
  · skip
    have c2003 : (iL kk) < (iL 0) := c2003
    refine T_p xr_109_16 xn_109 (pc' := 17) (ls' := [(0, .ref 1), (1, .long (iL kk))]) (st' := [.int (iI (-1))]) rfl ?_
    refine T_iret xr_109_17 xf_109.2.2 rfl ?_
    refine hQ _ _ ?_
    exact Or.inl ⟨oK, oW, oA, oH, tl, fl, rfl, hfl, hC, (fun z => by
          by_cases ht : tn = 0
          · exact absurd z.2.1 (by omega)
          · by_cases h1 : iL kk < iL 0
            · rw [iL_lt (by omega) (by omega) (by omega) (by omega)] at h1
              have := z.1
              omega
            · first | exact absurd ht (by assumption) | exact absurd (by assumption) h1), hO511, hA512, hA513, hA514, hA515, hA516, X_Fr.rf⟩
  · skip
    have c2003 : ¬ ((iL kk) < (iL 0)) := c2003
    refine T_p xr_109_6 xn_109 (pc' := 7) (ls' := [(0, .ref 1), (1, .long (iL kk))]) (st' := [.ref 1]) rfl ?_
    refine T_get xr_109_7 hO1 rfl (v := .ref 501) rfl (pc' := 10) rfl ?_
    refine T_get xr_109_10 hO501 rfl (v := .int (iI tn)) rfl (pc' := 13) rfl ?_
    refine T_zif_ne xr_109_13 (t := 18) (pc' := 16) rfl rfl (fun c2004 => ?_) (fun c2004 => ?_)
    · skip
      have c2004 : ¬ tn = 0 := c2004
      refine T_p xr_109_18 xn_109 (pc' := 19) (ls' := [(0, .ref 1), (1, .long (iL kk))]) (st' := [.ref 1]) rfl ?_
      refine T_get xr_109_19 hO1 rfl (v := .ref 511) rfl (pc' := 22) rfl ?_
      refine T_cv (S := S) (q := 511) xr_109_22 xf_27.1 xf_27.2.1 xn_27 (as := []) (r := []) rfl hO511 (Nat.le_of_ble_eq_true rfl) (Nat.le_of_ble_eq_true rfl) (pc' := 25) rfl (ls' := [(0, .ref 511)]) rfl ?_
      refine T_mono (c_fill sc S oK oW oA oH tl B rc rn kn G tn fl hO501 hO511 hA512 hA513 hA514 hA515 hA516 hB ⟨hb0, hb1, hb2, hb3, hb4, ⟨f, hb5, hf⟩, ⟨by omega, by omega⟩, ⟨by omega, by omega⟩, ⟨by omega, by omega⟩⟩ hs hG hA502 (by omega) (by omega) hC) (fun v2005 S2006 h2007 => ?_)
      rcases h2007 with ⟨oK2008, oW2009, oA2010, oH2011, tl2012, hv2013, hp2014, ho2015, ha2016, ha2017, ha2018, ha2019, ha2020, hf2021⟩
      rw [hv2013]
      show X_T sc 109 (25, [(0, .ref 1), (1, .long (iL kk))], [], S2006) _
      refine T_p xr_109_25 xn_109 (pc' := 26) (ls' := [(0, .ref 1), (1, .long (iL kk))]) (st' := [.ref 1]) rfl ?_
      have h2022 := (hf2021.1 1 (by omega)).trans (hO1)
      refine T_get xr_109_26 h2022 rfl (v := .ref 511) rfl (pc' := 29) rfl ?_
      refine T_p xr_109_29 xn_109 (pc' := 30) (ls' := [(0, .ref 1), (1, .long (iL kk))]) (st' := [.int (iI 0), .ref 511]) rfl ?_
      refine T_p xr_109_30 xn_109 (pc' := 31) (ls' := [(0, .ref 1), (1, .long (iL kk))]) (st' := [.ref 1, .int (iI 0), .ref 511]) rfl ?_
      refine T_get xr_109_31 h2022 rfl (v := .ref 501) rfl (pc' := 34) rfl ?_
      have h2023 := (hf2021.1 501 (by omega)).trans (hO501)
      refine T_get xr_109_34 h2023 rfl (v := .int (iI tn)) rfl (pc' := 37) rfl ?_
      refine T_cv (S := S2006) (q := 511) xr_109_37 xf_19.1 xf_19.2.1 xn_19 (as := [.int (iI 0), .int (iI tn)]) (r := []) rfl ho2015 (Nat.le_of_ble_eq_true rfl) (Nat.le_of_ble_eq_true rfl) (pc' := 40) rfl (ls' := [(0, .ref 511), (1, .int (iI 0)), (2, .int (iI tn))]) rfl ?_
      refine T_p xr_19_0 xn_19 (pc' := 1) (ls' := [(0, .ref 511), (1, .int (iI 0)), (2, .int (iI tn))]) (st' := [.ref 511]) rfl ?_
      refine T_get xr_19_1 ho2015 rfl (v := .ref 514) rfl (pc' := 4) rfl ?_
      refine T_p xr_19_4 xn_19 (pc' := 5) (ls' := [(0, .ref 511), (1, .int (iI 0)), (2, .int (iI tn))]) (st' := [.int (iI 0), .ref 514]) rfl ?_
      refine T_p xr_19_5 xn_19 (pc' := 6) (ls' := [(0, .ref 511), (1, .int (iI 0)), (2, .int (iI tn))]) (st' := [.int (iI tn), .int (iI 0), .ref 514]) rfl ?_
      refine T_cs xr_19_6 (by decide) xf_20.1 xn_20 (as := [.int (iI 0), .int (iI tn)]) (r := [.ref 514]) rfl (Nat.le_of_ble_eq_true rfl) (Nat.le_of_ble_eq_true rfl) (pc' := 9) rfl (ls' := [(0, .int (iI 0)), (1, .int (iI tn))]) rfl ?_
      refine T_mono (c_rowOf sc S2006 0 tn (by omega)) (fun v2024 S2025 h2026 => ?_)
      rcases h2026 with ⟨hv2027, hf2028⟩
      rw [hv2027]
      rw [hf2028]
      have hr2029 := X_ro_r (i := 0) (j := tn) (by omega) (by omega) (by omega)
      show X_T sc 19 (9, [(0, .ref 511), (1, .int (iI 0)), (2, .int (iI tn))], [.int (iI (X_ro 0 tn)), .ref 514], S2006) _
      refine T_zlald xr_19_9 ha2018 (pc' := 10) rfl ?_
      refine T_le (y := (X_st (-2) (X_all G 0 tn))) ((hp2014 0 tn (by omega) (by omega) (by omega)).2.2.1) ?_
      refine T_lret xr_19_10 xf_19.2.2 rfl ?_
      show X_T sc 109 (40, [(0, .ref 1), (1, .long (iL kk))], [.long (X_st (-2) (X_all G 0 tn))], S2006) _
      refine T_p xr_109_40 xn_109 (pc' := 41) (ls' := [(3, .long (X_st (-2) (X_all G 0 tn))), (0, .ref 1), (1, .long (iL kk))]) (st' := []) rfl ?_
      refine T_p xr_109_41 xn_109 (pc' := 42) (ls' := [(3, .long (X_st (-2) (X_all G 0 tn))), (0, .ref 1), (1, .long (iL kk))]) (st' := [.long (X_st (-2) (X_all G 0 tn))]) rfl ?_
      refine T_p xr_109_42 xn_109 (pc' := 45) (ls' := [(3, .long (X_st (-2) (X_all G 0 tn))), (0, .ref 1), (1, .long (iL kk))]) (st' := [.long (iL (-2)), .long (X_st (-2) (X_all G 0 tn))]) rfl ?_
      refine T_lc_eq xr_109_45 xr_109_46 (t := 57) (pc' := 49) rfl rfl (fun c2030 => ?_) (fun c2030 => ?_)
      · skip
        have c2030 : (X_st (-2) (X_all G 0 tn)) = (iL (-2)) := c2030
        refine T_p xr_109_57 xn_109 (pc' := 58) (ls' := [(3, .long (X_st (-2) (X_all G 0 tn))), (0, .ref 1), (1, .long (iL kk))]) (st' := [.ref 1]) rfl ?_
        refine T_get xr_109_58 h2022 rfl (v := .ref 517) rfl (pc' := 61) rfl ?_
        have hkk : 0 ≤ kk ∧ (kk.toNat : Int) = kk := by
          have h1 : ¬ iL kk < iL 0 := by first | assumption | exact Int64.not_lt.mpr (by assumption)
          rw [iL_lt (by omega) (by omega) (by omega) (by omega)] at h1
          omega
        have hka : kk.toNat < X_all G 0 tn := by
          refine (X_st_lt (m := -2) (by omega) (by omega)).mp ?_
          rw [hkk.2]
          first
            | exact Or.inl (by first | assumption | exact Classical.not_not.mp (by assumption))
            | exact Or.inr (by first | assumption | exact Int64.not_le.mp (by assumption))
        have hcht := hp2014
        have hk := hka
        have hkm : kk.toNat ≤ 9223372036854775807 := by omega
        refine T_p xr_109_61 xn_109 (pc' := 62) (ls' := [(3, .long (X_st (-2) (X_all G 0 tn))), (0, .ref 1), (1, .long (iL kk))]) (st' := [.long (iL kk), .ref 517]) rfl ?_
        refine T_le (y := (iL (kk.toNat : Int))) (by rw [hkk.2]) ?_
        have h2031 := (hf2021.1 517 (by omega)).trans (hO517)
        refine T_cv (S := S2006) (q := 517) xr_109_62 xf_36.1 xf_36.2.1 xn_36 (as := [.long (iL (kk.toNat : Int))]) (r := []) rfl h2031 (Nat.le_of_ble_eq_true rfl) (Nat.le_of_ble_eq_true rfl) (pc' := 65) rfl (ls' := [(0, .ref 517), (1, .long (iL (kk.toNat : Int)))]) rfl ?_
        have h2032 := (hf2021.1 505 (by omega)).trans (hA505)
        have h2033 := (hf2021.1 506 (by omega)).trans (hA506)
        have h2034 := (hf2021.1 507 (by omega)).trans (hA507)
        have h2035 := (hf2021.1 508 (by omega)).trans (hA508)
        have h2036 := (hf2021.1 509 (by omega)).trans (hA509)
        have h2037 := (hf2021.1 510 (by omega)).trans (hA510)
        have h2038 := (hf2021.1 518 (by omega)).trans (hA518)
        have h2039 := (hf2021.1 519 (by omega)).trans (hA519)
        have h2040 := (hf2021.1 520 (by omega)).trans (hA520)
        have h2041 := (hf2021.1 521 (by omega)).trans (hA521)
        have h2042 := (hf2021.1 522 (by omega)).trans (hA522)
        have h2043 := (hf2021.1 523 (by omega)).trans (hA523)
        have h2044 := (hf2021.1 524 (by omega)).trans (hA524)
        have h2045 := (hf2021.1 525 (by omega)).trans (hA525)
        have h2046 := (hf2021.1 526 (by omega)).trans (hA526)
        have h2047 := (hf2021.1 504 (by omega)).trans (hO504)
        have h2048 := (hf2021.1 B (by omega)).trans (hb0)
        have h2049 := (hf2021.1 (B + 1) (by omega)).trans (hb1)
        have h2050 := (hf2021.1 (B + 2) (by omega)).trans (hb2)
        have h2051 := (hf2021.1 (B + 3) (by omega)).trans (hb3)
        have h2052 := (hf2021.1 (B + 4) (by omega)).trans (hb4)
        have h2053 := (hf2021.1 (B + 5) (by omega)).trans (hb5)
        have hs2054 : C_ws S2006 B (gD G) (gW G) := C_ws.fr (P := fun q => 501 ≤ q ∧ q ≤ 529) hs ((X_Fr.rf).tr (X_Fr.mono ⟨hf2021.1, hf2021.2⟩ (fun q hq => (by omega)))) (fun k h1 h2 => by omega)
        have h2055 := (hf2021.1 502 (by omega)).trans (hA502)
        refine T_mono (c_find sc S2006 oK2008 oW2009 oA2010 oH2011 tl2012 nW nF nL nP nH nC fF fE fP fH fW fK fN hF hE B rc rn kn G tn 1 wt nc kk.toNat h2023 ho2015 h2031 h2047 ha2016 ha2017 ha2018 ha2019 ha2020 h2032 h2033 h2034 h2035 h2036 h2037 h2038 h2039 h2040 h2041 h2042 h2043 h2044 h2045 h2046 hB ⟨h2048, h2049, h2050, h2051, h2052, ⟨f, h2053, hf⟩, ⟨by omega, by omega⟩, ⟨by omega, by omega⟩, ⟨by omega, by omega⟩⟩ hs2054 hG (by omega) h2055 hcht hk hkm) (fun v2056 S2057 h2058 => ?_)
        rcases h2058 with ⟨r2059, nc2060, St2061, N2062, nW2063, nF2064, nL2065, nP2066, nH2067, nC2068, fF2069, fE2070, fP2071, fH2072, fW2073, fK2074, fN2075, tl2076, hF2077, hE2078, hv2079, hp2080, hp2081, hp2082, hp2083, ho2084, ho2085, ha2086, ha2087, ha2088, ha2089, ha2090, ha2091, ha2092, ha2093, ha2094, ha2095, ha2096, ha2097, ha2098, ha2099, ha2100, ha2101, hf2102⟩
        rw [hv2079]
        show X_T sc 109 (65, [(3, .long (X_st (-2) (X_all G 0 tn))), (0, .ref 1), (1, .long (iL kk))], [], S2057) _
        refine T_p xr_109_65 xn_109 (pc' := 66) (ls' := [(3, .long (X_st (-2) (X_all G 0 tn))), (0, .ref 1), (1, .long (iL kk))]) (st' := [.ref 1]) rfl ?_
        have h2103 := (hf2102.1 1 (by omega)).trans (h2022)
        refine T_get xr_109_66 h2103 rfl (v := .ref 527) rfl (pc' := 69) rfl ?_
        have h2104 := (hf2102.1 527 (by omega)).trans ((hf2021.1 527 (by omega)).trans (hO527))
        refine T_cv (S := S2057) (q := 527) xr_109_69 xf_99.1 xf_99.2.1 xn_99 (as := []) (r := []) rfl h2104 (Nat.le_of_ble_eq_true rfl) (Nat.le_of_ble_eq_true rfl) (pc' := 72) rfl (ls' := [(0, .ref 527)]) rfl ?_
        refine T_mono (c_forget sc S2057 rs re hgt h2104) (fun v2105 S2106 h2107 => ?_)
        rcases h2107 with ⟨hv2108, ho2109, hf2110⟩
        rw [hv2108]
        show X_T sc 109 (72, [(3, .long (X_st (-2) (X_all G 0 tn))), (0, .ref 1), (1, .long (iL kk))], [], S2106) _
        refine T_p xr_109_72 xn_109 (pc' := 73) (ls' := [(3, .long (X_st (-2) (X_all G 0 tn))), (0, .ref 1), (1, .long (iL kk))]) (st' := [.ref 1]) rfl ?_
        have h2111 := (hf2110.1 1 (by omega)).trans (h2103)
        refine T_get xr_109_73 h2111 rfl (v := .ref 504) rfl (pc' := 76) rfl ?_
        have h2112 := (hf2110.1 504 (by omega)).trans (ho2085)
        refine T_get xr_109_76 h2112 rfl (v := .int (iI nc2060)) rfl (pc' := 79) rfl ?_
        refine T_iret xr_109_79 xf_109.2.2 rfl ?_
        refine hQ _ _ ?_
        have h2113 := (hf2110.1 512 (by omega)).trans ((hf2102.1 512 (by omega)).trans (ha2016))
        have h2114 := (hf2110.1 513 (by omega)).trans ((hf2102.1 513 (by omega)).trans (ha2017))
        have h2115 := (hf2110.1 514 (by omega)).trans ((hf2102.1 514 (by omega)).trans (ha2018))
        have h2116 := (hf2110.1 515 (by omega)).trans ((hf2102.1 515 (by omega)).trans (ha2019))
        have h2117 := (hf2110.1 516 (by omega)).trans (ha2099)
        have h2118 := (hf2110.1 511 (by omega)).trans ((hf2102.1 511 (by omega)).trans (ho2015))
        have h2119 := (hf2110.1 505 (by omega)).trans (ha2086)
        have h2120 := (hf2110.1 506 (by omega)).trans (ha2087)
        have h2121 := (hf2110.1 507 (by omega)).trans (ha2088)
        have h2122 := (hf2110.1 508 (by omega)).trans (ha2089)
        have h2123 := (hf2110.1 509 (by omega)).trans (ha2090)
        have h2124 := (hf2110.1 510 (by omega)).trans (ha2091)
        have h2125 := (hf2110.1 518 (by omega)).trans (ha2092)
        have h2126 := (hf2110.1 519 (by omega)).trans (ha2093)
        have h2127 := (hf2110.1 520 (by omega)).trans (ha2094)
        have h2128 := (hf2110.1 521 (by omega)).trans (ha2095)
        have h2129 := (hf2110.1 522 (by omega)).trans (ha2096)
        have h2130 := (hf2110.1 523 (by omega)).trans (ha2097)
        have h2131 := (hf2110.1 524 (by omega)).trans (ha2098)
        have h2132 := (hf2110.1 525 (by omega)).trans (ha2100)
        have h2133 := (hf2110.1 526 (by omega)).trans (ha2101)
        have h2134 := (hf2110.1 517 (by omega)).trans (ho2084)
        exact Or.inr ⟨oK2008, oW2009, oA2010, oH2011, tl2076, 1, r2059, nc2060, St2061, N2062, nW2063, nF2064, nL2065, nP2066, nH2067, nC2068, fF2069, fE2070, fP2071, fH2072, fW2073, fK2074, fN2075, hF2077, hE2078, rfl, (by omega), (fun _ => hp2014), ⟨hkk.1, by omega, by omega⟩, hp2080, hp2082, hp2083, h2118, h2134, h2112, ho2109, h2113, h2114, h2115, h2116, h2117, h2119, h2120, h2121, h2122, h2123, h2124, h2125, h2126, h2127, h2128, h2129, h2130, h2131, h2132, h2133, (((X_Fr.rf).tr (X_Fr.mono ⟨hf2021.1, hf2021.2⟩ (fun q hq => (by omega)))).tr (X_Fr.mono ⟨hf2102.1, hf2102.2⟩ (fun q hq => (by omega)))).tr (X_Fr.mono ⟨hf2110.1, hf2110.2⟩ (fun q hq => (by omega)))⟩
      · skip
        have c2030 : ¬ ((X_st (-2) (X_all G 0 tn)) = (iL (-2))) := c2030
        refine T_p xr_109_49 xn_109 (pc' := 50) (ls' := [(3, .long (X_st (-2) (X_all G 0 tn))), (0, .ref 1), (1, .long (iL kk))]) (st' := [.long (iL kk)]) rfl ?_
        refine T_p xr_109_50 xn_109 (pc' := 51) (ls' := [(3, .long (X_st (-2) (X_all G 0 tn))), (0, .ref 1), (1, .long (iL kk))]) (st' := [.long (X_st (-2) (X_all G 0 tn)), .long (iL kk)]) rfl ?_
        refine T_lc_lt xr_109_51 xr_109_52 (t := 57) (pc' := 55) rfl rfl (fun c2135 => ?_) (fun c2135 => ?_)
        · skip
          have c2135 : (iL kk) < (X_st (-2) (X_all G 0 tn)) := c2135
          refine T_p xr_109_57 xn_109 (pc' := 58) (ls' := [(3, .long (X_st (-2) (X_all G 0 tn))), (0, .ref 1), (1, .long (iL kk))]) (st' := [.ref 1]) rfl ?_
          refine T_get xr_109_58 h2022 rfl (v := .ref 517) rfl (pc' := 61) rfl ?_
          have hkk : 0 ≤ kk ∧ (kk.toNat : Int) = kk := by
            have h1 : ¬ iL kk < iL 0 := by first | assumption | exact Int64.not_lt.mpr (by assumption)
            rw [iL_lt (by omega) (by omega) (by omega) (by omega)] at h1
            omega
          have hka : kk.toNat < X_all G 0 tn := by
            refine (X_st_lt (m := -2) (by omega) (by omega)).mp ?_
            rw [hkk.2]
            first
              | exact Or.inl (by first | assumption | exact Classical.not_not.mp (by assumption))
              | exact Or.inr (by first | assumption | exact Int64.not_le.mp (by assumption))
          have hcht := hp2014
          have hk := hka
          have hkm : kk.toNat ≤ 9223372036854775807 := by omega
          refine T_p xr_109_61 xn_109 (pc' := 62) (ls' := [(3, .long (X_st (-2) (X_all G 0 tn))), (0, .ref 1), (1, .long (iL kk))]) (st' := [.long (iL kk), .ref 517]) rfl ?_
          refine T_le (y := (iL (kk.toNat : Int))) (by rw [hkk.2]) ?_
          have h2136 := (hf2021.1 517 (by omega)).trans (hO517)
          refine T_cv (S := S2006) (q := 517) xr_109_62 xf_36.1 xf_36.2.1 xn_36 (as := [.long (iL (kk.toNat : Int))]) (r := []) rfl h2136 (Nat.le_of_ble_eq_true rfl) (Nat.le_of_ble_eq_true rfl) (pc' := 65) rfl (ls' := [(0, .ref 517), (1, .long (iL (kk.toNat : Int)))]) rfl ?_
          have h2137 := (hf2021.1 505 (by omega)).trans (hA505)
          have h2138 := (hf2021.1 506 (by omega)).trans (hA506)
          have h2139 := (hf2021.1 507 (by omega)).trans (hA507)
          have h2140 := (hf2021.1 508 (by omega)).trans (hA508)
          have h2141 := (hf2021.1 509 (by omega)).trans (hA509)
          have h2142 := (hf2021.1 510 (by omega)).trans (hA510)
          have h2143 := (hf2021.1 518 (by omega)).trans (hA518)
          have h2144 := (hf2021.1 519 (by omega)).trans (hA519)
          have h2145 := (hf2021.1 520 (by omega)).trans (hA520)
          have h2146 := (hf2021.1 521 (by omega)).trans (hA521)
          have h2147 := (hf2021.1 522 (by omega)).trans (hA522)
          have h2148 := (hf2021.1 523 (by omega)).trans (hA523)
          have h2149 := (hf2021.1 524 (by omega)).trans (hA524)
          have h2150 := (hf2021.1 525 (by omega)).trans (hA525)
          have h2151 := (hf2021.1 526 (by omega)).trans (hA526)
          have h2152 := (hf2021.1 504 (by omega)).trans (hO504)
          have h2153 := (hf2021.1 B (by omega)).trans (hb0)
          have h2154 := (hf2021.1 (B + 1) (by omega)).trans (hb1)
          have h2155 := (hf2021.1 (B + 2) (by omega)).trans (hb2)
          have h2156 := (hf2021.1 (B + 3) (by omega)).trans (hb3)
          have h2157 := (hf2021.1 (B + 4) (by omega)).trans (hb4)
          have h2158 := (hf2021.1 (B + 5) (by omega)).trans (hb5)
          have hs2159 : C_ws S2006 B (gD G) (gW G) := C_ws.fr (P := fun q => 501 ≤ q ∧ q ≤ 529) hs ((X_Fr.rf).tr (X_Fr.mono ⟨hf2021.1, hf2021.2⟩ (fun q hq => (by omega)))) (fun k h1 h2 => by omega)
          have h2160 := (hf2021.1 502 (by omega)).trans (hA502)
          refine T_mono (c_find sc S2006 oK2008 oW2009 oA2010 oH2011 tl2012 nW nF nL nP nH nC fF fE fP fH fW fK fN hF hE B rc rn kn G tn 1 wt nc kk.toNat h2023 ho2015 h2136 h2152 ha2016 ha2017 ha2018 ha2019 ha2020 h2137 h2138 h2139 h2140 h2141 h2142 h2143 h2144 h2145 h2146 h2147 h2148 h2149 h2150 h2151 hB ⟨h2153, h2154, h2155, h2156, h2157, ⟨f, h2158, hf⟩, ⟨by omega, by omega⟩, ⟨by omega, by omega⟩, ⟨by omega, by omega⟩⟩ hs2159 hG (by omega) h2160 hcht hk hkm) (fun v2161 S2162 h2163 => ?_)
          rcases h2163 with ⟨r2164, nc2165, St2166, N2167, nW2168, nF2169, nL2170, nP2171, nH2172, nC2173, fF2174, fE2175, fP2176, fH2177, fW2178, fK2179, fN2180, tl2181, hF2182, hE2183, hv2184, hp2185, hp2186, hp2187, hp2188, ho2189, ho2190, ha2191, ha2192, ha2193, ha2194, ha2195, ha2196, ha2197, ha2198, ha2199, ha2200, ha2201, ha2202, ha2203, ha2204, ha2205, ha2206, hf2207⟩
          rw [hv2184]
          show X_T sc 109 (65, [(3, .long (X_st (-2) (X_all G 0 tn))), (0, .ref 1), (1, .long (iL kk))], [], S2162) _
          refine T_p xr_109_65 xn_109 (pc' := 66) (ls' := [(3, .long (X_st (-2) (X_all G 0 tn))), (0, .ref 1), (1, .long (iL kk))]) (st' := [.ref 1]) rfl ?_
          have h2208 := (hf2207.1 1 (by omega)).trans (h2022)
          refine T_get xr_109_66 h2208 rfl (v := .ref 527) rfl (pc' := 69) rfl ?_
          have h2209 := (hf2207.1 527 (by omega)).trans ((hf2021.1 527 (by omega)).trans (hO527))
          refine T_cv (S := S2162) (q := 527) xr_109_69 xf_99.1 xf_99.2.1 xn_99 (as := []) (r := []) rfl h2209 (Nat.le_of_ble_eq_true rfl) (Nat.le_of_ble_eq_true rfl) (pc' := 72) rfl (ls' := [(0, .ref 527)]) rfl ?_
          refine T_mono (c_forget sc S2162 rs re hgt h2209) (fun v2210 S2211 h2212 => ?_)
          rcases h2212 with ⟨hv2213, ho2214, hf2215⟩
          rw [hv2213]
          show X_T sc 109 (72, [(3, .long (X_st (-2) (X_all G 0 tn))), (0, .ref 1), (1, .long (iL kk))], [], S2211) _
          refine T_p xr_109_72 xn_109 (pc' := 73) (ls' := [(3, .long (X_st (-2) (X_all G 0 tn))), (0, .ref 1), (1, .long (iL kk))]) (st' := [.ref 1]) rfl ?_
          have h2216 := (hf2215.1 1 (by omega)).trans (h2208)
          refine T_get xr_109_73 h2216 rfl (v := .ref 504) rfl (pc' := 76) rfl ?_
          have h2217 := (hf2215.1 504 (by omega)).trans (ho2190)
          refine T_get xr_109_76 h2217 rfl (v := .int (iI nc2165)) rfl (pc' := 79) rfl ?_
          refine T_iret xr_109_79 xf_109.2.2 rfl ?_
          refine hQ _ _ ?_
          have h2218 := (hf2215.1 512 (by omega)).trans ((hf2207.1 512 (by omega)).trans (ha2016))
          have h2219 := (hf2215.1 513 (by omega)).trans ((hf2207.1 513 (by omega)).trans (ha2017))
          have h2220 := (hf2215.1 514 (by omega)).trans ((hf2207.1 514 (by omega)).trans (ha2018))
          have h2221 := (hf2215.1 515 (by omega)).trans ((hf2207.1 515 (by omega)).trans (ha2019))
          have h2222 := (hf2215.1 516 (by omega)).trans (ha2204)
          have h2223 := (hf2215.1 511 (by omega)).trans ((hf2207.1 511 (by omega)).trans (ho2015))
          have h2224 := (hf2215.1 505 (by omega)).trans (ha2191)
          have h2225 := (hf2215.1 506 (by omega)).trans (ha2192)
          have h2226 := (hf2215.1 507 (by omega)).trans (ha2193)
          have h2227 := (hf2215.1 508 (by omega)).trans (ha2194)
          have h2228 := (hf2215.1 509 (by omega)).trans (ha2195)
          have h2229 := (hf2215.1 510 (by omega)).trans (ha2196)
          have h2230 := (hf2215.1 518 (by omega)).trans (ha2197)
          have h2231 := (hf2215.1 519 (by omega)).trans (ha2198)
          have h2232 := (hf2215.1 520 (by omega)).trans (ha2199)
          have h2233 := (hf2215.1 521 (by omega)).trans (ha2200)
          have h2234 := (hf2215.1 522 (by omega)).trans (ha2201)
          have h2235 := (hf2215.1 523 (by omega)).trans (ha2202)
          have h2236 := (hf2215.1 524 (by omega)).trans (ha2203)
          have h2237 := (hf2215.1 525 (by omega)).trans (ha2205)
          have h2238 := (hf2215.1 526 (by omega)).trans (ha2206)
          have h2239 := (hf2215.1 517 (by omega)).trans (ho2189)
          exact Or.inr ⟨oK2008, oW2009, oA2010, oH2011, tl2181, 1, r2164, nc2165, St2166, N2167, nW2168, nF2169, nL2170, nP2171, nH2172, nC2173, fF2174, fE2175, fP2176, fH2177, fW2178, fK2179, fN2180, hF2182, hE2183, rfl, (by omega), (fun _ => hp2014), ⟨hkk.1, by omega, by omega⟩, hp2185, hp2187, hp2188, h2223, h2239, h2217, ho2214, h2218, h2219, h2220, h2221, h2222, h2224, h2225, h2226, h2227, h2228, h2229, h2230, h2231, h2232, h2233, h2234, h2235, h2236, h2237, h2238, (((X_Fr.rf).tr (X_Fr.mono ⟨hf2021.1, hf2021.2⟩ (fun q hq => (by omega)))).tr (X_Fr.mono ⟨hf2207.1, hf2207.2⟩ (fun q hq => (by omega)))).tr (X_Fr.mono ⟨hf2215.1, hf2215.2⟩ (fun q hq => (by omega)))⟩
        · skip
          have c2135 : ¬ ((iL kk) < (X_st (-2) (X_all G 0 tn))) := c2135
          refine T_p xr_109_55 xn_109 (pc' := 56) (ls' := [(3, .long (X_st (-2) (X_all G 0 tn))), (0, .ref 1), (1, .long (iL kk))]) (st' := [.int (iI (-1))]) rfl ?_
          refine T_iret xr_109_56 xf_109.2.2 rfl ?_
          refine hQ _ _ ?_
          have hkk : 0 ≤ kk ∧ (kk.toNat : Int) = kk := by
            have h1 : ¬ iL kk < iL 0 := by first | assumption | exact Int64.not_lt.mpr (by assumption)
            rw [iL_lt (by omega) (by omega) (by omega) (by omega)] at h1
            omega
          have hka : ¬ kk.toNat < X_all G 0 tn := fun z => by
            rcases (X_st_lt (m := -2) (a := X_all G 0 tn) (k := kk.toNat) (by omega) (by omega)).mpr z with h | h
            · exact absurd h (by assumption)
            · rw [hkk.2] at h; first | exact absurd h (by assumption) | exact absurd h (Int64.not_lt.mpr (by assumption)) | exact absurd h (Int64.not_lt.mpr (Classical.not_not.mp (by assumption)))
          exact Or.inl ⟨oK2008, oW2009, oA2010, oH2011, tl2012, 1, rfl, (by omega), (fun _ => hp2014), (fun z => by have := z.2.2; omega), ho2015, ha2016, ha2017, ha2018, ha2019, ha2020, (X_Fr.rf).tr (X_Fr.mono ⟨hf2021.1, hf2021.2⟩ (fun q hq => (by omega)))⟩
    · skip
      have c2004 : ¬ (¬ tn = 0) := c2004
      refine T_p xr_109_16 xn_109 (pc' := 17) (ls' := [(0, .ref 1), (1, .long (iL kk))]) (st' := [.int (iI (-1))]) rfl ?_
      refine T_iret xr_109_17 xf_109.2.2 rfl ?_
      refine hQ _ _ ?_
      exact Or.inl ⟨oK, oW, oA, oH, tl, fl, rfl, hfl, hC, (fun z => by
            by_cases ht : tn = 0
            · exact absurd z.2.1 (by omega)
            · by_cases h1 : iL kk < iL 0
              · rw [iL_lt (by omega) (by omega) (by omega) (by omega)] at h1
                have := z.1
                omega
              · first | exact absurd ht (by assumption) | exact absurd (by assumption) h1), hO511, hA512, hA513, hA514, hA515, hA516, X_Fr.rf⟩
