theorem xr_193_0 : X_row 193 0 = some (0, (.aload_n 0, 1), (0, 0, 0)) := by decide +kernel
theorem xr_193_1 : X_row 193 1 = some (1, (.getfield 317, 3), (11, 49, 98)) := by decide +kernel
theorem xr_193_4 : X_row 193 4 = some (4, (.ifCond .ne 5, 3), (0, 0, 0)) := by decide +kernel
theorem xr_193_7 : X_row 193 7 = some (7, (.iconst (-1), 1), (0, 0, 0)) := by decide +kernel
theorem xr_193_8 : X_row 193 8 = some (8, (.ireturn, 1), (0, 0, 0)) := by decide +kernel
theorem xr_193_9 : X_row 193 9 = some (9, (.aload_n 0, 1), (0, 0, 0)) := by decide +kernel
theorem xr_193_10 : X_row 193 10 = some (10, (.iconst 1, 1), (0, 0, 0)) := by decide +kernel
theorem xr_193_11 : X_row 193 11 = some (11, (.putfield 320, 3), (11, 68, 136)) := by decide +kernel
theorem xr_193_14 : X_row 193 14 = some (14, (.aload_n 0, 1), (0, 0, 0)) := by decide +kernel
theorem xr_193_15 : X_row 193 15 = some (15, (.iconst 0, 1), (0, 0, 0)) := by decide +kernel
theorem xr_193_16 : X_row 193 16 = some (16, (.putfield 399, 3), (11, 70, 140)) := by decide +kernel
theorem xr_193_19 : X_row 193 19 = some (19, (.aload_n 0, 1), (0, 0, 0)) := by decide +kernel
theorem xr_193_20 : X_row 193 20 = some (20, (.iconst (-1), 1), (0, 0, 0)) := by decide +kernel
theorem xr_193_21 : X_row 193 21 = some (21, (.putfield 402, 3), (11, 69, 138)) := by decide +kernel
theorem xr_193_24 : X_row 193 24 = some (24, (.iconst 0, 1), (0, 0, 0)) := by decide +kernel
theorem xr_193_25 : X_row 193 25 = some (25, (.istore_n 1, 1), (0, 0, 0)) := by decide +kernel
theorem xr_193_26 : X_row 193 26 = some (26, (.iload_n 1, 1), (0, 0, 0)) := by decide +kernel
theorem xr_193_27 : X_row 193 27 = some (27, (.aload_n 0, 1), (0, 0, 0)) := by decide +kernel
theorem xr_193_28 : X_row 193 28 = some (28, (.getfield 317, 3), (11, 49, 98)) := by decide +kernel
theorem xr_193_31 : X_row 193 31 = some (31, (.if_icmp .ge 16, 3), (0, 0, 0)) := by decide +kernel
theorem xr_193_34 : X_row 193 34 = some (34, (.aload_n 0, 1), (0, 0, 0)) := by decide +kernel
theorem xr_193_35 : X_row 193 35 = some (35, (.getfield 288, 3), (11, 71, 142)) := by decide +kernel
theorem xr_193_38 : X_row 193 38 = some (38, (.iload_n 1, 1), (0, 0, 0)) := by decide +kernel
theorem xr_193_39 : X_row 193 39 = some (39, (.iconst 0, 1), (0, 0, 0)) := by decide +kernel
theorem xr_193_40 : X_row 193 40 = some (40, (.bastore, 1), (0, 0, 0)) := by decide +kernel
theorem xr_193_41 : X_row 193 41 = some (41, (.iinc 1 1, 3), (0, 0, 0)) := by decide +kernel
theorem xr_193_44 : X_row 193 44 = some (44, (.goto (-18), 3), (0, 0, 0)) := by decide +kernel
theorem xr_193_47 : X_row 193 47 = some (47, (.iconst 0, 1), (0, 0, 0)) := by decide +kernel
theorem xr_193_48 : X_row 193 48 = some (48, (.istore_n 1, 1), (0, 0, 0)) := by decide +kernel
theorem xr_193_49 : X_row 193 49 = some (49, (.iconst 0, 1), (0, 0, 0)) := by decide +kernel
theorem xr_193_50 : X_row 193 50 = some (50, (.istore_n 2, 1), (0, 0, 0)) := by decide +kernel
theorem xr_193_51 : X_row 193 51 = some (51, (.iload_n 2, 1), (0, 0, 0)) := by decide +kernel
theorem xr_193_52 : X_row 193 52 = some (52, (.aload_n 0, 1), (0, 0, 0)) := by decide +kernel
theorem xr_193_53 : X_row 193 53 = some (53, (.getfield 317, 3), (11, 49, 98)) := by decide +kernel
theorem xr_193_56 : X_row 193 56 = some (56, (.if_icmp .ge 80, 3), (0, 0, 0)) := by decide +kernel
theorem xr_193_59 : X_row 193 59 = some (59, (.aload_n 0, 1), (0, 0, 0)) := by decide +kernel
theorem xr_193_60 : X_row 193 60 = some (60, (.iload_n 1, 1), (0, 0, 0)) := by decide +kernel
theorem xr_193_61 : X_row 193 61 = some (61, (.invokevirtual 405, 3), (192, 86, 0)) := by decide +kernel
theorem xr_193_64 : X_row 193 64 = some (64, (.istore_n 3, 1), (0, 0, 0)) := by decide +kernel
theorem xr_193_65 : X_row 193 65 = some (65, (.iload_n 3, 1), (0, 0, 0)) := by decide +kernel
theorem xr_193_66 : X_row 193 66 = some (66, (.iload_n 1, 1), (0, 0, 0)) := by decide +kernel
theorem xr_193_67 : X_row 193 67 = some (67, (.iconst 1, 1), (0, 0, 0)) := by decide +kernel
theorem xr_193_68 : X_row 193 68 = some (68, (.iadd, 1), (0, 0, 0)) := by decide +kernel
theorem xr_193_69 : X_row 193 69 = some (69, (.if_icmp .le 20, 3), (0, 0, 0)) := by decide +kernel
theorem xr_193_72 : X_row 193 72 = some (72, (.aload_n 0, 1), (0, 0, 0)) := by decide +kernel
theorem xr_193_73 : X_row 193 73 = some (73, (.iload_n 1, 1), (0, 0, 0)) := by decide +kernel
theorem xr_193_74 : X_row 193 74 = some (74, (.invokevirtual 408, 3), (195, 88, 0)) := by decide +kernel
theorem xr_193_77 : X_row 193 77 = some (77, (.ifCond .ne 12, 3), (0, 0, 0)) := by decide +kernel
theorem xr_193_80 : X_row 193 80 = some (80, (.aload_n 0, 1), (0, 0, 0)) := by decide +kernel
theorem xr_193_81 : X_row 193 81 = some (81, (.iload_n 1, 1), (0, 0, 0)) := by decide +kernel
theorem xr_193_82 : X_row 193 82 = some (82, (.invokevirtual 411, 3), (194, 90, 0)) := by decide +kernel
theorem xr_193_85 : X_row 193 85 = some (85, (.istore_n 1, 1), (0, 0, 0)) := by decide +kernel
theorem xr_193_86 : X_row 193 86 = some (86, (.goto (-35), 3), (0, 0, 0)) := by decide +kernel
theorem xr_193_89 : X_row 193 89 = some (89, (.aload_n 0, 1), (0, 0, 0)) := by decide +kernel
theorem xr_193_90 : X_row 193 90 = some (90, (.iload_n 1, 1), (0, 0, 0)) := by decide +kernel
theorem xr_193_91 : X_row 193 91 = some (91, (.invokevirtual 414, 3), (196, 92, 0)) := by decide +kernel
theorem xr_193_94 : X_row 193 94 = some (94, (.istore 4, 2), (0, 0, 0)) := by decide +kernel
theorem xr_193_96 : X_row 193 96 = some (96, (.iload 4, 2), (0, 0, 0)) := by decide +kernel
theorem xr_193_98 : X_row 193 98 = some (98, (.ifCond .le 11, 3), (0, 0, 0)) := by decide +kernel
theorem xr_193_101 : X_row 193 101 = some (101, (.aload_n 0, 1), (0, 0, 0)) := by decide +kernel
theorem xr_193_102 : X_row 193 102 = some (102, (.iload_n 1, 1), (0, 0, 0)) := by decide +kernel
theorem xr_193_103 : X_row 193 103 = some (103, (.putfield 402, 3), (11, 69, 138)) := by decide +kernel
theorem xr_193_106 : X_row 193 106 = some (106, (.iload 4, 2), (0, 0, 0)) := by decide +kernel
theorem xr_193_108 : X_row 193 108 = some (108, (.ireturn, 1), (0, 0, 0)) := by decide +kernel
theorem xr_193_109 : X_row 193 109 = some (109, (.aload_n 0, 1), (0, 0, 0)) := by decide +kernel
theorem xr_193_110 : X_row 193 110 = some (110, (.getfield 288, 3), (11, 71, 142)) := by decide +kernel
theorem xr_193_113 : X_row 193 113 = some (113, (.iload_n 1, 1), (0, 0, 0)) := by decide +kernel
theorem xr_193_114 : X_row 193 114 = some (114, (.iconst 1, 1), (0, 0, 0)) := by decide +kernel
theorem xr_193_115 : X_row 193 115 = some (115, (.bastore, 1), (0, 0, 0)) := by decide +kernel
theorem xr_193_116 : X_row 193 116 = some (116, (.iinc 2 1, 3), (0, 0, 0)) := by decide +kernel
theorem xr_193_119 : X_row 193 119 = some (119, (.aload_n 0, 1), (0, 0, 0)) := by decide +kernel
theorem xr_193_120 : X_row 193 120 = some (120, (.getfield 231, 3), (11, 47, 94)) := by decide +kernel
theorem xr_193_123 : X_row 193 123 = some (123, (.iload_n 1, 1), (0, 0, 0)) := by decide +kernel
theorem xr_193_124 : X_row 193 124 = some (124, (.iaload, 1), (0, 0, 0)) := by decide +kernel
theorem xr_193_125 : X_row 193 125 = some (125, (.istore_n 1, 1), (0, 0, 0)) := by decide +kernel
theorem xr_193_126 : X_row 193 126 = some (126, (.iload_n 1, 1), (0, 0, 0)) := by decide +kernel
theorem xr_193_127 : X_row 193 127 = some (127, (.ifCond .ge 6, 3), (0, 0, 0)) := by decide +kernel
theorem xr_193_130 : X_row 193 130 = some (130, (.goto 6, 3), (0, 0, 0)) := by decide +kernel
theorem xr_193_133 : X_row 193 133 = some (133, (.goto (-82), 3), (0, 0, 0)) := by decide +kernel
theorem xr_193_136 : X_row 193 136 = some (136, (.aload_n 0, 1), (0, 0, 0)) := by decide +kernel
theorem xr_193_137 : X_row 193 137 = some (137, (.aload_n 0, 1), (0, 0, 0)) := by decide +kernel
theorem xr_193_138 : X_row 193 138 = some (138, (.getfield 279, 3), (11, 65, 130)) := by decide +kernel
theorem xr_193_141 : X_row 193 141 = some (141, (.iconst 0, 1), (0, 0, 0)) := by decide +kernel
theorem xr_193_142 : X_row 193 142 = some (142, (.iaload, 1), (0, 0, 0)) := by decide +kernel
theorem xr_193_143 : X_row 193 143 = some (143, (.putfield 399, 3), (11, 70, 140)) := by decide +kernel
theorem xr_193_146 : X_row 193 146 = some (146, (.iconst 0, 1), (0, 0, 0)) := by decide +kernel
theorem xr_193_147 : X_row 193 147 = some (147, (.ireturn, 1), (0, 0, 0)) := by decide +kernel
theorem xr_195_0 : X_row 195 0 = some (0, (.aload_n 0, 1), (0, 0, 0)) := by decide +kernel
theorem xr_195_1 : X_row 195 1 = some (1, (.iload_n 1, 1), (0, 0, 0)) := by decide +kernel
theorem xr_195_2 : X_row 195 2 = some (2, (.invokevirtual 411, 3), (194, 90, 0)) := by decide +kernel
theorem xr_195_5 : X_row 195 5 = some (5, (.ifCond .ge 7, 3), (0, 0, 0)) := by decide +kernel
theorem xr_195_8 : X_row 195 8 = some (8, (.iconst 1, 1), (0, 0, 0)) := by decide +kernel
theorem xr_195_9 : X_row 195 9 = some (9, (.goto 4, 3), (0, 0, 0)) := by decide +kernel
theorem xr_195_12 : X_row 195 12 = some (12, (.iconst 0, 1), (0, 0, 0)) := by decide +kernel
theorem xr_195_13 : X_row 195 13 = some (13, (.ireturn, 1), (0, 0, 0)) := by decide +kernel
theorem xn_193 : X_nL 193 = 5 := by decide +kernel
theorem xf_193 : X_na 193 = 0 ∧ X_ci 193 = 11 ∧ X_rt 193 = (some .int) := by decide +kernel
theorem xn_195 : X_nL 195 = 2 := by decide +kernel
theorem xf_195 : X_na 195 = 1 ∧ X_ci 195 = 11 ∧ X_rt 195 = (some .boolean) := by decide +kernel
set_option maxHeartbeats 1600000 in
theorem r_work (sc : X_Sc) (S : X_S) (wS : Int → Int) (sO : Int → Int) (sN : Int → Int) (tU : Int → Int) (nW : Int → Int) (nF : Int → Int) (nL : Int → Int) (nP : Int → Int) (nH : Int → Int) (bo : Int → Int) (va : Int → Int) (vs : Int → Int) (pl : Int → Int) (hv : Int → Int) (dn : Int → Int) (o : Nat → Int) (nm : Int64) (b : Int) (rc : Int) (G : X_G) (tn : Int) (nc : Int) (N : Int → Int → Int) (hO530 : S.1 530 = .inr (11, [.ref 531, .int (iI (o 1)), .ref 532, .int (iI (o 3)), .int (iI b), .int (iI (o 5)), .int (iI (o 6)), .int (iI (o 7)), .int (iI (o 8)), .int (iI (o 9)), .int (iI (o 10)), .int (iI (o 11)), .long nm, .ref 533, .ref 534, .ref 535, .ref 536, .ref 537, .ref 538, .ref 539, .ref 540, .ref 541, .ref 542, .ref 543, .ref 544, .ref 545, .ref 546, .ref 547, .int (iI rc), .int (iI (gk G)), .int (iI (gw G)), .int (iI (o 31)), .int (iI (o 32)), .int (iI (o 33)), .ref 548, .ref 549, .ref 550, .ref 551, .int (iI tn), .ref 552, .ref 553, .ref 554, .ref 555, .ref 556, .ref 557, .ref 558, .ref 559, .ref 560, .ref 561, .int (iI nc), .ref 562, .ref 563, .ref 564, .ref 565, .ref 566, .ref 567, .ref 568, .ref 569, .int (iI (o 58)), .ref 570, .ref 571, .ref 572, .ref 573, .ref 574, .ref 575, .ref 576, .ref 577, .ref 578, .int (iI (o 68)), .int (iI (o 69)), .int (iI (o 70)), .ref 579])) (hA542 : S.1 542 = .inl (.int, 60, .inl fun k : Nat => iI (wS (k : Int)))) (hA543 : S.1 543 = .inl (.int, 1800, .inl fun k : Nat => iI (sO (k : Int)))) (hA544 : S.1 544 = .inl (.int, 1800, .inl fun k : Nat => iI (sN (k : Int)))) (hA550 : S.1 550 = .inl (.int, 30, .inl fun k : Nat => iI (tU (k : Int)))) (hA557 : S.1 557 = .inl (.int, 40, .inl fun k : Nat => iI (nW (k : Int)))) (hA558 : S.1 558 = .inl (.int, 40, .inl fun k : Nat => iI (nF (k : Int)))) (hA559 : S.1 559 = .inl (.int, 40, .inl fun k : Nat => iI (nL (k : Int)))) (hA560 : S.1 560 = .inl (.int, 40, .inl fun k : Nat => iI (nP (k : Int)))) (hA561 : S.1 561 = .inl (.int, 40, .inl fun k : Nat => iI (nH (k : Int)))) (hA574 : S.1 574 = .inl (.boolean, 30, .inl fun k : Nat => iI (bo (k : Int)))) (hA575 : S.1 575 = .inl (.int, 30, .inl fun k : Nat => iI (va (k : Int)))) (hA576 : S.1 576 = .inl (.int, 40, .inl fun k : Nat => iI (vs (k : Int)))) (hA577 : S.1 577 = .inl (.int, 18, .inl fun k : Nat => iI (pl (k : Int)))) (hA578 : S.1 578 = .inl (.int, 4, .inl fun k : Nat => iI (hv (k : Int)))) (hA579 : S.1 579 = .inl (.boolean, 40, .inl fun k : Nat => iI (dn (k : Int)))) (hbr : 0 ≤ b ∧ b ≤ 1) (hG : X_Gok G) (hGs : X_Gst G) (hTU : ∀ t, 0 ≤ t → t < tn → tU t = X_nv (gt G t)) (hWS : ∀ w, 0 ≤ w → w < gw G → wS (30 * b + w) = gD G w 5 0) (hST : ∀ w, 0 ≤ w → w < gw G → ∀ k, 0 ≤ k → k < gD G w 5 0 → sO (30 * (30 * b + w) + k) = X_op (gD G w 12 k) ∧ (gD G w 12 k = 4 → sN (30 * (30 * b + w) + k) = gD G w 13 k) ∧ (gD G w 12 k = 64 → sN (30 * (30 * b + w) + k) = gD G w 13 k - 1)) (hbo : ∀ w, 0 ≤ w → w < gw G → (bo w = gD G w 6 0 ∧ (gD G w 6 0 = 1 → va w = gD G w 7 0)) ∧ 0 ≤ gD G w 6 0 ∧ gD G w 6 0 ≤ 1) (hR : X_Rok G tn nc N) (hnd : R_nd nc N nW nF nL nP nH) : X_T sc 193 (0, [(0, .ref 530)], [], S) (fun v S' => (v = some (.int (iI (-1))) ∧ nc = 0 ∧ S' = S) ∨ (∃ (vs1 : Int → Int) (pl1 : Int → Int) (hv1 : Int → Int) (dn1 : Int → Int), v = some (.int (iI ((X_wk G (fun w => gD G w 6 0) (fun w => gD G w 7 0) N nc).1))) ∧ ¬ nc = 0 ∧ S'.1 530 = .inr (11, [.ref 531, .int (iI (o 1)), .ref 532, .int (iI (o 3)), .int (iI b), .int (iI (o 5)), .int (iI (o 6)), .int (iI (o 7)), .int (iI (o 8)), .int (iI (o 9)), .int (iI (o 10)), .int (iI (o 11)), .long nm, .ref 533, .ref 534, .ref 535, .ref 536, .ref 537, .ref 538, .ref 539, .ref 540, .ref 541, .ref 542, .ref 543, .ref 544, .ref 545, .ref 546, .ref 547, .int (iI rc), .int (iI (gk G)), .int (iI (gw G)), .int (iI (o 31)), .int (iI (o 32)), .int (iI (o 33)), .ref 548, .ref 549, .ref 550, .ref 551, .int (iI tn), .ref 552, .ref 553, .ref 554, .ref 555, .ref 556, .ref 557, .ref 558, .ref 559, .ref 560, .ref 561, .int (iI nc), .ref 562, .ref 563, .ref 564, .ref 565, .ref 566, .ref 567, .ref 568, .ref 569, .int (iI (o 58)), .ref 570, .ref 571, .ref 572, .ref 573, .ref 574, .ref 575, .ref 576, .ref 577, .ref 578, .int (iI 1), .int (iI ((X_wk G (fun w => gD G w 6 0) (fun w => gD G w 7 0) N nc).2.1)), .int (iI ((X_wk G (fun w => gD G w 6 0) (fun w => gD G w 7 0) N nc).2.2)), .ref 579]) ∧ S'.1 576 = .inl (.int, 40, .inl fun k : Nat => iI (vs1 (k : Int))) ∧ S'.1 577 = .inl (.int, 18, .inl fun k : Nat => iI (pl1 (k : Int))) ∧ S'.1 578 = .inl (.int, 4, .inl fun k : Nat => iI (hv1 (k : Int))) ∧ S'.1 579 = .inl (.boolean, 40, .inl fun k : Nat => iI (dn1 (k : Int))) ∧ (X_Fr (fun q => q = 530 ∨ (576 ≤ q ∧ q ≤ 579)) S S'))) := by
  have hRn := hR.1
  have t0 := hR.2.1
  have t1 := hR.2.2.1
  refine X_QI (fun Q hQ => ?_)
  refine T_p xr_193_0 xn_193 (pc' := 1) (ls' := [(0, .ref 530)]) (st' := [.ref 530]) rfl ?_
  refine T_get xr_193_1 hO530 rfl (v := .int (iI nc)) rfl (pc' := 4) rfl ?_
  refine T_zif_ne xr_193_4 (t := 9) (pc' := 7) rfl rfl (fun c2577 => ?_) (fun c2577 => ?_)
  · skip
    have c2577 : ¬ nc = 0 := c2577
    refine T_p xr_193_9 xn_193 (pc' := 10) (ls' := [(0, .ref 530)]) (st' := [.ref 530]) rfl ?_
    refine T_p xr_193_10 xn_193 (pc' := 11) (ls' := [(0, .ref 530)]) (st' := [.int (iI 1), .ref 530]) rfl ?_
    refine T_put xr_193_11 hO530 rfl (Nat.le_of_ble_eq_true rfl) rfl (fs' := [.ref 531, .int (iI (o 1)), .ref 532, .int (iI (o 3)), .int (iI b), .int (iI (o 5)), .int (iI (o 6)), .int (iI (o 7)), .int (iI (o 8)), .int (iI (o 9)), .int (iI (o 10)), .int (iI (o 11)), .long nm, .ref 533, .ref 534, .ref 535, .ref 536, .ref 537, .ref 538, .ref 539, .ref 540, .ref 541, .ref 542, .ref 543, .ref 544, .ref 545, .ref 546, .ref 547, .int (iI rc), .int (iI (gk G)), .int (iI (gw G)), .int (iI (o 31)), .int (iI (o 32)), .int (iI (o 33)), .ref 548, .ref 549, .ref 550, .ref 551, .int (iI tn), .ref 552, .ref 553, .ref 554, .ref 555, .ref 556, .ref 557, .ref 558, .ref 559, .ref 560, .ref 561, .int (iI nc), .ref 562, .ref 563, .ref 564, .ref 565, .ref 566, .ref 567, .ref 568, .ref 569, .int (iI (o 58)), .ref 570, .ref 571, .ref 572, .ref 573, .ref 574, .ref 575, .ref 576, .ref 577, .ref 578, .int (iI 1), .int (iI (o 69)), .int (iI (o 70)), .ref 579]) rfl (pc' := 14) rfl (fun S2578 h2579 n2580 e2581 => ?_)
    refine T_p xr_193_14 xn_193 (pc' := 15) (ls' := [(0, .ref 530)]) (st' := [.ref 530]) rfl ?_
    refine T_p xr_193_15 xn_193 (pc' := 16) (ls' := [(0, .ref 530)]) (st' := [.int (iI 0), .ref 530]) rfl ?_
    refine T_put xr_193_16 h2579 rfl (Nat.le_of_ble_eq_true rfl) rfl (fs' := [.ref 531, .int (iI (o 1)), .ref 532, .int (iI (o 3)), .int (iI b), .int (iI (o 5)), .int (iI (o 6)), .int (iI (o 7)), .int (iI (o 8)), .int (iI (o 9)), .int (iI (o 10)), .int (iI (o 11)), .long nm, .ref 533, .ref 534, .ref 535, .ref 536, .ref 537, .ref 538, .ref 539, .ref 540, .ref 541, .ref 542, .ref 543, .ref 544, .ref 545, .ref 546, .ref 547, .int (iI rc), .int (iI (gk G)), .int (iI (gw G)), .int (iI (o 31)), .int (iI (o 32)), .int (iI (o 33)), .ref 548, .ref 549, .ref 550, .ref 551, .int (iI tn), .ref 552, .ref 553, .ref 554, .ref 555, .ref 556, .ref 557, .ref 558, .ref 559, .ref 560, .ref 561, .int (iI nc), .ref 562, .ref 563, .ref 564, .ref 565, .ref 566, .ref 567, .ref 568, .ref 569, .int (iI (o 58)), .ref 570, .ref 571, .ref 572, .ref 573, .ref 574, .ref 575, .ref 576, .ref 577, .ref 578, .int (iI 1), .int (iI (o 69)), .int (iI 0), .ref 579]) rfl (pc' := 19) rfl (fun S2582 h2583 n2584 e2585 => ?_)
    refine T_p xr_193_19 xn_193 (pc' := 20) (ls' := [(0, .ref 530)]) (st' := [.ref 530]) rfl ?_
    refine T_p xr_193_20 xn_193 (pc' := 21) (ls' := [(0, .ref 530)]) (st' := [.int (iI (-1)), .ref 530]) rfl ?_
    refine T_put xr_193_21 h2583 rfl (Nat.le_of_ble_eq_true rfl) rfl (fs' := [.ref 531, .int (iI (o 1)), .ref 532, .int (iI (o 3)), .int (iI b), .int (iI (o 5)), .int (iI (o 6)), .int (iI (o 7)), .int (iI (o 8)), .int (iI (o 9)), .int (iI (o 10)), .int (iI (o 11)), .long nm, .ref 533, .ref 534, .ref 535, .ref 536, .ref 537, .ref 538, .ref 539, .ref 540, .ref 541, .ref 542, .ref 543, .ref 544, .ref 545, .ref 546, .ref 547, .int (iI rc), .int (iI (gk G)), .int (iI (gw G)), .int (iI (o 31)), .int (iI (o 32)), .int (iI (o 33)), .ref 548, .ref 549, .ref 550, .ref 551, .int (iI tn), .ref 552, .ref 553, .ref 554, .ref 555, .ref 556, .ref 557, .ref 558, .ref 559, .ref 560, .ref 561, .int (iI nc), .ref 562, .ref 563, .ref 564, .ref 565, .ref 566, .ref 567, .ref 568, .ref 569, .int (iI (o 58)), .ref 570, .ref 571, .ref 572, .ref 573, .ref 574, .ref 575, .ref 576, .ref 577, .ref 578, .int (iI 1), .int (iI (-1)), .int (iI 0), .ref 579]) rfl (pc' := 24) rfl (fun S2586 h2587 n2588 e2589 => ?_)
    refine T_p xr_193_24 xn_193 (pc' := 25) (ls' := [(0, .ref 530)]) (st' := [.int (iI 0)]) rfl ?_
    refine T_p xr_193_25 xn_193 (pc' := 26) (ls' := [(1, .int (iI 0)), (0, .ref 530)]) (st' := []) rfl ?_
    have h2595 := (n2588 579 (by decide)).trans ((n2584 579 (by decide)).trans ((n2580 579 (by decide)).trans (hA579)))
    have L2590 : ∀ (m2592 : Nat) (S2596 : X_S) (i : Int) (dn1 : Int → Int) (hdn1 : S2596.1 579 = .inl (.boolean, 40, .inl fun k : Nat => iI (dn1 (k : Int)))) (hF2594 : X_Fr (fun q => q = 579) S2586 S2596) (hi : 0 ≤ i ∧ i ≤ nc) (hz : ∀ m, 0 ≤ m → m < i → dn1 m = 0) (hm2593 : nc - i < m2592), X_T sc 193 (26, [(1, .int (iI i)), (0, .ref 530)], [], S2596) Q := by
      intro m2592
      induction m2592 with
      | zero =>
        intro S2596 i dn1 hdn1 hF2594 hi hz hm2593
        exact (show False by omega).elim
      | succ m2592 ih2591 =>
        intro S2596 i dn1 hdn1 hF2594 hi hz hm2593
        refine T_p xr_193_26 xn_193 (pc' := 27) (ls' := [(1, .int (iI i)), (0, .ref 530)]) (st' := [.int (iI i)]) rfl ?_
        refine T_p xr_193_27 xn_193 (pc' := 28) (ls' := [(1, .int (iI i)), (0, .ref 530)]) (st' := [.ref 530, .int (iI i)]) rfl ?_
        have h2597 := (hF2594.1 530 (by omega)).trans (h2587)
        refine T_get xr_193_28 h2597 rfl (v := .int (iI nc)) rfl (pc' := 31) rfl ?_
        refine T_zicmp_ge xr_193_31 (t := 47) (pc' := 34) rfl rfl (fun c2598 => ?_) (fun c2598 => ?_)
        · skip
          have c2598 : nc ≤ i := c2598
          refine T_p xr_193_47 xn_193 (pc' := 48) (ls' := [(1, .int (iI i)), (0, .ref 530)]) (st' := [.int (iI 0)]) rfl ?_
          refine T_p xr_193_48 xn_193 (pc' := 49) (ls' := [(1, .int (iI 0)), (0, .ref 530)]) (st' := []) rfl ?_
          refine T_p xr_193_49 xn_193 (pc' := 50) (ls' := [(1, .int (iI 0)), (0, .ref 530)]) (st' := [.int (iI 0)]) rfl ?_
          refine T_p xr_193_50 xn_193 (pc' := 51) (ls' := [(2, .int (iI 0)), (1, .int (iI 0)), (0, .ref 530)]) (st' := []) rfl ?_
          have h2604 := (hF2594.1 576 (by omega)).trans ((n2588 576 (by decide)).trans ((n2584 576 (by decide)).trans ((n2580 576 (by decide)).trans (hA576))))
          have h2605 := (hF2594.1 577 (by omega)).trans ((n2588 577 (by decide)).trans ((n2584 577 (by decide)).trans ((n2580 577 (by decide)).trans (hA577))))
          have h2606 := (hF2594.1 578 (by omega)).trans ((n2588 578 (by decide)).trans ((n2584 578 (by decide)).trans ((n2580 578 (by decide)).trans (hA578))))
          have L2599 : ∀ (m2601 : Nat) (S2607 : X_S) (n : Int) (c : Int) (nx : Int) (lv : Int) (V : Int → Int) (V1 : Int → Int) (vs1 : Int → Int) (pl1 : Int → Int) (hv1 : Int → Int) (dn1 : Int → Int) (hvs1 : S2607.1 576 = .inl (.int, 40, .inl fun k : Nat => iI (vs1 (k : Int)))) (hpl1 : S2607.1 577 = .inl (.int, 18, .inl fun k : Nat => iI (pl1 (k : Int)))) (hhv1 : S2607.1 578 = .inl (.int, 4, .inl fun k : Nat => iI (hv1 (k : Int)))) (hdn1 : S2607.1 579 = .inl (.boolean, 40, .inl fun k : Nat => iI (dn1 (k : Int)))) (hF2603 : X_Fr (fun q => 576 ≤ q ∧ q ≤ 579) S2596 S2607) (hnx : 1 ≤ nx ∧ nx ≤ nc) (hlv : (0 ≤ lv ∧ lv ≤ 30) ∧ 0 ≤ n ∧ n + lv ≤ nx - 1) (hA : X_An N (nx - 1) n) (hAo : X_An N n (X_wn N nc nx)) (hX2 : X_wi G (fun w => gD G w 6 0) (fun w => gD G w 7 0) N nc (X_wn N nc nx) (31 - lv).toNat n V1 = X_wi G (fun w => gD G w 6 0) (fun w => gD G w 7 0) N nc (X_wn N nc nx) 31 (nx - 1) V) (hXn : X_wo G (fun w => gD G w 6 0) (fun w => gD G w 7 0) N nc (nc + 1 - nx).toNat nx V = (X_wk G (fun w => gD G w 6 0) (fun w => gD G w 7 0) N nc)) (hW2 : X_Wr N nx n V1 vs1) (hdn : R_dn N nc nx n dn1) (hc : c = (X_Su (R_cn dn1) 0 nc : Int)) (hcc : 0 ≤ c ∧ c < nc) (hm2602 : (nc - c) + (nc - nx) < m2601), X_T sc 193 (51, [(2, .int (iI c)), (1, .int (iI n)), (0, .ref 530)], [], S2607) Q := by
            intro m2601
            induction m2601 with
            | zero =>
              intro S2607 n c nx lv V V1 vs1 pl1 hv1 dn1 hvs1 hpl1 hhv1 hdn1 hF2603 hnx hlv hA hAo hX2 hXn hW2 hdn hc hcc hm2602
              exact (show False by omega).elim
            | succ m2601 ih2600 =>
              intro S2607 n c nx lv V V1 vs1 pl1 hv1 dn1 hvs1 hpl1 hhv1 hdn1 hF2603 hnx hlv hA hAo hX2 hXn hW2 hdn hc hcc hm2602
              refine T_p xr_193_51 xn_193 (pc' := 52) (ls' := [(2, .int (iI c)), (1, .int (iI n)), (0, .ref 530)]) (st' := [.int (iI c)]) rfl ?_
              refine T_p xr_193_52 xn_193 (pc' := 53) (ls' := [(2, .int (iI c)), (1, .int (iI n)), (0, .ref 530)]) (st' := [.ref 530, .int (iI c)]) rfl ?_
              have h2608 := (hF2603.1 530 (by omega)).trans (h2597)
              refine T_get xr_193_53 h2608 rfl (v := .int (iI nc)) rfl (pc' := 56) rfl ?_
              refine T_zicmp_ge xr_193_56 (t := 136) (pc' := 59) rfl rfl (fun c2609 => ?_) (fun c2609 => ?_)
              · skip
                have c2609 : nc ≤ c := c2609
                exact (show False by omega).elim
              · skip
                have c2609 : ¬ (nc ≤ c) := c2609
                have hns := hdn.self (show 0 ≤ n by omega) (show n < nc by omega)
                refine T_p xr_193_59 xn_193 (pc' := 60) (ls' := [(2, .int (iI c)), (1, .int (iI n)), (0, .ref 530)]) (st' := [.ref 530]) rfl ?_
                refine T_p xr_193_60 xn_193 (pc' := 61) (ls' := [(2, .int (iI c)), (1, .int (iI n)), (0, .ref 530)]) (st' := [.int (iI n), .ref 530]) rfl ?_
                refine T_cv (S := S2607) (q := 530) xr_193_61 xf_192.1 xf_192.2.1 xn_192 (as := [.int (iI n)]) (r := []) rfl h2608 (Nat.le_of_ble_eq_true rfl) (Nat.le_of_ble_eq_true rfl) (pc' := 64) rfl (ls' := [(0, .ref 530), (1, .int (iI n))]) rfl ?_
                have h2610 := (hF2603.1 557 (by omega)).trans ((hF2594.1 557 (by omega)).trans ((n2588 557 (by decide)).trans ((n2584 557 (by decide)).trans ((n2580 557 (by decide)).trans (hA557)))))
                have h2611 := (hF2603.1 558 (by omega)).trans ((hF2594.1 558 (by omega)).trans ((n2588 558 (by decide)).trans ((n2584 558 (by decide)).trans ((n2580 558 (by decide)).trans (hA558)))))
                have h2612 := (hF2603.1 559 (by omega)).trans ((hF2594.1 559 (by omega)).trans ((n2588 559 (by decide)).trans ((n2584 559 (by decide)).trans ((n2580 559 (by decide)).trans (hA559)))))
                have h2613 := (hF2603.1 560 (by omega)).trans ((hF2594.1 560 (by omega)).trans ((n2588 560 (by decide)).trans ((n2584 560 (by decide)).trans ((n2580 560 (by decide)).trans (hA560)))))
                have h2614 := (hF2603.1 561 (by omega)).trans ((hF2594.1 561 (by omega)).trans ((n2588 561 (by decide)).trans ((n2584 561 (by decide)).trans ((n2580 561 (by decide)).trans (hA561)))))
                refine T_mono (r_behind sc S2607 nW nF nL nP nH (X_ou (X_ou (X_ou (X_ou o 49 nc) 68 1) 69 (-1)) 70 0) nm b rc G tn nc N n h2608 h2610 h2611 h2612 h2613 h2614 (by omega) (by omega) hnd t0) (fun v2615 S2616 h2617 => ?_)
                rcases h2617 with ⟨r2618, hv2619, hp2620, hp2621, hf2622⟩
                rw [hv2619]
                rw [hf2622]
                show X_T sc 193 (64, [(2, .int (iI c)), (1, .int (iI n)), (0, .ref 530)], [.int (iI r2618)], S2607) _
                refine T_p xr_193_64 xn_193 (pc' := 65) (ls' := [(3, .int (iI r2618)), (2, .int (iI c)), (1, .int (iI n)), (0, .ref 530)]) (st' := []) rfl ?_
                refine T_p xr_193_65 xn_193 (pc' := 66) (ls' := [(3, .int (iI r2618)), (2, .int (iI c)), (1, .int (iI n)), (0, .ref 530)]) (st' := [.int (iI r2618)]) rfl ?_
                refine T_p xr_193_66 xn_193 (pc' := 67) (ls' := [(3, .int (iI r2618)), (2, .int (iI c)), (1, .int (iI n)), (0, .ref 530)]) (st' := [.int (iI n), .int (iI r2618)]) rfl ?_
                refine T_p xr_193_67 xn_193 (pc' := 68) (ls' := [(3, .int (iI r2618)), (2, .int (iI c)), (1, .int (iI n)), (0, .ref 530)]) (st' := [.int (iI 1), .int (iI n), .int (iI r2618)]) rfl ?_
                refine T_ziadd xr_193_68 (z := n + 1) rfl (pc' := 69) rfl ?_
                refine T_zicmp_le xr_193_69 (t := 89) (pc' := 72) rfl rfl (fun c2623 => ?_) (fun c2623 => ?_)
                · skip
                  have c2623 : r2618 ≤ (n + 1) := c2623
                  have hwe : X_wn N nc nx < n := R_wk_e hR hnx (show 0 ≤ n ∧ n < nx by omega) hAo hdn (Or.inr (by
                        have hb := hp2620
                        have hb2 := hp2621
                        by_cases hz : n + 1 = nc
                        · exact Or.inl hz
                        · refine Or.inr ⟨by omega, ?_⟩
                          have he : r2618 = n + 1 := by omega
                          rw [he] at hb2
                          exact hb2 (by omega)))
                  refine T_p xr_193_89 xn_193 (pc' := 90) (ls' := [(3, .int (iI r2618)), (2, .int (iI c)), (1, .int (iI n)), (0, .ref 530)]) (st' := [.ref 530]) rfl ?_
                  refine T_p xr_193_90 xn_193 (pc' := 91) (ls' := [(3, .int (iI r2618)), (2, .int (iI c)), (1, .int (iI n)), (0, .ref 530)]) (st' := [.int (iI n), .ref 530]) rfl ?_
                  refine T_cv (S := S2607) (q := 530) xr_193_91 xf_196.1 xf_196.2.1 xn_196 (as := [.int (iI n)]) (r := []) rfl h2608 (Nat.le_of_ble_eq_true rfl) (Nat.le_of_ble_eq_true rfl) (pc' := 94) rfl (ls' := [(0, .ref 530), (1, .int (iI n))]) rfl ?_
                  have h2624 := (hF2603.1 542 (by omega)).trans ((hF2594.1 542 (by omega)).trans ((n2588 542 (by decide)).trans ((n2584 542 (by decide)).trans ((n2580 542 (by decide)).trans (hA542)))))
                  have h2625 := (hF2603.1 543 (by omega)).trans ((hF2594.1 543 (by omega)).trans ((n2588 543 (by decide)).trans ((n2584 543 (by decide)).trans ((n2580 543 (by decide)).trans (hA543)))))
                  have h2626 := (hF2603.1 544 (by omega)).trans ((hF2594.1 544 (by omega)).trans ((n2588 544 (by decide)).trans ((n2584 544 (by decide)).trans ((n2580 544 (by decide)).trans (hA544)))))
                  have h2627 := (hF2603.1 550 (by omega)).trans ((hF2594.1 550 (by omega)).trans ((n2588 550 (by decide)).trans ((n2584 550 (by decide)).trans ((n2580 550 (by decide)).trans (hA550)))))
                  have h2628 := (hF2603.1 574 (by omega)).trans ((hF2594.1 574 (by omega)).trans ((n2588 574 (by decide)).trans ((n2584 574 (by decide)).trans ((n2580 574 (by decide)).trans (hA574)))))
                  have h2629 := (hF2603.1 575 (by omega)).trans ((hF2594.1 575 (by omega)).trans ((n2588 575 (by decide)).trans ((n2584 575 (by decide)).trans ((n2580 575 (by decide)).trans (hA575)))))
                  refine T_mono (r_value sc S2607 wS sO sN tU nW nF nL nP nH bo va vs1 pl1 hv1 (X_ou (X_ou (X_ou (X_ou o 49 nc) 68 1) 69 (-1)) 70 0) nm b rc G tn nc N n V1 h2608 h2624 h2625 h2626 h2627 h2610 h2611 h2612 h2613 h2614 h2628 h2629 hvs1 hpl1 hhv1 (by omega) hG hGs hTU hWS hST hbo hR (by omega) hnd (fun h g1 g2 g3 => by have hc := X_ch_ev hR (show 1 ≤ nx ∧ nx ≤ nc by omega) hA (by omega) (by omega) g3; have hc2 := X_lc_r (N := N) (p := n) (h := h) nc.toNat; exact hW2 _ (by omega) hc.2.1 hc.2.2)) (fun v2630 S2631 h2632 => ?_)
                  rcases h2632 with ⟨vs2633, pl2634, hv2635, hv2636, hp2637, hp2638, ha2639, ha2640, ha2641, hf2642⟩
                  rw [hv2636]
                  have hcr2643 := X_ev_r (G := G) (bo := (fun w => gD G w 6 0)) (va := (fun w => gD G w 7 0)) (V := V1) (N := N) (nc := nc) (n := n)
                  show X_T sc 193 (94, [(3, .int (iI r2618)), (2, .int (iI c)), (1, .int (iI n)), (0, .ref 530)], [.int (iI ((X_ev G (fun w => gD G w 6 0) (fun w => gD G w 7 0) N nc V1 n).1))], S2631) _
                  refine T_p xr_193_94 xn_193 (pc' := 96) (ls' := [(4, .int (iI ((X_ev G (fun w => gD G w 6 0) (fun w => gD G w 7 0) N nc V1 n).1))), (3, .int (iI r2618)), (2, .int (iI c)), (1, .int (iI n)), (0, .ref 530)]) (st' := []) rfl ?_
                  refine T_p xr_193_96 xn_193 (pc' := 98) (ls' := [(4, .int (iI ((X_ev G (fun w => gD G w 6 0) (fun w => gD G w 7 0) N nc V1 n).1))), (3, .int (iI r2618)), (2, .int (iI c)), (1, .int (iI n)), (0, .ref 530)]) (st' := [.int (iI ((X_ev G (fun w => gD G w 6 0) (fun w => gD G w 7 0) N nc V1 n).1))]) rfl ?_
                  refine T_zif_le xr_193_98 (t := 109) (pc' := 101) rfl rfl (fun c2644 => ?_) (fun c2644 => ?_)
                  · skip
                    have c2644 : ((X_ev G (fun w => gD G w 6 0) (fun w => gD G w 7 0) N nc V1 n).1) ≤ 0 := c2644
                    have hv0 : (X_ev G (fun w => gD G w 6 0) (fun w => gD G w 7 0) N nc V1 n).1 = 0 := by omega
                    have hwi : X_wi G (fun w => gD G w 6 0) (fun w => gD G w 7 0) N nc (X_wn N nc nx) (31 - lv).toNat n V1 = X_wi G (fun w => gD G w 6 0) (fun w => gD G w 7 0) N nc (X_wn N nc nx) (31 - (lv + 1)).toNat (N 3 n) (X_ug V1 n (X_ev G (fun w => gD G w 6 0) (fun w => gD G w 7 0) N nc V1 n).2) := by rw [show (31 - lv).toNat = (31 - (lv + 1)).toNat + 1 by omega, X_wi_s (by omega) hv0]
                    have hW3 := X_Wr.st hW2 (show 0 ≤ n by omega) (hp2637 hv0) hp2638
                    have hdn2 := hdn.upd hR (show 0 ≤ n ∧ n < nx by omega) hnx.2
                    have hcn2 := R_cn_u (dn := dn1) (m := nc) (show 0 ≤ n by omega) (by omega) hns
                    have h3n := t0 n (by omega) (by omega)
                    refine T_p xr_193_109 xn_193 (pc' := 110) (ls' := [(4, .int (iI ((X_ev G (fun w => gD G w 6 0) (fun w => gD G w 7 0) N nc V1 n).1))), (3, .int (iI r2618)), (2, .int (iI c)), (1, .int (iI n)), (0, .ref 530)]) (st' := [.ref 530]) rfl ?_
                    have h2645 := (hf2642.1 530 (by omega)).trans (h2608)
                    refine T_get xr_193_110 h2645 rfl (v := .ref 579) rfl (pc' := 113) rfl ?_
                    refine T_p xr_193_113 xn_193 (pc' := 114) (ls' := [(4, .int (iI ((X_ev G (fun w => gD G w 6 0) (fun w => gD G w 7 0) N nc V1 n).1))), (3, .int (iI r2618)), (2, .int (iI c)), (1, .int (iI n)), (0, .ref 530)]) (st' := [.int (iI n), .ref 579]) rfl ?_
                    refine T_p xr_193_114 xn_193 (pc' := 115) (ls' := [(4, .int (iI ((X_ev G (fun w => gD G w 6 0) (fun w => gD G w 7 0) N nc V1 n).1))), (3, .int (iI r2618)), (2, .int (iI c)), (1, .int (iI n)), (0, .ref 530)]) (st' := [.int (iI 1), .int (iI n), .ref 579]) rfl ?_
                    have h2646 := (hf2642.1 579 (by omega)).trans (hdn1)
                    refine T_zzast xr_193_115 h2646 (pc' := 116) rfl (fun S2647 h2648 n2649 e2650 => ?_)
                    refine T_ziinc xr_193_116 xn_193 (a := c) (z := c + 1) rfl (Nat.le_of_ble_eq_true rfl) (by omega) (ls' := [(2, .int (iI (c + 1))), (4, .int (iI ((X_ev G (fun w => gD G w 6 0) (fun w => gD G w 7 0) N nc V1 n).1))), (3, .int (iI r2618)), (1, .int (iI n)), (0, .ref 530)]) rfl (pc' := 119) rfl ?_
                    refine T_p xr_193_119 xn_193 (pc' := 120) (ls' := [(2, .int (iI (c + 1))), (4, .int (iI ((X_ev G (fun w => gD G w 6 0) (fun w => gD G w 7 0) N nc V1 n).1))), (3, .int (iI r2618)), (1, .int (iI n)), (0, .ref 530)]) (st' := [.ref 530]) rfl ?_
                    have h2651 := (n2649 530 (by decide)).trans (h2645)
                    refine T_get xr_193_120 h2651 rfl (v := .ref 560) rfl (pc' := 123) rfl ?_
                    refine T_p xr_193_123 xn_193 (pc' := 124) (ls' := [(2, .int (iI (c + 1))), (4, .int (iI ((X_ev G (fun w => gD G w 6 0) (fun w => gD G w 7 0) N nc V1 n).1))), (3, .int (iI r2618)), (1, .int (iI n)), (0, .ref 530)]) (st' := [.int (iI n), .ref 560]) rfl ?_
                    have h2652 := (n2649 560 (by decide)).trans ((hf2642.1 560 (by omega)).trans (h2613))
                    refine T_ziald xr_193_124 h2652 (pc' := 125) rfl ?_
                    refine T_ie (y := iI (N 3 n)) (by rw [(hnd n (by omega) (by omega)).2.2.2.1]) ?_
                    refine T_p xr_193_125 xn_193 (pc' := 126) (ls' := [(1, .int (iI (N 3 n))), (2, .int (iI (c + 1))), (4, .int (iI ((X_ev G (fun w => gD G w 6 0) (fun w => gD G w 7 0) N nc V1 n).1))), (3, .int (iI r2618)), (0, .ref 530)]) (st' := []) rfl ?_
                    refine T_p xr_193_126 xn_193 (pc' := 127) (ls' := [(1, .int (iI (N 3 n))), (2, .int (iI (c + 1))), (4, .int (iI ((X_ev G (fun w => gD G w 6 0) (fun w => gD G w 7 0) N nc V1 n).1))), (3, .int (iI r2618)), (0, .ref 530)]) (st' := [.int (iI (N 3 n))]) rfl ?_
                    refine T_zif_ge xr_193_127 (t := 133) (pc' := 130) rfl rfl (fun c2653 => ?_) (fun c2653 => ?_)
                    · skip
                      have c2653 : 0 ≤ (N 3 n) := c2653
                      refine T_p xr_193_133 xn_193 (pc' := 51) (ls' := [(1, .int (iI (N 3 n))), (2, .int (iI (c + 1))), (4, .int (iI ((X_ev G (fun w => gD G w 6 0) (fun w => gD G w 7 0) N nc V1 n).1))), (3, .int (iI r2618)), (0, .ref 530)]) (st' := []) rfl ?_
                      have h2654 := (n2649 576 (by decide)).trans (ha2639)
                      have h2655 := (n2649 577 (by decide)).trans (ha2640)
                      have h2656 := (n2649 578 (by decide)).trans (ha2641)
                      refine T_sub (ls := [(2, .int (iI (c + 1))), (1, .int (iI (N 3 n))), (0, .ref 530)]) ⟨rfl, rfl, rfl, trivial⟩ rfl rfl ?_
                      exact ih2600 S2647 (N 3 n) (c + 1) nx (lv + 1) V (X_ug V1 n (X_ev G (fun w => gD G w 6 0) (fun w => gD G w 7 0) N nc V1 n).2) vs2633 pl2634 hv2635 (X_ug dn1 n (X_bo 1)) h2654 h2655 h2656 h2648 (hF2603.tr (((X_Fr.rf).tr (X_Fr.mono ⟨hf2642.1, hf2642.2⟩ (fun q hq => (by omega)))).tr (X_Fr.of n2649 e2650 (by omega)))) (by omega) (by omega) (X_An.tr hA (X_An.up (by omega) X_An.rf) t0 (by omega)) (hAo.dn (by omega)).2 (by rw [← hX2, hwi]) hXn hW3 (by have z := hdn2; first | exact z | (rw [show X_bo 1 = 1 by decide]; exact z)) (by first | (rw [show X_bo 1 = 1 by decide, hcn2]; omega) | (rw [hcn2]; omega)) (by first | (have z := R_cn_lt (dn := X_ug dn1 n 1) (m := nc) (n := N 3 n) (by omega) (by omega) (hdn2.self (by omega) (by omega)); rw [hcn2] at z; omega)) (by omega)
                    · skip
                      have c2653 : ¬ (0 ≤ (N 3 n)) := c2653
                      refine T_p xr_193_130 xn_193 (pc' := 136) (ls' := [(1, .int (iI (N 3 n))), (2, .int (iI (c + 1))), (4, .int (iI ((X_ev G (fun w => gD G w 6 0) (fun w => gD G w 7 0) N nc V1 n).1))), (3, .int (iI r2618)), (0, .ref 530)]) (st' := []) rfl ?_
                      have hn0 : n = 0 := Classical.byContradiction (fun z => by have := (t1 n (by omega) (by omega)).1; omega)
                      have hwl := hAo.le t0 (by omega) (by omega)
                      have hxe : nx = nc := Classical.byContradiction (fun z => by have h1 := (t1 nx (by omega) (by omega)).1; have h2 : X_wn N nc nx = N 3 nx := (by unfold X_wn; rw [if_pos (by omega)]); omega)
                      have hRI : X_wi G (fun w => gD G w 6 0) (fun w => gD G w 7 0) N nc (X_wn N nc nx) 31 (nx - 1) V = ((0, N 3 n), X_ug V1 n (X_ev G (fun w => gD G w 6 0) (fun w => gD G w 7 0) N nc V1 n).2) := hX2.symm.trans (hwi.trans (X_wi_e (by omega)))
                      have hXs := X_wo_s (show nx ≤ nc by omega) hRI
                      rw [hXn, hxe, show nc + 1 - (nc + 1) = 0 by omega] at hXs
                      have hRR : (X_wk G (fun w => gD G w 6 0) (fun w => gD G w 7 0) N nc) = (0, -1, (X_ev G (fun w => gD G w 6 0) (fun w => gD G w 7 0) N nc V1 n).2) := hXs.trans (by show (0, (-1 : Int), X_ug V1 n (X_ev G (fun w => gD G w 6 0) (fun w => gD G w 7 0) N nc V1 n).2 0) = _; rw [hn0, X_ug_s])
                      refine T_p xr_193_136 xn_193 (pc' := 137) (ls' := [(1, .int (iI (N 3 n))), (2, .int (iI (c + 1))), (4, .int (iI ((X_ev G (fun w => gD G w 6 0) (fun w => gD G w 7 0) N nc V1 n).1))), (3, .int (iI r2618)), (0, .ref 530)]) (st' := [.ref 530]) rfl ?_
                      refine T_p xr_193_137 xn_193 (pc' := 138) (ls' := [(1, .int (iI (N 3 n))), (2, .int (iI (c + 1))), (4, .int (iI ((X_ev G (fun w => gD G w 6 0) (fun w => gD G w 7 0) N nc V1 n).1))), (3, .int (iI r2618)), (0, .ref 530)]) (st' := [.ref 530, .ref 530]) rfl ?_
                      refine T_get xr_193_138 h2651 rfl (v := .ref 576) rfl (pc' := 141) rfl ?_
                      refine T_p xr_193_141 xn_193 (pc' := 142) (ls' := [(1, .int (iI (N 3 n))), (2, .int (iI (c + 1))), (4, .int (iI ((X_ev G (fun w => gD G w 6 0) (fun w => gD G w 7 0) N nc V1 n).1))), (3, .int (iI r2618)), (0, .ref 530)]) (st' := [.int (iI 0), .ref 576, .ref 530]) rfl ?_
                      have h2657 := (n2649 576 (by decide)).trans (ha2639)
                      refine T_ziald xr_193_142 h2657 (pc' := 143) rfl ?_
                      refine T_ie (y := iI ((X_ev G (fun w => gD G w 6 0) (fun w => gD G w 7 0) N nc V1 n).2)) (congrArg iI (by have z := hp2637 hv0; rw [← z, hn0])) ?_
                      refine T_put xr_193_143 h2651 rfl (Nat.le_of_ble_eq_true rfl) rfl (fs' := [.ref 531, .int (iI (o 1)), .ref 532, .int (iI (o 3)), .int (iI b), .int (iI (o 5)), .int (iI (o 6)), .int (iI (o 7)), .int (iI (o 8)), .int (iI (o 9)), .int (iI (o 10)), .int (iI (o 11)), .long nm, .ref 533, .ref 534, .ref 535, .ref 536, .ref 537, .ref 538, .ref 539, .ref 540, .ref 541, .ref 542, .ref 543, .ref 544, .ref 545, .ref 546, .ref 547, .int (iI rc), .int (iI (gk G)), .int (iI (gw G)), .int (iI (o 31)), .int (iI (o 32)), .int (iI (o 33)), .ref 548, .ref 549, .ref 550, .ref 551, .int (iI tn), .ref 552, .ref 553, .ref 554, .ref 555, .ref 556, .ref 557, .ref 558, .ref 559, .ref 560, .ref 561, .int (iI nc), .ref 562, .ref 563, .ref 564, .ref 565, .ref 566, .ref 567, .ref 568, .ref 569, .int (iI (o 58)), .ref 570, .ref 571, .ref 572, .ref 573, .ref 574, .ref 575, .ref 576, .ref 577, .ref 578, .int (iI 1), .int (iI (-1)), .int (iI ((X_ev G (fun w => gD G w 6 0) (fun w => gD G w 7 0) N nc V1 n).2)), .ref 579]) rfl (pc' := 146) rfl (fun S2658 h2659 n2660 e2661 => ?_)
                      refine T_p xr_193_146 xn_193 (pc' := 147) (ls' := [(1, .int (iI (N 3 n))), (2, .int (iI (c + 1))), (4, .int (iI ((X_ev G (fun w => gD G w 6 0) (fun w => gD G w 7 0) N nc V1 n).1))), (3, .int (iI r2618)), (0, .ref 530)]) (st' := [.int (iI 0)]) rfl ?_
                      refine T_iret xr_193_147 xf_193.2.2 rfl ?_
                      refine hQ _ _ ?_
                      have h2662 := (n2660 576 (by decide)).trans (h2657)
                      have h2663 := (n2660 577 (by decide)).trans ((n2649 577 (by decide)).trans (ha2640))
                      have h2664 := (n2660 578 (by decide)).trans ((n2649 578 (by decide)).trans (ha2641))
                      have h2665 := (n2660 579 (by decide)).trans (h2648)
                      exact Or.inr ⟨vs2633, pl2634, hv2635, (X_ug dn1 n (X_bo 1)), by rw [hRR], by omega, by rw [hRR]; exact h2659, h2662, h2663, h2664, h2665, ((((((((X_Fr.rf).tr (X_Fr.of n2580 e2581 (by omega))).tr (X_Fr.of n2584 e2585 (by omega))).tr (X_Fr.of n2588 e2589 (by omega))).tr (X_Fr.mono ⟨hF2594.1, hF2594.2⟩ (fun q hq => (by omega)))).tr (X_Fr.mono ⟨hF2603.1, hF2603.2⟩ (fun q hq => (by omega)))).tr (X_Fr.mono ⟨hf2642.1, hf2642.2⟩ (fun q hq => (by omega)))).tr (X_Fr.of n2649 e2650 (by omega))).tr (X_Fr.of n2660 e2661 (by omega))⟩
                  · skip
                    have c2644 : ¬ (((X_ev G (fun w => gD G w 6 0) (fun w => gD G w 7 0) N nc V1 n).1) ≤ 0) := c2644
                    have hRI : X_wi G (fun w => gD G w 6 0) (fun w => gD G w 7 0) N nc (X_wn N nc nx) 31 (nx - 1) V = (((X_ev G (fun w => gD G w 6 0) (fun w => gD G w 7 0) N nc V1 n).1, n), V1) := hX2.symm.trans (by rw [show (31 - lv).toNat = (31 - (lv + 1)).toNat + 1 by omega, X_wi_x (by omega) (by omega)])
                    have hRR : (X_wk G (fun w => gD G w 6 0) (fun w => gD G w 7 0) N nc) = ((X_ev G (fun w => gD G w 6 0) (fun w => gD G w 7 0) N nc V1 n).1, n, 0) := hXn.symm.trans (X_wo_x (show nx ≤ nc by omega) (by omega) hRI)
                    refine T_p xr_193_101 xn_193 (pc' := 102) (ls' := [(4, .int (iI ((X_ev G (fun w => gD G w 6 0) (fun w => gD G w 7 0) N nc V1 n).1))), (3, .int (iI r2618)), (2, .int (iI c)), (1, .int (iI n)), (0, .ref 530)]) (st' := [.ref 530]) rfl ?_
                    refine T_p xr_193_102 xn_193 (pc' := 103) (ls' := [(4, .int (iI ((X_ev G (fun w => gD G w 6 0) (fun w => gD G w 7 0) N nc V1 n).1))), (3, .int (iI r2618)), (2, .int (iI c)), (1, .int (iI n)), (0, .ref 530)]) (st' := [.int (iI n), .ref 530]) rfl ?_
                    have h2666 := (hf2642.1 530 (by omega)).trans (h2608)
                    refine T_put xr_193_103 h2666 rfl (Nat.le_of_ble_eq_true rfl) rfl (fs' := [.ref 531, .int (iI (o 1)), .ref 532, .int (iI (o 3)), .int (iI b), .int (iI (o 5)), .int (iI (o 6)), .int (iI (o 7)), .int (iI (o 8)), .int (iI (o 9)), .int (iI (o 10)), .int (iI (o 11)), .long nm, .ref 533, .ref 534, .ref 535, .ref 536, .ref 537, .ref 538, .ref 539, .ref 540, .ref 541, .ref 542, .ref 543, .ref 544, .ref 545, .ref 546, .ref 547, .int (iI rc), .int (iI (gk G)), .int (iI (gw G)), .int (iI (o 31)), .int (iI (o 32)), .int (iI (o 33)), .ref 548, .ref 549, .ref 550, .ref 551, .int (iI tn), .ref 552, .ref 553, .ref 554, .ref 555, .ref 556, .ref 557, .ref 558, .ref 559, .ref 560, .ref 561, .int (iI nc), .ref 562, .ref 563, .ref 564, .ref 565, .ref 566, .ref 567, .ref 568, .ref 569, .int (iI (o 58)), .ref 570, .ref 571, .ref 572, .ref 573, .ref 574, .ref 575, .ref 576, .ref 577, .ref 578, .int (iI 1), .int (iI n), .int (iI 0), .ref 579]) rfl (pc' := 106) rfl (fun S2667 h2668 n2669 e2670 => ?_)
                    refine T_p xr_193_106 xn_193 (pc' := 108) (ls' := [(4, .int (iI ((X_ev G (fun w => gD G w 6 0) (fun w => gD G w 7 0) N nc V1 n).1))), (3, .int (iI r2618)), (2, .int (iI c)), (1, .int (iI n)), (0, .ref 530)]) (st' := [.int (iI ((X_ev G (fun w => gD G w 6 0) (fun w => gD G w 7 0) N nc V1 n).1))]) rfl ?_
                    refine T_iret xr_193_108 xf_193.2.2 rfl ?_
                    refine hQ _ _ ?_
                    have h2671 := (n2669 576 (by decide)).trans (ha2639)
                    have h2672 := (n2669 577 (by decide)).trans (ha2640)
                    have h2673 := (n2669 578 (by decide)).trans (ha2641)
                    have h2674 := (n2669 579 (by decide)).trans ((hf2642.1 579 (by omega)).trans (hdn1))
                    exact Or.inr ⟨vs2633, pl2634, hv2635, dn1, by rw [hRR], by omega, by rw [hRR]; exact h2668, h2671, h2672, h2673, h2674, (((((((X_Fr.rf).tr (X_Fr.of n2580 e2581 (by omega))).tr (X_Fr.of n2584 e2585 (by omega))).tr (X_Fr.of n2588 e2589 (by omega))).tr (X_Fr.mono ⟨hF2594.1, hF2594.2⟩ (fun q hq => (by omega)))).tr (X_Fr.mono ⟨hF2603.1, hF2603.2⟩ (fun q hq => (by omega)))).tr (X_Fr.mono ⟨hf2642.1, hf2642.2⟩ (fun q hq => (by omega)))).tr (X_Fr.of n2669 e2670 (by omega))⟩
                · skip
                  have c2623 : ¬ (r2618 ≤ (n + 1)) := c2623
                  refine T_p xr_193_72 xn_193 (pc' := 73) (ls' := [(3, .int (iI r2618)), (2, .int (iI c)), (1, .int (iI n)), (0, .ref 530)]) (st' := [.ref 530]) rfl ?_
                  refine T_p xr_193_73 xn_193 (pc' := 74) (ls' := [(3, .int (iI r2618)), (2, .int (iI c)), (1, .int (iI n)), (0, .ref 530)]) (st' := [.int (iI n), .ref 530]) rfl ?_
                  refine T_cv (S := S2607) (q := 530) xr_193_74 xf_195.1 xf_195.2.1 xn_195 (as := [.int (iI n)]) (r := []) rfl h2608 (Nat.le_of_ble_eq_true rfl) (Nat.le_of_ble_eq_true rfl) (pc' := 77) rfl (ls' := [(0, .ref 530), (1, .int (iI n))]) rfl ?_
                  refine T_p xr_195_0 xn_195 (pc' := 1) (ls' := [(0, .ref 530), (1, .int (iI n))]) (st' := [.ref 530]) rfl ?_
                  refine T_p xr_195_1 xn_195 (pc' := 2) (ls' := [(0, .ref 530), (1, .int (iI n))]) (st' := [.int (iI n), .ref 530]) rfl ?_
                  refine T_cv (S := S2607) (q := 530) xr_195_2 xf_194.1 xf_194.2.1 xn_194 (as := [.int (iI n)]) (r := []) rfl h2608 (Nat.le_of_ble_eq_true rfl) (Nat.le_of_ble_eq_true rfl) (pc' := 5) rfl (ls' := [(0, .ref 530), (1, .int (iI n))]) rfl ?_
                  refine T_mono (r_nextWithin sc S2607 nW nF nL nP nH dn1 (X_ou (X_ou (X_ou (X_ou o 49 nc) 68 1) 69 (-1)) 70 0) nm b rc G tn nc N n h2608 h2610 h2611 h2612 h2613 h2614 hdn1 (by omega) (by omega) hnd t0 (fun m h1 h2 => (hdn m h1 h2).2)) (fun v2675 S2676 h2677 => ?_)
                  rcases h2677 with ⟨hv2678, hp2679, hf2680⟩ | ⟨r2681, hv2682, hp2683, hp2684, hp2685, hp2686, hf2687⟩
                  · skip
                    rw [hv2678]
                    rw [hf2680]
                    show X_T sc 195 (5, [(0, .ref 530), (1, .int (iI n))], [.int (iI (-1))], S2607) _
                    refine T_zif_gef xr_195_5 (t := 12) (pc' := 8) rfl rfl (by decide) ?_
                    refine T_p xr_195_8 xn_195 (pc' := 9) (ls' := [(0, .ref 530), (1, .int (iI n))]) (st' := [.int (iI 1)]) rfl ?_
                    refine T_p xr_195_9 xn_195 (pc' := 13) (ls' := [(0, .ref 530), (1, .int (iI n))]) (st' := [.int (iI 1)]) rfl ?_
                    refine T_iret xr_195_13 xf_195.2.2 (by decide) ?_
                    show X_T sc 193 (77, [(3, .int (iI r2618)), (2, .int (iI c)), (1, .int (iI n)), (0, .ref 530)], [.int (iI 1)], S2607) _
                    refine T_zif_net xr_193_77 (t := 89) rfl (by decide) ?_
                    have hwe : X_wn N nc nx < n := R_wk_e hR hnx (show 0 ≤ n ∧ n < nx by omega) hAo hdn (Or.inl hp2679)
                    refine T_p xr_193_89 xn_193 (pc' := 90) (ls' := [(3, .int (iI r2618)), (2, .int (iI c)), (1, .int (iI n)), (0, .ref 530)]) (st' := [.ref 530]) rfl ?_
                    refine T_p xr_193_90 xn_193 (pc' := 91) (ls' := [(3, .int (iI r2618)), (2, .int (iI c)), (1, .int (iI n)), (0, .ref 530)]) (st' := [.int (iI n), .ref 530]) rfl ?_
                    refine T_cv (S := S2607) (q := 530) xr_193_91 xf_196.1 xf_196.2.1 xn_196 (as := [.int (iI n)]) (r := []) rfl h2608 (Nat.le_of_ble_eq_true rfl) (Nat.le_of_ble_eq_true rfl) (pc' := 94) rfl (ls' := [(0, .ref 530), (1, .int (iI n))]) rfl ?_
                    have h2688 := (hF2603.1 542 (by omega)).trans ((hF2594.1 542 (by omega)).trans ((n2588 542 (by decide)).trans ((n2584 542 (by decide)).trans ((n2580 542 (by decide)).trans (hA542)))))
                    have h2689 := (hF2603.1 543 (by omega)).trans ((hF2594.1 543 (by omega)).trans ((n2588 543 (by decide)).trans ((n2584 543 (by decide)).trans ((n2580 543 (by decide)).trans (hA543)))))
                    have h2690 := (hF2603.1 544 (by omega)).trans ((hF2594.1 544 (by omega)).trans ((n2588 544 (by decide)).trans ((n2584 544 (by decide)).trans ((n2580 544 (by decide)).trans (hA544)))))
                    have h2691 := (hF2603.1 550 (by omega)).trans ((hF2594.1 550 (by omega)).trans ((n2588 550 (by decide)).trans ((n2584 550 (by decide)).trans ((n2580 550 (by decide)).trans (hA550)))))
                    have h2692 := (hF2603.1 574 (by omega)).trans ((hF2594.1 574 (by omega)).trans ((n2588 574 (by decide)).trans ((n2584 574 (by decide)).trans ((n2580 574 (by decide)).trans (hA574)))))
                    have h2693 := (hF2603.1 575 (by omega)).trans ((hF2594.1 575 (by omega)).trans ((n2588 575 (by decide)).trans ((n2584 575 (by decide)).trans ((n2580 575 (by decide)).trans (hA575)))))
                    refine T_mono (r_value sc S2607 wS sO sN tU nW nF nL nP nH bo va vs1 pl1 hv1 (X_ou (X_ou (X_ou (X_ou o 49 nc) 68 1) 69 (-1)) 70 0) nm b rc G tn nc N n V1 h2608 h2688 h2689 h2690 h2691 h2610 h2611 h2612 h2613 h2614 h2692 h2693 hvs1 hpl1 hhv1 (by omega) hG hGs hTU hWS hST hbo hR (by omega) hnd (fun h g1 g2 g3 => by have hc := X_ch_ev hR (show 1 ≤ nx ∧ nx ≤ nc by omega) hA (by omega) (by omega) g3; have hc2 := X_lc_r (N := N) (p := n) (h := h) nc.toNat; exact hW2 _ (by omega) hc.2.1 hc.2.2)) (fun v2694 S2695 h2696 => ?_)
                    rcases h2696 with ⟨vs2697, pl2698, hv2699, hv2700, hp2701, hp2702, ha2703, ha2704, ha2705, hf2706⟩
                    rw [hv2700]
                    have hcr2707 := X_ev_r (G := G) (bo := (fun w => gD G w 6 0)) (va := (fun w => gD G w 7 0)) (V := V1) (N := N) (nc := nc) (n := n)
                    show X_T sc 193 (94, [(3, .int (iI r2618)), (2, .int (iI c)), (1, .int (iI n)), (0, .ref 530)], [.int (iI ((X_ev G (fun w => gD G w 6 0) (fun w => gD G w 7 0) N nc V1 n).1))], S2695) _
                    refine T_p xr_193_94 xn_193 (pc' := 96) (ls' := [(4, .int (iI ((X_ev G (fun w => gD G w 6 0) (fun w => gD G w 7 0) N nc V1 n).1))), (3, .int (iI r2618)), (2, .int (iI c)), (1, .int (iI n)), (0, .ref 530)]) (st' := []) rfl ?_
                    refine T_p xr_193_96 xn_193 (pc' := 98) (ls' := [(4, .int (iI ((X_ev G (fun w => gD G w 6 0) (fun w => gD G w 7 0) N nc V1 n).1))), (3, .int (iI r2618)), (2, .int (iI c)), (1, .int (iI n)), (0, .ref 530)]) (st' := [.int (iI ((X_ev G (fun w => gD G w 6 0) (fun w => gD G w 7 0) N nc V1 n).1))]) rfl ?_
                    refine T_zif_le xr_193_98 (t := 109) (pc' := 101) rfl rfl (fun c2708 => ?_) (fun c2708 => ?_)
                    · skip
                      have c2708 : ((X_ev G (fun w => gD G w 6 0) (fun w => gD G w 7 0) N nc V1 n).1) ≤ 0 := c2708
                      have hv0 : (X_ev G (fun w => gD G w 6 0) (fun w => gD G w 7 0) N nc V1 n).1 = 0 := by omega
                      have hwi : X_wi G (fun w => gD G w 6 0) (fun w => gD G w 7 0) N nc (X_wn N nc nx) (31 - lv).toNat n V1 = X_wi G (fun w => gD G w 6 0) (fun w => gD G w 7 0) N nc (X_wn N nc nx) (31 - (lv + 1)).toNat (N 3 n) (X_ug V1 n (X_ev G (fun w => gD G w 6 0) (fun w => gD G w 7 0) N nc V1 n).2) := by rw [show (31 - lv).toNat = (31 - (lv + 1)).toNat + 1 by omega, X_wi_s (by omega) hv0]
                      have hW3 := X_Wr.st hW2 (show 0 ≤ n by omega) (hp2701 hv0) hp2702
                      have hdn2 := hdn.upd hR (show 0 ≤ n ∧ n < nx by omega) hnx.2
                      have hcn2 := R_cn_u (dn := dn1) (m := nc) (show 0 ≤ n by omega) (by omega) hns
                      have h3n := t0 n (by omega) (by omega)
                      refine T_p xr_193_109 xn_193 (pc' := 110) (ls' := [(4, .int (iI ((X_ev G (fun w => gD G w 6 0) (fun w => gD G w 7 0) N nc V1 n).1))), (3, .int (iI r2618)), (2, .int (iI c)), (1, .int (iI n)), (0, .ref 530)]) (st' := [.ref 530]) rfl ?_
                      have h2709 := (hf2706.1 530 (by omega)).trans (h2608)
                      refine T_get xr_193_110 h2709 rfl (v := .ref 579) rfl (pc' := 113) rfl ?_
                      refine T_p xr_193_113 xn_193 (pc' := 114) (ls' := [(4, .int (iI ((X_ev G (fun w => gD G w 6 0) (fun w => gD G w 7 0) N nc V1 n).1))), (3, .int (iI r2618)), (2, .int (iI c)), (1, .int (iI n)), (0, .ref 530)]) (st' := [.int (iI n), .ref 579]) rfl ?_
                      refine T_p xr_193_114 xn_193 (pc' := 115) (ls' := [(4, .int (iI ((X_ev G (fun w => gD G w 6 0) (fun w => gD G w 7 0) N nc V1 n).1))), (3, .int (iI r2618)), (2, .int (iI c)), (1, .int (iI n)), (0, .ref 530)]) (st' := [.int (iI 1), .int (iI n), .ref 579]) rfl ?_
                      have h2710 := (hf2706.1 579 (by omega)).trans (hdn1)
                      refine T_zzast xr_193_115 h2710 (pc' := 116) rfl (fun S2711 h2712 n2713 e2714 => ?_)
                      refine T_ziinc xr_193_116 xn_193 (a := c) (z := c + 1) rfl (Nat.le_of_ble_eq_true rfl) (by omega) (ls' := [(2, .int (iI (c + 1))), (4, .int (iI ((X_ev G (fun w => gD G w 6 0) (fun w => gD G w 7 0) N nc V1 n).1))), (3, .int (iI r2618)), (1, .int (iI n)), (0, .ref 530)]) rfl (pc' := 119) rfl ?_
                      refine T_p xr_193_119 xn_193 (pc' := 120) (ls' := [(2, .int (iI (c + 1))), (4, .int (iI ((X_ev G (fun w => gD G w 6 0) (fun w => gD G w 7 0) N nc V1 n).1))), (3, .int (iI r2618)), (1, .int (iI n)), (0, .ref 530)]) (st' := [.ref 530]) rfl ?_
                      have h2715 := (n2713 530 (by decide)).trans (h2709)
                      refine T_get xr_193_120 h2715 rfl (v := .ref 560) rfl (pc' := 123) rfl ?_
                      refine T_p xr_193_123 xn_193 (pc' := 124) (ls' := [(2, .int (iI (c + 1))), (4, .int (iI ((X_ev G (fun w => gD G w 6 0) (fun w => gD G w 7 0) N nc V1 n).1))), (3, .int (iI r2618)), (1, .int (iI n)), (0, .ref 530)]) (st' := [.int (iI n), .ref 560]) rfl ?_
                      have h2716 := (n2713 560 (by decide)).trans ((hf2706.1 560 (by omega)).trans (h2613))
                      refine T_ziald xr_193_124 h2716 (pc' := 125) rfl ?_
                      refine T_ie (y := iI (N 3 n)) (by rw [(hnd n (by omega) (by omega)).2.2.2.1]) ?_
                      refine T_p xr_193_125 xn_193 (pc' := 126) (ls' := [(1, .int (iI (N 3 n))), (2, .int (iI (c + 1))), (4, .int (iI ((X_ev G (fun w => gD G w 6 0) (fun w => gD G w 7 0) N nc V1 n).1))), (3, .int (iI r2618)), (0, .ref 530)]) (st' := []) rfl ?_
                      refine T_p xr_193_126 xn_193 (pc' := 127) (ls' := [(1, .int (iI (N 3 n))), (2, .int (iI (c + 1))), (4, .int (iI ((X_ev G (fun w => gD G w 6 0) (fun w => gD G w 7 0) N nc V1 n).1))), (3, .int (iI r2618)), (0, .ref 530)]) (st' := [.int (iI (N 3 n))]) rfl ?_
                      refine T_zif_ge xr_193_127 (t := 133) (pc' := 130) rfl rfl (fun c2717 => ?_) (fun c2717 => ?_)
                      · skip
                        have c2717 : 0 ≤ (N 3 n) := c2717
                        refine T_p xr_193_133 xn_193 (pc' := 51) (ls' := [(1, .int (iI (N 3 n))), (2, .int (iI (c + 1))), (4, .int (iI ((X_ev G (fun w => gD G w 6 0) (fun w => gD G w 7 0) N nc V1 n).1))), (3, .int (iI r2618)), (0, .ref 530)]) (st' := []) rfl ?_
                        have h2718 := (n2713 576 (by decide)).trans (ha2703)
                        have h2719 := (n2713 577 (by decide)).trans (ha2704)
                        have h2720 := (n2713 578 (by decide)).trans (ha2705)
                        refine T_sub (ls := [(2, .int (iI (c + 1))), (1, .int (iI (N 3 n))), (0, .ref 530)]) ⟨rfl, rfl, rfl, trivial⟩ rfl rfl ?_
                        exact ih2600 S2711 (N 3 n) (c + 1) nx (lv + 1) V (X_ug V1 n (X_ev G (fun w => gD G w 6 0) (fun w => gD G w 7 0) N nc V1 n).2) vs2697 pl2698 hv2699 (X_ug dn1 n (X_bo 1)) h2718 h2719 h2720 h2712 (hF2603.tr (((X_Fr.rf).tr (X_Fr.mono ⟨hf2706.1, hf2706.2⟩ (fun q hq => (by omega)))).tr (X_Fr.of n2713 e2714 (by omega)))) (by omega) (by omega) (X_An.tr hA (X_An.up (by omega) X_An.rf) t0 (by omega)) (hAo.dn (by omega)).2 (by rw [← hX2, hwi]) hXn hW3 (by have z := hdn2; first | exact z | (rw [show X_bo 1 = 1 by decide]; exact z)) (by first | (rw [show X_bo 1 = 1 by decide, hcn2]; omega) | (rw [hcn2]; omega)) (by first | (have z := R_cn_lt (dn := X_ug dn1 n 1) (m := nc) (n := N 3 n) (by omega) (by omega) (hdn2.self (by omega) (by omega)); rw [hcn2] at z; omega)) (by omega)
                      · skip
                        have c2717 : ¬ (0 ≤ (N 3 n)) := c2717
                        refine T_p xr_193_130 xn_193 (pc' := 136) (ls' := [(1, .int (iI (N 3 n))), (2, .int (iI (c + 1))), (4, .int (iI ((X_ev G (fun w => gD G w 6 0) (fun w => gD G w 7 0) N nc V1 n).1))), (3, .int (iI r2618)), (0, .ref 530)]) (st' := []) rfl ?_
                        have hn0 : n = 0 := Classical.byContradiction (fun z => by have := (t1 n (by omega) (by omega)).1; omega)
                        have hwl := hAo.le t0 (by omega) (by omega)
                        have hxe : nx = nc := Classical.byContradiction (fun z => by have h1 := (t1 nx (by omega) (by omega)).1; have h2 : X_wn N nc nx = N 3 nx := (by unfold X_wn; rw [if_pos (by omega)]); omega)
                        have hRI : X_wi G (fun w => gD G w 6 0) (fun w => gD G w 7 0) N nc (X_wn N nc nx) 31 (nx - 1) V = ((0, N 3 n), X_ug V1 n (X_ev G (fun w => gD G w 6 0) (fun w => gD G w 7 0) N nc V1 n).2) := hX2.symm.trans (hwi.trans (X_wi_e (by omega)))
                        have hXs := X_wo_s (show nx ≤ nc by omega) hRI
                        rw [hXn, hxe, show nc + 1 - (nc + 1) = 0 by omega] at hXs
                        have hRR : (X_wk G (fun w => gD G w 6 0) (fun w => gD G w 7 0) N nc) = (0, -1, (X_ev G (fun w => gD G w 6 0) (fun w => gD G w 7 0) N nc V1 n).2) := hXs.trans (by show (0, (-1 : Int), X_ug V1 n (X_ev G (fun w => gD G w 6 0) (fun w => gD G w 7 0) N nc V1 n).2 0) = _; rw [hn0, X_ug_s])
                        refine T_p xr_193_136 xn_193 (pc' := 137) (ls' := [(1, .int (iI (N 3 n))), (2, .int (iI (c + 1))), (4, .int (iI ((X_ev G (fun w => gD G w 6 0) (fun w => gD G w 7 0) N nc V1 n).1))), (3, .int (iI r2618)), (0, .ref 530)]) (st' := [.ref 530]) rfl ?_
                        refine T_p xr_193_137 xn_193 (pc' := 138) (ls' := [(1, .int (iI (N 3 n))), (2, .int (iI (c + 1))), (4, .int (iI ((X_ev G (fun w => gD G w 6 0) (fun w => gD G w 7 0) N nc V1 n).1))), (3, .int (iI r2618)), (0, .ref 530)]) (st' := [.ref 530, .ref 530]) rfl ?_
                        refine T_get xr_193_138 h2715 rfl (v := .ref 576) rfl (pc' := 141) rfl ?_
                        refine T_p xr_193_141 xn_193 (pc' := 142) (ls' := [(1, .int (iI (N 3 n))), (2, .int (iI (c + 1))), (4, .int (iI ((X_ev G (fun w => gD G w 6 0) (fun w => gD G w 7 0) N nc V1 n).1))), (3, .int (iI r2618)), (0, .ref 530)]) (st' := [.int (iI 0), .ref 576, .ref 530]) rfl ?_
                        have h2721 := (n2713 576 (by decide)).trans (ha2703)
                        refine T_ziald xr_193_142 h2721 (pc' := 143) rfl ?_
                        refine T_ie (y := iI ((X_ev G (fun w => gD G w 6 0) (fun w => gD G w 7 0) N nc V1 n).2)) (congrArg iI (by have z := hp2701 hv0; rw [← z, hn0])) ?_
                        refine T_put xr_193_143 h2715 rfl (Nat.le_of_ble_eq_true rfl) rfl (fs' := [.ref 531, .int (iI (o 1)), .ref 532, .int (iI (o 3)), .int (iI b), .int (iI (o 5)), .int (iI (o 6)), .int (iI (o 7)), .int (iI (o 8)), .int (iI (o 9)), .int (iI (o 10)), .int (iI (o 11)), .long nm, .ref 533, .ref 534, .ref 535, .ref 536, .ref 537, .ref 538, .ref 539, .ref 540, .ref 541, .ref 542, .ref 543, .ref 544, .ref 545, .ref 546, .ref 547, .int (iI rc), .int (iI (gk G)), .int (iI (gw G)), .int (iI (o 31)), .int (iI (o 32)), .int (iI (o 33)), .ref 548, .ref 549, .ref 550, .ref 551, .int (iI tn), .ref 552, .ref 553, .ref 554, .ref 555, .ref 556, .ref 557, .ref 558, .ref 559, .ref 560, .ref 561, .int (iI nc), .ref 562, .ref 563, .ref 564, .ref 565, .ref 566, .ref 567, .ref 568, .ref 569, .int (iI (o 58)), .ref 570, .ref 571, .ref 572, .ref 573, .ref 574, .ref 575, .ref 576, .ref 577, .ref 578, .int (iI 1), .int (iI (-1)), .int (iI ((X_ev G (fun w => gD G w 6 0) (fun w => gD G w 7 0) N nc V1 n).2)), .ref 579]) rfl (pc' := 146) rfl (fun S2722 h2723 n2724 e2725 => ?_)
                        refine T_p xr_193_146 xn_193 (pc' := 147) (ls' := [(1, .int (iI (N 3 n))), (2, .int (iI (c + 1))), (4, .int (iI ((X_ev G (fun w => gD G w 6 0) (fun w => gD G w 7 0) N nc V1 n).1))), (3, .int (iI r2618)), (0, .ref 530)]) (st' := [.int (iI 0)]) rfl ?_
                        refine T_iret xr_193_147 xf_193.2.2 rfl ?_
                        refine hQ _ _ ?_
                        have h2726 := (n2724 576 (by decide)).trans (h2721)
                        have h2727 := (n2724 577 (by decide)).trans ((n2713 577 (by decide)).trans (ha2704))
                        have h2728 := (n2724 578 (by decide)).trans ((n2713 578 (by decide)).trans (ha2705))
                        have h2729 := (n2724 579 (by decide)).trans (h2712)
                        exact Or.inr ⟨vs2697, pl2698, hv2699, (X_ug dn1 n (X_bo 1)), by rw [hRR], by omega, by rw [hRR]; exact h2723, h2726, h2727, h2728, h2729, ((((((((X_Fr.rf).tr (X_Fr.of n2580 e2581 (by omega))).tr (X_Fr.of n2584 e2585 (by omega))).tr (X_Fr.of n2588 e2589 (by omega))).tr (X_Fr.mono ⟨hF2594.1, hF2594.2⟩ (fun q hq => (by omega)))).tr (X_Fr.mono ⟨hF2603.1, hF2603.2⟩ (fun q hq => (by omega)))).tr (X_Fr.mono ⟨hf2706.1, hf2706.2⟩ (fun q hq => (by omega)))).tr (X_Fr.of n2713 e2714 (by omega))).tr (X_Fr.of n2724 e2725 (by omega))⟩
                    · skip
                      have c2708 : ¬ (((X_ev G (fun w => gD G w 6 0) (fun w => gD G w 7 0) N nc V1 n).1) ≤ 0) := c2708
                      have hRI : X_wi G (fun w => gD G w 6 0) (fun w => gD G w 7 0) N nc (X_wn N nc nx) 31 (nx - 1) V = (((X_ev G (fun w => gD G w 6 0) (fun w => gD G w 7 0) N nc V1 n).1, n), V1) := hX2.symm.trans (by rw [show (31 - lv).toNat = (31 - (lv + 1)).toNat + 1 by omega, X_wi_x (by omega) (by omega)])
                      have hRR : (X_wk G (fun w => gD G w 6 0) (fun w => gD G w 7 0) N nc) = ((X_ev G (fun w => gD G w 6 0) (fun w => gD G w 7 0) N nc V1 n).1, n, 0) := hXn.symm.trans (X_wo_x (show nx ≤ nc by omega) (by omega) hRI)
                      refine T_p xr_193_101 xn_193 (pc' := 102) (ls' := [(4, .int (iI ((X_ev G (fun w => gD G w 6 0) (fun w => gD G w 7 0) N nc V1 n).1))), (3, .int (iI r2618)), (2, .int (iI c)), (1, .int (iI n)), (0, .ref 530)]) (st' := [.ref 530]) rfl ?_
                      refine T_p xr_193_102 xn_193 (pc' := 103) (ls' := [(4, .int (iI ((X_ev G (fun w => gD G w 6 0) (fun w => gD G w 7 0) N nc V1 n).1))), (3, .int (iI r2618)), (2, .int (iI c)), (1, .int (iI n)), (0, .ref 530)]) (st' := [.int (iI n), .ref 530]) rfl ?_
                      have h2730 := (hf2706.1 530 (by omega)).trans (h2608)
                      refine T_put xr_193_103 h2730 rfl (Nat.le_of_ble_eq_true rfl) rfl (fs' := [.ref 531, .int (iI (o 1)), .ref 532, .int (iI (o 3)), .int (iI b), .int (iI (o 5)), .int (iI (o 6)), .int (iI (o 7)), .int (iI (o 8)), .int (iI (o 9)), .int (iI (o 10)), .int (iI (o 11)), .long nm, .ref 533, .ref 534, .ref 535, .ref 536, .ref 537, .ref 538, .ref 539, .ref 540, .ref 541, .ref 542, .ref 543, .ref 544, .ref 545, .ref 546, .ref 547, .int (iI rc), .int (iI (gk G)), .int (iI (gw G)), .int (iI (o 31)), .int (iI (o 32)), .int (iI (o 33)), .ref 548, .ref 549, .ref 550, .ref 551, .int (iI tn), .ref 552, .ref 553, .ref 554, .ref 555, .ref 556, .ref 557, .ref 558, .ref 559, .ref 560, .ref 561, .int (iI nc), .ref 562, .ref 563, .ref 564, .ref 565, .ref 566, .ref 567, .ref 568, .ref 569, .int (iI (o 58)), .ref 570, .ref 571, .ref 572, .ref 573, .ref 574, .ref 575, .ref 576, .ref 577, .ref 578, .int (iI 1), .int (iI n), .int (iI 0), .ref 579]) rfl (pc' := 106) rfl (fun S2731 h2732 n2733 e2734 => ?_)
                      refine T_p xr_193_106 xn_193 (pc' := 108) (ls' := [(4, .int (iI ((X_ev G (fun w => gD G w 6 0) (fun w => gD G w 7 0) N nc V1 n).1))), (3, .int (iI r2618)), (2, .int (iI c)), (1, .int (iI n)), (0, .ref 530)]) (st' := [.int (iI ((X_ev G (fun w => gD G w 6 0) (fun w => gD G w 7 0) N nc V1 n).1))]) rfl ?_
                      refine T_iret xr_193_108 xf_193.2.2 rfl ?_
                      refine hQ _ _ ?_
                      have h2735 := (n2733 576 (by decide)).trans (ha2703)
                      have h2736 := (n2733 577 (by decide)).trans (ha2704)
                      have h2737 := (n2733 578 (by decide)).trans (ha2705)
                      have h2738 := (n2733 579 (by decide)).trans ((hf2706.1 579 (by omega)).trans (hdn1))
                      exact Or.inr ⟨vs2697, pl2698, hv2699, dn1, by rw [hRR], by omega, by rw [hRR]; exact h2732, h2735, h2736, h2737, h2738, (((((((X_Fr.rf).tr (X_Fr.of n2580 e2581 (by omega))).tr (X_Fr.of n2584 e2585 (by omega))).tr (X_Fr.of n2588 e2589 (by omega))).tr (X_Fr.mono ⟨hF2594.1, hF2594.2⟩ (fun q hq => (by omega)))).tr (X_Fr.mono ⟨hF2603.1, hF2603.2⟩ (fun q hq => (by omega)))).tr (X_Fr.mono ⟨hf2706.1, hf2706.2⟩ (fun q hq => (by omega)))).tr (X_Fr.of n2733 e2734 (by omega))⟩
                  · skip
                    rw [hv2682]
                    rw [hf2687]
                    show X_T sc 195 (5, [(0, .ref 530), (1, .int (iI n))], [.int (iI r2681)], S2607) _
                    refine T_zif_ge xr_195_5 (t := 12) (pc' := 8) rfl rfl (fun c2739 => ?_) (fun c2739 => ?_)
                    · skip
                      have c2739 : 0 ≤ r2681 := c2739
                      refine T_p xr_195_12 xn_195 (pc' := 13) (ls' := [(0, .ref 530), (1, .int (iI n))]) (st' := [.int (iI 0)]) rfl ?_
                      refine T_iret xr_195_13 xf_195.2.2 (by decide) ?_
                      show X_T sc 193 (77, [(3, .int (iI r2618)), (2, .int (iI c)), (1, .int (iI n)), (0, .ref 530)], [.int (iI 0)], S2607) _
                      refine T_zif_nef xr_193_77 (t := 89) (pc' := 80) rfl rfl (by decide) ?_
                      refine T_p xr_193_80 xn_193 (pc' := 81) (ls' := [(3, .int (iI r2618)), (2, .int (iI c)), (1, .int (iI n)), (0, .ref 530)]) (st' := [.ref 530]) rfl ?_
                      refine T_p xr_193_81 xn_193 (pc' := 82) (ls' := [(3, .int (iI r2618)), (2, .int (iI c)), (1, .int (iI n)), (0, .ref 530)]) (st' := [.int (iI n), .ref 530]) rfl ?_
                      refine T_cv (S := S2607) (q := 530) xr_193_82 xf_194.1 xf_194.2.1 xn_194 (as := [.int (iI n)]) (r := []) rfl h2608 (Nat.le_of_ble_eq_true rfl) (Nat.le_of_ble_eq_true rfl) (pc' := 85) rfl (ls' := [(0, .ref 530), (1, .int (iI n))]) rfl ?_
                      refine T_mono (r_nextWithin sc S2607 nW nF nL nP nH dn1 (X_ou (X_ou (X_ou (X_ou o 49 nc) 68 1) 69 (-1)) 70 0) nm b rc G tn nc N n h2608 h2610 h2611 h2612 h2613 h2614 hdn1 (by omega) (by omega) hnd t0 (fun m h1 h2 => (hdn m h1 h2).2)) (fun v2740 S2741 h2742 => ?_)
                      rcases h2742 with ⟨hv2743, hp2744, hf2745⟩ | ⟨r2746, hv2747, hp2748, hp2749, hp2750, hp2751, hf2752⟩
                      · skip
                        rw [hv2743]
                        rw [hf2745]
                        show X_T sc 193 (85, [(3, .int (iI r2618)), (2, .int (iI c)), (1, .int (iI n)), (0, .ref 530)], [.int (iI (-1))], S2607) _
                        exact absurd hp2685 (hp2744 r2681 (by omega) (by omega) hp2684)
                      · skip
                        rw [hv2747]
                        rw [hf2752]
                        show X_T sc 193 (85, [(3, .int (iI r2618)), (2, .int (iI c)), (1, .int (iI n)), (0, .ref 530)], [.int (iI r2746)], S2607) _
                        obtain ⟨hrx, hwx, hxc, hx3⟩ := R_wk_d hR hnx (show 0 ≤ n ∧ n < nx by omega) hAo hdn hp2748 hp2749 hp2750 hp2751
                        have hRI : X_wi G (fun w => gD G w 6 0) (fun w => gD G w 7 0) N nc (X_wn N nc nx) 31 (nx - 1) V = ((0, n), V1) := hX2.symm.trans (X_wi_e (by omega))
                        have hXs := X_wo_s (show nx ≤ nc by omega) hRI
                        rw [hXn] at hXs
                        have hwA := X_wn_A hR (show 1 ≤ nx + 1 ∧ nx + 1 ≤ nc by omega)
                        refine T_ie (y := iI nx) (by rw [hrx]) ?_
                        refine T_p xr_193_85 xn_193 (pc' := 86) (ls' := [(1, .int (iI nx)), (3, .int (iI r2618)), (2, .int (iI c)), (0, .ref 530)]) (st' := []) rfl ?_
                        refine T_p xr_193_86 xn_193 (pc' := 51) (ls' := [(1, .int (iI nx)), (3, .int (iI r2618)), (2, .int (iI c)), (0, .ref 530)]) (st' := []) rfl ?_
                        refine T_sub (ls := [(2, .int (iI c)), (1, .int (iI nx)), (0, .ref 530)]) ⟨rfl, rfl, rfl, trivial⟩ rfl rfl ?_
                        exact ih2600 S2607 nx c (nx + 1) 0 V1 V1 vs1 pl1 hv1 dn1 hvs1 hpl1 hhv1 hdn1 (hF2603.tr (X_Fr.rf)) (by omega) (by omega) (by rw [show nx + 1 - 1 = nx by omega]; exact X_An.rf) (by have z := hwA.1; rw [show nx + 1 - 1 = nx by omega] at z; exact z) (by rw [show nx + 1 - 1 = nx by omega]; rfl) hXs.symm (X_Wr.nx hW2 (by omega) hx3) (hdn.down hR (show 0 ≤ n ∧ n < nx by omega) hxc hx3) hc (by have z := R_cn_lt (dn := dn1) (m := nc) (n := nx) (by omega) hxc (fun y => by have := ((hdn nx (by omega) hxc).1.mp y).1; omega); omega) (by omega)
                    · skip
                      have c2739 : ¬ (0 ≤ r2681) := c2739
                      refine T_p xr_195_8 xn_195 (pc' := 9) (ls' := [(0, .ref 530), (1, .int (iI n))]) (st' := [.int (iI 1)]) rfl ?_
                      refine T_p xr_195_9 xn_195 (pc' := 13) (ls' := [(0, .ref 530), (1, .int (iI n))]) (st' := [.int (iI 1)]) rfl ?_
                      refine T_iret xr_195_13 xf_195.2.2 (by decide) ?_
                      show X_T sc 193 (77, [(3, .int (iI r2618)), (2, .int (iI c)), (1, .int (iI n)), (0, .ref 530)], [.int (iI 1)], S2607) _
                      refine T_zif_net xr_193_77 (t := 89) rfl (by decide) ?_
                      exact (show False by omega).elim
          exact L2599 ((nc + nc) + 1).toNat S2596 0 0 1 0 (fun _ => 0) (fun _ => 0) vs pl hv dn1 h2604 h2605 h2606 hdn1 ((X_Fr.rf)) (by omega) (by omega) X_An.rf (by have z := (X_wn_A hR (show (1 : Int) ≤ 1 ∧ 1 ≤ nc by omega)).1; exact z) rfl (by rw [show nc + 1 - 1 = nc by omega]; rfl) (fun m h1 h2 h3 => absurd (by rw [show m = 0 by omega]; exact X_An.rf) h3) (R_dn_0 (fun m h1 h2 => hz m h1 (by omega))) (by rw [R_cn_0 (fun m h1 h2 => hz m h1 (by omega))]; rfl) (by omega) (by omega)
        · skip
          have c2598 : ¬ (nc ≤ i) := c2598
          refine T_p xr_193_34 xn_193 (pc' := 35) (ls' := [(1, .int (iI i)), (0, .ref 530)]) (st' := [.ref 530]) rfl ?_
          refine T_get xr_193_35 h2597 rfl (v := .ref 579) rfl (pc' := 38) rfl ?_
          refine T_p xr_193_38 xn_193 (pc' := 39) (ls' := [(1, .int (iI i)), (0, .ref 530)]) (st' := [.int (iI i), .ref 579]) rfl ?_
          refine T_p xr_193_39 xn_193 (pc' := 40) (ls' := [(1, .int (iI i)), (0, .ref 530)]) (st' := [.int (iI 0), .int (iI i), .ref 579]) rfl ?_
          refine T_zzast xr_193_40 hdn1 (pc' := 41) rfl (fun S2753 h2754 n2755 e2756 => ?_)
          refine T_ziinc xr_193_41 xn_193 (a := i) (z := i + 1) rfl (Nat.le_of_ble_eq_true rfl) (by omega) (ls' := [(1, .int (iI (i + 1))), (0, .ref 530)]) rfl (pc' := 44) rfl ?_
          refine T_p xr_193_44 xn_193 (pc' := 26) (ls' := [(1, .int (iI (i + 1))), (0, .ref 530)]) (st' := []) rfl ?_
          exact ih2591 S2753 (i + 1) (X_ug dn1 i (X_bo 0)) h2754 (hF2594.tr ((X_Fr.rf).tr (X_Fr.of n2755 e2756 (by omega)))) (by omega) (fun m h1 h2 => by
                by_cases hm : m = i
                · rw [hm, X_ug_s]; first | rfl | decide
                · rw [X_ug_n _ _ hm]; exact hz m h1 (by omega)) (by omega)
    exact L2590 (nc + 1).toNat S2586 0 dn h2595 ((X_Fr.rf)) (by omega) (fun m h1 h2 => absurd h2 (by omega)) (by omega)
  · skip
    have c2577 : ¬ (¬ nc = 0) := c2577
    refine T_p xr_193_7 xn_193 (pc' := 8) (ls' := [(0, .ref 530)]) (st' := [.int (iI (-1))]) rfl ?_
    refine T_iret xr_193_8 xf_193.2.2 rfl ?_
    refine hQ _ _ ?_
    exact Or.inl ⟨rfl, (by omega), rfl⟩
