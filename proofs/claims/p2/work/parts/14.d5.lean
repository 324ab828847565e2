theorem xr_31_0 : X_row 31 0 = some (0, (.aload_n 0, 1), (0, 0, 0)) := by decide +kernel
theorem xr_31_1 : X_row 31 1 = some (1, (.getfield 9, 3), (1, 2, 26)) := by decide +kernel
theorem xr_31_4 : X_row 31 4 = some (4, (.ifCond .eq 4, 3), (0, 0, 0)) := by decide +kernel
theorem xr_31_7 : X_row 31 7 = some (7, (.return_, 1), (0, 0, 0)) := by decide +kernel
theorem xr_31_8 : X_row 31 8 = some (8, (.aload_n 0, 1), (0, 0, 0)) := by decide +kernel
theorem xr_31_9 : X_row 31 9 = some (9, (.iconst 1, 1), (0, 0, 0)) := by decide +kernel
theorem xr_31_10 : X_row 31 10 = some (10, (.putfield 9, 3), (1, 2, 26)) := by decide +kernel
theorem xr_31_13 : X_row 31 13 = some (13, (.iconst 1, 1), (0, 0, 0)) := by decide +kernel
theorem xr_31_14 : X_row 31 14 = some (14, (.istore_n 1, 1), (0, 0, 0)) := by decide +kernel
theorem xr_31_15 : X_row 31 15 = some (15, (.iload_n 1, 1), (0, 0, 0)) := by decide +kernel
theorem xr_31_16 : X_row 31 16 = some (16, (.aload_n 0, 1), (0, 0, 0)) := by decide +kernel
theorem xr_31_17 : X_row 31 17 = some (17, (.getfield 36, 3), (1, 1, 24)) := by decide +kernel
theorem xr_31_20 : X_row 31 20 = some (20, (.getfield 65, 3), (6, 0, 19)) := by decide +kernel
theorem xr_31_23 : X_row 31 23 = some (23, (.if_icmp .gt 29, 3), (0, 0, 0)) := by decide +kernel
theorem xr_31_26 : X_row 31 26 = some (26, (.iload_n 1, 1), (0, 0, 0)) := by decide +kernel
theorem xr_31_27 : X_row 31 27 = some (27, (.iconst 1, 1), (0, 0, 0)) := by decide +kernel
theorem xr_31_28 : X_row 31 28 = some (28, (.isub, 1), (0, 0, 0)) := by decide +kernel
theorem xr_31_29 : X_row 31 29 = some (29, (.istore_n 2, 1), (0, 0, 0)) := by decide +kernel
theorem xr_31_30 : X_row 31 30 = some (30, (.iload_n 2, 1), (0, 0, 0)) := by decide +kernel
theorem xr_31_31 : X_row 31 31 = some (31, (.ifCond .lt 15, 3), (0, 0, 0)) := by decide +kernel
theorem xr_31_34 : X_row 31 34 = some (34, (.aload_n 0, 1), (0, 0, 0)) := by decide +kernel
theorem xr_31_35 : X_row 31 35 = some (35, (.iload_n 2, 1), (0, 0, 0)) := by decide +kernel
theorem xr_31_36 : X_row 31 36 = some (36, (.iload_n 1, 1), (0, 0, 0)) := by decide +kernel
theorem xr_31_37 : X_row 31 37 = some (37, (.invokevirtual 70, 3), (32, 0, 0)) := by decide +kernel
theorem xr_31_40 : X_row 31 40 = some (40, (.iinc 2 (-1), 3), (0, 0, 0)) := by decide +kernel
theorem xr_31_43 : X_row 31 43 = some (43, (.goto (-13), 3), (0, 0, 0)) := by decide +kernel
theorem xr_31_46 : X_row 31 46 = some (46, (.iinc 1 1, 3), (0, 0, 0)) := by decide +kernel
theorem xr_31_49 : X_row 31 49 = some (49, (.goto (-34), 3), (0, 0, 0)) := by decide +kernel
theorem xr_31_52 : X_row 31 52 = some (52, (.return_, 1), (0, 0, 0)) := by decide +kernel
theorem xr_32_0 : X_row 32 0 = some (0, (.iload_n 1, 1), (0, 0, 0)) := by decide +kernel
theorem xr_32_1 : X_row 32 1 = some (1, (.iload_n 2, 1), (0, 0, 0)) := by decide +kernel
theorem xr_32_2 : X_row 32 2 = some (2, (.invokestatic 40, 3), (24, 2, 0)) := by decide +kernel
theorem xr_32_5 : X_row 32 5 = some (5, (.istore_n 3, 1), (0, 0, 0)) := by decide +kernel
theorem xr_32_6 : X_row 32 6 = some (6, (.iconst 0, 1), (0, 0, 0)) := by decide +kernel
theorem xr_32_7 : X_row 32 7 = some (7, (.istore 4, 2), (0, 0, 0)) := by decide +kernel
theorem xr_32_9 : X_row 32 9 = some (9, (.iload 4, 2), (0, 0, 0)) := by decide +kernel
theorem xr_32_11 : X_row 32 11 = some (11, (.aload_n 0, 1), (0, 0, 0)) := by decide +kernel
theorem xr_32_12 : X_row 32 12 = some (12, (.getfield 32, 3), (1, 0, 22)) := by decide +kernel
theorem xr_32_15 : X_row 32 15 = some (15, (.getfield 62, 3), (0, 2, 15)) := by decide +kernel
theorem xr_32_18 : X_row 32 18 = some (18, (.if_icmp .ge 48, 3), (0, 0, 0)) := by decide +kernel
theorem xr_32_21 : X_row 32 21 = some (21, (.aload_n 0, 1), (0, 0, 0)) := by decide +kernel
theorem xr_32_22 : X_row 32 22 = some (22, (.iload 4, 2), (0, 0, 0)) := by decide +kernel
theorem xr_32_24 : X_row 32 24 = some (24, (.iconst 0, 1), (0, 0, 0)) := by decide +kernel
theorem xr_32_25 : X_row 32 25 = some (25, (.iload_n 1, 1), (0, 0, 0)) := by decide +kernel
theorem xr_32_26 : X_row 32 26 = some (26, (.iload_n 2, 1), (0, 0, 0)) := by decide +kernel
theorem xr_32_27 : X_row 32 27 = some (27, (.invokevirtual 74, 3), (37, 4, 0)) := by decide +kernel
theorem xr_32_30 : X_row 32 30 = some (30, (.lstore 5, 2), (0, 0, 0)) := by decide +kernel
theorem xr_32_32 : X_row 32 32 = some (32, (.aload_n 0, 1), (0, 0, 0)) := by decide +kernel
theorem xr_32_33 : X_row 32 33 = some (33, (.getfield 29, 3), (1, 7, 36)) := by decide +kernel
theorem xr_32_36 : X_row 32 36 = some (36, (.iload 4, 2), (0, 0, 0)) := by decide +kernel
theorem xr_32_38 : X_row 32 38 = some (38, (.iconst 0, 1), (0, 0, 0)) := by decide +kernel
theorem xr_32_39 : X_row 32 39 = some (39, (.iload_n 1, 1), (0, 0, 0)) := by decide +kernel
theorem xr_32_40 : X_row 32 40 = some (40, (.invokestatic 78, 3), (25, 10, 0)) := by decide +kernel
theorem xr_32_43 : X_row 32 43 = some (43, (.lload 5, 2), (0, 0, 0)) := by decide +kernel
theorem xr_32_45 : X_row 32 45 = some (45, (.lastore, 1), (0, 0, 0)) := by decide +kernel
theorem xr_32_46 : X_row 32 46 = some (46, (.aload_n 0, 1), (0, 0, 0)) := by decide +kernel
theorem xr_32_47 : X_row 32 47 = some (47, (.getfield 19, 3), (1, 4, 30)) := by decide +kernel
theorem xr_32_50 : X_row 32 50 = some (50, (.iload_n 3, 1), (0, 0, 0)) := by decide +kernel
theorem xr_32_51 : X_row 32 51 = some (51, (.bipush 30, 2), (0, 0, 0)) := by decide +kernel
theorem xr_32_53 : X_row 32 53 = some (53, (.imul, 1), (0, 0, 0)) := by decide +kernel
theorem xr_32_54 : X_row 32 54 = some (54, (.iload 4, 2), (0, 0, 0)) := by decide +kernel
theorem xr_32_56 : X_row 32 56 = some (56, (.iadd, 1), (0, 0, 0)) := by decide +kernel
theorem xr_32_57 : X_row 32 57 = some (57, (.lload 5, 2), (0, 0, 0)) := by decide +kernel
theorem xr_32_59 : X_row 32 59 = some (59, (.lastore, 1), (0, 0, 0)) := by decide +kernel
theorem xr_32_60 : X_row 32 60 = some (60, (.iinc 4 1, 3), (0, 0, 0)) := by decide +kernel
theorem xr_32_63 : X_row 32 63 = some (63, (.goto (-54), 3), (0, 0, 0)) := by decide +kernel
theorem xr_32_66 : X_row 32 66 = some (66, (.aload_n 0, 1), (0, 0, 0)) := by decide +kernel
theorem xr_32_67 : X_row 32 67 = some (67, (.iload_n 1, 1), (0, 0, 0)) := by decide +kernel
theorem xr_32_68 : X_row 32 68 = some (68, (.iload_n 2, 1), (0, 0, 0)) := by decide +kernel
theorem xr_32_69 : X_row 32 69 = some (69, (.invokevirtual 82, 3), (33, 18, 0)) := by decide +kernel
theorem xr_32_72 : X_row 32 72 = some (72, (.aload_n 0, 1), (0, 0, 0)) := by decide +kernel
theorem xr_32_73 : X_row 32 73 = some (73, (.getfield 22, 3), (1, 5, 32)) := by decide +kernel
theorem xr_32_76 : X_row 32 76 = some (76, (.iload_n 3, 1), (0, 0, 0)) := by decide +kernel
theorem xr_32_77 : X_row 32 77 = some (77, (.aload_n 0, 1), (0, 0, 0)) := by decide +kernel
theorem xr_32_78 : X_row 32 78 = some (78, (.iload_n 3, 1), (0, 0, 0)) := by decide +kernel
theorem xr_32_79 : X_row 32 79 = some (79, (.iconst (-1), 1), (0, 0, 0)) := by decide +kernel
theorem xr_32_80 : X_row 32 80 = some (80, (.invokevirtual 44, 3), (29, 26, 0)) := by decide +kernel
theorem xr_32_83 : X_row 32 83 = some (83, (.aload_n 0, 1), (0, 0, 0)) := by decide +kernel
theorem xr_32_84 : X_row 32 84 = some (84, (.iload_n 3, 1), (0, 0, 0)) := by decide +kernel
theorem xr_32_85 : X_row 32 85 = some (85, (.iconst (-1), 1), (0, 0, 0)) := by decide +kernel
theorem xr_32_86 : X_row 32 86 = some (86, (.invokevirtual 85, 3), (30, 32, 0)) := by decide +kernel
theorem xr_32_89 : X_row 32 89 = some (89, (.invokestatic 58, 3), (134, 17, 0)) := by decide +kernel
theorem xr_32_92 : X_row 32 92 = some (92, (.lastore, 1), (0, 0, 0)) := by decide +kernel
theorem xr_32_93 : X_row 32 93 = some (93, (.iconst 0, 1), (0, 0, 0)) := by decide +kernel
theorem xr_32_94 : X_row 32 94 = some (94, (.istore 4, 2), (0, 0, 0)) := by decide +kernel
theorem xr_32_96 : X_row 32 96 = some (96, (.iload 4, 2), (0, 0, 0)) := by decide +kernel
theorem xr_32_98 : X_row 32 98 = some (98, (.aload_n 0, 1), (0, 0, 0)) := by decide +kernel
theorem xr_32_99 : X_row 32 99 = some (99, (.getfield 32, 3), (1, 0, 22)) := by decide +kernel
theorem xr_32_102 : X_row 32 102 = some (102, (.getfield 62, 3), (0, 2, 15)) := by decide +kernel
theorem xr_32_105 : X_row 32 105 = some (105, (.if_icmp .ge 24, 3), (0, 0, 0)) := by decide +kernel
theorem xr_32_108 : X_row 32 108 = some (108, (.aload_n 0, 1), (0, 0, 0)) := by decide +kernel
theorem xr_32_109 : X_row 32 109 = some (109, (.iload_n 3, 1), (0, 0, 0)) := by decide +kernel
theorem xr_32_110 : X_row 32 110 = some (110, (.iload 4, 2), (0, 0, 0)) := by decide +kernel
theorem xr_32_112 : X_row 32 112 = some (112, (.invokevirtual 88, 3), (34, 34, 0)) := by decide +kernel
theorem xr_32_115 : X_row 32 115 = some (115, (.aload_n 0, 1), (0, 0, 0)) := by decide +kernel
theorem xr_32_116 : X_row 32 116 = some (116, (.iload 4, 2), (0, 0, 0)) := by decide +kernel
theorem xr_32_118 : X_row 32 118 = some (118, (.iload_n 1, 1), (0, 0, 0)) := by decide +kernel
theorem xr_32_119 : X_row 32 119 = some (119, (.iload_n 2, 1), (0, 0, 0)) := by decide +kernel
theorem xr_32_120 : X_row 32 120 = some (120, (.invokevirtual 91, 3), (35, 36, 0)) := by decide +kernel
theorem xr_32_123 : X_row 32 123 = some (123, (.iinc 4 1, 3), (0, 0, 0)) := by decide +kernel
theorem xr_32_126 : X_row 32 126 = some (126, (.goto (-30), 3), (0, 0, 0)) := by decide +kernel
theorem xr_32_129 : X_row 32 129 = some (129, (.return_, 1), (0, 0, 0)) := by decide +kernel
theorem xn_31 : X_nL 31 = 3 := by decide +kernel
theorem xf_31 : X_na 31 = 0 ∧ X_ci 31 = 1 ∧ X_rt 31 = none := by decide +kernel
theorem xn_32 : X_nL 32 = 7 := by decide +kernel
theorem xf_32 : X_na 32 = 2 ∧ X_ci 32 = 1 ∧ X_rt 32 = none := by decide +kernel
set_option maxHeartbeats 1600000 in
theorem c_fillStretch (sc : X_Sc) (S : X_S) (oK : Int → Int64) (oW : Int → Int64) (oA : Int → Int64) (oH : Int → Int64) (tl : Int → Int64) (B : Nat) (rc : Int) (rn : Int → Int64) (kn : Int → Int64) (G : X_G) (tn : Int) (fl : Int) (i : Int) (j : Int) (hO501 : S.1 501 = .inr (6, [.int (iI tn), .ref 502, .ref 503])) (hO511 : S.1 511 = .inr (1, [.ref B, .ref 501, .int (iI fl), .ref 512, .ref 513, .ref 514, .ref 515, .ref 516])) (hA512 : S.1 512 = .inl (.long, 5115, .inr (.inl fun k : Nat => oK (k : Int)))) (hA513 : S.1 513 = .inl (.long, 13950, .inr (.inl fun k : Nat => oW (k : Int)))) (hA514 : S.1 514 = .inl (.long, 465, .inr (.inl fun k : Nat => oA (k : Int)))) (hA515 : S.1 515 = .inl (.long, 55800, .inr (.inl fun k : Nat => oH (k : Int)))) (hA516 : S.1 516 = .inl (.long, 7200, .inr (.inl fun k : Nat => tl (k : Int)))) (hB : B = 4 ∨ B = 250) (hb : C_bk S B rc (gk G) (gw G) rn (gl G) kn (ga G)) (hs : C_ws S B (gD G) (gW G)) (hG : X_Gok G) (hA502 : S.1 502 = .inl (.long, 30, .inr (.inl fun k : Nat => (gt G) (k : Int)))) (hij : 0 ≤ i ∧ i < j ∧ j ≤ tn ∧ tn ≤ 30) (hC : ∀ i2 j2, 0 ≤ i2 → i2 < j2 → j2 ≤ j → (j2 = j → i < i2) → X_rw G (-2) i2 j2 oK oW oA oH) (ht : ∀ w, 0 ≤ w → w < gw G → ∀ q, i < q → q < j → X_tl G (-2) w q j tl) : X_T sc 32 (0, [(0, .ref 511), (1, .int (iI i)), (2, .int (iI j))], [], S) (fun v S' => ∃ (oK1 : Int → Int64) (oW1 : Int → Int64) (oA1 : Int → Int64) (oH1 : Int → Int64) (tl1 : Int → Int64), v = none ∧ X_rw G (-2) i j oK1 oW1 oA1 oH1 ∧ (∀ w, 0 ≤ w → w < gw G → ∀ q, i ≤ q → q < j → X_tl G (-2) w q j tl1) ∧ (∀ q, ¬ (X_ro i j * 11 ≤ q ∧ q < X_ro i j * 11 + 11) → oK1 q = oK q) ∧ (∀ q, ¬ (X_ro i j * 30 ≤ q ∧ q < X_ro i j * 30 + 30) → oW1 q = oW q) ∧ (∀ q, ¬ q = X_ro i j → oA1 q = oA q) ∧ (∀ q, ¬ (X_ro i j * 120 ≤ q ∧ q < X_ro i j * 120 + 120) → oH1 q = oH q) ∧ S'.1 512 = .inl (.long, 5115, .inr (.inl fun k : Nat => oK1 (k : Int))) ∧ S'.1 513 = .inl (.long, 13950, .inr (.inl fun k : Nat => oW1 (k : Int))) ∧ S'.1 514 = .inl (.long, 465, .inr (.inl fun k : Nat => oA1 (k : Int))) ∧ S'.1 515 = .inl (.long, 55800, .inr (.inl fun k : Nat => oH1 (k : Int))) ∧ S'.1 516 = .inl (.long, 7200, .inr (.inl fun k : Nat => tl1 (k : Int))) ∧ (X_Fr (fun q => q = 512 ∨ q = 513 ∨ q = 514 ∨ q = 515 ∨ q = 516) S S')) := by
  obtain ⟨hb0, hb1, hb2, hb3, hb4, ⟨f, hb5, hf⟩, ⟨hrc, hrcb⟩, ⟨hkc, hkcb⟩, ⟨hwc, hwcb⟩⟩ := id hb
  have hro := X_ro_r hij.1 hij.2.1 (show j ≤ 30 by omega)
  refine X_QI (fun Q hQ => ?_)
  refine T_p xr_32_0 xn_32 (pc' := 1) (ls' := [(0, .ref 511), (1, .int (iI i)), (2, .int (iI j))]) (st' := [.int (iI i)]) rfl ?_
  refine T_p xr_32_1 xn_32 (pc' := 2) (ls' := [(0, .ref 511), (1, .int (iI i)), (2, .int (iI j))]) (st' := [.int (iI j), .int (iI i)]) rfl ?_
  refine T_cs xr_32_2 (by decide) xf_24.1 xn_24 (as := [.int (iI i), .int (iI j)]) (r := []) rfl (Nat.le_of_ble_eq_true rfl) (Nat.le_of_ble_eq_true rfl) (pc' := 5) rfl (ls' := [(0, .int (iI i)), (1, .int (iI j))]) rfl ?_
  refine T_mono (c_rowOf sc S i j (by omega)) (fun v889 S890 h891 => ?_)
  rcases h891 with ⟨hv892, hf893⟩
  rw [hv892]
  rw [hf893]
  have hr894 := X_ro_r (i := i) (j := j) (by omega) (by omega) (by omega)
  show X_T sc 32 (5, [(0, .ref 511), (1, .int (iI i)), (2, .int (iI j))], [.int (iI (X_ro i j))], S) _
  refine T_p xr_32_5 xn_32 (pc' := 6) (ls' := [(3, .int (iI (X_ro i j))), (0, .ref 511), (1, .int (iI i)), (2, .int (iI j))]) (st' := []) rfl ?_
  refine T_p xr_32_6 xn_32 (pc' := 7) (ls' := [(3, .int (iI (X_ro i j))), (0, .ref 511), (1, .int (iI i)), (2, .int (iI j))]) (st' := [.int (iI 0)]) rfl ?_
  refine T_p xr_32_7 xn_32 (pc' := 9) (ls' := [(4, .int (iI 0)), (3, .int (iI (X_ro i j))), (0, .ref 511), (1, .int (iI i)), (2, .int (iI j))]) (st' := []) rfl ?_
  have L895 : ∀ (m897 : Nat) (S900 : X_S) (w : Int) (tl1 : Int → Int64) (oW1 : Int → Int64) (htl1 : S900.1 516 = .inl (.long, 7200, .inr (.inl fun k : Nat => tl1 (k : Int)))) (hoW1 : S900.1 513 = .inl (.long, 13950, .inr (.inl fun k : Nat => oW1 (k : Int)))) (hF899 : X_Fr (fun q => q = 516 ∨ q = 513) S S900) (hw : 0 ≤ w ∧ w ≤ gw G) (hT1 : ∀ w, 0 ≤ w → w < gw G → ∀ q, i < q → q < j → X_tl G (-2) w q j tl1) (hW1 : ∀ v, 0 ≤ v → v < w → oW1 (X_ro i j * 30 + v) = X_st (-2) ((X_T_ G).1 v i j)) (hOW : ∀ q, ¬ (X_ro i j * 30 ≤ q ∧ q < X_ro i j * 30 + 30) → oW1 q = oW q) (hm898 : gw G - w < m897), X_T sc 32 (9, [(4, .int (iI w)), (3, .int (iI (X_ro i j))), (0, .ref 511), (1, .int (iI i)), (2, .int (iI j))], [], S900) Q := by
    intro m897
    induction m897 with
    | zero =>
      intro S900 w tl1 oW1 htl1 hoW1 hF899 hw hT1 hW1 hOW hm898
      exact (show False by omega).elim
    | succ m897 ih896 =>
      intro S900 w tl1 oW1 htl1 hoW1 hF899 hw hT1 hW1 hOW hm898
      refine T_p xr_32_9 xn_32 (pc' := 11) (ls' := [(4, .int (iI w)), (3, .int (iI (X_ro i j))), (0, .ref 511), (1, .int (iI i)), (2, .int (iI j))]) (st' := [.int (iI w)]) rfl ?_
      refine T_p xr_32_11 xn_32 (pc' := 12) (ls' := [(4, .int (iI w)), (3, .int (iI (X_ro i j))), (0, .ref 511), (1, .int (iI i)), (2, .int (iI j))]) (st' := [.ref 511, .int (iI w)]) rfl ?_
      have h901 := (hF899.1 511 (by omega)).trans (hO511)
      refine T_get xr_32_12 h901 rfl (v := .ref B) rfl (pc' := 15) rfl ?_
      have h902 := (hF899.1 B (by omega)).trans (hb0)
      refine T_get xr_32_15 h902 rfl (v := .int (iI (gw G))) rfl (pc' := 18) rfl ?_
      refine T_zicmp_ge xr_32_18 (t := 66) (pc' := 21) rfl rfl (fun c903 => ?_) (fun c903 => ?_)
      · skip
        have c903 : (gw G) ≤ w := c903
        refine T_p xr_32_66 xn_32 (pc' := 67) (ls' := [(4, .int (iI w)), (3, .int (iI (X_ro i j))), (0, .ref 511), (1, .int (iI i)), (2, .int (iI j))]) (st' := [.ref 511]) rfl ?_
        refine T_p xr_32_67 xn_32 (pc' := 68) (ls' := [(4, .int (iI w)), (3, .int (iI (X_ro i j))), (0, .ref 511), (1, .int (iI i)), (2, .int (iI j))]) (st' := [.int (iI i), .ref 511]) rfl ?_
        refine T_p xr_32_68 xn_32 (pc' := 69) (ls' := [(4, .int (iI w)), (3, .int (iI (X_ro i j))), (0, .ref 511), (1, .int (iI i)), (2, .int (iI j))]) (st' := [.int (iI j), .int (iI i), .ref 511]) rfl ?_
        refine T_cv (S := S900) (q := 511) xr_32_69 xf_33.1 xf_33.2.1 xn_33 (as := [.int (iI i), .int (iI j)]) (r := []) rfl h901 (Nat.le_of_ble_eq_true rfl) (Nat.le_of_ble_eq_true rfl) (pc' := 72) rfl (ls' := [(0, .ref 511), (1, .int (iI i)), (2, .int (iI j))]) rfl ?_
        have h904 := (hF899.1 512 (by omega)).trans (hA512)
        have h905 := (hF899.1 501 (by omega)).trans (hO501)
        have h906 := (hF899.1 (B + 1) (by omega)).trans (hb1)
        have h907 := (hF899.1 (B + 2) (by omega)).trans (hb2)
        have h908 := (hF899.1 (B + 3) (by omega)).trans (hb3)
        have h909 := (hF899.1 (B + 4) (by omega)).trans (hb4)
        have h910 := (hF899.1 (B + 5) (by omega)).trans (hb5)
        have hs911 : C_ws S900 B (gD G) (gW G) := C_ws.fr (P := fun q => 501 ≤ q ∧ q ≤ 529) hs ((X_Fr.rf).tr (X_Fr.mono ⟨hF899.1, hF899.2⟩ (fun q hq => (by omega)))) (fun k h1 h2 => by omega)
        have h912 := (hF899.1 502 (by omega)).trans (hA502)
        refine T_mono (c_fillKinds sc S900 oK oW1 B rc rn kn G tn fl i j h905 h901 h904 hoW1 hB ⟨h902, h906, h907, h908, h909, ⟨f, h910, hf⟩, ⟨by omega, by omega⟩, ⟨by omega, by omega⟩, ⟨by omega, by omega⟩⟩ hs911 hG h912 (by omega) (fun hb => by
                have hb1 := hb.1
                have hc := hC (i + 1) (j - 1) (by omega) (by omega) (by omega) (fun e => absurd e (by omega))
                have hne := X_ro_ne (i := i + 1) (j := j - 1) (i' := i) (j' := j) (by omega) (by omega) (by omega)
                have c1 := hG.1
                exact ⟨hc.1, fun v h1 h2 => (hOW _ (by omega)).trans (hc.2.1 v h1 h2)⟩)) (fun v913 S914 h915 => ?_)
        rcases h915 with ⟨oK916, hv917, hp918, hp919, ha920, hf921⟩
        rw [hv917]
        show X_T sc 32 (72, [(4, .int (iI w)), (3, .int (iI (X_ro i j))), (0, .ref 511), (1, .int (iI i)), (2, .int (iI j))], [], S914) _
        refine T_p xr_32_72 xn_32 (pc' := 73) (ls' := [(4, .int (iI w)), (3, .int (iI (X_ro i j))), (0, .ref 511), (1, .int (iI i)), (2, .int (iI j))]) (st' := [.ref 511]) rfl ?_
        have h922 := (hf921.1 511 (by omega)).trans (h901)
        refine T_get xr_32_73 h922 rfl (v := .ref 514) rfl (pc' := 76) rfl ?_
        refine T_p xr_32_76 xn_32 (pc' := 77) (ls' := [(4, .int (iI w)), (3, .int (iI (X_ro i j))), (0, .ref 511), (1, .int (iI i)), (2, .int (iI j))]) (st' := [.int (iI (X_ro i j)), .ref 514]) rfl ?_
        refine T_p xr_32_77 xn_32 (pc' := 78) (ls' := [(4, .int (iI w)), (3, .int (iI (X_ro i j))), (0, .ref 511), (1, .int (iI i)), (2, .int (iI j))]) (st' := [.ref 511, .int (iI (X_ro i j)), .ref 514]) rfl ?_
        refine T_p xr_32_78 xn_32 (pc' := 79) (ls' := [(4, .int (iI w)), (3, .int (iI (X_ro i j))), (0, .ref 511), (1, .int (iI i)), (2, .int (iI j))]) (st' := [.int (iI (X_ro i j)), .ref 511, .int (iI (X_ro i j)), .ref 514]) rfl ?_
        refine T_p xr_32_79 xn_32 (pc' := 80) (ls' := [(4, .int (iI w)), (3, .int (iI (X_ro i j))), (0, .ref 511), (1, .int (iI i)), (2, .int (iI j))]) (st' := [.int (iI (-1)), .int (iI (X_ro i j)), .ref 511, .int (iI (X_ro i j)), .ref 514]) rfl ?_
        refine T_cv (S := S914) (q := 511) xr_32_80 xf_29.1 xf_29.2.1 xn_29 (as := [.int (iI (X_ro i j)), .int (iI (-1))]) (r := [.int (iI (X_ro i j)), .ref 514]) rfl h922 (Nat.le_of_ble_eq_true rfl) (Nat.le_of_ble_eq_true rfl) (pc' := 83) rfl (ls' := [(0, .ref 511), (1, .int (iI (X_ro i j))), (2, .int (iI (-1)))]) rfl ?_
        have h923 := (hf921.1 B (by omega)).trans (h902)
        have h924 := (hf921.1 (B + 1) (by omega)).trans (h906)
        have h925 := (hf921.1 (B + 2) (by omega)).trans (h907)
        have h926 := (hf921.1 (B + 3) (by omega)).trans (h908)
        have h927 := (hf921.1 (B + 4) (by omega)).trans (h909)
        have h928 := (hf921.1 (B + 5) (by omega)).trans (h910)
        have hs929 : C_ws S914 B (gD G) (gW G) := C_ws.fr (P := fun q => 501 ≤ q ∧ q ≤ 529) hs911 ((X_Fr.rf).tr (X_Fr.mono ⟨hf921.1, hf921.2⟩ (fun q hq => (by omega)))) (fun k h1 h2 => by omega)
        refine T_mono (c_sumK sc S914 oK916 B rc rn kn G tn fl (X_ro i j) (-1) (fun z => X_nm G z i j + (X_T_ G).2 z i j) h922 ha920 hB ⟨h923, h924, h925, h926, h927, ⟨f, h928, hf⟩, ⟨by omega, by omega⟩, ⟨by omega, by omega⟩, ⟨by omega, by omega⟩⟩ hs929 hG (by omega) hp918) (fun v930 S931 h932 => ?_)
        rcases h932 with ⟨hv933, hf934⟩
        rw [hv933]
        rw [hf934]
        show X_T sc 32 (83, [(4, .int (iI w)), (3, .int (iI (X_ro i j))), (0, .ref 511), (1, .int (iI i)), (2, .int (iI j))], [.long (X_st (-2) (X_Su (fun k => X_if (X_bt (-1) k) ((fun z => X_nm G z i j + (X_T_ G).2 z i j) k)) 0 (gk G))), .int (iI (X_ro i j)), .ref 514], S914) _
        refine T_p xr_32_83 xn_32 (pc' := 84) (ls' := [(4, .int (iI w)), (3, .int (iI (X_ro i j))), (0, .ref 511), (1, .int (iI i)), (2, .int (iI j))]) (st' := [.ref 511, .long (X_st (-2) (X_Su (fun k => X_if (X_bt (-1) k) ((fun z => X_nm G z i j + (X_T_ G).2 z i j) k)) 0 (gk G))), .int (iI (X_ro i j)), .ref 514]) rfl ?_
        refine T_p xr_32_84 xn_32 (pc' := 85) (ls' := [(4, .int (iI w)), (3, .int (iI (X_ro i j))), (0, .ref 511), (1, .int (iI i)), (2, .int (iI j))]) (st' := [.int (iI (X_ro i j)), .ref 511, .long (X_st (-2) (X_Su (fun k => X_if (X_bt (-1) k) ((fun z => X_nm G z i j + (X_T_ G).2 z i j) k)) 0 (gk G))), .int (iI (X_ro i j)), .ref 514]) rfl ?_
        refine T_p xr_32_85 xn_32 (pc' := 86) (ls' := [(4, .int (iI w)), (3, .int (iI (X_ro i j))), (0, .ref 511), (1, .int (iI i)), (2, .int (iI j))]) (st' := [.int (iI (-1)), .int (iI (X_ro i j)), .ref 511, .long (X_st (-2) (X_Su (fun k => X_if (X_bt (-1) k) ((fun z => X_nm G z i j + (X_T_ G).2 z i j) k)) 0 (gk G))), .int (iI (X_ro i j)), .ref 514]) rfl ?_
        refine T_cv (S := S914) (q := 511) xr_32_86 xf_30.1 xf_30.2.1 xn_30 (as := [.int (iI (X_ro i j)), .int (iI (-1))]) (r := [.long (X_st (-2) (X_Su (fun k => X_if (X_bt (-1) k) ((fun z => X_nm G z i j + (X_T_ G).2 z i j) k)) 0 (gk G))), .int (iI (X_ro i j)), .ref 514]) rfl h922 (Nat.le_of_ble_eq_true rfl) (Nat.le_of_ble_eq_true rfl) (pc' := 89) rfl (ls' := [(0, .ref 511), (1, .int (iI (X_ro i j))), (2, .int (iI (-1)))]) rfl ?_
        have h935 := (hf921.1 513 (by omega)).trans (hoW1)
        refine T_mono (c_sumW sc S914 oW1 B rc rn kn G tn fl (X_ro i j) (-1) (fun v => (X_T_ G).1 v i j) h922 h935 hB ⟨h923, h924, h925, h926, h927, ⟨f, h928, hf⟩, ⟨by omega, by omega⟩, ⟨by omega, by omega⟩, ⟨by omega, by omega⟩⟩ hs929 hG (by omega) (fun v h1 h2 => hW1 v h1 (by omega))) (fun v936 S937 h938 => ?_)
        rcases h938 with ⟨hv939, hf940⟩
        rw [hv939]
        rw [hf940]
        show X_T sc 32 (89, [(4, .int (iI w)), (3, .int (iI (X_ro i j))), (0, .ref 511), (1, .int (iI i)), (2, .int (iI j))], [.long (X_st (-2) (X_Su (fun k => X_if (X_bt (-1) k) ((fun v => (X_T_ G).1 v i j) k)) 0 (gw G))), .long (X_st (-2) (X_Su (fun k => X_if (X_bt (-1) k) ((fun z => X_nm G z i j + (X_T_ G).2 z i j) k)) 0 (gk G))), .int (iI (X_ro i j)), .ref 514], S914) _
        refine T_cs xr_32_89 (by decide) xf_134.1 xn_134 (as := [.long (X_st (-2) (X_Su (fun k => X_if (X_bt (-1) k) ((fun z => X_nm G z i j + (X_T_ G).2 z i j) k)) 0 (gk G))), .long (X_st (-2) (X_Su (fun k => X_if (X_bt (-1) k) ((fun v => (X_T_ G).1 v i j) k)) 0 (gw G)))]) (r := [.int (iI (X_ro i j)), .ref 514]) rfl (Nat.le_of_ble_eq_true rfl) (Nat.le_of_ble_eq_true rfl) (pc' := 92) rfl (ls' := [(0, .long (X_st (-2) (X_Su (fun k => X_if (X_bt (-1) k) ((fun z => X_nm G z i j + (X_T_ G).2 z i j) k)) 0 (gk G)))), (2, .long (X_st (-2) (X_Su (fun k => X_if (X_bt (-1) k) ((fun v => (X_T_ G).1 v i j) k)) 0 (gw G))))]) rfl ?_
        refine T_mono (c_plus sc S914 (X_Su (fun k => X_if (X_bt (-1) k) ((fun z => X_nm G z i j + (X_T_ G).2 z i j) k)) 0 (gk G)) (X_Su (fun k => X_if (X_bt (-1) k) ((fun v => (X_T_ G).1 v i j) k)) 0 (gw G))) (fun v941 S942 h943 => ?_)
        rcases h943 with ⟨hv944, hf945⟩
        rw [hv944]
        rw [hf945]
        show X_T sc 32 (92, [(4, .int (iI w)), (3, .int (iI (X_ro i j))), (0, .ref 511), (1, .int (iI i)), (2, .int (iI j))], [.long (X_st (-2) ((X_Su (fun k => X_if (X_bt (-1) k) ((fun z => X_nm G z i j + (X_T_ G).2 z i j) k)) 0 (gk G)) + (X_Su (fun k => X_if (X_bt (-1) k) ((fun v => (X_T_ G).1 v i j) k)) 0 (gw G)))), .int (iI (X_ro i j)), .ref 514], S914) _
        refine T_le (y := (X_st (-2) (X_all G i j))) (by rw [← X_all_m hG]) ?_
        have h946 := (hf921.1 514 (by omega)).trans ((hF899.1 514 (by omega)).trans (hA514))
        refine T_zlast xr_32_92 h946 (pc' := 93) rfl (fun S947 h948 n949 e950 => ?_)
        refine T_p xr_32_93 xn_32 (pc' := 94) (ls' := [(4, .int (iI w)), (3, .int (iI (X_ro i j))), (0, .ref 511), (1, .int (iI i)), (2, .int (iI j))]) (st' := [.int (iI 0)]) rfl ?_
        refine T_p xr_32_94 xn_32 (pc' := 96) (ls' := [(4, .int (iI 0)), (3, .int (iI (X_ro i j))), (0, .ref 511), (1, .int (iI i)), (2, .int (iI j))]) (st' := []) rfl ?_
        have h956 := (n949 515 (by decide)).trans ((hf921.1 515 (by omega)).trans ((hF899.1 515 (by omega)).trans (hA515)))
        have h957 := (n949 516 (by decide)).trans ((hf921.1 516 (by omega)).trans (htl1))
        have L951 : ∀ (m953 : Nat) (S958 : X_S) (w2 : Int) (oH1 : Int → Int64) (tl2 : Int → Int64) (hoH1 : S958.1 515 = .inl (.long, 55800, .inr (.inl fun k : Nat => oH1 (k : Int)))) (htl2 : S958.1 516 = .inl (.long, 7200, .inr (.inl fun k : Nat => tl2 (k : Int)))) (hF955 : X_Fr (fun q => q = 515 ∨ q = 516) S947 S958) (hw2 : 0 ≤ w2 ∧ w2 ≤ gw G) (hH1 : ∀ w, 0 ≤ w → w < w2 → ∀ e, 0 ≤ e → e < gD G w 3 0 → gW G w e = 0 → oH1 ((X_ro i j * 30 + w) * 4 + gD G w 8 e) = X_st (-2) (X_Hw G (X_T_ G) w e i j)) (hOH : ∀ q, ¬ (X_ro i j * 120 ≤ q ∧ q < X_ro i j * 120 + 120) → oH1 q = oH q) (hT2 : ∀ w, 0 ≤ w → w < gw G → ∀ q, i < q → q < j → X_tl G (-2) w q j tl2) (hT3 : ∀ w, 0 ≤ w → w < w2 → X_tl G (-2) w i j tl2) (hm954 : gw G - w2 < m953), X_T sc 32 (96, [(4, .int (iI w2)), (3, .int (iI (X_ro i j))), (0, .ref 511), (1, .int (iI i)), (2, .int (iI j))], [], S958) Q := by
          intro m953
          induction m953 with
          | zero =>
            intro S958 w2 oH1 tl2 hoH1 htl2 hF955 hw2 hH1 hOH hT2 hT3 hm954
            exact (show False by omega).elim
          | succ m953 ih952 =>
            intro S958 w2 oH1 tl2 hoH1 htl2 hF955 hw2 hH1 hOH hT2 hT3 hm954
            refine T_p xr_32_96 xn_32 (pc' := 98) (ls' := [(4, .int (iI w2)), (3, .int (iI (X_ro i j))), (0, .ref 511), (1, .int (iI i)), (2, .int (iI j))]) (st' := [.int (iI w2)]) rfl ?_
            refine T_p xr_32_98 xn_32 (pc' := 99) (ls' := [(4, .int (iI w2)), (3, .int (iI (X_ro i j))), (0, .ref 511), (1, .int (iI i)), (2, .int (iI j))]) (st' := [.ref 511, .int (iI w2)]) rfl ?_
            have h959 := (hF955.1 511 (by omega)).trans ((n949 511 (by decide)).trans (h922))
            refine T_get xr_32_99 h959 rfl (v := .ref B) rfl (pc' := 102) rfl ?_
            have h960 := (hF955.1 B (by omega)).trans ((n949 B (by omega)).trans (h923))
            refine T_get xr_32_102 h960 rfl (v := .int (iI (gw G))) rfl (pc' := 105) rfl ?_
            refine T_zicmp_ge xr_32_105 (t := 129) (pc' := 108) rfl rfl (fun c961 => ?_) (fun c961 => ?_)
            · skip
              have c961 : (gw G) ≤ w2 := c961
              refine T_vret xr_32_129 xf_32.2.2 ?_
              refine hQ _ _ ?_
              have h962 := (hF955.1 512 (by omega)).trans ((n949 512 (by decide)).trans (ha920))
              have h963 := (hF955.1 513 (by omega)).trans ((n949 513 (by decide)).trans (h935))
              have h964 := (hF955.1 514 (by omega)).trans (h948)
              exact ⟨oK916, oW1, (X_ug oA (X_ro i j) (X_st (-2) (X_all G i j))), oH1, tl2, rfl, ⟨hp918, fun v h1 h2 => hW1 v h1 (by omega), X_ug_s _ _ _, fun v h1 h2 => hH1 v h1 (by omega)⟩, (fun v h1 h2 q h3 h4 => by
                    by_cases hq : q = i
                    · subst hq; exact hT3 v h1 (by omega)
                    · exact hT2 v h1 h2 q (by omega) h4), hp919, hOW, (fun q hq => X_ug_n _ _ hq), hOH, h962, h963, h964, hoH1, htl2, ((((X_Fr.rf).tr (X_Fr.mono ⟨hF899.1, hF899.2⟩ (fun q hq => (by omega)))).tr (X_Fr.mono ⟨hf921.1, hf921.2⟩ (fun q hq => (by omega)))).tr (X_Fr.of n949 e950 (by omega))).tr (X_Fr.mono ⟨hF955.1, hF955.2⟩ (fun q hq => (by omega)))⟩
            · skip
              have c961 : ¬ ((gw G) ≤ w2) := c961
              refine T_p xr_32_108 xn_32 (pc' := 109) (ls' := [(4, .int (iI w2)), (3, .int (iI (X_ro i j))), (0, .ref 511), (1, .int (iI i)), (2, .int (iI j))]) (st' := [.ref 511]) rfl ?_
              refine T_p xr_32_109 xn_32 (pc' := 110) (ls' := [(4, .int (iI w2)), (3, .int (iI (X_ro i j))), (0, .ref 511), (1, .int (iI i)), (2, .int (iI j))]) (st' := [.int (iI (X_ro i j)), .ref 511]) rfl ?_
              refine T_p xr_32_110 xn_32 (pc' := 112) (ls' := [(4, .int (iI w2)), (3, .int (iI (X_ro i j))), (0, .ref 511), (1, .int (iI i)), (2, .int (iI j))]) (st' := [.int (iI w2), .int (iI (X_ro i j)), .ref 511]) rfl ?_
              refine T_cv (S := S958) (q := 511) xr_32_112 xf_34.1 xf_34.2.1 xn_34 (as := [.int (iI (X_ro i j)), .int (iI w2)]) (r := []) rfl h959 (Nat.le_of_ble_eq_true rfl) (Nat.le_of_ble_eq_true rfl) (pc' := 115) rfl (ls' := [(0, .ref 511), (1, .int (iI (X_ro i j))), (2, .int (iI w2))]) rfl ?_
              have h965 := (hF955.1 512 (by omega)).trans ((n949 512 (by decide)).trans (ha920))
              have h966 := (hF955.1 513 (by omega)).trans ((n949 513 (by decide)).trans (h935))
              have h967 := (hF955.1 514 (by omega)).trans (h948)
              have h968 := (hF955.1 (B + 1) (by omega)).trans ((n949 (B + 1) (by omega)).trans (h924))
              have h969 := (hF955.1 (B + 2) (by omega)).trans ((n949 (B + 2) (by omega)).trans (h925))
              have h970 := (hF955.1 (B + 3) (by omega)).trans ((n949 (B + 3) (by omega)).trans (h926))
              have h971 := (hF955.1 (B + 4) (by omega)).trans ((n949 (B + 4) (by omega)).trans (h927))
              have h972 := (hF955.1 (B + 5) (by omega)).trans ((n949 (B + 5) (by omega)).trans (h928))
              have hs973 : C_ws S958 B (gD G) (gW G) := C_ws.fr (P := fun q => 501 ≤ q ∧ q ≤ 529) hs929 (((X_Fr.rf).tr (X_Fr.of n949 e950 (by omega))).tr (X_Fr.mono ⟨hF955.1, hF955.2⟩ (fun q hq => (by omega)))) (fun k h1 h2 => by omega)
              refine T_mono (c_fillHoles sc S958 oK916 oW1 (X_ug oA (X_ro i j) (X_st (-2) (X_all G i j))) oH1 B rc rn kn G tn fl i j w2 h959 h965 h966 h967 hoH1 hB ⟨h960, h968, h969, h970, h971, ⟨f, h972, hf⟩, ⟨by omega, by omega⟩, ⟨by omega, by omega⟩, ⟨by omega, by omega⟩⟩ hs973 hG (by omega) (by omega) hp918 (fun v h1 h2 => hW1 v h1 (by omega)) (X_ug_s _ _ _)) (fun v974 S975 h976 => ?_)
              rcases h976 with ⟨oH977, hv978, hp979, hp980, ha981, hf982⟩
              rw [hv978]
              show X_T sc 32 (115, [(4, .int (iI w2)), (3, .int (iI (X_ro i j))), (0, .ref 511), (1, .int (iI i)), (2, .int (iI j))], [], S975) _
              refine T_p xr_32_115 xn_32 (pc' := 116) (ls' := [(4, .int (iI w2)), (3, .int (iI (X_ro i j))), (0, .ref 511), (1, .int (iI i)), (2, .int (iI j))]) (st' := [.ref 511]) rfl ?_
              refine T_p xr_32_116 xn_32 (pc' := 118) (ls' := [(4, .int (iI w2)), (3, .int (iI (X_ro i j))), (0, .ref 511), (1, .int (iI i)), (2, .int (iI j))]) (st' := [.int (iI w2), .ref 511]) rfl ?_
              refine T_p xr_32_118 xn_32 (pc' := 119) (ls' := [(4, .int (iI w2)), (3, .int (iI (X_ro i j))), (0, .ref 511), (1, .int (iI i)), (2, .int (iI j))]) (st' := [.int (iI i), .int (iI w2), .ref 511]) rfl ?_
              refine T_p xr_32_119 xn_32 (pc' := 120) (ls' := [(4, .int (iI w2)), (3, .int (iI (X_ro i j))), (0, .ref 511), (1, .int (iI i)), (2, .int (iI j))]) (st' := [.int (iI j), .int (iI i), .int (iI w2), .ref 511]) rfl ?_
              have h983 := (hf982.1 511 (by omega)).trans (h959)
              refine T_cv (S := S975) (q := 511) xr_32_120 xf_35.1 xf_35.2.1 xn_35 (as := [.int (iI w2), .int (iI i), .int (iI j)]) (r := []) rfl h983 (Nat.le_of_ble_eq_true rfl) (Nat.le_of_ble_eq_true rfl) (pc' := 123) rfl (ls' := [(0, .ref 511), (1, .int (iI w2)), (2, .int (iI i)), (3, .int (iI j))]) rfl ?_
              have h984 := (hf982.1 516 (by omega)).trans (htl2)
              have h985 := (hf982.1 501 (by omega)).trans ((hF955.1 501 (by omega)).trans ((n949 501 (by decide)).trans ((hf921.1 501 (by omega)).trans (h905))))
              have h986 := (hf982.1 B (by omega)).trans (h960)
              have h987 := (hf982.1 (B + 1) (by omega)).trans (h968)
              have h988 := (hf982.1 (B + 2) (by omega)).trans (h969)
              have h989 := (hf982.1 (B + 3) (by omega)).trans (h970)
              have h990 := (hf982.1 (B + 4) (by omega)).trans (h971)
              have h991 := (hf982.1 (B + 5) (by omega)).trans (h972)
              have hs992 : C_ws S975 B (gD G) (gW G) := C_ws.fr (P := fun q => 501 ≤ q ∧ q ≤ 529) hs973 ((X_Fr.rf).tr (X_Fr.mono ⟨hf982.1, hf982.2⟩ (fun q hq => (by omega)))) (fun k h1 h2 => by omega)
              have h993 := (hf982.1 502 (by omega)).trans ((hF955.1 502 (by omega)).trans ((n949 502 (by decide)).trans ((hf921.1 502 (by omega)).trans (h912))))
              refine T_mono (c_fillTails sc S975 oH977 tl2 B rc rn kn G tn fl w2 i j h985 h983 ha981 h984 hB ⟨h986, h987, h988, h989, h990, ⟨f, h991, hf⟩, ⟨by omega, by omega⟩, ⟨by omega, by omega⟩, ⟨by omega, by omega⟩⟩ hs992 hG h993 (by omega) (by omega) (fun q h1 h2 => hT2 w2 (by omega) (by omega) q h1 h2) (fun e g1 g2 g3 m h1 h2 => by
                      have hs := (hG.2.2.2 w2 (by omega) (by omega)).2.1
                      have hh := (hG.2.2.2 w2 (by omega) (by omega)).hole g1 g2 g3
                      by_cases hm : m = j
                      · subst hm; exact hp979 e g1 g2 g3
                      · have hne := X_ro_ne (i := i) (j := m) (i' := i) (j' := j) (by omega) (by omega) (by omega)
                        exact (hp980 _ (by omega)).trans ((hOH _ (by omega)).trans ((hC i m (by omega) h1 h2 (fun z => absurd z hm)).2.2.2 w2 (by omega) (by omega) e g1 g2 g3)))) (fun v994 S995 h996 => ?_)
              rcases h996 with ⟨tl997, hv998, hp999, hp1000, ha1001, hf1002⟩
              rw [hv998]
              show X_T sc 32 (123, [(4, .int (iI w2)), (3, .int (iI (X_ro i j))), (0, .ref 511), (1, .int (iI i)), (2, .int (iI j))], [], S995) _
              refine T_ziinc xr_32_123 xn_32 (a := w2) (z := w2 + 1) rfl (Nat.le_of_ble_eq_true rfl) (by omega) (ls' := [(4, .int (iI (w2 + 1))), (3, .int (iI (X_ro i j))), (0, .ref 511), (1, .int (iI i)), (2, .int (iI j))]) rfl (pc' := 126) rfl ?_
              refine T_p xr_32_126 xn_32 (pc' := 96) (ls' := [(4, .int (iI (w2 + 1))), (3, .int (iI (X_ro i j))), (0, .ref 511), (1, .int (iI i)), (2, .int (iI j))]) (st' := []) rfl ?_
              have h1003 := (hf1002.1 515 (by omega)).trans (ha981)
              exact ih952 S995 (w2 + 1) oH977 tl997 h1003 ha1001 (hF955.tr (((X_Fr.rf).tr (X_Fr.mono ⟨hf982.1, hf982.2⟩ (fun q hq => (by omega)))).tr (X_Fr.mono ⟨hf1002.1, hf1002.2⟩ (fun q hq => (by omega))))) (by omega) (fun v h1 h2 e g1 g2 g3 => by
                    have hs := (hG.2.2.2 v h1 (by omega)).2.1
                    have hh := (hG.2.2.2 v h1 (by omega)).hole g1 g2 g3
                    by_cases hv : v = w2
                    · subst hv; exact hp979 e g1 g2 g3
                    · exact (hp980 _ (by omega)).trans (hH1 v h1 (by omega) e g1 g2 g3)) (fun q hq => (hp980 q (by omega)).trans (hOH q hq)) (fun v h1 h2 q h3 h4 e g1 g2 => by
                    have hs := (hG.2.2.2 v h1 h2).1
                    have hs2 := (hG.2.2.2 w2 (by omega) (by omega)).1
                    exact (hp1000 _ (fun e2 z1 z2 z3 => by omega)).trans (hT2 v h1 h2 q h3 h4 e g1 g2)) (fun v h1 h2 => by
                    by_cases hv : v = w2
                    · subst hv; exact hp999
                    · intro e g1 g2
                      have hs := (hG.2.2.2 v h1 (by omega)).1
                      have hs2 := (hG.2.2.2 w2 (by omega) (by omega)).1
                      exact (hp1000 _ (fun e2 z1 z2 z3 => by omega)).trans (hT3 v h1 (by omega) e g1 g2)) (by omega)
        exact L951 ((gw G) + 1).toNat S947 0 oH tl1 h956 h957 ((X_Fr.rf)) (by omega) (fun v h1 h2 => absurd h2 (by omega)) (fun _ _ => rfl) hT1 (fun v h1 h2 => absurd h2 (by omega)) (by omega)
      · skip
        have c903 : ¬ ((gw G) ≤ w) := c903
        refine T_p xr_32_21 xn_32 (pc' := 22) (ls' := [(4, .int (iI w)), (3, .int (iI (X_ro i j))), (0, .ref 511), (1, .int (iI i)), (2, .int (iI j))]) (st' := [.ref 511]) rfl ?_
        refine T_p xr_32_22 xn_32 (pc' := 24) (ls' := [(4, .int (iI w)), (3, .int (iI (X_ro i j))), (0, .ref 511), (1, .int (iI i)), (2, .int (iI j))]) (st' := [.int (iI w), .ref 511]) rfl ?_
        refine T_p xr_32_24 xn_32 (pc' := 25) (ls' := [(4, .int (iI w)), (3, .int (iI (X_ro i j))), (0, .ref 511), (1, .int (iI i)), (2, .int (iI j))]) (st' := [.int (iI 0), .int (iI w), .ref 511]) rfl ?_
        refine T_p xr_32_25 xn_32 (pc' := 26) (ls' := [(4, .int (iI w)), (3, .int (iI (X_ro i j))), (0, .ref 511), (1, .int (iI i)), (2, .int (iI j))]) (st' := [.int (iI i), .int (iI 0), .int (iI w), .ref 511]) rfl ?_
        refine T_p xr_32_26 xn_32 (pc' := 27) (ls' := [(4, .int (iI w)), (3, .int (iI (X_ro i j))), (0, .ref 511), (1, .int (iI i)), (2, .int (iI j))]) (st' := [.int (iI j), .int (iI i), .int (iI 0), .int (iI w), .ref 511]) rfl ?_
        have hs1 := (hG.2.2.2 w (by omega) (by omega)).1
        refine T_cv (S := S900) (q := 511) xr_32_27 xf_37.1 xf_37.2.1 xn_37 (as := [.int (iI w), .int (iI 0), .int (iI i), .int (iI j)]) (r := []) rfl h901 (Nat.le_of_ble_eq_true rfl) (Nat.le_of_ble_eq_true rfl) (pc' := 30) rfl (ls' := [(0, .ref 511), (1, .int (iI w)), (2, .int (iI 0)), (3, .int (iI i)), (4, .int (iI j))]) rfl ?_
        have h1004 := (hF899.1 515 (by omega)).trans (hA515)
        have h1005 := (hF899.1 501 (by omega)).trans (hO501)
        have h1006 := (hF899.1 (B + 1) (by omega)).trans (hb1)
        have h1007 := (hF899.1 (B + 2) (by omega)).trans (hb2)
        have h1008 := (hF899.1 (B + 3) (by omega)).trans (hb3)
        have h1009 := (hF899.1 (B + 4) (by omega)).trans (hb4)
        have h1010 := (hF899.1 (B + 5) (by omega)).trans (hb5)
        have hs1011 : C_ws S900 B (gD G) (gW G) := C_ws.fr (P := fun q => 501 ≤ q ∧ q ≤ 529) hs ((X_Fr.rf).tr (X_Fr.mono ⟨hF899.1, hF899.2⟩ (fun q hq => (by omega)))) (fun k h1 h2 => by omega)
        have h1012 := (hF899.1 502 (by omega)).trans (hA502)
        refine T_mono (c_ways sc S900 oH tl1 B rc rn kn G tn fl w 0 i j h1005 h901 h1004 htl1 hB ⟨h902, h1006, h1007, h1008, h1009, ⟨f, h1010, hf⟩, ⟨by omega, by omega⟩, ⟨by omega, by omega⟩, ⟨by omega, by omega⟩⟩ hs1011 hG h1012 (by omega) (by omega) (by omega) (fun q h1 h2 => hT1 w (by omega) (by omega) q h1 h2) (fun z m h1 h2 h3 => by
                have hm : ¬ m = j := fun e => h3 (by
                  subst e
                  exact X_El_jj (hG.2.2.2 w (by omega) (by omega)).2.2.1 z)
                exact (hC i m (by omega) h1 h2 (fun e => absurd e hm)).2.2.2 w (by omega) (by omega) 0 (by omega) (by have := (hG.2.2.2 w (by omega) (by omega)).1; omega) z)) (fun v1013 S1014 h1015 => ?_)
        rcases h1015 with ⟨hv1016, hf1017⟩
        rw [hv1016]
        rw [hf1017]
        show X_T sc 32 (30, [(4, .int (iI w)), (3, .int (iI (X_ro i j))), (0, .ref 511), (1, .int (iI i)), (2, .int (iI j))], [.long (X_st (-2) (X_Ew G (X_T_ G) w 0 i j))], S900) _
        refine T_le (y := (X_st (-2) ((X_T_ G).1 w i j))) (by rw [X_T_W (hG.2.2.2 w (by omega) (by omega)).2.2.1 hij.2.1 (by omega)]) ?_
        refine T_p xr_32_30 xn_32 (pc' := 32) (ls' := [(5, .long (X_st (-2) ((X_T_ G).1 w i j))), (4, .int (iI w)), (3, .int (iI (X_ro i j))), (0, .ref 511), (1, .int (iI i)), (2, .int (iI j))]) (st' := []) rfl ?_
        refine T_p xr_32_32 xn_32 (pc' := 33) (ls' := [(5, .long (X_st (-2) ((X_T_ G).1 w i j))), (4, .int (iI w)), (3, .int (iI (X_ro i j))), (0, .ref 511), (1, .int (iI i)), (2, .int (iI j))]) (st' := [.ref 511]) rfl ?_
        refine T_get xr_32_33 h901 rfl (v := .ref 516) rfl (pc' := 36) rfl ?_
        refine T_p xr_32_36 xn_32 (pc' := 38) (ls' := [(5, .long (X_st (-2) ((X_T_ G).1 w i j))), (4, .int (iI w)), (3, .int (iI (X_ro i j))), (0, .ref 511), (1, .int (iI i)), (2, .int (iI j))]) (st' := [.int (iI w), .ref 516]) rfl ?_
        refine T_p xr_32_38 xn_32 (pc' := 39) (ls' := [(5, .long (X_st (-2) ((X_T_ G).1 w i j))), (4, .int (iI w)), (3, .int (iI (X_ro i j))), (0, .ref 511), (1, .int (iI i)), (2, .int (iI j))]) (st' := [.int (iI 0), .int (iI w), .ref 516]) rfl ?_
        refine T_p xr_32_39 xn_32 (pc' := 40) (ls' := [(5, .long (X_st (-2) ((X_T_ G).1 w i j))), (4, .int (iI w)), (3, .int (iI (X_ro i j))), (0, .ref 511), (1, .int (iI i)), (2, .int (iI j))]) (st' := [.int (iI i), .int (iI 0), .int (iI w), .ref 516]) rfl ?_
        refine T_cs xr_32_40 (by decide) xf_25.1 xn_25 (as := [.int (iI w), .int (iI 0), .int (iI i)]) (r := [.ref 516]) rfl (Nat.le_of_ble_eq_true rfl) (Nat.le_of_ble_eq_true rfl) (pc' := 43) rfl (ls' := [(0, .int (iI w)), (1, .int (iI 0)), (2, .int (iI i))]) rfl ?_
        refine T_p xr_25_0 xn_25 (pc' := 1) (ls' := [(0, .int (iI w)), (1, .int (iI 0)), (2, .int (iI i))]) (st' := [.int (iI w)]) rfl ?_
        refine T_p xr_25_1 xn_25 (pc' := 3) (ls' := [(0, .int (iI w)), (1, .int (iI 0)), (2, .int (iI i))]) (st' := [.int (iI 8), .int (iI w)]) rfl ?_
        refine T_zimul xr_25_3 (z := w * 8) rfl (pc' := 4) rfl ?_
        refine T_p xr_25_4 xn_25 (pc' := 5) (ls' := [(0, .int (iI w)), (1, .int (iI 0)), (2, .int (iI i))]) (st' := [.int (iI 0), .int (iI (w * 8))]) rfl ?_
        refine T_ziadd xr_25_5 (z := (w * 8) + 0) rfl (pc' := 6) rfl ?_
        refine T_p xr_25_6 xn_25 (pc' := 8) (ls' := [(0, .int (iI w)), (1, .int (iI 0)), (2, .int (iI i))]) (st' := [.int (iI 30), .int (iI ((w * 8) + 0))]) rfl ?_
        refine T_zimul xr_25_8 (z := ((w * 8) + 0) * 30) rfl (pc' := 9) rfl ?_
        refine T_p xr_25_9 xn_25 (pc' := 10) (ls' := [(0, .int (iI w)), (1, .int (iI 0)), (2, .int (iI i))]) (st' := [.int (iI i), .int (iI (((w * 8) + 0) * 30))]) rfl ?_
        refine T_ziadd xr_25_10 (z := (((w * 8) + 0) * 30) + i) rfl (pc' := 11) rfl ?_
        refine T_iret xr_25_11 xf_25.2.2 rfl ?_
        show X_T sc 32 (43, [(5, .long (X_st (-2) ((X_T_ G).1 w i j))), (4, .int (iI w)), (3, .int (iI (X_ro i j))), (0, .ref 511), (1, .int (iI i)), (2, .int (iI j))], [.int (iI ((((w * 8) + 0) * 30) + i)), .ref 516], S900) _
        refine T_p xr_32_43 xn_32 (pc' := 45) (ls' := [(5, .long (X_st (-2) ((X_T_ G).1 w i j))), (4, .int (iI w)), (3, .int (iI (X_ro i j))), (0, .ref 511), (1, .int (iI i)), (2, .int (iI j))]) (st' := [.long (X_st (-2) ((X_T_ G).1 w i j)), .int (iI ((((w * 8) + 0) * 30) + i)), .ref 516]) rfl ?_
        refine T_zlast xr_32_45 htl1 (pc' := 46) rfl (fun S1018 h1019 n1020 e1021 => ?_)
        refine T_p xr_32_46 xn_32 (pc' := 47) (ls' := [(5, .long (X_st (-2) ((X_T_ G).1 w i j))), (4, .int (iI w)), (3, .int (iI (X_ro i j))), (0, .ref 511), (1, .int (iI i)), (2, .int (iI j))]) (st' := [.ref 511]) rfl ?_
        have h1022 := (n1020 511 (by decide)).trans (h901)
        refine T_get xr_32_47 h1022 rfl (v := .ref 513) rfl (pc' := 50) rfl ?_
        refine T_p xr_32_50 xn_32 (pc' := 51) (ls' := [(5, .long (X_st (-2) ((X_T_ G).1 w i j))), (4, .int (iI w)), (3, .int (iI (X_ro i j))), (0, .ref 511), (1, .int (iI i)), (2, .int (iI j))]) (st' := [.int (iI (X_ro i j)), .ref 513]) rfl ?_
        refine T_p xr_32_51 xn_32 (pc' := 53) (ls' := [(5, .long (X_st (-2) ((X_T_ G).1 w i j))), (4, .int (iI w)), (3, .int (iI (X_ro i j))), (0, .ref 511), (1, .int (iI i)), (2, .int (iI j))]) (st' := [.int (iI 30), .int (iI (X_ro i j)), .ref 513]) rfl ?_
        refine T_zimul xr_32_53 (z := (X_ro i j) * 30) rfl (pc' := 54) rfl ?_
        refine T_p xr_32_54 xn_32 (pc' := 56) (ls' := [(5, .long (X_st (-2) ((X_T_ G).1 w i j))), (4, .int (iI w)), (3, .int (iI (X_ro i j))), (0, .ref 511), (1, .int (iI i)), (2, .int (iI j))]) (st' := [.int (iI w), .int (iI ((X_ro i j) * 30)), .ref 513]) rfl ?_
        refine T_ziadd xr_32_56 (z := ((X_ro i j) * 30) + w) rfl (pc' := 57) rfl ?_
        refine T_p xr_32_57 xn_32 (pc' := 59) (ls' := [(5, .long (X_st (-2) ((X_T_ G).1 w i j))), (4, .int (iI w)), (3, .int (iI (X_ro i j))), (0, .ref 511), (1, .int (iI i)), (2, .int (iI j))]) (st' := [.long (X_st (-2) ((X_T_ G).1 w i j)), .int (iI (((X_ro i j) * 30) + w)), .ref 513]) rfl ?_
        have h1023 := (n1020 513 (by decide)).trans (hoW1)
        refine T_zlast xr_32_59 h1023 (pc' := 60) rfl (fun S1024 h1025 n1026 e1027 => ?_)
        refine T_ziinc xr_32_60 xn_32 (a := w) (z := w + 1) rfl (Nat.le_of_ble_eq_true rfl) (by omega) (ls' := [(4, .int (iI (w + 1))), (5, .long (X_st (-2) ((X_T_ G).1 w i j))), (3, .int (iI (X_ro i j))), (0, .ref 511), (1, .int (iI i)), (2, .int (iI j))]) rfl (pc' := 63) rfl ?_
        refine T_p xr_32_63 xn_32 (pc' := 9) (ls' := [(4, .int (iI (w + 1))), (5, .long (X_st (-2) ((X_T_ G).1 w i j))), (3, .int (iI (X_ro i j))), (0, .ref 511), (1, .int (iI i)), (2, .int (iI j))]) (st' := []) rfl ?_
        have h1028 := (n1026 516 (by decide)).trans (h1019)
        refine T_sub (ls := [(4, .int (iI (w + 1))), (3, .int (iI (X_ro i j))), (0, .ref 511), (1, .int (iI i)), (2, .int (iI j))]) ⟨rfl, rfl, rfl, rfl, rfl, trivial⟩ rfl rfl ?_
        exact ih896 S1024 (w + 1) (X_ug tl1 ((((w * 8) + 0) * 30) + i) (X_st (-2) ((X_T_ G).1 w i j))) (X_ug oW1 (((X_ro i j) * 30) + w) (X_st (-2) ((X_T_ G).1 w i j))) h1028 h1025 (hF899.tr (((X_Fr.rf).tr (X_Fr.of n1020 e1021 (by omega))).tr (X_Fr.of n1026 e1027 (by omega)))) (by omega) (fun v h1 h2 q h3 h4 e g1 g2 => by
              have hs := (hG.2.2.2 v h1 h2).1
              rw [X_ug_n _ _ (by omega)]; exact hT1 v h1 h2 q h3 h4 e g1 g2) (fun v h1 h2 => by
              by_cases hv : v = w
              · subst hv; rw [X_ug_s]
              · rw [X_ug_n _ _ (by omega)]; exact hW1 v h1 (by omega)) (fun q hq => by rw [X_ug_n _ _ (by omega)]; exact hOW q hq) (by omega)
  exact L895 ((gw G) + 1).toNat S 0 tl oW hA516 hA513 ((X_Fr.rf)) (by omega) ht (fun v h1 h2 => absurd h2 (by omega)) (fun _ _ => rfl) (by omega)
theorem c_fill (sc : X_Sc) (S : X_S) (oK : Int → Int64) (oW : Int → Int64) (oA : Int → Int64) (oH : Int → Int64) (tl : Int → Int64) (B : Nat) (rc : Int) (rn : Int → Int64) (kn : Int → Int64) (G : X_G) (tn : Int) (fl : Int) (hO501 : S.1 501 = .inr (6, [.int (iI tn), .ref 502, .ref 503])) (hO511 : S.1 511 = .inr (1, [.ref B, .ref 501, .int (iI fl), .ref 512, .ref 513, .ref 514, .ref 515, .ref 516])) (hA512 : S.1 512 = .inl (.long, 5115, .inr (.inl fun k : Nat => oK (k : Int)))) (hA513 : S.1 513 = .inl (.long, 13950, .inr (.inl fun k : Nat => oW (k : Int)))) (hA514 : S.1 514 = .inl (.long, 465, .inr (.inl fun k : Nat => oA (k : Int)))) (hA515 : S.1 515 = .inl (.long, 55800, .inr (.inl fun k : Nat => oH (k : Int)))) (hA516 : S.1 516 = .inl (.long, 7200, .inr (.inl fun k : Nat => tl (k : Int)))) (hB : B = 4 ∨ B = 250) (hb : C_bk S B rc (gk G) (gw G) rn (gl G) kn (ga G)) (hs : C_ws S B (gD G) (gW G)) (hG : X_Gok G) (hA502 : S.1 502 = .inl (.long, 30, .inr (.inl fun k : Nat => (gt G) (k : Int)))) (htn : 0 ≤ tn ∧ tn ≤ 30) (hfl : 0 ≤ fl ∧ fl ≤ 1) (hC : fl = 1 → X_cht G (-2) tn oK oW oA oH) : X_T sc 31 (0, [(0, .ref 511)], [], S) (fun v S' => ∃ (oK1 : Int → Int64) (oW1 : Int → Int64) (oA1 : Int → Int64) (oH1 : Int → Int64) (tl1 : Int → Int64), v = none ∧ X_cht G (-2) tn oK1 oW1 oA1 oH1 ∧ S'.1 511 = .inr (1, [.ref B, .ref 501, .int (iI 1), .ref 512, .ref 513, .ref 514, .ref 515, .ref 516]) ∧ S'.1 512 = .inl (.long, 5115, .inr (.inl fun k : Nat => oK1 (k : Int))) ∧ S'.1 513 = .inl (.long, 13950, .inr (.inl fun k : Nat => oW1 (k : Int))) ∧ S'.1 514 = .inl (.long, 465, .inr (.inl fun k : Nat => oA1 (k : Int))) ∧ S'.1 515 = .inl (.long, 55800, .inr (.inl fun k : Nat => oH1 (k : Int))) ∧ S'.1 516 = .inl (.long, 7200, .inr (.inl fun k : Nat => tl1 (k : Int))) ∧ (X_Fr (fun q => q = 512 ∨ q = 513 ∨ q = 514 ∨ q = 515 ∨ q = 516 ∨ q = 511) S S')) := by
  obtain ⟨hb0, hb1, hb2, hb3, hb4, ⟨f, hb5, hf⟩, ⟨hrc, hrcb⟩, ⟨hkc, hkcb⟩, ⟨hwc, hwcb⟩⟩ := id hb
  refine X_QI (fun Q hQ => ?_)
  refine T_p xr_31_0 xn_31 (pc' := 1) (ls' := [(0, .ref 511)]) (st' := [.ref 511]) rfl ?_
  refine T_get xr_31_1 hO511 rfl (v := .int (iI fl)) rfl (pc' := 4) rfl ?_
  refine T_zif_eq xr_31_4 (t := 8) (pc' := 7) rfl rfl (fun c1029 => ?_) (fun c1029 => ?_)
  · skip
    have c1029 : fl = 0 := c1029
    refine T_p xr_31_8 xn_31 (pc' := 9) (ls' := [(0, .ref 511)]) (st' := [.ref 511]) rfl ?_
    refine T_p xr_31_9 xn_31 (pc' := 10) (ls' := [(0, .ref 511)]) (st' := [.int (iI 1), .ref 511]) rfl ?_
    refine T_put xr_31_10 hO511 rfl (Nat.le_of_ble_eq_true rfl) rfl (fs' := [.ref B, .ref 501, .int (iI 1), .ref 512, .ref 513, .ref 514, .ref 515, .ref 516]) rfl (pc' := 13) rfl (fun S1030 h1031 n1032 e1033 => ?_)
    refine T_p xr_31_13 xn_31 (pc' := 14) (ls' := [(0, .ref 511)]) (st' := [.int (iI 1)]) rfl ?_
    refine T_p xr_31_14 xn_31 (pc' := 15) (ls' := [(1, .int (iI 1)), (0, .ref 511)]) (st' := []) rfl ?_
    have h1039 := (n1032 512 (by decide)).trans (hA512)
    have h1040 := (n1032 513 (by decide)).trans (hA513)
    have h1041 := (n1032 514 (by decide)).trans (hA514)
    have h1042 := (n1032 515 (by decide)).trans (hA515)
    have h1043 := (n1032 516 (by decide)).trans (hA516)
    have L1034 : ∀ (m1036 : Nat) (S1044 : X_S) (j : Int) (oK1 : Int → Int64) (oW1 : Int → Int64) (oA1 : Int → Int64) (oH1 : Int → Int64) (tl1 : Int → Int64) (hoK1 : S1044.1 512 = .inl (.long, 5115, .inr (.inl fun k : Nat => oK1 (k : Int)))) (hoW1 : S1044.1 513 = .inl (.long, 13950, .inr (.inl fun k : Nat => oW1 (k : Int)))) (hoA1 : S1044.1 514 = .inl (.long, 465, .inr (.inl fun k : Nat => oA1 (k : Int)))) (hoH1 : S1044.1 515 = .inl (.long, 55800, .inr (.inl fun k : Nat => oH1 (k : Int)))) (htl1 : S1044.1 516 = .inl (.long, 7200, .inr (.inl fun k : Nat => tl1 (k : Int)))) (hF1038 : X_Fr (fun q => 512 ≤ q ∧ q ≤ 516) S1030 S1044) (hj : 1 ≤ j ∧ j ≤ tn + 1) (hCo : ∀ i2 j2, 0 ≤ i2 → i2 < j2 → j2 < j → X_rw G (-2) i2 j2 oK1 oW1 oA1 oH1) (hm1037 : tn + 1 - j < m1036), X_T sc 31 (15, [(1, .int (iI j)), (0, .ref 511)], [], S1044) Q := by
      intro m1036
      induction m1036 with
      | zero =>
        intro S1044 j oK1 oW1 oA1 oH1 tl1 hoK1 hoW1 hoA1 hoH1 htl1 hF1038 hj hCo hm1037
        exact (show False by omega).elim
      | succ m1036 ih1035 =>
        intro S1044 j oK1 oW1 oA1 oH1 tl1 hoK1 hoW1 hoA1 hoH1 htl1 hF1038 hj hCo hm1037
        refine T_p xr_31_15 xn_31 (pc' := 16) (ls' := [(1, .int (iI j)), (0, .ref 511)]) (st' := [.int (iI j)]) rfl ?_
        refine T_p xr_31_16 xn_31 (pc' := 17) (ls' := [(1, .int (iI j)), (0, .ref 511)]) (st' := [.ref 511, .int (iI j)]) rfl ?_
        have h1045 := (hF1038.1 511 (by omega)).trans (h1031)
        refine T_get xr_31_17 h1045 rfl (v := .ref 501) rfl (pc' := 20) rfl ?_
        have h1046 := (hF1038.1 501 (by omega)).trans ((n1032 501 (by decide)).trans (hO501))
        refine T_get xr_31_20 h1046 rfl (v := .int (iI tn)) rfl (pc' := 23) rfl ?_
        refine T_zicmp_gt xr_31_23 (t := 52) (pc' := 26) rfl rfl (fun c1047 => ?_) (fun c1047 => ?_)
        · skip
          have c1047 : tn < j := c1047
          refine T_vret xr_31_52 xf_31.2.2 ?_
          refine hQ _ _ ?_
          exact ⟨oK1, oW1, oA1, oH1, tl1, rfl, (fun i j h1 h2 h3 => hCo i j h1 h2 (by omega)), h1045, hoK1, hoW1, hoA1, hoH1, htl1, ((X_Fr.rf).tr (X_Fr.of n1032 e1033 (by omega))).tr (X_Fr.mono ⟨hF1038.1, hF1038.2⟩ (fun q hq => (by omega)))⟩
        · skip
          have c1047 : ¬ (tn < j) := c1047
          refine T_p xr_31_26 xn_31 (pc' := 27) (ls' := [(1, .int (iI j)), (0, .ref 511)]) (st' := [.int (iI j)]) rfl ?_
          refine T_p xr_31_27 xn_31 (pc' := 28) (ls' := [(1, .int (iI j)), (0, .ref 511)]) (st' := [.int (iI 1), .int (iI j)]) rfl ?_
          refine T_zisub xr_31_28 (z := j - 1) rfl (pc' := 29) rfl ?_
          refine T_p xr_31_29 xn_31 (pc' := 30) (ls' := [(2, .int (iI (j - 1))), (1, .int (iI j)), (0, .ref 511)]) (st' := []) rfl ?_
          have L1048 : ∀ (m1050 : Nat) (S1053 : X_S) (i : Int) (oK2 : Int → Int64) (oW2 : Int → Int64) (oA2 : Int → Int64) (oH2 : Int → Int64) (tl2 : Int → Int64) (hoK1b : S1053.1 512 = .inl (.long, 5115, .inr (.inl fun k : Nat => oK2 (k : Int)))) (hoW1b : S1053.1 513 = .inl (.long, 13950, .inr (.inl fun k : Nat => oW2 (k : Int)))) (hoA1b : S1053.1 514 = .inl (.long, 465, .inr (.inl fun k : Nat => oA2 (k : Int)))) (hoH1b : S1053.1 515 = .inl (.long, 55800, .inr (.inl fun k : Nat => oH2 (k : Int)))) (htl1b : S1053.1 516 = .inl (.long, 7200, .inr (.inl fun k : Nat => tl2 (k : Int)))) (hF1052 : X_Fr (fun q => 512 ≤ q ∧ q ≤ 516) S1044 S1053) (hi : -1 ≤ i ∧ i < j) (hCi : ∀ i2 j2, 0 ≤ i2 → i2 < j2 → j2 ≤ j → (j2 = j → i < i2) → X_rw G (-2) i2 j2 oK2 oW2 oA2 oH2) (hTi : ∀ w, 0 ≤ w → w < gw G → ∀ q, i < q → q < j → X_tl G (-2) w q j tl2) (hm1051 : i + 1 < m1050), X_T sc 31 (30, [(2, .int (iI i)), (1, .int (iI j)), (0, .ref 511)], [], S1053) Q := by
            intro m1050
            induction m1050 with
            | zero =>
              intro S1053 i oK2 oW2 oA2 oH2 tl2 hoK1b hoW1b hoA1b hoH1b htl1b hF1052 hi hCi hTi hm1051
              exact (show False by omega).elim
            | succ m1050 ih1049 =>
              intro S1053 i oK2 oW2 oA2 oH2 tl2 hoK1b hoW1b hoA1b hoH1b htl1b hF1052 hi hCi hTi hm1051
              refine T_p xr_31_30 xn_31 (pc' := 31) (ls' := [(2, .int (iI i)), (1, .int (iI j)), (0, .ref 511)]) (st' := [.int (iI i)]) rfl ?_
              refine T_zif_lt xr_31_31 (t := 46) (pc' := 34) rfl rfl (fun c1054 => ?_) (fun c1054 => ?_)
              · skip
                have c1054 : i < 0 := c1054
                refine T_ziinc xr_31_46 xn_31 (a := j) (z := j + 1) rfl (Nat.le_of_ble_eq_true rfl) (by omega) (ls' := [(1, .int (iI (j + 1))), (2, .int (iI i)), (0, .ref 511)]) rfl (pc' := 49) rfl ?_
                refine T_p xr_31_49 xn_31 (pc' := 15) (ls' := [(1, .int (iI (j + 1))), (2, .int (iI i)), (0, .ref 511)]) (st' := []) rfl ?_
                refine T_sub (ls := [(1, .int (iI (j + 1))), (0, .ref 511)]) ⟨rfl, rfl, trivial⟩ rfl rfl ?_
                exact ih1035 S1053 (j + 1) oK2 oW2 oA2 oH2 tl2 hoK1b hoW1b hoA1b hoH1b htl1b (hF1038.tr ((X_Fr.rf).tr (X_Fr.mono ⟨hF1052.1, hF1052.2⟩ (fun q hq => (by omega))))) (by omega) (fun i2 j2 h1 h2 h3 => hCi i2 j2 h1 h2 (by omega) (by omega)) (by omega)
              · skip
                have c1054 : ¬ (i < 0) := c1054
                refine T_p xr_31_34 xn_31 (pc' := 35) (ls' := [(2, .int (iI i)), (1, .int (iI j)), (0, .ref 511)]) (st' := [.ref 511]) rfl ?_
                refine T_p xr_31_35 xn_31 (pc' := 36) (ls' := [(2, .int (iI i)), (1, .int (iI j)), (0, .ref 511)]) (st' := [.int (iI i), .ref 511]) rfl ?_
                refine T_p xr_31_36 xn_31 (pc' := 37) (ls' := [(2, .int (iI i)), (1, .int (iI j)), (0, .ref 511)]) (st' := [.int (iI j), .int (iI i), .ref 511]) rfl ?_
                have h1055 := (hF1052.1 511 (by omega)).trans (h1045)
                refine T_cv (S := S1053) (q := 511) xr_31_37 xf_32.1 xf_32.2.1 xn_32 (as := [.int (iI i), .int (iI j)]) (r := []) rfl h1055 (Nat.le_of_ble_eq_true rfl) (Nat.le_of_ble_eq_true rfl) (pc' := 40) rfl (ls' := [(0, .ref 511), (1, .int (iI i)), (2, .int (iI j))]) rfl ?_
                have h1056 := (hF1052.1 501 (by omega)).trans (h1046)
                have h1057 := (hF1052.1 B (by omega)).trans ((hF1038.1 B (by omega)).trans ((n1032 B (by omega)).trans (hb0)))
                have h1058 := (hF1052.1 (B + 1) (by omega)).trans ((hF1038.1 (B + 1) (by omega)).trans ((n1032 (B + 1) (by omega)).trans (hb1)))
                have h1059 := (hF1052.1 (B + 2) (by omega)).trans ((hF1038.1 (B + 2) (by omega)).trans ((n1032 (B + 2) (by omega)).trans (hb2)))
                have h1060 := (hF1052.1 (B + 3) (by omega)).trans ((hF1038.1 (B + 3) (by omega)).trans ((n1032 (B + 3) (by omega)).trans (hb3)))
                have h1061 := (hF1052.1 (B + 4) (by omega)).trans ((hF1038.1 (B + 4) (by omega)).trans ((n1032 (B + 4) (by omega)).trans (hb4)))
                have h1062 := (hF1052.1 (B + 5) (by omega)).trans ((hF1038.1 (B + 5) (by omega)).trans ((n1032 (B + 5) (by omega)).trans (hb5)))
                have hs1063 : C_ws S1053 B (gD G) (gW G) := C_ws.fr (P := fun q => 501 ≤ q ∧ q ≤ 529) hs ((((X_Fr.rf).tr (X_Fr.of n1032 e1033 (by omega))).tr (X_Fr.mono ⟨hF1038.1, hF1038.2⟩ (fun q hq => (by omega)))).tr (X_Fr.mono ⟨hF1052.1, hF1052.2⟩ (fun q hq => (by omega)))) (fun k h1 h2 => by omega)
                have h1064 := (hF1052.1 502 (by omega)).trans ((hF1038.1 502 (by omega)).trans ((n1032 502 (by decide)).trans (hA502)))
                refine T_mono (c_fillStretch sc S1053 oK2 oW2 oA2 oH2 tl2 B rc rn kn G tn 1 i j h1056 h1055 hoK1b hoW1b hoA1b hoH1b htl1b hB ⟨h1057, h1058, h1059, h1060, h1061, ⟨f, h1062, hf⟩, ⟨by omega, by omega⟩, ⟨by omega, by omega⟩, ⟨by omega, by omega⟩⟩ hs1063 hG h1064 (by omega) hCi hTi) (fun v1065 S1066 h1067 => ?_)
                rcases h1067 with ⟨oK1068, oW1069, oA1070, oH1071, tl1072, hv1073, hp1074, hp1075, hp1076, hp1077, hp1078, hp1079, ha1080, ha1081, ha1082, ha1083, ha1084, hf1085⟩
                rw [hv1073]
                show X_T sc 31 (40, [(2, .int (iI i)), (1, .int (iI j)), (0, .ref 511)], [], S1066) _
                refine T_ziinc xr_31_40 xn_31 (a := i) (z := i - 1) rfl (Nat.le_of_ble_eq_true rfl) (by omega) (ls' := [(2, .int (iI (i - 1))), (1, .int (iI j)), (0, .ref 511)]) rfl (pc' := 43) rfl ?_
                refine T_p xr_31_43 xn_31 (pc' := 30) (ls' := [(2, .int (iI (i - 1))), (1, .int (iI j)), (0, .ref 511)]) (st' := []) rfl ?_
                exact ih1049 S1066 (i - 1) oK1068 oW1069 oA1070 oH1071 tl1072 ha1080 ha1081 ha1082 ha1083 ha1084 (hF1052.tr ((X_Fr.rf).tr (X_Fr.mono ⟨hf1085.1, hf1085.2⟩ (fun q hq => (by omega))))) (by omega) (fun i2 j2 h1 h2 h3 h4 => by
                      by_cases he : i2 = i ∧ j2 = j
                      · obtain ⟨e1, e2⟩ := he
                        subst e1; subst e2; exact hp1074
                      · exact X_rw.fr hG (X_ro_ne (by omega) (by omega) he) (hCi i2 j2 h1 h2 h3 (by omega)) hp1076 hp1077 hp1078 hp1079) (fun v h1 h2 q h3 h4 => hp1075 v h1 h2 q (by omega) h4) (by omega)
          exact L1048 (j + 1).toNat S1044 (j - 1) oK1 oW1 oA1 oH1 tl1 hoK1 hoW1 hoA1 hoH1 htl1 ((X_Fr.rf)) (by omega) (fun i2 j2 h1 h2 h3 h4 => hCo i2 j2 h1 h2 (by omega)) (fun v h1 h2 q h3 h4 => absurd h4 (by omega)) (by omega)
    exact L1034 (tn + 1).toNat S1030 1 oK oW oA oH tl h1039 h1040 h1041 h1042 h1043 ((X_Fr.rf)) (by omega) (fun i2 j2 h1 h2 h3 => absurd h3 (by omega)) (by omega)
  · skip
    have c1029 : ¬ (fl = 0) := c1029
    obtain rfl : fl = 1 := by omega
    refine T_vret xr_31_7 xf_31.2.2 ?_
    refine hQ _ _ ?_
    exact ⟨oK, oW, oA, oH, tl, rfl, (hC rfl), hO511, hA512, hA513, hA514, hA515, hA516, X_Fr.rf⟩
