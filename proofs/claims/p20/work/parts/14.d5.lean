theorem xr_27_0 : X_row 27 0 = some (0, (.aload_n 0, 1), (0, 0, 0)) := by decide +kernel
theorem xr_27_1 : X_row 27 1 = some (1, (.getfield 9, 3), (1, 2, 26)) := by decide +kernel
theorem xr_27_4 : X_row 27 4 = some (4, (.ifCond .eq 4, 3), (0, 0, 0)) := by decide +kernel
theorem xr_27_7 : X_row 27 7 = some (7, (.return_, 1), (0, 0, 0)) := by decide +kernel
theorem xr_27_8 : X_row 27 8 = some (8, (.aload_n 0, 1), (0, 0, 0)) := by decide +kernel
theorem xr_27_9 : X_row 27 9 = some (9, (.iconst 1, 1), (0, 0, 0)) := by decide +kernel
theorem xr_27_10 : X_row 27 10 = some (10, (.putfield 9, 3), (1, 2, 26)) := by decide +kernel
theorem xr_27_13 : X_row 27 13 = some (13, (.iconst 1, 1), (0, 0, 0)) := by decide +kernel
theorem xr_27_14 : X_row 27 14 = some (14, (.istore_n 1, 1), (0, 0, 0)) := by decide +kernel
theorem xr_27_15 : X_row 27 15 = some (15, (.iload_n 1, 1), (0, 0, 0)) := by decide +kernel
theorem xr_27_16 : X_row 27 16 = some (16, (.aload_n 0, 1), (0, 0, 0)) := by decide +kernel
theorem xr_27_17 : X_row 27 17 = some (17, (.getfield 36, 3), (1, 1, 24)) := by decide +kernel
theorem xr_27_20 : X_row 27 20 = some (20, (.getfield 65, 3), (6, 0, 19)) := by decide +kernel
theorem xr_27_23 : X_row 27 23 = some (23, (.if_icmp .gt 29, 3), (0, 0, 0)) := by decide +kernel
theorem xr_27_26 : X_row 27 26 = some (26, (.iload_n 1, 1), (0, 0, 0)) := by decide +kernel
theorem xr_27_27 : X_row 27 27 = some (27, (.iconst 1, 1), (0, 0, 0)) := by decide +kernel
theorem xr_27_28 : X_row 27 28 = some (28, (.isub, 1), (0, 0, 0)) := by decide +kernel
theorem xr_27_29 : X_row 27 29 = some (29, (.istore_n 2, 1), (0, 0, 0)) := by decide +kernel
theorem xr_27_30 : X_row 27 30 = some (30, (.iload_n 2, 1), (0, 0, 0)) := by decide +kernel
theorem xr_27_31 : X_row 27 31 = some (31, (.ifCond .lt 15, 3), (0, 0, 0)) := by decide +kernel
theorem xr_27_34 : X_row 27 34 = some (34, (.aload_n 0, 1), (0, 0, 0)) := by decide +kernel
theorem xr_27_35 : X_row 27 35 = some (35, (.iload_n 2, 1), (0, 0, 0)) := by decide +kernel
theorem xr_27_36 : X_row 27 36 = some (36, (.iload_n 1, 1), (0, 0, 0)) := by decide +kernel
theorem xr_27_37 : X_row 27 37 = some (37, (.invokevirtual 70, 3), (28, 0, 0)) := by decide +kernel
theorem xr_27_40 : X_row 27 40 = some (40, (.iinc 2 (-1), 3), (0, 0, 0)) := by decide +kernel
theorem xr_27_43 : X_row 27 43 = some (43, (.goto (-13), 3), (0, 0, 0)) := by decide +kernel
theorem xr_27_46 : X_row 27 46 = some (46, (.iinc 1 1, 3), (0, 0, 0)) := by decide +kernel
theorem xr_27_49 : X_row 27 49 = some (49, (.goto (-34), 3), (0, 0, 0)) := by decide +kernel
theorem xr_27_52 : X_row 27 52 = some (52, (.return_, 1), (0, 0, 0)) := by decide +kernel
theorem xr_28_0 : X_row 28 0 = some (0, (.iload_n 1, 1), (0, 0, 0)) := by decide +kernel
theorem xr_28_1 : X_row 28 1 = some (1, (.iload_n 2, 1), (0, 0, 0)) := by decide +kernel
theorem xr_28_2 : X_row 28 2 = some (2, (.invokestatic 40, 3), (20, 2, 0)) := by decide +kernel
theorem xr_28_5 : X_row 28 5 = some (5, (.istore_n 3, 1), (0, 0, 0)) := by decide +kernel
theorem xr_28_6 : X_row 28 6 = some (6, (.iconst 0, 1), (0, 0, 0)) := by decide +kernel
theorem xr_28_7 : X_row 28 7 = some (7, (.istore 4, 2), (0, 0, 0)) := by decide +kernel
theorem xr_28_9 : X_row 28 9 = some (9, (.iload 4, 2), (0, 0, 0)) := by decide +kernel
theorem xr_28_11 : X_row 28 11 = some (11, (.aload_n 0, 1), (0, 0, 0)) := by decide +kernel
theorem xr_28_12 : X_row 28 12 = some (12, (.getfield 32, 3), (1, 0, 22)) := by decide +kernel
theorem xr_28_15 : X_row 28 15 = some (15, (.getfield 62, 3), (0, 2, 15)) := by decide +kernel
theorem xr_28_18 : X_row 28 18 = some (18, (.if_icmp .ge 48, 3), (0, 0, 0)) := by decide +kernel
theorem xr_28_21 : X_row 28 21 = some (21, (.aload_n 0, 1), (0, 0, 0)) := by decide +kernel
theorem xr_28_22 : X_row 28 22 = some (22, (.iload 4, 2), (0, 0, 0)) := by decide +kernel
theorem xr_28_24 : X_row 28 24 = some (24, (.iconst 0, 1), (0, 0, 0)) := by decide +kernel
theorem xr_28_25 : X_row 28 25 = some (25, (.iload_n 1, 1), (0, 0, 0)) := by decide +kernel
theorem xr_28_26 : X_row 28 26 = some (26, (.iload_n 2, 1), (0, 0, 0)) := by decide +kernel
theorem xr_28_27 : X_row 28 27 = some (27, (.invokevirtual 74, 3), (33, 4, 0)) := by decide +kernel
theorem xr_28_30 : X_row 28 30 = some (30, (.lstore 5, 2), (0, 0, 0)) := by decide +kernel
theorem xr_28_32 : X_row 28 32 = some (32, (.aload_n 0, 1), (0, 0, 0)) := by decide +kernel
theorem xr_28_33 : X_row 28 33 = some (33, (.getfield 29, 3), (1, 7, 36)) := by decide +kernel
theorem xr_28_36 : X_row 28 36 = some (36, (.iload 4, 2), (0, 0, 0)) := by decide +kernel
theorem xr_28_38 : X_row 28 38 = some (38, (.iconst 0, 1), (0, 0, 0)) := by decide +kernel
theorem xr_28_39 : X_row 28 39 = some (39, (.iload_n 1, 1), (0, 0, 0)) := by decide +kernel
theorem xr_28_40 : X_row 28 40 = some (40, (.invokestatic 78, 3), (21, 10, 0)) := by decide +kernel
theorem xr_28_43 : X_row 28 43 = some (43, (.lload 5, 2), (0, 0, 0)) := by decide +kernel
theorem xr_28_45 : X_row 28 45 = some (45, (.lastore, 1), (0, 0, 0)) := by decide +kernel
theorem xr_28_46 : X_row 28 46 = some (46, (.aload_n 0, 1), (0, 0, 0)) := by decide +kernel
theorem xr_28_47 : X_row 28 47 = some (47, (.getfield 19, 3), (1, 4, 30)) := by decide +kernel
theorem xr_28_50 : X_row 28 50 = some (50, (.iload_n 3, 1), (0, 0, 0)) := by decide +kernel
theorem xr_28_51 : X_row 28 51 = some (51, (.bipush 30, 2), (0, 0, 0)) := by decide +kernel
theorem xr_28_53 : X_row 28 53 = some (53, (.imul, 1), (0, 0, 0)) := by decide +kernel
theorem xr_28_54 : X_row 28 54 = some (54, (.iload 4, 2), (0, 0, 0)) := by decide +kernel
theorem xr_28_56 : X_row 28 56 = some (56, (.iadd, 1), (0, 0, 0)) := by decide +kernel
theorem xr_28_57 : X_row 28 57 = some (57, (.lload 5, 2), (0, 0, 0)) := by decide +kernel
theorem xr_28_59 : X_row 28 59 = some (59, (.lastore, 1), (0, 0, 0)) := by decide +kernel
theorem xr_28_60 : X_row 28 60 = some (60, (.iinc 4 1, 3), (0, 0, 0)) := by decide +kernel
theorem xr_28_63 : X_row 28 63 = some (63, (.goto (-54), 3), (0, 0, 0)) := by decide +kernel
theorem xr_28_66 : X_row 28 66 = some (66, (.aload_n 0, 1), (0, 0, 0)) := by decide +kernel
theorem xr_28_67 : X_row 28 67 = some (67, (.iload_n 1, 1), (0, 0, 0)) := by decide +kernel
theorem xr_28_68 : X_row 28 68 = some (68, (.iload_n 2, 1), (0, 0, 0)) := by decide +kernel
theorem xr_28_69 : X_row 28 69 = some (69, (.invokevirtual 82, 3), (29, 18, 0)) := by decide +kernel
theorem xr_28_72 : X_row 28 72 = some (72, (.aload_n 0, 1), (0, 0, 0)) := by decide +kernel
theorem xr_28_73 : X_row 28 73 = some (73, (.getfield 22, 3), (1, 5, 32)) := by decide +kernel
theorem xr_28_76 : X_row 28 76 = some (76, (.iload_n 3, 1), (0, 0, 0)) := by decide +kernel
theorem xr_28_77 : X_row 28 77 = some (77, (.aload_n 0, 1), (0, 0, 0)) := by decide +kernel
theorem xr_28_78 : X_row 28 78 = some (78, (.iload_n 3, 1), (0, 0, 0)) := by decide +kernel
theorem xr_28_79 : X_row 28 79 = some (79, (.iconst (-1), 1), (0, 0, 0)) := by decide +kernel
theorem xr_28_80 : X_row 28 80 = some (80, (.invokevirtual 44, 3), (25, 26, 0)) := by decide +kernel
theorem xr_28_83 : X_row 28 83 = some (83, (.aload_n 0, 1), (0, 0, 0)) := by decide +kernel
theorem xr_28_84 : X_row 28 84 = some (84, (.iload_n 3, 1), (0, 0, 0)) := by decide +kernel
theorem xr_28_85 : X_row 28 85 = some (85, (.iconst (-1), 1), (0, 0, 0)) := by decide +kernel
theorem xr_28_86 : X_row 28 86 = some (86, (.invokevirtual 85, 3), (26, 32, 0)) := by decide +kernel
theorem xr_28_89 : X_row 28 89 = some (89, (.invokestatic 58, 3), (115, 17, 0)) := by decide +kernel
theorem xr_28_92 : X_row 28 92 = some (92, (.lastore, 1), (0, 0, 0)) := by decide +kernel
theorem xr_28_93 : X_row 28 93 = some (93, (.iconst 0, 1), (0, 0, 0)) := by decide +kernel
theorem xr_28_94 : X_row 28 94 = some (94, (.istore 4, 2), (0, 0, 0)) := by decide +kernel
theorem xr_28_96 : X_row 28 96 = some (96, (.iload 4, 2), (0, 0, 0)) := by decide +kernel
theorem xr_28_98 : X_row 28 98 = some (98, (.aload_n 0, 1), (0, 0, 0)) := by decide +kernel
theorem xr_28_99 : X_row 28 99 = some (99, (.getfield 32, 3), (1, 0, 22)) := by decide +kernel
theorem xr_28_102 : X_row 28 102 = some (102, (.getfield 62, 3), (0, 2, 15)) := by decide +kernel
theorem xr_28_105 : X_row 28 105 = some (105, (.if_icmp .ge 24, 3), (0, 0, 0)) := by decide +kernel
theorem xr_28_108 : X_row 28 108 = some (108, (.aload_n 0, 1), (0, 0, 0)) := by decide +kernel
theorem xr_28_109 : X_row 28 109 = some (109, (.iload_n 3, 1), (0, 0, 0)) := by decide +kernel
theorem xr_28_110 : X_row 28 110 = some (110, (.iload 4, 2), (0, 0, 0)) := by decide +kernel
theorem xr_28_112 : X_row 28 112 = some (112, (.invokevirtual 88, 3), (30, 34, 0)) := by decide +kernel
theorem xr_28_115 : X_row 28 115 = some (115, (.aload_n 0, 1), (0, 0, 0)) := by decide +kernel
theorem xr_28_116 : X_row 28 116 = some (116, (.iload 4, 2), (0, 0, 0)) := by decide +kernel
theorem xr_28_118 : X_row 28 118 = some (118, (.iload_n 1, 1), (0, 0, 0)) := by decide +kernel
theorem xr_28_119 : X_row 28 119 = some (119, (.iload_n 2, 1), (0, 0, 0)) := by decide +kernel
theorem xr_28_120 : X_row 28 120 = some (120, (.invokevirtual 91, 3), (31, 36, 0)) := by decide +kernel
theorem xr_28_123 : X_row 28 123 = some (123, (.iinc 4 1, 3), (0, 0, 0)) := by decide +kernel
theorem xr_28_126 : X_row 28 126 = some (126, (.goto (-30), 3), (0, 0, 0)) := by decide +kernel
theorem xr_28_129 : X_row 28 129 = some (129, (.return_, 1), (0, 0, 0)) := by decide +kernel
theorem xn_27 : X_nL 27 = 3 := by decide +kernel
theorem xf_27 : X_na 27 = 0 ∧ X_ci 27 = 1 ∧ X_rt 27 = none := by decide +kernel
theorem xn_28 : X_nL 28 = 7 := by decide +kernel
theorem xf_28 : X_na 28 = 2 ∧ X_ci 28 = 1 ∧ X_rt 28 = none := by decide +kernel
set_option maxHeartbeats 1600000 in
theorem c_fillStretch (sc : X_Sc) (S : X_S) (oK : Int → Int64) (oW : Int → Int64) (oA : Int → Int64) (oH : Int → Int64) (tl : Int → Int64) (B : Nat) (rc : Int) (rn : Int → Int64) (kn : Int → Int64) (G : X_G) (tn : Int) (fl : Int) (i : Int) (j : Int) (hO501 : S.1 501 = .inr (6, [.int (iI tn), .ref 502, .ref 503])) (hO511 : S.1 511 = .inr (1, [.ref B, .ref 501, .int (iI fl), .ref 512, .ref 513, .ref 514, .ref 515, .ref 516])) (hA512 : S.1 512 = .inl (.long, 5115, .inr (.inl fun k : Nat => oK (k : Int)))) (hA513 : S.1 513 = .inl (.long, 13950, .inr (.inl fun k : Nat => oW (k : Int)))) (hA514 : S.1 514 = .inl (.long, 465, .inr (.inl fun k : Nat => oA (k : Int)))) (hA515 : S.1 515 = .inl (.long, 55800, .inr (.inl fun k : Nat => oH (k : Int)))) (hA516 : S.1 516 = .inl (.long, 7200, .inr (.inl fun k : Nat => tl (k : Int)))) (hB : B = 4 ∨ B = 250) (hb : C_bk S B rc (gk G) (gw G) rn (gl G) kn (ga G)) (hs : C_ws S B (gD G) (gW G)) (hG : X_Gok G) (hA502 : S.1 502 = .inl (.long, 30, .inr (.inl fun k : Nat => (gt G) (k : Int)))) (hij : 0 ≤ i ∧ i < j ∧ j ≤ tn ∧ tn ≤ 30) (hC : ∀ i2 j2, 0 ≤ i2 → i2 < j2 → j2 ≤ j → (j2 = j → i < i2) → X_rw G (-2) i2 j2 oK oW oA oH) (ht : ∀ w, 0 ≤ w → w < gw G → ∀ q, i < q → q < j → X_tl G (-2) w q j tl) : X_T sc 28 (0, [(0, .ref 511), (1, .int (iI i)), (2, .int (iI j))], [], S) (fun v S' => ∃ (oK1 : Int → Int64) (oW1 : Int → Int64) (oA1 : Int → Int64) (oH1 : Int → Int64) (tl1 : Int → Int64), v = none ∧ X_rw G (-2) i j oK1 oW1 oA1 oH1 ∧ (∀ w, 0 ≤ w → w < gw G → ∀ q, i ≤ q → q < j → X_tl G (-2) w q j tl1) ∧ (∀ q, ¬ (X_ro i j * 11 ≤ q ∧ q < X_ro i j * 11 + 11) → oK1 q = oK q) ∧ (∀ q, ¬ (X_ro i j * 30 ≤ q ∧ q < X_ro i j * 30 + 30) → oW1 q = oW q) ∧ (∀ q, ¬ q = X_ro i j → oA1 q = oA q) ∧ (∀ q, ¬ (X_ro i j * 120 ≤ q ∧ q < X_ro i j * 120 + 120) → oH1 q = oH q) ∧ S'.1 512 = .inl (.long, 5115, .inr (.inl fun k : Nat => oK1 (k : Int))) ∧ S'.1 513 = .inl (.long, 13950, .inr (.inl fun k : Nat => oW1 (k : Int))) ∧ S'.1 514 = .inl (.long, 465, .inr (.inl fun k : Nat => oA1 (k : Int))) ∧ S'.1 515 = .inl (.long, 55800, .inr (.inl fun k : Nat => oH1 (k : Int))) ∧ S'.1 516 = .inl (.long, 7200, .inr (.inl fun k : Nat => tl1 (k : Int))) ∧ (X_Fr (fun q => q = 512 ∨ q = 513 ∨ q = 514 ∨ q = 515 ∨ q = 516) S S')) := by
  obtain ⟨hb0, hb1, hb2, hb3, hb4, ⟨f, hb5, hf⟩, ⟨hrc, hrcb⟩, ⟨hkc, hkcb⟩, ⟨hwc, hwcb⟩⟩ := id hb
  have hro := X_ro_r hij.1 hij.2.1 (show j ≤ 30 by omega)
  refine X_QI (fun Q hQ => ?_)
  refine T_p xr_28_0 xn_28 (pc' := 1) (ls' := [(0, .ref 511), (1, .int (iI i)), (2, .int (iI j))]) (st' := [.int (iI i)]) rfl ?_
  refine T_p xr_28_1 xn_28 (pc' := 2) (ls' := [(0, .ref 511), (1, .int (iI i)), (2, .int (iI j))]) (st' := [.int (iI j), .int (iI i)]) rfl ?_
  refine T_cs xr_28_2 (by decide) xf_20.1 xn_20 (as := [.int (iI i), .int (iI j)]) (r := []) rfl (Nat.le_of_ble_eq_true rfl) (Nat.le_of_ble_eq_true rfl) (pc' := 5) rfl (ls' := [(0, .int (iI i)), (1, .int (iI j))]) rfl ?_
  refine T_mono (c_rowOf sc S i j (by omega)) (fun v788 S789 h790 => ?_)
  rcases h790 with ⟨hv791, hf792⟩
  rw [hv791]
  rw [hf792]
  have hr793 := X_ro_r (i := i) (j := j) (by omega) (by omega) (by omega)
  show X_T sc 28 (5, [(0, .ref 511), (1, .int (iI i)), (2, .int (iI j))], [.int (iI (X_ro i j))], S) _
  refine T_p xr_28_5 xn_28 (pc' := 6) (ls' := [(3, .int (iI (X_ro i j))), (0, .ref 511), (1, .int (iI i)), (2, .int (iI j))]) (st' := []) rfl ?_
  refine T_p xr_28_6 xn_28 (pc' := 7) (ls' := [(3, .int (iI (X_ro i j))), (0, .ref 511), (1, .int (iI i)), (2, .int (iI j))]) (st' := [.int (iI 0)]) rfl ?_
  refine T_p xr_28_7 xn_28 (pc' := 9) (ls' := [(4, .int (iI 0)), (3, .int (iI (X_ro i j))), (0, .ref 511), (1, .int (iI i)), (2, .int (iI j))]) (st' := []) rfl ?_
  have L794 : ∀ (m796 : Nat) (S799 : X_S) (w : Int) (tl1 : Int → Int64) (oW1 : Int → Int64) (htl1 : S799.1 516 = .inl (.long, 7200, .inr (.inl fun k : Nat => tl1 (k : Int)))) (hoW1 : S799.1 513 = .inl (.long, 13950, .inr (.inl fun k : Nat => oW1 (k : Int)))) (hF798 : X_Fr (fun q => q = 516 ∨ q = 513) S S799) (hw : 0 ≤ w ∧ w ≤ gw G) (hT1 : ∀ w, 0 ≤ w → w < gw G → ∀ q, i < q → q < j → X_tl G (-2) w q j tl1) (hW1 : ∀ v, 0 ≤ v → v < w → oW1 (X_ro i j * 30 + v) = X_st (-2) ((X_T_ G).1 v i j)) (hOW : ∀ q, ¬ (X_ro i j * 30 ≤ q ∧ q < X_ro i j * 30 + 30) → oW1 q = oW q) (hm797 : gw G - w < m796), X_T sc 28 (9, [(4, .int (iI w)), (3, .int (iI (X_ro i j))), (0, .ref 511), (1, .int (iI i)), (2, .int (iI j))], [], S799) Q := by
    intro m796
    induction m796 with
    | zero =>
      intro S799 w tl1 oW1 htl1 hoW1 hF798 hw hT1 hW1 hOW hm797
      exact (show False by omega).elim
    | succ m796 ih795 =>
      intro S799 w tl1 oW1 htl1 hoW1 hF798 hw hT1 hW1 hOW hm797
      refine T_p xr_28_9 xn_28 (pc' := 11) (ls' := [(4, .int (iI w)), (3, .int (iI (X_ro i j))), (0, .ref 511), (1, .int (iI i)), (2, .int (iI j))]) (st' := [.int (iI w)]) rfl ?_
      refine T_p xr_28_11 xn_28 (pc' := 12) (ls' := [(4, .int (iI w)), (3, .int (iI (X_ro i j))), (0, .ref 511), (1, .int (iI i)), (2, .int (iI j))]) (st' := [.ref 511, .int (iI w)]) rfl ?_
      have h800 := (hF798.1 511 (by omega)).trans (hO511)
      refine T_get xr_28_12 h800 rfl (v := .ref B) rfl (pc' := 15) rfl ?_
      have h801 := (hF798.1 B (by omega)).trans (hb0)
      refine T_get xr_28_15 h801 rfl (v := .int (iI (gw G))) rfl (pc' := 18) rfl ?_
      refine T_zicmp_ge xr_28_18 (t := 66) (pc' := 21) rfl rfl (fun c802 => ?_) (fun c802 => ?_)
      · skip
        have c802 : (gw G) ≤ w := c802
        refine T_p xr_28_66 xn_28 (pc' := 67) (ls' := [(4, .int (iI w)), (3, .int (iI (X_ro i j))), (0, .ref 511), (1, .int (iI i)), (2, .int (iI j))]) (st' := [.ref 511]) rfl ?_
        refine T_p xr_28_67 xn_28 (pc' := 68) (ls' := [(4, .int (iI w)), (3, .int (iI (X_ro i j))), (0, .ref 511), (1, .int (iI i)), (2, .int (iI j))]) (st' := [.int (iI i), .ref 511]) rfl ?_
        refine T_p xr_28_68 xn_28 (pc' := 69) (ls' := [(4, .int (iI w)), (3, .int (iI (X_ro i j))), (0, .ref 511), (1, .int (iI i)), (2, .int (iI j))]) (st' := [.int (iI j), .int (iI i), .ref 511]) rfl ?_
        refine T_cv (S := S799) (q := 511) xr_28_69 xf_29.1 xf_29.2.1 xn_29 (as := [.int (iI i), .int (iI j)]) (r := []) rfl h800 (Nat.le_of_ble_eq_true rfl) (Nat.le_of_ble_eq_true rfl) (pc' := 72) rfl (ls' := [(0, .ref 511), (1, .int (iI i)), (2, .int (iI j))]) rfl ?_
        have h803 := (hF798.1 512 (by omega)).trans (hA512)
        have h804 := (hF798.1 501 (by omega)).trans (hO501)
        have h805 := (hF798.1 (B + 1) (by omega)).trans (hb1)
        have h806 := (hF798.1 (B + 2) (by omega)).trans (hb2)
        have h807 := (hF798.1 (B + 3) (by omega)).trans (hb3)
        have h808 := (hF798.1 (B + 4) (by omega)).trans (hb4)
        have h809 := (hF798.1 (B + 5) (by omega)).trans (hb5)
        have hs810 : C_ws S799 B (gD G) (gW G) := C_ws.fr (P := fun q => 501 ≤ q ∧ q ≤ 529) hs ((X_Fr.rf).tr (X_Fr.mono ⟨hF798.1, hF798.2⟩ (fun q hq => (by omega)))) (fun k h1 h2 => by omega)
        have h811 := (hF798.1 502 (by omega)).trans (hA502)
        refine T_mono (c_fillKinds sc S799 oK oW1 B rc rn kn G tn fl i j h804 h800 h803 hoW1 hB ⟨h801, h805, h806, h807, h808, ⟨f, h809, hf⟩, ⟨by omega, by omega⟩, ⟨by omega, by omega⟩, ⟨by omega, by omega⟩⟩ hs810 hG h811 (by omega) (fun hb => by
                have hb1 := hb.1
                have hc := hC (i + 1) (j - 1) (by omega) (by omega) (by omega) (fun e => absurd e (by omega))
                have hne := X_ro_ne (i := i + 1) (j := j - 1) (i' := i) (j' := j) (by omega) (by omega) (by omega)
                have c1 := hG.1
                exact ⟨hc.1, fun v h1 h2 => (hOW _ (by omega)).trans (hc.2.1 v h1 h2)⟩)) (fun v812 S813 h814 => ?_)
        rcases h814 with ⟨oK815, hv816, hp817, hp818, ha819, hf820⟩
        rw [hv816]
        show X_T sc 28 (72, [(4, .int (iI w)), (3, .int (iI (X_ro i j))), (0, .ref 511), (1, .int (iI i)), (2, .int (iI j))], [], S813) _
        refine T_p xr_28_72 xn_28 (pc' := 73) (ls' := [(4, .int (iI w)), (3, .int (iI (X_ro i j))), (0, .ref 511), (1, .int (iI i)), (2, .int (iI j))]) (st' := [.ref 511]) rfl ?_
        have h821 := (hf820.1 511 (by omega)).trans (h800)
        refine T_get xr_28_73 h821 rfl (v := .ref 514) rfl (pc' := 76) rfl ?_
        refine T_p xr_28_76 xn_28 (pc' := 77) (ls' := [(4, .int (iI w)), (3, .int (iI (X_ro i j))), (0, .ref 511), (1, .int (iI i)), (2, .int (iI j))]) (st' := [.int (iI (X_ro i j)), .ref 514]) rfl ?_
        refine T_p xr_28_77 xn_28 (pc' := 78) (ls' := [(4, .int (iI w)), (3, .int (iI (X_ro i j))), (0, .ref 511), (1, .int (iI i)), (2, .int (iI j))]) (st' := [.ref 511, .int (iI (X_ro i j)), .ref 514]) rfl ?_
        refine T_p xr_28_78 xn_28 (pc' := 79) (ls' := [(4, .int (iI w)), (3, .int (iI (X_ro i j))), (0, .ref 511), (1, .int (iI i)), (2, .int (iI j))]) (st' := [.int (iI (X_ro i j)), .ref 511, .int (iI (X_ro i j)), .ref 514]) rfl ?_
        refine T_p xr_28_79 xn_28 (pc' := 80) (ls' := [(4, .int (iI w)), (3, .int (iI (X_ro i j))), (0, .ref 511), (1, .int (iI i)), (2, .int (iI j))]) (st' := [.int (iI (-1)), .int (iI (X_ro i j)), .ref 511, .int (iI (X_ro i j)), .ref 514]) rfl ?_
        refine T_cv (S := S813) (q := 511) xr_28_80 xf_25.1 xf_25.2.1 xn_25 (as := [.int (iI (X_ro i j)), .int (iI (-1))]) (r := [.int (iI (X_ro i j)), .ref 514]) rfl h821 (Nat.le_of_ble_eq_true rfl) (Nat.le_of_ble_eq_true rfl) (pc' := 83) rfl (ls' := [(0, .ref 511), (1, .int (iI (X_ro i j))), (2, .int (iI (-1)))]) rfl ?_
        have h822 := (hf820.1 B (by omega)).trans (h801)
        have h823 := (hf820.1 (B + 1) (by omega)).trans (h805)
        have h824 := (hf820.1 (B + 2) (by omega)).trans (h806)
        have h825 := (hf820.1 (B + 3) (by omega)).trans (h807)
        have h826 := (hf820.1 (B + 4) (by omega)).trans (h808)
        have h827 := (hf820.1 (B + 5) (by omega)).trans (h809)
        have hs828 : C_ws S813 B (gD G) (gW G) := C_ws.fr (P := fun q => 501 ≤ q ∧ q ≤ 529) hs810 ((X_Fr.rf).tr (X_Fr.mono ⟨hf820.1, hf820.2⟩ (fun q hq => (by omega)))) (fun k h1 h2 => by omega)
        refine T_mono (c_sumK sc S813 oK815 B rc rn kn G tn fl (X_ro i j) (-1) (fun z => X_nm G z i j + (X_T_ G).2 z i j) h821 ha819 hB ⟨h822, h823, h824, h825, h826, ⟨f, h827, hf⟩, ⟨by omega, by omega⟩, ⟨by omega, by omega⟩, ⟨by omega, by omega⟩⟩ hs828 hG (by omega) hp817) (fun v829 S830 h831 => ?_)
        rcases h831 with ⟨hv832, hf833⟩
        rw [hv832]
        rw [hf833]
        show X_T sc 28 (83, [(4, .int (iI w)), (3, .int (iI (X_ro i j))), (0, .ref 511), (1, .int (iI i)), (2, .int (iI j))], [.long (X_st (-2) (X_Su (fun k => X_if (X_bt (-1) k) ((fun z => X_nm G z i j + (X_T_ G).2 z i j) k)) 0 (gk G))), .int (iI (X_ro i j)), .ref 514], S813) _
        refine T_p xr_28_83 xn_28 (pc' := 84) (ls' := [(4, .int (iI w)), (3, .int (iI (X_ro i j))), (0, .ref 511), (1, .int (iI i)), (2, .int (iI j))]) (st' := [.ref 511, .long (X_st (-2) (X_Su (fun k => X_if (X_bt (-1) k) ((fun z => X_nm G z i j + (X_T_ G).2 z i j) k)) 0 (gk G))), .int (iI (X_ro i j)), .ref 514]) rfl ?_
        refine T_p xr_28_84 xn_28 (pc' := 85) (ls' := [(4, .int (iI w)), (3, .int (iI (X_ro i j))), (0, .ref 511), (1, .int (iI i)), (2, .int (iI j))]) (st' := [.int (iI (X_ro i j)), .ref 511, .long (X_st (-2) (X_Su (fun k => X_if (X_bt (-1) k) ((fun z => X_nm G z i j + (X_T_ G).2 z i j) k)) 0 (gk G))), .int (iI (X_ro i j)), .ref 514]) rfl ?_
        refine T_p xr_28_85 xn_28 (pc' := 86) (ls' := [(4, .int (iI w)), (3, .int (iI (X_ro i j))), (0, .ref 511), (1, .int (iI i)), (2, .int (iI j))]) (st' := [.int (iI (-1)), .int (iI (X_ro i j)), .ref 511, .long (X_st (-2) (X_Su (fun k => X_if (X_bt (-1) k) ((fun z => X_nm G z i j + (X_T_ G).2 z i j) k)) 0 (gk G))), .int (iI (X_ro i j)), .ref 514]) rfl ?_
        refine T_cv (S := S813) (q := 511) xr_28_86 xf_26.1 xf_26.2.1 xn_26 (as := [.int (iI (X_ro i j)), .int (iI (-1))]) (r := [.long (X_st (-2) (X_Su (fun k => X_if (X_bt (-1) k) ((fun z => X_nm G z i j + (X_T_ G).2 z i j) k)) 0 (gk G))), .int (iI (X_ro i j)), .ref 514]) rfl h821 (Nat.le_of_ble_eq_true rfl) (Nat.le_of_ble_eq_true rfl) (pc' := 89) rfl (ls' := [(0, .ref 511), (1, .int (iI (X_ro i j))), (2, .int (iI (-1)))]) rfl ?_
        have h834 := (hf820.1 513 (by omega)).trans (hoW1)
        refine T_mono (c_sumW sc S813 oW1 B rc rn kn G tn fl (X_ro i j) (-1) (fun v => (X_T_ G).1 v i j) h821 h834 hB ⟨h822, h823, h824, h825, h826, ⟨f, h827, hf⟩, ⟨by omega, by omega⟩, ⟨by omega, by omega⟩, ⟨by omega, by omega⟩⟩ hs828 hG (by omega) (fun v h1 h2 => hW1 v h1 (by omega))) (fun v835 S836 h837 => ?_)
        rcases h837 with ⟨hv838, hf839⟩
        rw [hv838]
        rw [hf839]
        show X_T sc 28 (89, [(4, .int (iI w)), (3, .int (iI (X_ro i j))), (0, .ref 511), (1, .int (iI i)), (2, .int (iI j))], [.long (X_st (-2) (X_Su (fun k => X_if (X_bt (-1) k) ((fun v => (X_T_ G).1 v i j) k)) 0 (gw G))), .long (X_st (-2) (X_Su (fun k => X_if (X_bt (-1) k) ((fun z => X_nm G z i j + (X_T_ G).2 z i j) k)) 0 (gk G))), .int (iI (X_ro i j)), .ref 514], S813) _
        refine T_cs xr_28_89 (by decide) xf_115.1 xn_115 (as := [.long (X_st (-2) (X_Su (fun k => X_if (X_bt (-1) k) ((fun z => X_nm G z i j + (X_T_ G).2 z i j) k)) 0 (gk G))), .long (X_st (-2) (X_Su (fun k => X_if (X_bt (-1) k) ((fun v => (X_T_ G).1 v i j) k)) 0 (gw G)))]) (r := [.int (iI (X_ro i j)), .ref 514]) rfl (Nat.le_of_ble_eq_true rfl) (Nat.le_of_ble_eq_true rfl) (pc' := 92) rfl (ls' := [(0, .long (X_st (-2) (X_Su (fun k => X_if (X_bt (-1) k) ((fun z => X_nm G z i j + (X_T_ G).2 z i j) k)) 0 (gk G)))), (2, .long (X_st (-2) (X_Su (fun k => X_if (X_bt (-1) k) ((fun v => (X_T_ G).1 v i j) k)) 0 (gw G))))]) rfl ?_
        refine T_mono (c_plus sc S813 (X_Su (fun k => X_if (X_bt (-1) k) ((fun z => X_nm G z i j + (X_T_ G).2 z i j) k)) 0 (gk G)) (X_Su (fun k => X_if (X_bt (-1) k) ((fun v => (X_T_ G).1 v i j) k)) 0 (gw G))) (fun v840 S841 h842 => ?_)
        rcases h842 with ⟨hv843, hf844⟩
        rw [hv843]
        rw [hf844]
        show X_T sc 28 (92, [(4, .int (iI w)), (3, .int (iI (X_ro i j))), (0, .ref 511), (1, .int (iI i)), (2, .int (iI j))], [.long (X_st (-2) ((X_Su (fun k => X_if (X_bt (-1) k) ((fun z => X_nm G z i j + (X_T_ G).2 z i j) k)) 0 (gk G)) + (X_Su (fun k => X_if (X_bt (-1) k) ((fun v => (X_T_ G).1 v i j) k)) 0 (gw G)))), .int (iI (X_ro i j)), .ref 514], S813) _
        refine T_le (y := (X_st (-2) (X_all G i j))) (by rw [← X_all_m hG]) ?_
        have h845 := (hf820.1 514 (by omega)).trans ((hF798.1 514 (by omega)).trans (hA514))
        refine T_zlast xr_28_92 h845 (pc' := 93) rfl (fun S846 h847 n848 e849 => ?_)
        refine T_p xr_28_93 xn_28 (pc' := 94) (ls' := [(4, .int (iI w)), (3, .int (iI (X_ro i j))), (0, .ref 511), (1, .int (iI i)), (2, .int (iI j))]) (st' := [.int (iI 0)]) rfl ?_
        refine T_p xr_28_94 xn_28 (pc' := 96) (ls' := [(4, .int (iI 0)), (3, .int (iI (X_ro i j))), (0, .ref 511), (1, .int (iI i)), (2, .int (iI j))]) (st' := []) rfl ?_
        have h855 := (n848 515 (by decide)).trans ((hf820.1 515 (by omega)).trans ((hF798.1 515 (by omega)).trans (hA515)))
        have h856 := (n848 516 (by decide)).trans ((hf820.1 516 (by omega)).trans (htl1))
        have L850 : ∀ (m852 : Nat) (S857 : X_S) (w2 : Int) (oH1 : Int → Int64) (tl2 : Int → Int64) (hoH1 : S857.1 515 = .inl (.long, 55800, .inr (.inl fun k : Nat => oH1 (k : Int)))) (htl2 : S857.1 516 = .inl (.long, 7200, .inr (.inl fun k : Nat => tl2 (k : Int)))) (hF854 : X_Fr (fun q => q = 515 ∨ q = 516) S846 S857) (hw2 : 0 ≤ w2 ∧ w2 ≤ gw G) (hH1 : ∀ w, 0 ≤ w → w < w2 → ∀ e, 0 ≤ e → e < gD G w 3 0 → gW G w e = 0 → oH1 ((X_ro i j * 30 + w) * 4 + gD G w 8 e) = X_st (-2) (X_Hw G (X_T_ G) w e i j)) (hOH : ∀ q, ¬ (X_ro i j * 120 ≤ q ∧ q < X_ro i j * 120 + 120) → oH1 q = oH q) (hT2 : ∀ w, 0 ≤ w → w < gw G → ∀ q, i < q → q < j → X_tl G (-2) w q j tl2) (hT3 : ∀ w, 0 ≤ w → w < w2 → X_tl G (-2) w i j tl2) (hm853 : gw G - w2 < m852), X_T sc 28 (96, [(4, .int (iI w2)), (3, .int (iI (X_ro i j))), (0, .ref 511), (1, .int (iI i)), (2, .int (iI j))], [], S857) Q := by
          intro m852
          induction m852 with
          | zero =>
            intro S857 w2 oH1 tl2 hoH1 htl2 hF854 hw2 hH1 hOH hT2 hT3 hm853
            exact (show False by omega).elim
          | succ m852 ih851 =>
            intro S857 w2 oH1 tl2 hoH1 htl2 hF854 hw2 hH1 hOH hT2 hT3 hm853
            refine T_p xr_28_96 xn_28 (pc' := 98) (ls' := [(4, .int (iI w2)), (3, .int (iI (X_ro i j))), (0, .ref 511), (1, .int (iI i)), (2, .int (iI j))]) (st' := [.int (iI w2)]) rfl ?_
            refine T_p xr_28_98 xn_28 (pc' := 99) (ls' := [(4, .int (iI w2)), (3, .int (iI (X_ro i j))), (0, .ref 511), (1, .int (iI i)), (2, .int (iI j))]) (st' := [.ref 511, .int (iI w2)]) rfl ?_
            have h858 := (hF854.1 511 (by omega)).trans ((n848 511 (by decide)).trans (h821))
            refine T_get xr_28_99 h858 rfl (v := .ref B) rfl (pc' := 102) rfl ?_
            have h859 := (hF854.1 B (by omega)).trans ((n848 B (by omega)).trans (h822))
            refine T_get xr_28_102 h859 rfl (v := .int (iI (gw G))) rfl (pc' := 105) rfl ?_
            refine T_zicmp_ge xr_28_105 (t := 129) (pc' := 108) rfl rfl (fun c860 => ?_) (fun c860 => ?_)
            · skip
              have c860 : (gw G) ≤ w2 := c860
              refine T_vret xr_28_129 xf_28.2.2 ?_
              refine hQ _ _ ?_
              have h861 := (hF854.1 512 (by omega)).trans ((n848 512 (by decide)).trans (ha819))
              have h862 := (hF854.1 513 (by omega)).trans ((n848 513 (by decide)).trans (h834))
              have h863 := (hF854.1 514 (by omega)).trans (h847)
              exact ⟨oK815, oW1, (X_ug oA (X_ro i j) (X_st (-2) (X_all G i j))), oH1, tl2, rfl, ⟨hp817, fun v h1 h2 => hW1 v h1 (by omega), X_ug_s _ _ _, fun v h1 h2 => hH1 v h1 (by omega)⟩, (fun v h1 h2 q h3 h4 => by
                    by_cases hq : q = i
                    · subst hq; exact hT3 v h1 (by omega)
                    · exact hT2 v h1 h2 q (by omega) h4), hp818, hOW, (fun q hq => X_ug_n _ _ hq), hOH, h861, h862, h863, hoH1, htl2, ((((X_Fr.rf).tr (X_Fr.mono ⟨hF798.1, hF798.2⟩ (fun q hq => (by omega)))).tr (X_Fr.mono ⟨hf820.1, hf820.2⟩ (fun q hq => (by omega)))).tr (X_Fr.of n848 e849 (by omega))).tr (X_Fr.mono ⟨hF854.1, hF854.2⟩ (fun q hq => (by omega)))⟩
            · skip
              have c860 : ¬ ((gw G) ≤ w2) := c860
              refine T_p xr_28_108 xn_28 (pc' := 109) (ls' := [(4, .int (iI w2)), (3, .int (iI (X_ro i j))), (0, .ref 511), (1, .int (iI i)), (2, .int (iI j))]) (st' := [.ref 511]) rfl ?_
              refine T_p xr_28_109 xn_28 (pc' := 110) (ls' := [(4, .int (iI w2)), (3, .int (iI (X_ro i j))), (0, .ref 511), (1, .int (iI i)), (2, .int (iI j))]) (st' := [.int (iI (X_ro i j)), .ref 511]) rfl ?_
              refine T_p xr_28_110 xn_28 (pc' := 112) (ls' := [(4, .int (iI w2)), (3, .int (iI (X_ro i j))), (0, .ref 511), (1, .int (iI i)), (2, .int (iI j))]) (st' := [.int (iI w2), .int (iI (X_ro i j)), .ref 511]) rfl ?_
              refine T_cv (S := S857) (q := 511) xr_28_112 xf_30.1 xf_30.2.1 xn_30 (as := [.int (iI (X_ro i j)), .int (iI w2)]) (r := []) rfl h858 (Nat.le_of_ble_eq_true rfl) (Nat.le_of_ble_eq_true rfl) (pc' := 115) rfl (ls' := [(0, .ref 511), (1, .int (iI (X_ro i j))), (2, .int (iI w2))]) rfl ?_
              have h864 := (hF854.1 512 (by omega)).trans ((n848 512 (by decide)).trans (ha819))
              have h865 := (hF854.1 513 (by omega)).trans ((n848 513 (by decide)).trans (h834))
              have h866 := (hF854.1 514 (by omega)).trans (h847)
              have h867 := (hF854.1 (B + 1) (by omega)).trans ((n848 (B + 1) (by omega)).trans (h823))
              have h868 := (hF854.1 (B + 2) (by omega)).trans ((n848 (B + 2) (by omega)).trans (h824))
              have h869 := (hF854.1 (B + 3) (by omega)).trans ((n848 (B + 3) (by omega)).trans (h825))
              have h870 := (hF854.1 (B + 4) (by omega)).trans ((n848 (B + 4) (by omega)).trans (h826))
              have h871 := (hF854.1 (B + 5) (by omega)).trans ((n848 (B + 5) (by omega)).trans (h827))
              have hs872 : C_ws S857 B (gD G) (gW G) := C_ws.fr (P := fun q => 501 ≤ q ∧ q ≤ 529) hs828 (((X_Fr.rf).tr (X_Fr.of n848 e849 (by omega))).tr (X_Fr.mono ⟨hF854.1, hF854.2⟩ (fun q hq => (by omega)))) (fun k h1 h2 => by omega)
              refine T_mono (c_fillHoles sc S857 oK815 oW1 (X_ug oA (X_ro i j) (X_st (-2) (X_all G i j))) oH1 B rc rn kn G tn fl i j w2 h858 h864 h865 h866 hoH1 hB ⟨h859, h867, h868, h869, h870, ⟨f, h871, hf⟩, ⟨by omega, by omega⟩, ⟨by omega, by omega⟩, ⟨by omega, by omega⟩⟩ hs872 hG (by omega) (by omega) hp817 (fun v h1 h2 => hW1 v h1 (by omega)) (X_ug_s _ _ _)) (fun v873 S874 h875 => ?_)
              rcases h875 with ⟨oH876, hv877, hp878, hp879, ha880, hf881⟩
              rw [hv877]
              show X_T sc 28 (115, [(4, .int (iI w2)), (3, .int (iI (X_ro i j))), (0, .ref 511), (1, .int (iI i)), (2, .int (iI j))], [], S874) _
              refine T_p xr_28_115 xn_28 (pc' := 116) (ls' := [(4, .int (iI w2)), (3, .int (iI (X_ro i j))), (0, .ref 511), (1, .int (iI i)), (2, .int (iI j))]) (st' := [.ref 511]) rfl ?_
              refine T_p xr_28_116 xn_28 (pc' := 118) (ls' := [(4, .int (iI w2)), (3, .int (iI (X_ro i j))), (0, .ref 511), (1, .int (iI i)), (2, .int (iI j))]) (st' := [.int (iI w2), .ref 511]) rfl ?_
              refine T_p xr_28_118 xn_28 (pc' := 119) (ls' := [(4, .int (iI w2)), (3, .int (iI (X_ro i j))), (0, .ref 511), (1, .int (iI i)), (2, .int (iI j))]) (st' := [.int (iI i), .int (iI w2), .ref 511]) rfl ?_
              refine T_p xr_28_119 xn_28 (pc' := 120) (ls' := [(4, .int (iI w2)), (3, .int (iI (X_ro i j))), (0, .ref 511), (1, .int (iI i)), (2, .int (iI j))]) (st' := [.int (iI j), .int (iI i), .int (iI w2), .ref 511]) rfl ?_
              have h882 := (hf881.1 511 (by omega)).trans (h858)
              refine T_cv (S := S874) (q := 511) xr_28_120 xf_31.1 xf_31.2.1 xn_31 (as := [.int (iI w2), .int (iI i), .int (iI j)]) (r := []) rfl h882 (Nat.le_of_ble_eq_true rfl) (Nat.le_of_ble_eq_true rfl) (pc' := 123) rfl (ls' := [(0, .ref 511), (1, .int (iI w2)), (2, .int (iI i)), (3, .int (iI j))]) rfl ?_
              have h883 := (hf881.1 516 (by omega)).trans (htl2)
              have h884 := (hf881.1 501 (by omega)).trans ((hF854.1 501 (by omega)).trans ((n848 501 (by decide)).trans ((hf820.1 501 (by omega)).trans (h804))))
              have h885 := (hf881.1 B (by omega)).trans (h859)
              have h886 := (hf881.1 (B + 1) (by omega)).trans (h867)
              have h887 := (hf881.1 (B + 2) (by omega)).trans (h868)
              have h888 := (hf881.1 (B + 3) (by omega)).trans (h869)
              have h889 := (hf881.1 (B + 4) (by omega)).trans (h870)
              have h890 := (hf881.1 (B + 5) (by omega)).trans (h871)
              have hs891 : C_ws S874 B (gD G) (gW G) := C_ws.fr (P := fun q => 501 ≤ q ∧ q ≤ 529) hs872 ((X_Fr.rf).tr (X_Fr.mono ⟨hf881.1, hf881.2⟩ (fun q hq => (by omega)))) (fun k h1 h2 => by omega)
              have h892 := (hf881.1 502 (by omega)).trans ((hF854.1 502 (by omega)).trans ((n848 502 (by decide)).trans ((hf820.1 502 (by omega)).trans (h811))))
              refine T_mono (c_fillTails sc S874 oH876 tl2 B rc rn kn G tn fl w2 i j h884 h882 ha880 h883 hB ⟨h885, h886, h887, h888, h889, ⟨f, h890, hf⟩, ⟨by omega, by omega⟩, ⟨by omega, by omega⟩, ⟨by omega, by omega⟩⟩ hs891 hG h892 (by omega) (by omega) (fun q h1 h2 => hT2 w2 (by omega) (by omega) q h1 h2) (fun e g1 g2 g3 m h1 h2 => by
                      have hs := (hG.2.2.2 w2 (by omega) (by omega)).2.1
                      have hh := (hG.2.2.2 w2 (by omega) (by omega)).hole g1 g2 g3
                      by_cases hm : m = j
                      · subst hm; exact hp878 e g1 g2 g3
                      · have hne := X_ro_ne (i := i) (j := m) (i' := i) (j' := j) (by omega) (by omega) (by omega)
                        exact (hp879 _ (by omega)).trans ((hOH _ (by omega)).trans ((hC i m (by omega) h1 h2 (fun z => absurd z hm)).2.2.2 w2 (by omega) (by omega) e g1 g2 g3)))) (fun v893 S894 h895 => ?_)
              rcases h895 with ⟨tl896, hv897, hp898, hp899, ha900, hf901⟩
              rw [hv897]
              show X_T sc 28 (123, [(4, .int (iI w2)), (3, .int (iI (X_ro i j))), (0, .ref 511), (1, .int (iI i)), (2, .int (iI j))], [], S894) _
              refine T_ziinc xr_28_123 xn_28 (a := w2) (z := w2 + 1) rfl (Nat.le_of_ble_eq_true rfl) (by omega) (ls' := [(4, .int (iI (w2 + 1))), (3, .int (iI (X_ro i j))), (0, .ref 511), (1, .int (iI i)), (2, .int (iI j))]) rfl (pc' := 126) rfl ?_
              refine T_p xr_28_126 xn_28 (pc' := 96) (ls' := [(4, .int (iI (w2 + 1))), (3, .int (iI (X_ro i j))), (0, .ref 511), (1, .int (iI i)), (2, .int (iI j))]) (st' := []) rfl ?_
              have h902 := (hf901.1 515 (by omega)).trans (ha880)
              exact ih851 S894 (w2 + 1) oH876 tl896 h902 ha900 (hF854.tr (((X_Fr.rf).tr (X_Fr.mono ⟨hf881.1, hf881.2⟩ (fun q hq => (by omega)))).tr (X_Fr.mono ⟨hf901.1, hf901.2⟩ (fun q hq => (by omega))))) (by omega) (fun v h1 h2 e g1 g2 g3 => by
                    have hs := (hG.2.2.2 v h1 (by omega)).2.1
                    have hh := (hG.2.2.2 v h1 (by omega)).hole g1 g2 g3
                    by_cases hv : v = w2
                    · subst hv; exact hp878 e g1 g2 g3
                    · exact (hp879 _ (by omega)).trans (hH1 v h1 (by omega) e g1 g2 g3)) (fun q hq => (hp879 q (by omega)).trans (hOH q hq)) (fun v h1 h2 q h3 h4 e g1 g2 => by
                    have hs := (hG.2.2.2 v h1 h2).1
                    have hs2 := (hG.2.2.2 w2 (by omega) (by omega)).1
                    exact (hp899 _ (fun e2 z1 z2 z3 => by omega)).trans (hT2 v h1 h2 q h3 h4 e g1 g2)) (fun v h1 h2 => by
                    by_cases hv : v = w2
                    · subst hv; exact hp898
                    · intro e g1 g2
                      have hs := (hG.2.2.2 v h1 (by omega)).1
                      have hs2 := (hG.2.2.2 w2 (by omega) (by omega)).1
                      exact (hp899 _ (fun e2 z1 z2 z3 => by omega)).trans (hT3 v h1 (by omega) e g1 g2)) (by omega)
        exact L850 ((gw G) + 1).toNat S846 0 oH tl1 h855 h856 ((X_Fr.rf)) (by omega) (fun v h1 h2 => absurd h2 (by omega)) (fun _ _ => rfl) hT1 (fun v h1 h2 => absurd h2 (by omega)) (by omega)
      · skip
        have c802 : ¬ ((gw G) ≤ w) := c802
        refine T_p xr_28_21 xn_28 (pc' := 22) (ls' := [(4, .int (iI w)), (3, .int (iI (X_ro i j))), (0, .ref 511), (1, .int (iI i)), (2, .int (iI j))]) (st' := [.ref 511]) rfl ?_
        refine T_p xr_28_22 xn_28 (pc' := 24) (ls' := [(4, .int (iI w)), (3, .int (iI (X_ro i j))), (0, .ref 511), (1, .int (iI i)), (2, .int (iI j))]) (st' := [.int (iI w), .ref 511]) rfl ?_
        refine T_p xr_28_24 xn_28 (pc' := 25) (ls' := [(4, .int (iI w)), (3, .int (iI (X_ro i j))), (0, .ref 511), (1, .int (iI i)), (2, .int (iI j))]) (st' := [.int (iI 0), .int (iI w), .ref 511]) rfl ?_
        refine T_p xr_28_25 xn_28 (pc' := 26) (ls' := [(4, .int (iI w)), (3, .int (iI (X_ro i j))), (0, .ref 511), (1, .int (iI i)), (2, .int (iI j))]) (st' := [.int (iI i), .int (iI 0), .int (iI w), .ref 511]) rfl ?_
        refine T_p xr_28_26 xn_28 (pc' := 27) (ls' := [(4, .int (iI w)), (3, .int (iI (X_ro i j))), (0, .ref 511), (1, .int (iI i)), (2, .int (iI j))]) (st' := [.int (iI j), .int (iI i), .int (iI 0), .int (iI w), .ref 511]) rfl ?_
        have hs1 := (hG.2.2.2 w (by omega) (by omega)).1
        refine T_cv (S := S799) (q := 511) xr_28_27 xf_33.1 xf_33.2.1 xn_33 (as := [.int (iI w), .int (iI 0), .int (iI i), .int (iI j)]) (r := []) rfl h800 (Nat.le_of_ble_eq_true rfl) (Nat.le_of_ble_eq_true rfl) (pc' := 30) rfl (ls' := [(0, .ref 511), (1, .int (iI w)), (2, .int (iI 0)), (3, .int (iI i)), (4, .int (iI j))]) rfl ?_
        have h903 := (hF798.1 515 (by omega)).trans (hA515)
        have h904 := (hF798.1 501 (by omega)).trans (hO501)
        have h905 := (hF798.1 (B + 1) (by omega)).trans (hb1)
        have h906 := (hF798.1 (B + 2) (by omega)).trans (hb2)
        have h907 := (hF798.1 (B + 3) (by omega)).trans (hb3)
        have h908 := (hF798.1 (B + 4) (by omega)).trans (hb4)
        have h909 := (hF798.1 (B + 5) (by omega)).trans (hb5)
        have hs910 : C_ws S799 B (gD G) (gW G) := C_ws.fr (P := fun q => 501 ≤ q ∧ q ≤ 529) hs ((X_Fr.rf).tr (X_Fr.mono ⟨hF798.1, hF798.2⟩ (fun q hq => (by omega)))) (fun k h1 h2 => by omega)
        have h911 := (hF798.1 502 (by omega)).trans (hA502)
        refine T_mono (c_ways sc S799 oH tl1 B rc rn kn G tn fl w 0 i j h904 h800 h903 htl1 hB ⟨h801, h905, h906, h907, h908, ⟨f, h909, hf⟩, ⟨by omega, by omega⟩, ⟨by omega, by omega⟩, ⟨by omega, by omega⟩⟩ hs910 hG h911 (by omega) (by omega) (by omega) (fun q h1 h2 => hT1 w (by omega) (by omega) q h1 h2) (fun z m h1 h2 h3 => by
                have hm : ¬ m = j := fun e => h3 (by
                  subst e
                  exact X_El_jj (hG.2.2.2 w (by omega) (by omega)).2.2.1 z)
                exact (hC i m (by omega) h1 h2 (fun e => absurd e hm)).2.2.2 w (by omega) (by omega) 0 (by omega) (by have := (hG.2.2.2 w (by omega) (by omega)).1; omega) z)) (fun v912 S913 h914 => ?_)
        rcases h914 with ⟨hv915, hf916⟩
        rw [hv915]
        rw [hf916]
        show X_T sc 28 (30, [(4, .int (iI w)), (3, .int (iI (X_ro i j))), (0, .ref 511), (1, .int (iI i)), (2, .int (iI j))], [.long (X_st (-2) (X_Ew G (X_T_ G) w 0 i j))], S799) _
        refine T_le (y := (X_st (-2) ((X_T_ G).1 w i j))) (by rw [X_T_W (hG.2.2.2 w (by omega) (by omega)).2.2.1 hij.2.1 (by omega)]) ?_
        refine T_p xr_28_30 xn_28 (pc' := 32) (ls' := [(5, .long (X_st (-2) ((X_T_ G).1 w i j))), (4, .int (iI w)), (3, .int (iI (X_ro i j))), (0, .ref 511), (1, .int (iI i)), (2, .int (iI j))]) (st' := []) rfl ?_
        refine T_p xr_28_32 xn_28 (pc' := 33) (ls' := [(5, .long (X_st (-2) ((X_T_ G).1 w i j))), (4, .int (iI w)), (3, .int (iI (X_ro i j))), (0, .ref 511), (1, .int (iI i)), (2, .int (iI j))]) (st' := [.ref 511]) rfl ?_
        refine T_get xr_28_33 h800 rfl (v := .ref 516) rfl (pc' := 36) rfl ?_
        refine T_p xr_28_36 xn_28 (pc' := 38) (ls' := [(5, .long (X_st (-2) ((X_T_ G).1 w i j))), (4, .int (iI w)), (3, .int (iI (X_ro i j))), (0, .ref 511), (1, .int (iI i)), (2, .int (iI j))]) (st' := [.int (iI w), .ref 516]) rfl ?_
        refine T_p xr_28_38 xn_28 (pc' := 39) (ls' := [(5, .long (X_st (-2) ((X_T_ G).1 w i j))), (4, .int (iI w)), (3, .int (iI (X_ro i j))), (0, .ref 511), (1, .int (iI i)), (2, .int (iI j))]) (st' := [.int (iI 0), .int (iI w), .ref 516]) rfl ?_
        refine T_p xr_28_39 xn_28 (pc' := 40) (ls' := [(5, .long (X_st (-2) ((X_T_ G).1 w i j))), (4, .int (iI w)), (3, .int (iI (X_ro i j))), (0, .ref 511), (1, .int (iI i)), (2, .int (iI j))]) (st' := [.int (iI i), .int (iI 0), .int (iI w), .ref 516]) rfl ?_
        refine T_cs xr_28_40 (by decide) xf_21.1 xn_21 (as := [.int (iI w), .int (iI 0), .int (iI i)]) (r := [.ref 516]) rfl (Nat.le_of_ble_eq_true rfl) (Nat.le_of_ble_eq_true rfl) (pc' := 43) rfl (ls' := [(0, .int (iI w)), (1, .int (iI 0)), (2, .int (iI i))]) rfl ?_
        refine T_p xr_21_0 xn_21 (pc' := 1) (ls' := [(0, .int (iI w)), (1, .int (iI 0)), (2, .int (iI i))]) (st' := [.int (iI w)]) rfl ?_
        refine T_p xr_21_1 xn_21 (pc' := 3) (ls' := [(0, .int (iI w)), (1, .int (iI 0)), (2, .int (iI i))]) (st' := [.int (iI 8), .int (iI w)]) rfl ?_
        refine T_zimul xr_21_3 (z := w * 8) rfl (pc' := 4) rfl ?_
        refine T_p xr_21_4 xn_21 (pc' := 5) (ls' := [(0, .int (iI w)), (1, .int (iI 0)), (2, .int (iI i))]) (st' := [.int (iI 0), .int (iI (w * 8))]) rfl ?_
        refine T_ziadd xr_21_5 (z := (w * 8) + 0) rfl (pc' := 6) rfl ?_
        refine T_p xr_21_6 xn_21 (pc' := 8) (ls' := [(0, .int (iI w)), (1, .int (iI 0)), (2, .int (iI i))]) (st' := [.int (iI 30), .int (iI ((w * 8) + 0))]) rfl ?_
        refine T_zimul xr_21_8 (z := ((w * 8) + 0) * 30) rfl (pc' := 9) rfl ?_
        refine T_p xr_21_9 xn_21 (pc' := 10) (ls' := [(0, .int (iI w)), (1, .int (iI 0)), (2, .int (iI i))]) (st' := [.int (iI i), .int (iI (((w * 8) + 0) * 30))]) rfl ?_
        refine T_ziadd xr_21_10 (z := (((w * 8) + 0) * 30) + i) rfl (pc' := 11) rfl ?_
        refine T_iret xr_21_11 xf_21.2.2 rfl ?_
        show X_T sc 28 (43, [(5, .long (X_st (-2) ((X_T_ G).1 w i j))), (4, .int (iI w)), (3, .int (iI (X_ro i j))), (0, .ref 511), (1, .int (iI i)), (2, .int (iI j))], [.int (iI ((((w * 8) + 0) * 30) + i)), .ref 516], S799) _
        refine T_p xr_28_43 xn_28 (pc' := 45) (ls' := [(5, .long (X_st (-2) ((X_T_ G).1 w i j))), (4, .int (iI w)), (3, .int (iI (X_ro i j))), (0, .ref 511), (1, .int (iI i)), (2, .int (iI j))]) (st' := [.long (X_st (-2) ((X_T_ G).1 w i j)), .int (iI ((((w * 8) + 0) * 30) + i)), .ref 516]) rfl ?_
        refine T_zlast xr_28_45 htl1 (pc' := 46) rfl (fun S917 h918 n919 e920 => ?_)
        refine T_p xr_28_46 xn_28 (pc' := 47) (ls' := [(5, .long (X_st (-2) ((X_T_ G).1 w i j))), (4, .int (iI w)), (3, .int (iI (X_ro i j))), (0, .ref 511), (1, .int (iI i)), (2, .int (iI j))]) (st' := [.ref 511]) rfl ?_
        have h921 := (n919 511 (by decide)).trans (h800)
        refine T_get xr_28_47 h921 rfl (v := .ref 513) rfl (pc' := 50) rfl ?_
        refine T_p xr_28_50 xn_28 (pc' := 51) (ls' := [(5, .long (X_st (-2) ((X_T_ G).1 w i j))), (4, .int (iI w)), (3, .int (iI (X_ro i j))), (0, .ref 511), (1, .int (iI i)), (2, .int (iI j))]) (st' := [.int (iI (X_ro i j)), .ref 513]) rfl ?_
        refine T_p xr_28_51 xn_28 (pc' := 53) (ls' := [(5, .long (X_st (-2) ((X_T_ G).1 w i j))), (4, .int (iI w)), (3, .int (iI (X_ro i j))), (0, .ref 511), (1, .int (iI i)), (2, .int (iI j))]) (st' := [.int (iI 30), .int (iI (X_ro i j)), .ref 513]) rfl ?_
        refine T_zimul xr_28_53 (z := (X_ro i j) * 30) rfl (pc' := 54) rfl ?_
        refine T_p xr_28_54 xn_28 (pc' := 56) (ls' := [(5, .long (X_st (-2) ((X_T_ G).1 w i j))), (4, .int (iI w)), (3, .int (iI (X_ro i j))), (0, .ref 511), (1, .int (iI i)), (2, .int (iI j))]) (st' := [.int (iI w), .int (iI ((X_ro i j) * 30)), .ref 513]) rfl ?_
        refine T_ziadd xr_28_56 (z := ((X_ro i j) * 30) + w) rfl (pc' := 57) rfl ?_
        refine T_p xr_28_57 xn_28 (pc' := 59) (ls' := [(5, .long (X_st (-2) ((X_T_ G).1 w i j))), (4, .int (iI w)), (3, .int (iI (X_ro i j))), (0, .ref 511), (1, .int (iI i)), (2, .int (iI j))]) (st' := [.long (X_st (-2) ((X_T_ G).1 w i j)), .int (iI (((X_ro i j) * 30) + w)), .ref 513]) rfl ?_
        have h922 := (n919 513 (by decide)).trans (hoW1)
        refine T_zlast xr_28_59 h922 (pc' := 60) rfl (fun S923 h924 n925 e926 => ?_)
        refine T_ziinc xr_28_60 xn_28 (a := w) (z := w + 1) rfl (Nat.le_of_ble_eq_true rfl) (by omega) (ls' := [(4, .int (iI (w + 1))), (5, .long (X_st (-2) ((X_T_ G).1 w i j))), (3, .int (iI (X_ro i j))), (0, .ref 511), (1, .int (iI i)), (2, .int (iI j))]) rfl (pc' := 63) rfl ?_
        refine T_p xr_28_63 xn_28 (pc' := 9) (ls' := [(4, .int (iI (w + 1))), (5, .long (X_st (-2) ((X_T_ G).1 w i j))), (3, .int (iI (X_ro i j))), (0, .ref 511), (1, .int (iI i)), (2, .int (iI j))]) (st' := []) rfl ?_
        have h927 := (n925 516 (by decide)).trans (h918)
        refine T_sub (ls := [(4, .int (iI (w + 1))), (3, .int (iI (X_ro i j))), (0, .ref 511), (1, .int (iI i)), (2, .int (iI j))]) ⟨rfl, rfl, rfl, rfl, rfl, trivial⟩ rfl rfl ?_
        exact ih795 S923 (w + 1) (X_ug tl1 ((((w * 8) + 0) * 30) + i) (X_st (-2) ((X_T_ G).1 w i j))) (X_ug oW1 (((X_ro i j) * 30) + w) (X_st (-2) ((X_T_ G).1 w i j))) h927 h924 (hF798.tr (((X_Fr.rf).tr (X_Fr.of n919 e920 (by omega))).tr (X_Fr.of n925 e926 (by omega)))) (by omega) (fun v h1 h2 q h3 h4 e g1 g2 => by
              have hs := (hG.2.2.2 v h1 h2).1
              rw [X_ug_n _ _ (by omega)]; exact hT1 v h1 h2 q h3 h4 e g1 g2) (fun v h1 h2 => by
              by_cases hv : v = w
              · subst hv; rw [X_ug_s]
              · rw [X_ug_n _ _ (by omega)]; exact hW1 v h1 (by omega)) (fun q hq => by rw [X_ug_n _ _ (by omega)]; exact hOW q hq) (by omega)
  exact L794 ((gw G) + 1).toNat S 0 tl oW hA516 hA513 ((X_Fr.rf)) (by omega) ht (fun v h1 h2 => absurd h2 (by omega)) (fun _ _ => rfl) (by omega)
theorem c_fill (sc : X_Sc) (S : X_S) (oK : Int → Int64) (oW : Int → Int64) (oA : Int → Int64) (oH : Int → Int64) (tl : Int → Int64) (B : Nat) (rc : Int) (rn : Int → Int64) (kn : Int → Int64) (G : X_G) (tn : Int) (fl : Int) (hO501 : S.1 501 = .inr (6, [.int (iI tn), .ref 502, .ref 503])) (hO511 : S.1 511 = .inr (1, [.ref B, .ref 501, .int (iI fl), .ref 512, .ref 513, .ref 514, .ref 515, .ref 516])) (hA512 : S.1 512 = .inl (.long, 5115, .inr (.inl fun k : Nat => oK (k : Int)))) (hA513 : S.1 513 = .inl (.long, 13950, .inr (.inl fun k : Nat => oW (k : Int)))) (hA514 : S.1 514 = .inl (.long, 465, .inr (.inl fun k : Nat => oA (k : Int)))) (hA515 : S.1 515 = .inl (.long, 55800, .inr (.inl fun k : Nat => oH (k : Int)))) (hA516 : S.1 516 = .inl (.long, 7200, .inr (.inl fun k : Nat => tl (k : Int)))) (hB : B = 4 ∨ B = 250) (hb : C_bk S B rc (gk G) (gw G) rn (gl G) kn (ga G)) (hs : C_ws S B (gD G) (gW G)) (hG : X_Gok G) (hA502 : S.1 502 = .inl (.long, 30, .inr (.inl fun k : Nat => (gt G) (k : Int)))) (htn : 0 ≤ tn ∧ tn ≤ 30) (hfl : 0 ≤ fl ∧ fl ≤ 1) (hC : fl = 1 → X_cht G (-2) tn oK oW oA oH) : X_T sc 27 (0, [(0, .ref 511)], [], S) (fun v S' => ∃ (oK1 : Int → Int64) (oW1 : Int → Int64) (oA1 : Int → Int64) (oH1 : Int → Int64) (tl1 : Int → Int64), v = none ∧ X_cht G (-2) tn oK1 oW1 oA1 oH1 ∧ S'.1 511 = .inr (1, [.ref B, .ref 501, .int (iI 1), .ref 512, .ref 513, .ref 514, .ref 515, .ref 516]) ∧ S'.1 512 = .inl (.long, 5115, .inr (.inl fun k : Nat => oK1 (k : Int))) ∧ S'.1 513 = .inl (.long, 13950, .inr (.inl fun k : Nat => oW1 (k : Int))) ∧ S'.1 514 = .inl (.long, 465, .inr (.inl fun k : Nat => oA1 (k : Int))) ∧ S'.1 515 = .inl (.long, 55800, .inr (.inl fun k : Nat => oH1 (k : Int))) ∧ S'.1 516 = .inl (.long, 7200, .inr (.inl fun k : Nat => tl1 (k : Int))) ∧ (X_Fr (fun q => q = 512 ∨ q = 513 ∨ q = 514 ∨ q = 515 ∨ q = 516 ∨ q = 511) S S')) := by
  obtain ⟨hb0, hb1, hb2, hb3, hb4, ⟨f, hb5, hf⟩, ⟨hrc, hrcb⟩, ⟨hkc, hkcb⟩, ⟨hwc, hwcb⟩⟩ := id hb
  refine X_QI (fun Q hQ => ?_)
  refine T_p xr_27_0 xn_27 (pc' := 1) (ls' := [(0, .ref 511)]) (st' := [.ref 511]) rfl ?_
  refine T_get xr_27_1 hO511 rfl (v := .int (iI fl)) rfl (pc' := 4) rfl ?_
  refine T_zif_eq xr_27_4 (t := 8) (pc' := 7) rfl rfl (fun c928 => ?_) (fun c928 => ?_)
  · skip
    have c928 : fl = 0 := c928
    refine T_p xr_27_8 xn_27 (pc' := 9) (ls' := [(0, .ref 511)]) (st' := [.ref 511]) rfl ?_
    refine T_p xr_27_9 xn_27 (pc' := 10) (ls' := [(0, .ref 511)]) (st' := [.int (iI 1), .ref 511]) rfl ?_
    refine T_put xr_27_10 hO511 rfl (Nat.le_of_ble_eq_true rfl) rfl (fs' := [.ref B, .ref 501, .int (iI 1), .ref 512, .ref 513, .ref 514, .ref 515, .ref 516]) rfl (pc' := 13) rfl (fun S929 h930 n931 e932 => ?_)
    refine T_p xr_27_13 xn_27 (pc' := 14) (ls' := [(0, .ref 511)]) (st' := [.int (iI 1)]) rfl ?_
    refine T_p xr_27_14 xn_27 (pc' := 15) (ls' := [(1, .int (iI 1)), (0, .ref 511)]) (st' := []) rfl ?_
    have h938 := (n931 512 (by decide)).trans (hA512)
    have h939 := (n931 513 (by decide)).trans (hA513)
    have h940 := (n931 514 (by decide)).trans (hA514)
    have h941 := (n931 515 (by decide)).trans (hA515)
    have h942 := (n931 516 (by decide)).trans (hA516)
    have L933 : ∀ (m935 : Nat) (S943 : X_S) (j : Int) (oK1 : Int → Int64) (oW1 : Int → Int64) (oA1 : Int → Int64) (oH1 : Int → Int64) (tl1 : Int → Int64) (hoK1 : S943.1 512 = .inl (.long, 5115, .inr (.inl fun k : Nat => oK1 (k : Int)))) (hoW1 : S943.1 513 = .inl (.long, 13950, .inr (.inl fun k : Nat => oW1 (k : Int)))) (hoA1 : S943.1 514 = .inl (.long, 465, .inr (.inl fun k : Nat => oA1 (k : Int)))) (hoH1 : S943.1 515 = .inl (.long, 55800, .inr (.inl fun k : Nat => oH1 (k : Int)))) (htl1 : S943.1 516 = .inl (.long, 7200, .inr (.inl fun k : Nat => tl1 (k : Int)))) (hF937 : X_Fr (fun q => 512 ≤ q ∧ q ≤ 516) S929 S943) (hj : 1 ≤ j ∧ j ≤ tn + 1) (hCo : ∀ i2 j2, 0 ≤ i2 → i2 < j2 → j2 < j → X_rw G (-2) i2 j2 oK1 oW1 oA1 oH1) (hm936 : tn + 1 - j < m935), X_T sc 27 (15, [(1, .int (iI j)), (0, .ref 511)], [], S943) Q := by
      intro m935
      induction m935 with
      | zero =>
        intro S943 j oK1 oW1 oA1 oH1 tl1 hoK1 hoW1 hoA1 hoH1 htl1 hF937 hj hCo hm936
        exact (show False by omega).elim
      | succ m935 ih934 =>
        intro S943 j oK1 oW1 oA1 oH1 tl1 hoK1 hoW1 hoA1 hoH1 htl1 hF937 hj hCo hm936
        refine T_p xr_27_15 xn_27 (pc' := 16) (ls' := [(1, .int (iI j)), (0, .ref 511)]) (st' := [.int (iI j)]) rfl ?_
        refine T_p xr_27_16 xn_27 (pc' := 17) (ls' := [(1, .int (iI j)), (0, .ref 511)]) (st' := [.ref 511, .int (iI j)]) rfl ?_
        have h944 := (hF937.1 511 (by omega)).trans (h930)
        refine T_get xr_27_17 h944 rfl (v := .ref 501) rfl (pc' := 20) rfl ?_
        have h945 := (hF937.1 501 (by omega)).trans ((n931 501 (by decide)).trans (hO501))
        refine T_get xr_27_20 h945 rfl (v := .int (iI tn)) rfl (pc' := 23) rfl ?_
        refine T_zicmp_gt xr_27_23 (t := 52) (pc' := 26) rfl rfl (fun c946 => ?_) (fun c946 => ?_)
        · skip
          have c946 : tn < j := c946
          refine T_vret xr_27_52 xf_27.2.2 ?_
          refine hQ _ _ ?_
          exact ⟨oK1, oW1, oA1, oH1, tl1, rfl, (fun i j h1 h2 h3 => hCo i j h1 h2 (by omega)), h944, hoK1, hoW1, hoA1, hoH1, htl1, ((X_Fr.rf).tr (X_Fr.of n931 e932 (by omega))).tr (X_Fr.mono ⟨hF937.1, hF937.2⟩ (fun q hq => (by omega)))⟩
        · skip
          have c946 : ¬ (tn < j) := c946
          refine T_p xr_27_26 xn_27 (pc' := 27) (ls' := [(1, .int (iI j)), (0, .ref 511)]) (st' := [.int (iI j)]) rfl ?_
          refine T_p xr_27_27 xn_27 (pc' := 28) (ls' := [(1, .int (iI j)), (0, .ref 511)]) (st' := [.int (iI 1), .int (iI j)]) rfl ?_
          refine T_zisub xr_27_28 (z := j - 1) rfl (pc' := 29) rfl ?_
          refine T_p xr_27_29 xn_27 (pc' := 30) (ls' := [(2, .int (iI (j - 1))), (1, .int (iI j)), (0, .ref 511)]) (st' := []) rfl ?_
          have L947 : ∀ (m949 : Nat) (S952 : X_S) (i : Int) (oK2 : Int → Int64) (oW2 : Int → Int64) (oA2 : Int → Int64) (oH2 : Int → Int64) (tl2 : Int → Int64) (hoK1b : S952.1 512 = .inl (.long, 5115, .inr (.inl fun k : Nat => oK2 (k : Int)))) (hoW1b : S952.1 513 = .inl (.long, 13950, .inr (.inl fun k : Nat => oW2 (k : Int)))) (hoA1b : S952.1 514 = .inl (.long, 465, .inr (.inl fun k : Nat => oA2 (k : Int)))) (hoH1b : S952.1 515 = .inl (.long, 55800, .inr (.inl fun k : Nat => oH2 (k : Int)))) (htl1b : S952.1 516 = .inl (.long, 7200, .inr (.inl fun k : Nat => tl2 (k : Int)))) (hF951 : X_Fr (fun q => 512 ≤ q ∧ q ≤ 516) S943 S952) (hi : -1 ≤ i ∧ i < j) (hCi : ∀ i2 j2, 0 ≤ i2 → i2 < j2 → j2 ≤ j → (j2 = j → i < i2) → X_rw G (-2) i2 j2 oK2 oW2 oA2 oH2) (hTi : ∀ w, 0 ≤ w → w < gw G → ∀ q, i < q → q < j → X_tl G (-2) w q j tl2) (hm950 : i + 1 < m949), X_T sc 27 (30, [(2, .int (iI i)), (1, .int (iI j)), (0, .ref 511)], [], S952) Q := by
            intro m949
            induction m949 with
            | zero =>
              intro S952 i oK2 oW2 oA2 oH2 tl2 hoK1b hoW1b hoA1b hoH1b htl1b hF951 hi hCi hTi hm950
              exact (show False by omega).elim
            | succ m949 ih948 =>
              intro S952 i oK2 oW2 oA2 oH2 tl2 hoK1b hoW1b hoA1b hoH1b htl1b hF951 hi hCi hTi hm950
              refine T_p xr_27_30 xn_27 (pc' := 31) (ls' := [(2, .int (iI i)), (1, .int (iI j)), (0, .ref 511)]) (st' := [.int (iI i)]) rfl ?_
              refine T_zif_lt xr_27_31 (t := 46) (pc' := 34) rfl rfl (fun c953 => ?_) (fun c953 => ?_)
              · skip
                have c953 : i < 0 := c953
                refine T_ziinc xr_27_46 xn_27 (a := j) (z := j + 1) rfl (Nat.le_of_ble_eq_true rfl) (by omega) (ls' := [(1, .int (iI (j + 1))), (2, .int (iI i)), (0, .ref 511)]) rfl (pc' := 49) rfl ?_
                refine T_p xr_27_49 xn_27 (pc' := 15) (ls' := [(1, .int (iI (j + 1))), (2, .int (iI i)), (0, .ref 511)]) (st' := []) rfl ?_
                refine T_sub (ls := [(1, .int (iI (j + 1))), (0, .ref 511)]) ⟨rfl, rfl, trivial⟩ rfl rfl ?_
                exact ih934 S952 (j + 1) oK2 oW2 oA2 oH2 tl2 hoK1b hoW1b hoA1b hoH1b htl1b (hF937.tr ((X_Fr.rf).tr (X_Fr.mono ⟨hF951.1, hF951.2⟩ (fun q hq => (by omega))))) (by omega) (fun i2 j2 h1 h2 h3 => hCi i2 j2 h1 h2 (by omega) (by omega)) (by omega)
              · skip
                have c953 : ¬ (i < 0) := c953
                refine T_p xr_27_34 xn_27 (pc' := 35) (ls' := [(2, .int (iI i)), (1, .int (iI j)), (0, .ref 511)]) (st' := [.ref 511]) rfl ?_
                refine T_p xr_27_35 xn_27 (pc' := 36) (ls' := [(2, .int (iI i)), (1, .int (iI j)), (0, .ref 511)]) (st' := [.int (iI i), .ref 511]) rfl ?_
                refine T_p xr_27_36 xn_27 (pc' := 37) (ls' := [(2, .int (iI i)), (1, .int (iI j)), (0, .ref 511)]) (st' := [.int (iI j), .int (iI i), .ref 511]) rfl ?_
                have h954 := (hF951.1 511 (by omega)).trans (h944)
                refine T_cv (S := S952) (q := 511) xr_27_37 xf_28.1 xf_28.2.1 xn_28 (as := [.int (iI i), .int (iI j)]) (r := []) rfl h954 (Nat.le_of_ble_eq_true rfl) (Nat.le_of_ble_eq_true rfl) (pc' := 40) rfl (ls' := [(0, .ref 511), (1, .int (iI i)), (2, .int (iI j))]) rfl ?_
                have h955 := (hF951.1 501 (by omega)).trans (h945)
                have h956 := (hF951.1 B (by omega)).trans ((hF937.1 B (by omega)).trans ((n931 B (by omega)).trans (hb0)))
                have h957 := (hF951.1 (B + 1) (by omega)).trans ((hF937.1 (B + 1) (by omega)).trans ((n931 (B + 1) (by omega)).trans (hb1)))
                have h958 := (hF951.1 (B + 2) (by omega)).trans ((hF937.1 (B + 2) (by omega)).trans ((n931 (B + 2) (by omega)).trans (hb2)))
                have h959 := (hF951.1 (B + 3) (by omega)).trans ((hF937.1 (B + 3) (by omega)).trans ((n931 (B + 3) (by omega)).trans (hb3)))
                have h960 := (hF951.1 (B + 4) (by omega)).trans ((hF937.1 (B + 4) (by omega)).trans ((n931 (B + 4) (by omega)).trans (hb4)))
                have h961 := (hF951.1 (B + 5) (by omega)).trans ((hF937.1 (B + 5) (by omega)).trans ((n931 (B + 5) (by omega)).trans (hb5)))
                have hs962 : C_ws S952 B (gD G) (gW G) := C_ws.fr (P := fun q => 501 ≤ q ∧ q ≤ 529) hs ((((X_Fr.rf).tr (X_Fr.of n931 e932 (by omega))).tr (X_Fr.mono ⟨hF937.1, hF937.2⟩ (fun q hq => (by omega)))).tr (X_Fr.mono ⟨hF951.1, hF951.2⟩ (fun q hq => (by omega)))) (fun k h1 h2 => by omega)
                have h963 := (hF951.1 502 (by omega)).trans ((hF937.1 502 (by omega)).trans ((n931 502 (by decide)).trans (hA502)))
                refine T_mono (c_fillStretch sc S952 oK2 oW2 oA2 oH2 tl2 B rc rn kn G tn 1 i j h955 h954 hoK1b hoW1b hoA1b hoH1b htl1b hB ⟨h956, h957, h958, h959, h960, ⟨f, h961, hf⟩, ⟨by omega, by omega⟩, ⟨by omega, by omega⟩, ⟨by omega, by omega⟩⟩ hs962 hG h963 (by omega) hCi hTi) (fun v964 S965 h966 => ?_)
                rcases h966 with ⟨oK967, oW968, oA969, oH970, tl971, hv972, hp973, hp974, hp975, hp976, hp977, hp978, ha979, ha980, ha981, ha982, ha983, hf984⟩
                rw [hv972]
                show X_T sc 27 (40, [(2, .int (iI i)), (1, .int (iI j)), (0, .ref 511)], [], S965) _
                refine T_ziinc xr_27_40 xn_27 (a := i) (z := i - 1) rfl (Nat.le_of_ble_eq_true rfl) (by omega) (ls' := [(2, .int (iI (i - 1))), (1, .int (iI j)), (0, .ref 511)]) rfl (pc' := 43) rfl ?_
                refine T_p xr_27_43 xn_27 (pc' := 30) (ls' := [(2, .int (iI (i - 1))), (1, .int (iI j)), (0, .ref 511)]) (st' := []) rfl ?_
                exact ih948 S965 (i - 1) oK967 oW968 oA969 oH970 tl971 ha979 ha980 ha981 ha982 ha983 (hF951.tr ((X_Fr.rf).tr (X_Fr.mono ⟨hf984.1, hf984.2⟩ (fun q hq => (by omega))))) (by omega) (fun i2 j2 h1 h2 h3 h4 => by
                      by_cases he : i2 = i ∧ j2 = j
                      · obtain ⟨e1, e2⟩ := he
                        subst e1; subst e2; exact hp973
                      · exact X_rw.fr hG (X_ro_ne (by omega) (by omega) he) (hCi i2 j2 h1 h2 h3 (by omega)) hp975 hp976 hp977 hp978) (fun v h1 h2 q h3 h4 => hp974 v h1 h2 q (by omega) h4) (by omega)
          exact L947 (j + 1).toNat S943 (j - 1) oK1 oW1 oA1 oH1 tl1 hoK1 hoW1 hoA1 hoH1 htl1 ((X_Fr.rf)) (by omega) (fun i2 j2 h1 h2 h3 h4 => hCo i2 j2 h1 h2 (by omega)) (fun v h1 h2 q h3 h4 => absurd h4 (by omega)) (by omega)
    exact L933 (tn + 1).toNat S929 1 oK oW oA oH tl h938 h939 h940 h941 h942 ((X_Fr.rf)) (by omega) (fun i2 j2 h1 h2 h3 => absurd h3 (by omega)) (by omega)
  · skip
    have c928 : ¬ (fl = 0) := c928
    obtain rfl : fl = 1 := by omega
    refine T_vret xr_27_7 xf_27.2.2 ?_
    refine hQ _ _ ?_
    exact ⟨oK, oW, oA, oH, tl, rfl, (hC rfl), hO511, hA512, hA513, hA514, hA515, hA516, X_Fr.rf⟩
