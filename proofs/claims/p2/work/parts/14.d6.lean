theorem xr_26_0 : X_row 26 0 = some (0, (.aload_n 0, 1), (0, 0, 0)) := by decide +kernel
theorem xr_26_1 : X_row 26 1 = some (1, (.getfield 19, 3), (1, 4, 30)) := by decide +kernel
theorem xr_26_4 : X_row 26 4 = some (4, (.iload_n 1, 1), (0, 0, 0)) := by decide +kernel
theorem xr_26_5 : X_row 26 5 = some (5, (.iload_n 2, 1), (0, 0, 0)) := by decide +kernel
theorem xr_26_6 : X_row 26 6 = some (6, (.invokestatic 40, 3), (24, 2, 0)) := by decide +kernel
theorem xr_26_9 : X_row 26 9 = some (9, (.bipush 30, 2), (0, 0, 0)) := by decide +kernel
theorem xr_26_11 : X_row 26 11 = some (11, (.imul, 1), (0, 0, 0)) := by decide +kernel
theorem xr_26_12 : X_row 26 12 = some (12, (.iload_n 3, 1), (0, 0, 0)) := by decide +kernel
theorem xr_26_13 : X_row 26 13 = some (13, (.iadd, 1), (0, 0, 0)) := by decide +kernel
theorem xr_26_14 : X_row 26 14 = some (14, (.laload, 1), (0, 0, 0)) := by decide +kernel
theorem xr_26_15 : X_row 26 15 = some (15, (.lreturn, 1), (0, 0, 0)) := by decide +kernel
theorem xr_28_0 : X_row 28 0 = some (0, (.aload_n 0, 1), (0, 0, 0)) := by decide +kernel
theorem xr_28_1 : X_row 28 1 = some (1, (.iload_n 1, 1), (0, 0, 0)) := by decide +kernel
theorem xr_28_2 : X_row 28 2 = some (2, (.iload_n 2, 1), (0, 0, 0)) := by decide +kernel
theorem xr_28_3 : X_row 28 3 = some (3, (.invokestatic 40, 3), (24, 2, 0)) := by decide +kernel
theorem xr_28_6 : X_row 28 6 = some (6, (.iload_n 3, 1), (0, 0, 0)) := by decide +kernel
theorem xr_28_7 : X_row 28 7 = some (7, (.invokevirtual 44, 3), (29, 26, 0)) := by decide +kernel
theorem xr_28_10 : X_row 28 10 = some (10, (.lreturn, 1), (0, 0, 0)) := by decide +kernel
theorem xr_44_0 : X_row 44 0 = some (0, (.aload_n 0, 1), (0, 0, 0)) := by decide +kernel
theorem xr_44_1 : X_row 44 1 = some (1, (.getfield 15, 3), (2, 4, 26)) := by decide +kernel
theorem xr_44_4 : X_row 44 4 = some (4, (.iload_n 1, 1), (0, 0, 0)) := by decide +kernel
theorem xr_44_5 : X_row 44 5 = some (5, (.iaload, 1), (0, 0, 0)) := by decide +kernel
theorem xr_44_6 : X_row 44 6 = some (6, (.istore_n 2, 1), (0, 0, 0)) := by decide +kernel
theorem xr_44_7 : X_row 44 7 = some (7, (.aload_n 0, 1), (0, 0, 0)) := by decide +kernel
theorem xr_44_8 : X_row 44 8 = some (8, (.getfield 19, 3), (2, 5, 28)) := by decide +kernel
theorem xr_44_11 : X_row 44 11 = some (11, (.iload_n 1, 1), (0, 0, 0)) := by decide +kernel
theorem xr_44_12 : X_row 44 12 = some (12, (.iaload, 1), (0, 0, 0)) := by decide +kernel
theorem xr_44_13 : X_row 44 13 = some (13, (.istore_n 3, 1), (0, 0, 0)) := by decide +kernel
theorem xr_44_14 : X_row 44 14 = some (14, (.aload_n 0, 1), (0, 0, 0)) := by decide +kernel
theorem xr_44_15 : X_row 44 15 = some (15, (.getfield 44, 3), (2, 0, 18)) := by decide +kernel
theorem xr_44_18 : X_row 44 18 = some (18, (.iload_n 2, 1), (0, 0, 0)) := by decide +kernel
theorem xr_44_19 : X_row 44 19 = some (19, (.iload_n 3, 1), (0, 0, 0)) := by decide +kernel
theorem xr_44_20 : X_row 44 20 = some (20, (.aload_n 0, 1), (0, 0, 0)) := by decide +kernel
theorem xr_44_21 : X_row 44 21 = some (21, (.getfield 31, 3), (2, 9, 36)) := by decide +kernel
theorem xr_44_24 : X_row 44 24 = some (24, (.iload_n 1, 1), (0, 0, 0)) := by decide +kernel
theorem xr_44_25 : X_row 44 25 = some (25, (.iaload, 1), (0, 0, 0)) := by decide +kernel
theorem xr_44_26 : X_row 44 26 = some (26, (.invokevirtual 107, 3), (28, 10, 0)) := by decide +kernel
theorem xr_44_29 : X_row 44 29 = some (29, (.lstore 4, 2), (0, 0, 0)) := by decide +kernel
theorem xr_44_31 : X_row 44 31 = some (31, (.iconst (-1), 1), (0, 0, 0)) := by decide +kernel
theorem xr_44_32 : X_row 44 32 = some (32, (.istore 6, 2), (0, 0, 0)) := by decide +kernel
theorem xr_44_34 : X_row 44 34 = some (34, (.iconst 0, 1), (0, 0, 0)) := by decide +kernel
theorem xr_44_35 : X_row 44 35 = some (35, (.istore 7, 2), (0, 0, 0)) := by decide +kernel
theorem xr_44_37 : X_row 44 37 = some (37, (.iload 7, 2), (0, 0, 0)) := by decide +kernel
theorem xr_44_39 : X_row 44 39 = some (39, (.aload_n 0, 1), (0, 0, 0)) := by decide +kernel
theorem xr_44_40 : X_row 44 40 = some (40, (.getfield 44, 3), (2, 0, 18)) := by decide +kernel
theorem xr_44_43 : X_row 44 43 = some (43, (.getfield 98, 3), (1, 0, 17)) := by decide +kernel
theorem xr_44_46 : X_row 44 46 = some (46, (.getfield 111, 3), (0, 2, 11)) := by decide +kernel
theorem xr_44_49 : X_row 44 49 = some (49, (.if_icmp .ge 72, 3), (0, 0, 0)) := by decide +kernel
theorem xr_44_52 : X_row 44 52 = some (52, (.lload 4, 2), (0, 0, 0)) := by decide +kernel
theorem xr_44_54 : X_row 44 54 = some (54, (.ldc2_w 114, 3), (18446744073709551614, 946, 0)) := by decide +kernel
theorem xr_44_57 : X_row 44 57 = some (57, (.lcmp, 1), (0, 0, 0)) := by decide +kernel
theorem xr_44_58 : X_row 44 58 = some (58, (.ifCond .eq 63, 3), (0, 0, 0)) := by decide +kernel
theorem xr_44_61 : X_row 44 61 = some (61, (.aload_n 0, 1), (0, 0, 0)) := by decide +kernel
theorem xr_44_62 : X_row 44 62 = some (62, (.getfield 34, 3), (2, 10, 38)) := by decide +kernel
theorem xr_44_65 : X_row 44 65 = some (65, (.iload_n 1, 1), (0, 0, 0)) := by decide +kernel
theorem xr_44_66 : X_row 44 66 = some (66, (.laload, 1), (0, 0, 0)) := by decide +kernel
theorem xr_44_67 : X_row 44 67 = some (67, (.lload 4, 2), (0, 0, 0)) := by decide +kernel
theorem xr_44_69 : X_row 44 69 = some (69, (.lcmp, 1), (0, 0, 0)) := by decide +kernel
theorem xr_44_70 : X_row 44 70 = some (70, (.ifCond .lt 51, 3), (0, 0, 0)) := by decide +kernel
theorem xr_44_73 : X_row 44 73 = some (73, (.aload_n 0, 1), (0, 0, 0)) := by decide +kernel
theorem xr_44_74 : X_row 44 74 = some (74, (.getfield 28, 3), (2, 8, 34)) := by decide +kernel
theorem xr_44_77 : X_row 44 77 = some (77, (.iload_n 1, 1), (0, 0, 0)) := by decide +kernel
theorem xr_44_78 : X_row 44 78 = some (78, (.iaload, 1), (0, 0, 0)) := by decide +kernel
theorem xr_44_79 : X_row 44 79 = some (79, (.iload 7, 2), (0, 0, 0)) := by decide +kernel
theorem xr_44_81 : X_row 44 81 = some (81, (.invokestatic 116, 3), (131, 13, 0)) := by decide +kernel
theorem xr_44_84 : X_row 44 84 = some (84, (.ifCond .eq 31, 3), (0, 0, 0)) := by decide +kernel
theorem xr_44_87 : X_row 44 87 = some (87, (.aload_n 0, 1), (0, 0, 0)) := by decide +kernel
theorem xr_44_88 : X_row 44 88 = some (88, (.getfield 34, 3), (2, 10, 38)) := by decide +kernel
theorem xr_44_91 : X_row 44 91 = some (91, (.iload_n 1, 1), (0, 0, 0)) := by decide +kernel
theorem xr_44_92 : X_row 44 92 = some (92, (.dup2, 1), (0, 0, 0)) := by decide +kernel
theorem xr_44_93 : X_row 44 93 = some (93, (.laload, 1), (0, 0, 0)) := by decide +kernel
theorem xr_44_94 : X_row 44 94 = some (94, (.lload 4, 2), (0, 0, 0)) := by decide +kernel
theorem xr_44_96 : X_row 44 96 = some (96, (.lsub, 1), (0, 0, 0)) := by decide +kernel
theorem xr_44_97 : X_row 44 97 = some (97, (.lastore, 1), (0, 0, 0)) := by decide +kernel
theorem xr_44_98 : X_row 44 98 = some (98, (.aload_n 0, 1), (0, 0, 0)) := by decide +kernel
theorem xr_44_99 : X_row 44 99 = some (99, (.getfield 44, 3), (2, 0, 18)) := by decide +kernel
theorem xr_44_102 : X_row 44 102 = some (102, (.iload_n 2, 1), (0, 0, 0)) := by decide +kernel
theorem xr_44_103 : X_row 44 103 = some (103, (.iload_n 3, 1), (0, 0, 0)) := by decide +kernel
theorem xr_44_104 : X_row 44 104 = some (104, (.iload 7, 2), (0, 0, 0)) := by decide +kernel
theorem xr_44_106 : X_row 44 106 = some (106, (.invokevirtual 120, 3), (26, 14, 0)) := by decide +kernel
theorem xr_44_109 : X_row 44 109 = some (109, (.lstore 4, 2), (0, 0, 0)) := by decide +kernel
theorem xr_44_111 : X_row 44 111 = some (111, (.iload 7, 2), (0, 0, 0)) := by decide +kernel
theorem xr_44_113 : X_row 44 113 = some (113, (.istore 6, 2), (0, 0, 0)) := by decide +kernel
theorem xr_44_115 : X_row 44 115 = some (115, (.iinc 7 1, 3), (0, 0, 0)) := by decide +kernel
theorem xr_44_118 : X_row 44 118 = some (118, (.goto (-81), 3), (0, 0, 0)) := by decide +kernel
theorem xr_44_121 : X_row 44 121 = some (121, (.iload 6, 2), (0, 0, 0)) := by decide +kernel
theorem xr_44_123 : X_row 44 123 = some (123, (.ireturn, 1), (0, 0, 0)) := by decide +kernel
theorem xn_26 : X_nL 26 = 4 := by decide +kernel
theorem xf_26 : X_na 26 = 3 ∧ X_ci 26 = 1 ∧ X_rt 26 = (some .long) := by decide +kernel
theorem xn_28 : X_nL 28 = 4 := by decide +kernel
theorem xf_28 : X_na 28 = 3 ∧ X_ci 28 = 1 ∧ X_rt 28 = (some .long) := by decide +kernel
theorem xn_44 : X_nL 44 = 8 := by decide +kernel
theorem xf_44 : X_na 44 = 1 ∧ X_ci 44 = 2 ∧ X_rt 44 = (some .int) := by decide +kernel
set_option maxHeartbeats 1600000 in
theorem c_chooseWord (sc : X_Sc) (S : X_S) (oK : Int → Int64) (oW : Int → Int64) (oA : Int → Int64) (oH : Int → Int64) (fF : Int → Int) (fE : Int → Int) (fW : Int → Int) (fK : Int → Int) (fN : Int → Int64) (B : Nat) (rc : Int) (rn : Int → Int64) (kn : Int → Int64) (G : X_G) (tn : Int) (fl : Int) (wt : Int) (t : Int) (i : Int) (j : Int) (u : Int) (o : Int) (en : Int) (k : Nat) (hO511 : S.1 511 = .inr (1, [.ref B, .ref 501, .int (iI fl), .ref 512, .ref 513, .ref 514, .ref 515, .ref 516])) (hO517 : S.1 517 = .inr (2, [.ref 511, .ref 501, .ref 504, .int (iI wt), .ref 518, .ref 519, .ref 520, .ref 521, .ref 522, .ref 523, .ref 524, .ref 525, .ref 526])) (hA512 : S.1 512 = .inl (.long, 5115, .inr (.inl fun k : Nat => oK (k : Int)))) (hA513 : S.1 513 = .inl (.long, 13950, .inr (.inl fun k : Nat => oW (k : Int)))) (hA514 : S.1 514 = .inl (.long, 465, .inr (.inl fun k : Nat => oA (k : Int)))) (hA515 : S.1 515 = .inl (.long, 55800, .inr (.inl fun k : Nat => oH (k : Int)))) (hA518 : S.1 518 = .inl (.int, 30, .inl fun k : Nat => iI (fF (k : Int)))) (hA519 : S.1 519 = .inl (.int, 30, .inl fun k : Nat => iI (fE (k : Int)))) (hA522 : S.1 522 = .inl (.int, 30, .inl fun k : Nat => iI (fW (k : Int)))) (hA523 : S.1 523 = .inl (.int, 30, .inl fun k : Nat => iI (fK (k : Int)))) (hA524 : S.1 524 = .inl (.long, 30, .inr (.inl fun k : Nat => fN (k : Int)))) (hB : B = 4 ∨ B = 250) (hb : C_bk S B rc (gk G) (gw G) rn (gl G) kn (ga G)) (hs : C_ws S B (gD G) (gW G)) (hG : X_Gok G) (ht : 0 ≤ t ∧ t < 30) (hij : 0 ≤ i ∧ i < j ∧ j ≤ 30) (hfi : fF t = i) (hfe : fE t = j) (hwb : ∀ v, 0 ≤ v → v < gw G → (X_bt (fW t) v ↔ (X_bt (ga G (gD G v 2 0)) u ∧ X_lt G o en v))) (hkb : ∀ z, 0 ≤ z → z < gk G → (X_bt (fK t) z ↔ X_bt (ga G z) u)) (hfn : fN t = iL (k : Int)) (hk : k < X_Hc G (X_T_ G) u o en i j) (hkm : k ≤ 9223372036854775807) (hrw : X_rw G (-2) i j oK oW oA oH) : X_T sc 44 (0, [(0, .ref 517), (1, .int (iI t))], [], S) (fun v S' => (∃ (fN1 : Int → Int64), v = some (.int (iI (-1))) ∧ k < X_Hq G (X_T_ G) u i j ∧ (∀ q, fN1 q = fN q) ∧ S'.1 524 = .inl (.long, 30, .inr (.inl fun k : Nat => fN1 (k : Int))) ∧ X_Fr (fun q => q = 524) S S') ∨ (∃ (v1 : Int) (k2 : Nat) (fN1 : Int → Int64), v = some (.int (iI v1)) ∧ ¬ k < X_Hq G (X_T_ G) u i j ∧ (0 ≤ v1 ∧ v1 < gw G) ∧ X_fd (X_cF G u o en i j) (gw G).toNat 0 (k - X_Hq G (X_T_ G) u i j) = (v1, k2) ∧ k2 < (X_T_ G).1 v1 i j ∧ k2 ≤ k ∧ fN1 t = iL (k2 : Int) ∧ (∀ q, ¬ q = t → fN1 q = fN q) ∧ S'.1 524 = .inl (.long, 30, .inr (.inl fun k : Nat => fN1 (k : Int))) ∧ X_Fr (fun q => q = 524) S S')) := by
  obtain ⟨hb0, hb1, hb2, hb3, hb4, ⟨f, hb5, hf⟩, ⟨hrc, hrcb⟩, ⟨hkc, hkcb⟩, ⟨hwc, hwcb⟩⟩ := id hb
  have hkP : k < X_Hq G (X_T_ G) u i j + X_Su (X_cF G u o en i j) 0 (gw G) := hk
  have hc1 := hG.1
  refine X_QI (fun Q hQ => ?_)
  refine T_p xr_44_0 xn_44 (pc' := 1) (ls' := [(0, .ref 517), (1, .int (iI t))]) (st' := [.ref 517]) rfl ?_
  refine T_get xr_44_1 hO517 rfl (v := .ref 518) rfl (pc' := 4) rfl ?_
  refine T_p xr_44_4 xn_44 (pc' := 5) (ls' := [(0, .ref 517), (1, .int (iI t))]) (st' := [.int (iI t), .ref 518]) rfl ?_
  refine T_ziald xr_44_5 hA518 (pc' := 6) rfl ?_
  refine T_ie (y := iI i) (by rw [hfi]) ?_
  refine T_p xr_44_6 xn_44 (pc' := 7) (ls' := [(2, .int (iI i)), (0, .ref 517), (1, .int (iI t))]) (st' := []) rfl ?_
  refine T_p xr_44_7 xn_44 (pc' := 8) (ls' := [(2, .int (iI i)), (0, .ref 517), (1, .int (iI t))]) (st' := [.ref 517]) rfl ?_
  refine T_get xr_44_8 hO517 rfl (v := .ref 519) rfl (pc' := 11) rfl ?_
  refine T_p xr_44_11 xn_44 (pc' := 12) (ls' := [(2, .int (iI i)), (0, .ref 517), (1, .int (iI t))]) (st' := [.int (iI t), .ref 519]) rfl ?_
  refine T_ziald xr_44_12 hA519 (pc' := 13) rfl ?_
  refine T_ie (y := iI j) (by rw [hfe]) ?_
  refine T_p xr_44_13 xn_44 (pc' := 14) (ls' := [(3, .int (iI j)), (2, .int (iI i)), (0, .ref 517), (1, .int (iI t))]) (st' := []) rfl ?_
  refine T_p xr_44_14 xn_44 (pc' := 15) (ls' := [(3, .int (iI j)), (2, .int (iI i)), (0, .ref 517), (1, .int (iI t))]) (st' := [.ref 517]) rfl ?_
  refine T_get xr_44_15 hO517 rfl (v := .ref 511) rfl (pc' := 18) rfl ?_
  refine T_p xr_44_18 xn_44 (pc' := 19) (ls' := [(3, .int (iI j)), (2, .int (iI i)), (0, .ref 517), (1, .int (iI t))]) (st' := [.int (iI i), .ref 511]) rfl ?_
  refine T_p xr_44_19 xn_44 (pc' := 20) (ls' := [(3, .int (iI j)), (2, .int (iI i)), (0, .ref 517), (1, .int (iI t))]) (st' := [.int (iI j), .int (iI i), .ref 511]) rfl ?_
  refine T_p xr_44_20 xn_44 (pc' := 21) (ls' := [(3, .int (iI j)), (2, .int (iI i)), (0, .ref 517), (1, .int (iI t))]) (st' := [.ref 517, .int (iI j), .int (iI i), .ref 511]) rfl ?_
  refine T_get xr_44_21 hO517 rfl (v := .ref 523) rfl (pc' := 24) rfl ?_
  refine T_p xr_44_24 xn_44 (pc' := 25) (ls' := [(3, .int (iI j)), (2, .int (iI i)), (0, .ref 517), (1, .int (iI t))]) (st' := [.int (iI t), .ref 523, .int (iI j), .int (iI i), .ref 511]) rfl ?_
  refine T_ziald xr_44_25 hA523 (pc' := 26) rfl ?_
  refine T_cv (S := S) (q := 511) xr_44_26 xf_28.1 xf_28.2.1 xn_28 (as := [.int (iI i), .int (iI j), .int (iI (fK t))]) (r := []) rfl hO511 (Nat.le_of_ble_eq_true rfl) (Nat.le_of_ble_eq_true rfl) (pc' := 29) rfl (ls' := [(0, .ref 511), (1, .int (iI i)), (2, .int (iI j)), (3, .int (iI (fK t)))]) rfl ?_
  refine T_p xr_28_0 xn_28 (pc' := 1) (ls' := [(0, .ref 511), (1, .int (iI i)), (2, .int (iI j)), (3, .int (iI (fK t)))]) (st' := [.ref 511]) rfl ?_
  refine T_p xr_28_1 xn_28 (pc' := 2) (ls' := [(0, .ref 511), (1, .int (iI i)), (2, .int (iI j)), (3, .int (iI (fK t)))]) (st' := [.int (iI i), .ref 511]) rfl ?_
  refine T_p xr_28_2 xn_28 (pc' := 3) (ls' := [(0, .ref 511), (1, .int (iI i)), (2, .int (iI j)), (3, .int (iI (fK t)))]) (st' := [.int (iI j), .int (iI i), .ref 511]) rfl ?_
  refine T_cs xr_28_3 (by decide) xf_24.1 xn_24 (as := [.int (iI i), .int (iI j)]) (r := [.ref 511]) rfl (Nat.le_of_ble_eq_true rfl) (Nat.le_of_ble_eq_true rfl) (pc' := 6) rfl (ls' := [(0, .int (iI i)), (1, .int (iI j))]) rfl ?_
  refine T_mono (c_rowOf sc S i j (by omega)) (fun v1086 S1087 h1088 => ?_)
  rcases h1088 with ⟨hv1089, hf1090⟩
  rw [hv1089]
  rw [hf1090]
  have hr1091 := X_ro_r (i := i) (j := j) (by omega) (by omega) (by omega)
  show X_T sc 28 (6, [(0, .ref 511), (1, .int (iI i)), (2, .int (iI j)), (3, .int (iI (fK t)))], [.int (iI (X_ro i j)), .ref 511], S) _
  refine T_p xr_28_6 xn_28 (pc' := 7) (ls' := [(0, .ref 511), (1, .int (iI i)), (2, .int (iI j)), (3, .int (iI (fK t)))]) (st' := [.int (iI (fK t)), .int (iI (X_ro i j)), .ref 511]) rfl ?_
  refine T_cv (S := S) (q := 511) xr_28_7 xf_29.1 xf_29.2.1 xn_29 (as := [.int (iI (X_ro i j)), .int (iI (fK t))]) (r := []) rfl hO511 (Nat.le_of_ble_eq_true rfl) (Nat.le_of_ble_eq_true rfl) (pc' := 10) rfl (ls' := [(0, .ref 511), (1, .int (iI (X_ro i j))), (2, .int (iI (fK t)))]) rfl ?_
  refine T_mono (c_sumK sc S oK B rc rn kn G tn fl (X_ro i j) (fK t) (fun z => X_nm G z i j + (X_T_ G).2 z i j) hO511 hA512 hB ⟨hb0, hb1, hb2, hb3, hb4, ⟨f, hb5, hf⟩, ⟨by omega, by omega⟩, ⟨by omega, by omega⟩, ⟨by omega, by omega⟩⟩ hs hG (by omega) hrw.1) (fun v1092 S1093 h1094 => ?_)
  rcases h1094 with ⟨hv1095, hf1096⟩
  rw [hv1095]
  rw [hf1096]
  show X_T sc 28 (10, [(0, .ref 511), (1, .int (iI i)), (2, .int (iI j)), (3, .int (iI (fK t)))], [.long (X_st (-2) (X_Su (fun k => X_if (X_bt (fK t) k) ((fun z => X_nm G z i j + (X_T_ G).2 z i j) k)) 0 (gk G)))], S) _
  refine T_lret xr_28_10 xf_28.2.2 rfl ?_
  show X_T sc 44 (29, [(3, .int (iI j)), (2, .int (iI i)), (0, .ref 517), (1, .int (iI t))], [.long (X_st (-2) (X_Su (fun k => X_if (X_bt (fK t) k) ((fun z => X_nm G z i j + (X_T_ G).2 z i j) k)) 0 (gk G)))], S) _
  refine T_le (y := (X_st (-2) (X_Hq G (X_T_ G) u i j))) (by
        refine congrArg (X_st (-2)) ?_
        exact X_Su_c (fun z h1 h2 => X_if_c (hkb z h1 h2) (fun _ => rfl))) ?_
  refine T_p xr_44_29 xn_44 (pc' := 31) (ls' := [(4, .long (X_st (-2) (X_Hq G (X_T_ G) u i j))), (3, .int (iI j)), (2, .int (iI i)), (0, .ref 517), (1, .int (iI t))]) (st' := []) rfl ?_
  refine T_p xr_44_31 xn_44 (pc' := 32) (ls' := [(4, .long (X_st (-2) (X_Hq G (X_T_ G) u i j))), (3, .int (iI j)), (2, .int (iI i)), (0, .ref 517), (1, .int (iI t))]) (st' := [.int (iI (-1))]) rfl ?_
  refine T_p xr_44_32 xn_44 (pc' := 34) (ls' := [(6, .int (iI (-1))), (4, .long (X_st (-2) (X_Hq G (X_T_ G) u i j))), (3, .int (iI j)), (2, .int (iI i)), (0, .ref 517), (1, .int (iI t))]) (st' := []) rfl ?_
  refine T_p xr_44_34 xn_44 (pc' := 35) (ls' := [(6, .int (iI (-1))), (4, .long (X_st (-2) (X_Hq G (X_T_ G) u i j))), (3, .int (iI j)), (2, .int (iI i)), (0, .ref 517), (1, .int (iI t))]) (st' := [.int (iI 0)]) rfl ?_
  refine T_p xr_44_35 xn_44 (pc' := 37) (ls' := [(7, .int (iI 0)), (6, .int (iI (-1))), (4, .long (X_st (-2) (X_Hq G (X_T_ G) u i j))), (3, .int (iI j)), (2, .int (iI i)), (0, .ref 517), (1, .int (iI t))]) (st' := []) rfl ?_
  have L1097 : ∀ (m1099 : Nat) (S1102 : X_S) (w : Int) (c : Int) (R : Nat) (K : Nat) (fN1 : Int → Int64) (hfN1 : S1102.1 524 = .inl (.long, 30, .inr (.inl fun k : Nat => fN1 (k : Int)))) (hF1101 : X_Fr (fun q => q = 524) S S1102) (hw : 0 ≤ w ∧ w ≤ gw G ∧ -1 ≤ c ∧ c < 30) (hKm : K ≤ 9223372036854775807) (hN : fN1 t = iL (K : Int) ∧ ∀ q, ¬ q = t → fN1 q = fN q) (hinv : (k - K + R = X_Hq G (X_T_ G) u i j + X_Su (X_cF G u o en i j) 0 w ∧ K ≤ k ∧ ((c = -1 ∧ K = k ∧ R = X_Hq G (X_T_ G) u i j) ∨ (0 ≤ c ∧ c < w ∧ (X_bt (ga G (gD G c 2 0)) u ∧ X_lt G o en c) ∧ R = (X_T_ G).1 c i j ∧ k = X_Hq G (X_T_ G) u i j + X_Su (X_cF G u o en i j) 0 c + K)))) (hm1100 : gw G - w < m1099), X_T sc 44 (37, [(7, .int (iI w)), (6, .int (iI c)), (4, .long (X_st (-2) R)), (2, .int (iI i)), (3, .int (iI j)), (0, .ref 517), (1, .int (iI t))], [], S1102) Q := by
    intro m1099
    induction m1099 with
    | zero =>
      intro S1102 w c R K fN1 hfN1 hF1101 hw hKm hN hinv hm1100
      exact (show False by omega).elim
    | succ m1099 ih1098 =>
      intro S1102 w c R K fN1 hfN1 hF1101 hw hKm hN hinv hm1100
      refine T_p xr_44_37 xn_44 (pc' := 39) (ls' := [(7, .int (iI w)), (6, .int (iI c)), (4, .long (X_st (-2) R)), (2, .int (iI i)), (3, .int (iI j)), (0, .ref 517), (1, .int (iI t))]) (st' := [.int (iI w)]) rfl ?_
      refine T_p xr_44_39 xn_44 (pc' := 40) (ls' := [(7, .int (iI w)), (6, .int (iI c)), (4, .long (X_st (-2) R)), (2, .int (iI i)), (3, .int (iI j)), (0, .ref 517), (1, .int (iI t))]) (st' := [.ref 517, .int (iI w)]) rfl ?_
      have h1103 := (hF1101.1 517 (by omega)).trans (hO517)
      refine T_get xr_44_40 h1103 rfl (v := .ref 511) rfl (pc' := 43) rfl ?_
      have h1104 := (hF1101.1 511 (by omega)).trans (hO511)
      refine T_get xr_44_43 h1104 rfl (v := .ref B) rfl (pc' := 46) rfl ?_
      have h1105 := (hF1101.1 B (by omega)).trans (hb0)
      refine T_get xr_44_46 h1105 rfl (v := .int (iI (gw G))) rfl (pc' := 49) rfl ?_
      refine T_zicmp_ge xr_44_49 (t := 121) (pc' := 52) rfl rfl (fun c1106 => ?_) (fun c1106 => ?_)
      · skip
        have c1106 : (gw G) ≤ w := c1106
        refine T_p xr_44_121 xn_44 (pc' := 123) (ls' := [(7, .int (iI w)), (6, .int (iI c)), (4, .long (X_st (-2) R)), (2, .int (iI i)), (3, .int (iI j)), (0, .ref 517), (1, .int (iI t))]) (st' := [.int (iI c)]) rfl ?_
        refine T_iret xr_44_123 xf_44.2.2 rfl ?_
        refine hQ _ _ ?_
        have hKR1107 : K < R := by
          first
            | exact (X_st_lt (m := -2) (by omega) hKm).mp (Or.inl (by first | assumption | exact Classical.not_not.mp (by assumption)))
            | exact (X_st_lt (m := -2) (by omega) hKm).mp (Or.inr (by first | assumption | exact Int64.not_le.mp (by assumption) | exact Classical.not_not.mp (by assumption)))
            | (rw [show w = gw G by omega] at hinv; omega)
        obtain ⟨a1, a2, ⟨b1, b2, b3⟩ | ⟨b1, b2, b3, b4, b5⟩⟩ := hinv
        · refine Or.inl ⟨fN1, by rw [b1], by omega, fun q => ?_, hfN1, (X_Fr.rf).tr (X_Fr.mono ⟨hF1101.1, hF1101.2⟩ (fun q hq => (by omega)))⟩
          by_cases hq : q = t
          · rw [hq, hN.1, b2, hfn]
          · exact hN.2 q hq
        · exact Or.inr ⟨c, K, fN1, rfl, by omega, by omega, X_ch_u hG (by omega) b3 b5 (by omega), by omega, by omega, hN.1, hN.2, hfN1, (X_Fr.rf).tr (X_Fr.mono ⟨hF1101.1, hF1101.2⟩ (fun q hq => (by omega)))⟩
      · skip
        have c1106 : ¬ ((gw G) ≤ w) := c1106
        refine T_p xr_44_52 xn_44 (pc' := 54) (ls' := [(7, .int (iI w)), (6, .int (iI c)), (4, .long (X_st (-2) R)), (2, .int (iI i)), (3, .int (iI j)), (0, .ref 517), (1, .int (iI t))]) (st' := [.long (X_st (-2) R)]) rfl ?_
        refine T_p xr_44_54 xn_44 (pc' := 57) (ls' := [(7, .int (iI w)), (6, .int (iI c)), (4, .long (X_st (-2) R)), (2, .int (iI i)), (3, .int (iI j)), (0, .ref 517), (1, .int (iI t))]) (st' := [.long (iL (-2)), .long (X_st (-2) R)]) rfl ?_
        refine T_lc_eq xr_44_57 xr_44_58 (t := 121) (pc' := 61) rfl rfl (fun c1108 => ?_) (fun c1108 => ?_)
        · skip
          have c1108 : (X_st (-2) R) = (iL (-2)) := c1108
          refine T_p xr_44_121 xn_44 (pc' := 123) (ls' := [(7, .int (iI w)), (6, .int (iI c)), (4, .long (X_st (-2) R)), (2, .int (iI i)), (3, .int (iI j)), (0, .ref 517), (1, .int (iI t))]) (st' := [.int (iI c)]) rfl ?_
          refine T_iret xr_44_123 xf_44.2.2 rfl ?_
          refine hQ _ _ ?_
          have hKR1109 : K < R := by
            first
              | exact (X_st_lt (m := -2) (by omega) hKm).mp (Or.inl (by first | assumption | exact Classical.not_not.mp (by assumption)))
              | exact (X_st_lt (m := -2) (by omega) hKm).mp (Or.inr (by first | assumption | exact Int64.not_le.mp (by assumption) | exact Classical.not_not.mp (by assumption)))
              | (rw [show w = gw G by omega] at hinv; omega)
          obtain ⟨a1, a2, ⟨b1, b2, b3⟩ | ⟨b1, b2, b3, b4, b5⟩⟩ := hinv
          · refine Or.inl ⟨fN1, by rw [b1], by omega, fun q => ?_, hfN1, (X_Fr.rf).tr (X_Fr.mono ⟨hF1101.1, hF1101.2⟩ (fun q hq => (by omega)))⟩
            by_cases hq : q = t
            · rw [hq, hN.1, b2, hfn]
            · exact hN.2 q hq
          · exact Or.inr ⟨c, K, fN1, rfl, by omega, by omega, X_ch_u hG (by omega) b3 b5 (by omega), by omega, by omega, hN.1, hN.2, hfN1, (X_Fr.rf).tr (X_Fr.mono ⟨hF1101.1, hF1101.2⟩ (fun q hq => (by omega)))⟩
        · skip
          have c1108 : ¬ ((X_st (-2) R) = (iL (-2))) := c1108
          refine T_p xr_44_61 xn_44 (pc' := 62) (ls' := [(7, .int (iI w)), (6, .int (iI c)), (4, .long (X_st (-2) R)), (2, .int (iI i)), (3, .int (iI j)), (0, .ref 517), (1, .int (iI t))]) (st' := [.ref 517]) rfl ?_
          refine T_get xr_44_62 h1103 rfl (v := .ref 524) rfl (pc' := 65) rfl ?_
          refine T_p xr_44_65 xn_44 (pc' := 66) (ls' := [(7, .int (iI w)), (6, .int (iI c)), (4, .long (X_st (-2) R)), (2, .int (iI i)), (3, .int (iI j)), (0, .ref 517), (1, .int (iI t))]) (st' := [.int (iI t), .ref 524]) rfl ?_
          refine T_zlald xr_44_66 hfN1 (pc' := 67) rfl ?_
          refine T_le (y := (iL (K : Int))) hN.1 ?_
          refine T_p xr_44_67 xn_44 (pc' := 69) (ls' := [(7, .int (iI w)), (6, .int (iI c)), (4, .long (X_st (-2) R)), (2, .int (iI i)), (3, .int (iI j)), (0, .ref 517), (1, .int (iI t))]) (st' := [.long (X_st (-2) R), .long (iL (K : Int))]) rfl ?_
          refine T_lc_lt xr_44_69 xr_44_70 (t := 121) (pc' := 73) rfl rfl (fun c1110 => ?_) (fun c1110 => ?_)
          · skip
            have c1110 : (iL (K : Int)) < (X_st (-2) R) := c1110
            refine T_p xr_44_121 xn_44 (pc' := 123) (ls' := [(7, .int (iI w)), (6, .int (iI c)), (4, .long (X_st (-2) R)), (2, .int (iI i)), (3, .int (iI j)), (0, .ref 517), (1, .int (iI t))]) (st' := [.int (iI c)]) rfl ?_
            refine T_iret xr_44_123 xf_44.2.2 rfl ?_
            refine hQ _ _ ?_
            have hKR1111 : K < R := by
              first
                | exact (X_st_lt (m := -2) (by omega) hKm).mp (Or.inl (by first | assumption | exact Classical.not_not.mp (by assumption)))
                | exact (X_st_lt (m := -2) (by omega) hKm).mp (Or.inr (by first | assumption | exact Int64.not_le.mp (by assumption) | exact Classical.not_not.mp (by assumption)))
                | (rw [show w = gw G by omega] at hinv; omega)
            obtain ⟨a1, a2, ⟨b1, b2, b3⟩ | ⟨b1, b2, b3, b4, b5⟩⟩ := hinv
            · refine Or.inl ⟨fN1, by rw [b1], by omega, fun q => ?_, hfN1, (X_Fr.rf).tr (X_Fr.mono ⟨hF1101.1, hF1101.2⟩ (fun q hq => (by omega)))⟩
              by_cases hq : q = t
              · rw [hq, hN.1, b2, hfn]
              · exact hN.2 q hq
            · exact Or.inr ⟨c, K, fN1, rfl, by omega, by omega, X_ch_u hG (by omega) b3 b5 (by omega), by omega, by omega, hN.1, hN.2, hfN1, (X_Fr.rf).tr (X_Fr.mono ⟨hF1101.1, hF1101.2⟩ (fun q hq => (by omega)))⟩
          · skip
            have c1110 : ¬ ((iL (K : Int)) < (X_st (-2) R)) := c1110
            refine T_p xr_44_73 xn_44 (pc' := 74) (ls' := [(7, .int (iI w)), (6, .int (iI c)), (4, .long (X_st (-2) R)), (2, .int (iI i)), (3, .int (iI j)), (0, .ref 517), (1, .int (iI t))]) (st' := [.ref 517]) rfl ?_
            refine T_get xr_44_74 h1103 rfl (v := .ref 522) rfl (pc' := 77) rfl ?_
            refine T_p xr_44_77 xn_44 (pc' := 78) (ls' := [(7, .int (iI w)), (6, .int (iI c)), (4, .long (X_st (-2) R)), (2, .int (iI i)), (3, .int (iI j)), (0, .ref 517), (1, .int (iI t))]) (st' := [.int (iI t), .ref 522]) rfl ?_
            have h1112 := (hF1101.1 522 (by omega)).trans (hA522)
            refine T_ziald xr_44_78 h1112 (pc' := 79) rfl ?_
            refine T_p xr_44_79 xn_44 (pc' := 81) (ls' := [(7, .int (iI w)), (6, .int (iI c)), (4, .long (X_st (-2) R)), (2, .int (iI i)), (3, .int (iI j)), (0, .ref 517), (1, .int (iI t))]) (st' := [.int (iI w), .int (iI (fW t))]) rfl ?_
            refine T_cs xr_44_81 (by decide) xf_131.1 xn_131 (as := [.int (iI (fW t)), .int (iI w)]) (r := []) rfl (Nat.le_of_ble_eq_true rfl) (Nat.le_of_ble_eq_true rfl) (pc' := 84) rfl (ls' := [(0, .int (iI (fW t))), (1, .int (iI w))]) rfl ?_
            refine T_mono (c_hasBit sc S1102 (fW t) w) (fun v1114 S1115 h1113 => ?_)
            obtain ⟨h1116, h1117⟩ := h1113
            rw [h1116, h1117]
            show X_T sc 44 (84, [(7, .int (iI w)), (6, .int (iI c)), (4, .long (X_st (-2) R)), (2, .int (iI i)), (3, .int (iI j)), (0, .ref 517), (1, .int (iI t))], [.int (iI (bI (X_bt (fW t) w)))], S1102) _
            refine T_bif_eq xr_44_84 (t := 115) (pc' := 87) rfl rfl (fun c1118 => ?_) (fun c1118 => ?_)
            · skip
              have c1118 : ¬ (X_bt (fW t) w) := c1118
              refine T_ziinc xr_44_115 xn_44 (a := w) (z := w + 1) rfl (Nat.le_of_ble_eq_true rfl) (by omega) (ls' := [(7, .int (iI (w + 1))), (6, .int (iI c)), (4, .long (X_st (-2) R)), (2, .int (iI i)), (3, .int (iI j)), (0, .ref 517), (1, .int (iI t))]) rfl (pc' := 118) rfl ?_
              refine T_p xr_44_118 xn_44 (pc' := 37) (ls' := [(7, .int (iI (w + 1))), (6, .int (iI c)), (4, .long (X_st (-2) R)), (2, .int (iI i)), (3, .int (iI j)), (0, .ref 517), (1, .int (iI t))]) (st' := []) rfl ?_
              exact ih1098 S1102 (w + 1) c R K fN1 hfN1 (hF1101.tr (X_Fr.rf)) (by omega) (by omega) hN (by
                    obtain ⟨a1, a2, a3⟩ := hinv
                    have hno : ¬ (X_bt (ga G (gD G w 2 0)) u ∧ X_lt G o en w) := fun z => absurd ((hwb w (by omega) (by omega)).mpr z) (by assumption)
                    have es : X_Su (X_cF G u o en i j) 0 (w + 1) = X_Su (X_cF G u o en i j) 0 w := by rw [X_Su_s (by omega), show X_cF G u o en i j w = 0 from X_if_f hno]; rfl
                    rw [es]
                    exact ⟨a1, a2, by rcases a3 with a3 | ⟨b1, b2, b3⟩; exact Or.inl a3; exact Or.inr ⟨b1, by omega, b3⟩⟩) (by omega)
            · skip
              have c1118 : (X_bt (fW t) w) := c1118
              refine T_p xr_44_87 xn_44 (pc' := 88) (ls' := [(7, .int (iI w)), (6, .int (iI c)), (4, .long (X_st (-2) R)), (2, .int (iI i)), (3, .int (iI j)), (0, .ref 517), (1, .int (iI t))]) (st' := [.ref 517]) rfl ?_
              refine T_get xr_44_88 h1103 rfl (v := .ref 524) rfl (pc' := 91) rfl ?_
              refine T_p xr_44_91 xn_44 (pc' := 92) (ls' := [(7, .int (iI w)), (6, .int (iI c)), (4, .long (X_st (-2) R)), (2, .int (iI i)), (3, .int (iI j)), (0, .ref 517), (1, .int (iI t))]) (st' := [.int (iI t), .ref 524]) rfl ?_
              refine T_p xr_44_92 xn_44 (pc' := 93) (ls' := [(7, .int (iI w)), (6, .int (iI c)), (4, .long (X_st (-2) R)), (2, .int (iI i)), (3, .int (iI j)), (0, .ref 517), (1, .int (iI t))]) (st' := [.int (iI t), .ref 524, .int (iI t), .ref 524]) rfl ?_
              refine T_zlald xr_44_93 hfN1 (pc' := 94) rfl ?_
              refine T_le (y := (iL (K : Int))) hN.1 ?_
              refine T_p xr_44_94 xn_44 (pc' := 96) (ls' := [(7, .int (iI w)), (6, .int (iI c)), (4, .long (X_st (-2) R)), (2, .int (iI i)), (3, .int (iI j)), (0, .ref 517), (1, .int (iI t))]) (st' := [.long (X_st (-2) R), .long (iL (K : Int)), .int (iI t), .ref 524]) rfl ?_
              refine T_p xr_44_96 xn_44 (pc' := 97) (ls' := [(7, .int (iI w)), (6, .int (iI c)), (4, .long (X_st (-2) R)), (2, .int (iI i)), (3, .int (iI j)), (0, .ref 517), (1, .int (iI t))]) (st' := [.long ((iL (K : Int)) - (X_st (-2) R)), .int (iI t), .ref 524]) rfl ?_
              have hRK : R ≤ K ∧ X_st (-2) R = iL (R : Int) := by
                have h1 : ¬ (X_st (-2) R = iL (-2) ∨ iL (K : Int) < X_st (-2) R) := by
                  rintro (h | h)
                  · exact absurd h (by assumption)
                  · first | exact absurd h (by assumption) | exact absurd h (Int64.not_lt.mpr (Classical.not_not.mp (by assumption))) | exact absurd h (Int64.not_lt.mpr (by assumption))
                rw [X_st_lt (by omega) hKm] at h1
                exact ⟨by omega, X_st_lo (by omega)⟩
              refine T_le (y := (iL ((K - R : Nat) : Int))) (by rw [hRK.2]; exact iL_sub hRK.1) ?_
              refine T_zlast xr_44_97 hfN1 (pc' := 98) rfl (fun S1119 h1120 n1121 e1122 => ?_)
              refine T_p xr_44_98 xn_44 (pc' := 99) (ls' := [(7, .int (iI w)), (6, .int (iI c)), (4, .long (X_st (-2) R)), (2, .int (iI i)), (3, .int (iI j)), (0, .ref 517), (1, .int (iI t))]) (st' := [.ref 517]) rfl ?_
              have h1123 := (n1121 517 (by decide)).trans (h1103)
              refine T_get xr_44_99 h1123 rfl (v := .ref 511) rfl (pc' := 102) rfl ?_
              refine T_p xr_44_102 xn_44 (pc' := 103) (ls' := [(7, .int (iI w)), (6, .int (iI c)), (4, .long (X_st (-2) R)), (2, .int (iI i)), (3, .int (iI j)), (0, .ref 517), (1, .int (iI t))]) (st' := [.int (iI i), .ref 511]) rfl ?_
              refine T_p xr_44_103 xn_44 (pc' := 104) (ls' := [(7, .int (iI w)), (6, .int (iI c)), (4, .long (X_st (-2) R)), (2, .int (iI i)), (3, .int (iI j)), (0, .ref 517), (1, .int (iI t))]) (st' := [.int (iI j), .int (iI i), .ref 511]) rfl ?_
              refine T_p xr_44_104 xn_44 (pc' := 106) (ls' := [(7, .int (iI w)), (6, .int (iI c)), (4, .long (X_st (-2) R)), (2, .int (iI i)), (3, .int (iI j)), (0, .ref 517), (1, .int (iI t))]) (st' := [.int (iI w), .int (iI j), .int (iI i), .ref 511]) rfl ?_
              have h1124 := (n1121 511 (by decide)).trans (h1104)
              refine T_cv (S := S1119) (q := 511) xr_44_106 xf_26.1 xf_26.2.1 xn_26 (as := [.int (iI i), .int (iI j), .int (iI w)]) (r := []) rfl h1124 (Nat.le_of_ble_eq_true rfl) (Nat.le_of_ble_eq_true rfl) (pc' := 109) rfl (ls' := [(0, .ref 511), (1, .int (iI i)), (2, .int (iI j)), (3, .int (iI w))]) rfl ?_
              refine T_p xr_26_0 xn_26 (pc' := 1) (ls' := [(0, .ref 511), (1, .int (iI i)), (2, .int (iI j)), (3, .int (iI w))]) (st' := [.ref 511]) rfl ?_
              refine T_get xr_26_1 h1124 rfl (v := .ref 513) rfl (pc' := 4) rfl ?_
              refine T_p xr_26_4 xn_26 (pc' := 5) (ls' := [(0, .ref 511), (1, .int (iI i)), (2, .int (iI j)), (3, .int (iI w))]) (st' := [.int (iI i), .ref 513]) rfl ?_
              refine T_p xr_26_5 xn_26 (pc' := 6) (ls' := [(0, .ref 511), (1, .int (iI i)), (2, .int (iI j)), (3, .int (iI w))]) (st' := [.int (iI j), .int (iI i), .ref 513]) rfl ?_
              refine T_cs xr_26_6 (by decide) xf_24.1 xn_24 (as := [.int (iI i), .int (iI j)]) (r := [.ref 513]) rfl (Nat.le_of_ble_eq_true rfl) (Nat.le_of_ble_eq_true rfl) (pc' := 9) rfl (ls' := [(0, .int (iI i)), (1, .int (iI j))]) rfl ?_
              refine T_mono (c_rowOf sc S1119 i j (by omega)) (fun v1125 S1126 h1127 => ?_)
              rcases h1127 with ⟨hv1128, hf1129⟩
              rw [hv1128]
              rw [hf1129]
              have hr1130 := X_ro_r (i := i) (j := j) (by omega) (by omega) (by omega)
              show X_T sc 26 (9, [(0, .ref 511), (1, .int (iI i)), (2, .int (iI j)), (3, .int (iI w))], [.int (iI (X_ro i j)), .ref 513], S1119) _
              refine T_p xr_26_9 xn_26 (pc' := 11) (ls' := [(0, .ref 511), (1, .int (iI i)), (2, .int (iI j)), (3, .int (iI w))]) (st' := [.int (iI 30), .int (iI (X_ro i j)), .ref 513]) rfl ?_
              refine T_zimul xr_26_11 (z := (X_ro i j) * 30) rfl (pc' := 12) rfl ?_
              refine T_p xr_26_12 xn_26 (pc' := 13) (ls' := [(0, .ref 511), (1, .int (iI i)), (2, .int (iI j)), (3, .int (iI w))]) (st' := [.int (iI w), .int (iI ((X_ro i j) * 30)), .ref 513]) rfl ?_
              refine T_ziadd xr_26_13 (z := ((X_ro i j) * 30) + w) rfl (pc' := 14) rfl ?_
              have h1131 := (n1121 513 (by decide)).trans ((hF1101.1 513 (by omega)).trans (hA513))
              refine T_zlald xr_26_14 h1131 (pc' := 15) rfl ?_
              refine T_le (y := (X_st (-2) ((X_T_ G).1 w i j))) (hrw.2.1 w (by omega) (by omega)) ?_
              refine T_lret xr_26_15 xf_26.2.2 rfl ?_
              show X_T sc 44 (109, [(7, .int (iI w)), (6, .int (iI c)), (4, .long (X_st (-2) R)), (2, .int (iI i)), (3, .int (iI j)), (0, .ref 517), (1, .int (iI t))], [.long (X_st (-2) ((X_T_ G).1 w i j))], S1119) _
              refine T_p xr_44_109 xn_44 (pc' := 111) (ls' := [(4, .long (X_st (-2) ((X_T_ G).1 w i j))), (7, .int (iI w)), (6, .int (iI c)), (2, .int (iI i)), (3, .int (iI j)), (0, .ref 517), (1, .int (iI t))]) (st' := []) rfl ?_
              refine T_p xr_44_111 xn_44 (pc' := 113) (ls' := [(4, .long (X_st (-2) ((X_T_ G).1 w i j))), (7, .int (iI w)), (6, .int (iI c)), (2, .int (iI i)), (3, .int (iI j)), (0, .ref 517), (1, .int (iI t))]) (st' := [.int (iI w)]) rfl ?_
              refine T_p xr_44_113 xn_44 (pc' := 115) (ls' := [(6, .int (iI w)), (4, .long (X_st (-2) ((X_T_ G).1 w i j))), (7, .int (iI w)), (2, .int (iI i)), (3, .int (iI j)), (0, .ref 517), (1, .int (iI t))]) (st' := []) rfl ?_
              refine T_ziinc xr_44_115 xn_44 (a := w) (z := w + 1) rfl (Nat.le_of_ble_eq_true rfl) (by omega) (ls' := [(7, .int (iI (w + 1))), (6, .int (iI w)), (4, .long (X_st (-2) ((X_T_ G).1 w i j))), (2, .int (iI i)), (3, .int (iI j)), (0, .ref 517), (1, .int (iI t))]) rfl (pc' := 118) rfl ?_
              refine T_p xr_44_118 xn_44 (pc' := 37) (ls' := [(7, .int (iI (w + 1))), (6, .int (iI w)), (4, .long (X_st (-2) ((X_T_ G).1 w i j))), (2, .int (iI i)), (3, .int (iI j)), (0, .ref 517), (1, .int (iI t))]) (st' := []) rfl ?_
              exact ih1098 S1119 (w + 1) w ((X_T_ G).1 w i j) (K - R) (X_ug fN1 t (iL ((K - R : Nat) : Int))) h1120 (hF1101.tr ((X_Fr.rf).tr (X_Fr.of n1121 e1122 (by omega)))) (by omega) (by omega) ⟨X_ug_s _ _ _, fun q hq => (X_ug_n _ _ hq).trans (hN.2 q hq)⟩ (by
                    obtain ⟨a1, a2, a3⟩ := hinv
                    have hok := (hwb w (by omega) (by omega)).mp (by assumption)
                    have es : X_Su (X_cF G u o en i j) 0 (w + 1) = X_Su (X_cF G u o en i j) 0 w + (X_T_ G).1 w i j := by rw [X_Su_s (by omega)]; congr 1; exact X_if_t hok
                    refine ⟨by omega, by omega, Or.inr ⟨by omega, by omega, hok, rfl, by omega⟩⟩) (by omega)
  refine T_sub (ls := [(7, .int (iI 0)), (6, .int (iI (-1))), (4, .long (X_st (-2) (X_Hq G (X_T_ G) u i j))), (2, .int (iI i)), (3, .int (iI j)), (0, .ref 517), (1, .int (iI t))]) ⟨rfl, rfl, rfl, rfl, rfl, rfl, rfl, trivial⟩ rfl rfl ?_
  exact L1097 ((gw G) + 1).toNat S 0 (-1) (X_Hq G (X_T_ G) u i j) k fN hA524 ((X_Fr.rf)) (by omega) hkm ⟨hfn, fun _ _ => rfl⟩ ⟨by rw [X_Su_e (Int.le_refl 0)]; omega, Nat.le_refl _, Or.inl ⟨rfl, rfl, rfl⟩⟩ (by omega)
