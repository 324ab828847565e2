theorem xr_22_0 : X_row 22 0 = some (0, (.aload_n 0, 1), (0, 0, 0)) := by decide +kernel
theorem xr_22_1 : X_row 22 1 = some (1, (.getfield 19, 3), (1, 4, 30)) := by decide +kernel
theorem xr_22_4 : X_row 22 4 = some (4, (.iload_n 1, 1), (0, 0, 0)) := by decide +kernel
theorem xr_22_5 : X_row 22 5 = some (5, (.iload_n 2, 1), (0, 0, 0)) := by decide +kernel
theorem xr_22_6 : X_row 22 6 = some (6, (.invokestatic 40, 3), (20, 2, 0)) := by decide +kernel
theorem xr_22_9 : X_row 22 9 = some (9, (.bipush 30, 2), (0, 0, 0)) := by decide +kernel
theorem xr_22_11 : X_row 22 11 = some (11, (.imul, 1), (0, 0, 0)) := by decide +kernel
theorem xr_22_12 : X_row 22 12 = some (12, (.iload_n 3, 1), (0, 0, 0)) := by decide +kernel
theorem xr_22_13 : X_row 22 13 = some (13, (.iadd, 1), (0, 0, 0)) := by decide +kernel
theorem xr_22_14 : X_row 22 14 = some (14, (.laload, 1), (0, 0, 0)) := by decide +kernel
theorem xr_22_15 : X_row 22 15 = some (15, (.lreturn, 1), (0, 0, 0)) := by decide +kernel
theorem xr_24_0 : X_row 24 0 = some (0, (.aload_n 0, 1), (0, 0, 0)) := by decide +kernel
theorem xr_24_1 : X_row 24 1 = some (1, (.iload_n 1, 1), (0, 0, 0)) := by decide +kernel
theorem xr_24_2 : X_row 24 2 = some (2, (.iload_n 2, 1), (0, 0, 0)) := by decide +kernel
theorem xr_24_3 : X_row 24 3 = some (3, (.invokestatic 40, 3), (20, 2, 0)) := by decide +kernel
theorem xr_24_6 : X_row 24 6 = some (6, (.iload_n 3, 1), (0, 0, 0)) := by decide +kernel
theorem xr_24_7 : X_row 24 7 = some (7, (.invokevirtual 44, 3), (25, 26, 0)) := by decide +kernel
theorem xr_24_10 : X_row 24 10 = some (10, (.lreturn, 1), (0, 0, 0)) := by decide +kernel
theorem xr_40_0 : X_row 40 0 = some (0, (.aload_n 0, 1), (0, 0, 0)) := by decide +kernel
theorem xr_40_1 : X_row 40 1 = some (1, (.getfield 15, 3), (2, 4, 26)) := by decide +kernel
theorem xr_40_4 : X_row 40 4 = some (4, (.iload_n 1, 1), (0, 0, 0)) := by decide +kernel
theorem xr_40_5 : X_row 40 5 = some (5, (.iaload, 1), (0, 0, 0)) := by decide +kernel
theorem xr_40_6 : X_row 40 6 = some (6, (.istore_n 2, 1), (0, 0, 0)) := by decide +kernel
theorem xr_40_7 : X_row 40 7 = some (7, (.aload_n 0, 1), (0, 0, 0)) := by decide +kernel
theorem xr_40_8 : X_row 40 8 = some (8, (.getfield 19, 3), (2, 5, 28)) := by decide +kernel
theorem xr_40_11 : X_row 40 11 = some (11, (.iload_n 1, 1), (0, 0, 0)) := by decide +kernel
theorem xr_40_12 : X_row 40 12 = some (12, (.iaload, 1), (0, 0, 0)) := by decide +kernel
theorem xr_40_13 : X_row 40 13 = some (13, (.istore_n 3, 1), (0, 0, 0)) := by decide +kernel
theorem xr_40_14 : X_row 40 14 = some (14, (.aload_n 0, 1), (0, 0, 0)) := by decide +kernel
theorem xr_40_15 : X_row 40 15 = some (15, (.getfield 44, 3), (2, 0, 18)) := by decide +kernel
theorem xr_40_18 : X_row 40 18 = some (18, (.iload_n 2, 1), (0, 0, 0)) := by decide +kernel
theorem xr_40_19 : X_row 40 19 = some (19, (.iload_n 3, 1), (0, 0, 0)) := by decide +kernel
theorem xr_40_20 : X_row 40 20 = some (20, (.aload_n 0, 1), (0, 0, 0)) := by decide +kernel
theorem xr_40_21 : X_row 40 21 = some (21, (.getfield 31, 3), (2, 9, 36)) := by decide +kernel
theorem xr_40_24 : X_row 40 24 = some (24, (.iload_n 1, 1), (0, 0, 0)) := by decide +kernel
theorem xr_40_25 : X_row 40 25 = some (25, (.iaload, 1), (0, 0, 0)) := by decide +kernel
theorem xr_40_26 : X_row 40 26 = some (26, (.invokevirtual 107, 3), (24, 10, 0)) := by decide +kernel
theorem xr_40_29 : X_row 40 29 = some (29, (.lstore 4, 2), (0, 0, 0)) := by decide +kernel
theorem xr_40_31 : X_row 40 31 = some (31, (.iconst (-1), 1), (0, 0, 0)) := by decide +kernel
theorem xr_40_32 : X_row 40 32 = some (32, (.istore 6, 2), (0, 0, 0)) := by decide +kernel
theorem xr_40_34 : X_row 40 34 = some (34, (.iconst 0, 1), (0, 0, 0)) := by decide +kernel
theorem xr_40_35 : X_row 40 35 = some (35, (.istore 7, 2), (0, 0, 0)) := by decide +kernel
theorem xr_40_37 : X_row 40 37 = some (37, (.iload 7, 2), (0, 0, 0)) := by decide +kernel
theorem xr_40_39 : X_row 40 39 = some (39, (.aload_n 0, 1), (0, 0, 0)) := by decide +kernel
theorem xr_40_40 : X_row 40 40 = some (40, (.getfield 44, 3), (2, 0, 18)) := by decide +kernel
theorem xr_40_43 : X_row 40 43 = some (43, (.getfield 98, 3), (1, 0, 17)) := by decide +kernel
theorem xr_40_46 : X_row 40 46 = some (46, (.getfield 111, 3), (0, 2, 11)) := by decide +kernel
theorem xr_40_49 : X_row 40 49 = some (49, (.if_icmp .ge 72, 3), (0, 0, 0)) := by decide +kernel
theorem xr_40_52 : X_row 40 52 = some (52, (.lload 4, 2), (0, 0, 0)) := by decide +kernel
theorem xr_40_54 : X_row 40 54 = some (54, (.ldc2_w 114, 3), (18446744073709551614, 837, 0)) := by decide +kernel
theorem xr_40_57 : X_row 40 57 = some (57, (.lcmp, 1), (0, 0, 0)) := by decide +kernel
theorem xr_40_58 : X_row 40 58 = some (58, (.ifCond .eq 63, 3), (0, 0, 0)) := by decide +kernel
theorem xr_40_61 : X_row 40 61 = some (61, (.aload_n 0, 1), (0, 0, 0)) := by decide +kernel
theorem xr_40_62 : X_row 40 62 = some (62, (.getfield 34, 3), (2, 10, 38)) := by decide +kernel
theorem xr_40_65 : X_row 40 65 = some (65, (.iload_n 1, 1), (0, 0, 0)) := by decide +kernel
theorem xr_40_66 : X_row 40 66 = some (66, (.laload, 1), (0, 0, 0)) := by decide +kernel
theorem xr_40_67 : X_row 40 67 = some (67, (.lload 4, 2), (0, 0, 0)) := by decide +kernel
theorem xr_40_69 : X_row 40 69 = some (69, (.lcmp, 1), (0, 0, 0)) := by decide +kernel
theorem xr_40_70 : X_row 40 70 = some (70, (.ifCond .lt 51, 3), (0, 0, 0)) := by decide +kernel
theorem xr_40_73 : X_row 40 73 = some (73, (.aload_n 0, 1), (0, 0, 0)) := by decide +kernel
theorem xr_40_74 : X_row 40 74 = some (74, (.getfield 28, 3), (2, 8, 34)) := by decide +kernel
theorem xr_40_77 : X_row 40 77 = some (77, (.iload_n 1, 1), (0, 0, 0)) := by decide +kernel
theorem xr_40_78 : X_row 40 78 = some (78, (.iaload, 1), (0, 0, 0)) := by decide +kernel
theorem xr_40_79 : X_row 40 79 = some (79, (.iload 7, 2), (0, 0, 0)) := by decide +kernel
theorem xr_40_81 : X_row 40 81 = some (81, (.invokestatic 116, 3), (112, 13, 0)) := by decide +kernel
theorem xr_40_84 : X_row 40 84 = some (84, (.ifCond .eq 31, 3), (0, 0, 0)) := by decide +kernel
theorem xr_40_87 : X_row 40 87 = some (87, (.aload_n 0, 1), (0, 0, 0)) := by decide +kernel
theorem xr_40_88 : X_row 40 88 = some (88, (.getfield 34, 3), (2, 10, 38)) := by decide +kernel
theorem xr_40_91 : X_row 40 91 = some (91, (.iload_n 1, 1), (0, 0, 0)) := by decide +kernel
theorem xr_40_92 : X_row 40 92 = some (92, (.dup2, 1), (0, 0, 0)) := by decide +kernel
theorem xr_40_93 : X_row 40 93 = some (93, (.laload, 1), (0, 0, 0)) := by decide +kernel
theorem xr_40_94 : X_row 40 94 = some (94, (.lload 4, 2), (0, 0, 0)) := by decide +kernel
theorem xr_40_96 : X_row 40 96 = some (96, (.lsub, 1), (0, 0, 0)) := by decide +kernel
theorem xr_40_97 : X_row 40 97 = some (97, (.lastore, 1), (0, 0, 0)) := by decide +kernel
theorem xr_40_98 : X_row 40 98 = some (98, (.aload_n 0, 1), (0, 0, 0)) := by decide +kernel
theorem xr_40_99 : X_row 40 99 = some (99, (.getfield 44, 3), (2, 0, 18)) := by decide +kernel
theorem xr_40_102 : X_row 40 102 = some (102, (.iload_n 2, 1), (0, 0, 0)) := by decide +kernel
theorem xr_40_103 : X_row 40 103 = some (103, (.iload_n 3, 1), (0, 0, 0)) := by decide +kernel
theorem xr_40_104 : X_row 40 104 = some (104, (.iload 7, 2), (0, 0, 0)) := by decide +kernel
theorem xr_40_106 : X_row 40 106 = some (106, (.invokevirtual 120, 3), (22, 14, 0)) := by decide +kernel
theorem xr_40_109 : X_row 40 109 = some (109, (.lstore 4, 2), (0, 0, 0)) := by decide +kernel
theorem xr_40_111 : X_row 40 111 = some (111, (.iload 7, 2), (0, 0, 0)) := by decide +kernel
theorem xr_40_113 : X_row 40 113 = some (113, (.istore 6, 2), (0, 0, 0)) := by decide +kernel
theorem xr_40_115 : X_row 40 115 = some (115, (.iinc 7 1, 3), (0, 0, 0)) := by decide +kernel
theorem xr_40_118 : X_row 40 118 = some (118, (.goto (-81), 3), (0, 0, 0)) := by decide +kernel
theorem xr_40_121 : X_row 40 121 = some (121, (.iload 6, 2), (0, 0, 0)) := by decide +kernel
theorem xr_40_123 : X_row 40 123 = some (123, (.ireturn, 1), (0, 0, 0)) := by decide +kernel
theorem xn_22 : X_nL 22 = 4 := by decide +kernel
theorem xf_22 : X_na 22 = 3 ∧ X_ci 22 = 1 ∧ X_rt 22 = (some .long) := by decide +kernel
theorem xn_24 : X_nL 24 = 4 := by decide +kernel
theorem xf_24 : X_na 24 = 3 ∧ X_ci 24 = 1 ∧ X_rt 24 = (some .long) := by decide +kernel
theorem xn_40 : X_nL 40 = 8 := by decide +kernel
theorem xf_40 : X_na 40 = 1 ∧ X_ci 40 = 2 ∧ X_rt 40 = (some .int) := by decide +kernel
set_option maxHeartbeats 1600000 in
theorem c_chooseWord (sc : X_Sc) (S : X_S) (oK : Int → Int64) (oW : Int → Int64) (oA : Int → Int64) (oH : Int → Int64) (fF : Int → Int) (fE : Int → Int) (fW : Int → Int) (fK : Int → Int) (fN : Int → Int64) (B : Nat) (rc : Int) (rn : Int → Int64) (kn : Int → Int64) (G : X_G) (tn : Int) (fl : Int) (wt : Int) (t : Int) (i : Int) (j : Int) (u : Int) (o : Int) (en : Int) (k : Nat) (hO511 : S.1 511 = .inr (1, [.ref B, .ref 501, .int (iI fl), .ref 512, .ref 513, .ref 514, .ref 515, .ref 516])) (hO517 : S.1 517 = .inr (2, [.ref 511, .ref 501, .ref 504, .int (iI wt), .ref 518, .ref 519, .ref 520, .ref 521, .ref 522, .ref 523, .ref 524, .ref 525, .ref 526])) (hA512 : S.1 512 = .inl (.long, 5115, .inr (.inl fun k : Nat => oK (k : Int)))) (hA513 : S.1 513 = .inl (.long, 13950, .inr (.inl fun k : Nat => oW (k : Int)))) (hA514 : S.1 514 = .inl (.long, 465, .inr (.inl fun k : Nat => oA (k : Int)))) (hA515 : S.1 515 = .inl (.long, 55800, .inr (.inl fun k : Nat => oH (k : Int)))) (hA518 : S.1 518 = .inl (.int, 30, .inl fun k : Nat => iI (fF (k : Int)))) (hA519 : S.1 519 = .inl (.int, 30, .inl fun k : Nat => iI (fE (k : Int)))) (hA522 : S.1 522 = .inl (.int, 30, .inl fun k : Nat => iI (fW (k : Int)))) (hA523 : S.1 523 = .inl (.int, 30, .inl fun k : Nat => iI (fK (k : Int)))) (hA524 : S.1 524 = .inl (.long, 30, .inr (.inl fun k : Nat => fN (k : Int)))) (hB : B = 4 ∨ B = 250) (hb : C_bk S B rc (gk G) (gw G) rn (gl G) kn (ga G)) (hs : C_ws S B (gD G) (gW G)) (hG : X_Gok G) (ht : 0 ≤ t ∧ t < 30) (hij : 0 ≤ i ∧ i < j ∧ j ≤ 30) (hfi : fF t = i) (hfe : fE t = j) (hwb : ∀ v, 0 ≤ v → v < gw G → (X_bt (fW t) v ↔ (X_bt (ga G (gD G v 2 0)) u ∧ X_lt G o en v))) (hkb : ∀ z, 0 ≤ z → z < gk G → (X_bt (fK t) z ↔ X_bt (ga G z) u)) (hfn : fN t = iL (k : Int)) (hk : k < X_Hc G (X_T_ G) u o en i j) (hkm : k ≤ 9223372036854775807) (hrw : X_rw G (-2) i j oK oW oA oH) : X_T sc 40 (0, [(0, .ref 517), (1, .int (iI t))], [], S) (fun v S' => (∃ (fN1 : Int → Int64), v = some (.int (iI (-1))) ∧ k < X_Hq G (X_T_ G) u i j ∧ (∀ q, fN1 q = fN q) ∧ S'.1 524 = .inl (.long, 30, .inr (.inl fun k : Nat => fN1 (k : Int))) ∧ X_Fr (fun q => q = 524) S S') ∨ (∃ (v1 : Int) (k2 : Nat) (fN1 : Int → Int64), v = some (.int (iI v1)) ∧ ¬ k < X_Hq G (X_T_ G) u i j ∧ (0 ≤ v1 ∧ v1 < gw G) ∧ X_fd (X_cF G u o en i j) (gw G).toNat 0 (k - X_Hq G (X_T_ G) u i j) = (v1, k2) ∧ k2 < (X_T_ G).1 v1 i j ∧ k2 ≤ k ∧ fN1 t = iL (k2 : Int) ∧ (∀ q, ¬ q = t → fN1 q = fN q) ∧ S'.1 524 = .inl (.long, 30, .inr (.inl fun k : Nat => fN1 (k : Int))) ∧ X_Fr (fun q => q = 524) S S')) := by
  obtain ⟨hb0, hb1, hb2, hb3, hb4, ⟨f, hb5, hf⟩, ⟨hrc, hrcb⟩, ⟨hkc, hkcb⟩, ⟨hwc, hwcb⟩⟩ := id hb
  have hkP : k < X_Hq G (X_T_ G) u i j + X_Su (X_cF G u o en i j) 0 (gw G) := hk
  have hc1 := hG.1
  refine X_QI (fun Q hQ => ?_)
  refine T_p xr_40_0 xn_40 (pc' := 1) (ls' := [(0, .ref 517), (1, .int (iI t))]) (st' := [.ref 517]) rfl ?_
  refine T_get xr_40_1 hO517 rfl (v := .ref 518) rfl (pc' := 4) rfl ?_
  refine T_p xr_40_4 xn_40 (pc' := 5) (ls' := [(0, .ref 517), (1, .int (iI t))]) (st' := [.int (iI t), .ref 518]) rfl ?_
  refine T_ziald xr_40_5 hA518 (pc' := 6) rfl ?_
  refine T_ie (y := iI i) (by rw [hfi]) ?_
  refine T_p xr_40_6 xn_40 (pc' := 7) (ls' := [(2, .int (iI i)), (0, .ref 517), (1, .int (iI t))]) (st' := []) rfl ?_
  refine T_p xr_40_7 xn_40 (pc' := 8) (ls' := [(2, .int (iI i)), (0, .ref 517), (1, .int (iI t))]) (st' := [.ref 517]) rfl ?_
  refine T_get xr_40_8 hO517 rfl (v := .ref 519) rfl (pc' := 11) rfl ?_
  refine T_p xr_40_11 xn_40 (pc' := 12) (ls' := [(2, .int (iI i)), (0, .ref 517), (1, .int (iI t))]) (st' := [.int (iI t), .ref 519]) rfl ?_
  refine T_ziald xr_40_12 hA519 (pc' := 13) rfl ?_
  refine T_ie (y := iI j) (by rw [hfe]) ?_
  refine T_p xr_40_13 xn_40 (pc' := 14) (ls' := [(3, .int (iI j)), (2, .int (iI i)), (0, .ref 517), (1, .int (iI t))]) (st' := []) rfl ?_
  refine T_p xr_40_14 xn_40 (pc' := 15) (ls' := [(3, .int (iI j)), (2, .int (iI i)), (0, .ref 517), (1, .int (iI t))]) (st' := [.ref 517]) rfl ?_
  refine T_get xr_40_15 hO517 rfl (v := .ref 511) rfl (pc' := 18) rfl ?_
  refine T_p xr_40_18 xn_40 (pc' := 19) (ls' := [(3, .int (iI j)), (2, .int (iI i)), (0, .ref 517), (1, .int (iI t))]) (st' := [.int (iI i), .ref 511]) rfl ?_
  refine T_p xr_40_19 xn_40 (pc' := 20) (ls' := [(3, .int (iI j)), (2, .int (iI i)), (0, .ref 517), (1, .int (iI t))]) (st' := [.int (iI j), .int (iI i), .ref 511]) rfl ?_
  refine T_p xr_40_20 xn_40 (pc' := 21) (ls' := [(3, .int (iI j)), (2, .int (iI i)), (0, .ref 517), (1, .int (iI t))]) (st' := [.ref 517, .int (iI j), .int (iI i), .ref 511]) rfl ?_
  refine T_get xr_40_21 hO517 rfl (v := .ref 523) rfl (pc' := 24) rfl ?_
  refine T_p xr_40_24 xn_40 (pc' := 25) (ls' := [(3, .int (iI j)), (2, .int (iI i)), (0, .ref 517), (1, .int (iI t))]) (st' := [.int (iI t), .ref 523, .int (iI j), .int (iI i), .ref 511]) rfl ?_
  refine T_ziald xr_40_25 hA523 (pc' := 26) rfl ?_
  refine T_cv (S := S) (q := 511) xr_40_26 xf_24.1 xf_24.2.1 xn_24 (as := [.int (iI i), .int (iI j), .int (iI (fK t))]) (r := []) rfl hO511 (Nat.le_of_ble_eq_true rfl) (Nat.le_of_ble_eq_true rfl) (pc' := 29) rfl (ls' := [(0, .ref 511), (1, .int (iI i)), (2, .int (iI j)), (3, .int (iI (fK t)))]) rfl ?_
  refine T_p xr_24_0 xn_24 (pc' := 1) (ls' := [(0, .ref 511), (1, .int (iI i)), (2, .int (iI j)), (3, .int (iI (fK t)))]) (st' := [.ref 511]) rfl ?_
  refine T_p xr_24_1 xn_24 (pc' := 2) (ls' := [(0, .ref 511), (1, .int (iI i)), (2, .int (iI j)), (3, .int (iI (fK t)))]) (st' := [.int (iI i), .ref 511]) rfl ?_
  refine T_p xr_24_2 xn_24 (pc' := 3) (ls' := [(0, .ref 511), (1, .int (iI i)), (2, .int (iI j)), (3, .int (iI (fK t)))]) (st' := [.int (iI j), .int (iI i), .ref 511]) rfl ?_
  refine T_cs xr_24_3 (by decide) xf_20.1 xn_20 (as := [.int (iI i), .int (iI j)]) (r := [.ref 511]) rfl (Nat.le_of_ble_eq_true rfl) (Nat.le_of_ble_eq_true rfl) (pc' := 6) rfl (ls' := [(0, .int (iI i)), (1, .int (iI j))]) rfl ?_
  refine T_mono (c_rowOf sc S i j (by omega)) (fun v985 S986 h987 => ?_)
  rcases h987 with ⟨hv988, hf989⟩
  rw [hv988]
  rw [hf989]
  have hr990 := X_ro_r (i := i) (j := j) (by omega) (by omega) (by omega)
  show X_T sc 24 (6, [(0, .ref 511), (1, .int (iI i)), (2, .int (iI j)), (3, .int (iI (fK t)))], [.int (iI (X_ro i j)), .ref 511], S) _
  refine T_p xr_24_6 xn_24 (pc' := 7) (ls' := [(0, .ref 511), (1, .int (iI i)), (2, .int (iI j)), (3, .int (iI (fK t)))]) (st' := [.int (iI (fK t)), .int (iI (X_ro i j)), .ref 511]) rfl ?_
  refine T_cv (S := S) (q := 511) xr_24_7 xf_25.1 xf_25.2.1 xn_25 (as := [.int (iI (X_ro i j)), .int (iI (fK t))]) (r := []) rfl hO511 (Nat.le_of_ble_eq_true rfl) (Nat.le_of_ble_eq_true rfl) (pc' := 10) rfl (ls' := [(0, .ref 511), (1, .int (iI (X_ro i j))), (2, .int (iI (fK t)))]) rfl ?_
  refine T_mono (c_sumK sc S oK B rc rn kn G tn fl (X_ro i j) (fK t) (fun z => X_nm G z i j + (X_T_ G).2 z i j) hO511 hA512 hB ⟨hb0, hb1, hb2, hb3, hb4, ⟨f, hb5, hf⟩, ⟨by omega, by omega⟩, ⟨by omega, by omega⟩, ⟨by omega, by omega⟩⟩ hs hG (by omega) hrw.1) (fun v991 S992 h993 => ?_)
  rcases h993 with ⟨hv994, hf995⟩
  rw [hv994]
  rw [hf995]
  show X_T sc 24 (10, [(0, .ref 511), (1, .int (iI i)), (2, .int (iI j)), (3, .int (iI (fK t)))], [.long (X_st (-2) (X_Su (fun k => X_if (X_bt (fK t) k) ((fun z => X_nm G z i j + (X_T_ G).2 z i j) k)) 0 (gk G)))], S) _
  refine T_lret xr_24_10 xf_24.2.2 rfl ?_
  show X_T sc 40 (29, [(3, .int (iI j)), (2, .int (iI i)), (0, .ref 517), (1, .int (iI t))], [.long (X_st (-2) (X_Su (fun k => X_if (X_bt (fK t) k) ((fun z => X_nm G z i j + (X_T_ G).2 z i j) k)) 0 (gk G)))], S) _
  refine T_le (y := (X_st (-2) (X_Hq G (X_T_ G) u i j))) (by
        refine congrArg (X_st (-2)) ?_
        exact X_Su_c (fun z h1 h2 => X_if_c (hkb z h1 h2) (fun _ => rfl))) ?_
  refine T_p xr_40_29 xn_40 (pc' := 31) (ls' := [(4, .long (X_st (-2) (X_Hq G (X_T_ G) u i j))), (3, .int (iI j)), (2, .int (iI i)), (0, .ref 517), (1, .int (iI t))]) (st' := []) rfl ?_
  refine T_p xr_40_31 xn_40 (pc' := 32) (ls' := [(4, .long (X_st (-2) (X_Hq G (X_T_ G) u i j))), (3, .int (iI j)), (2, .int (iI i)), (0, .ref 517), (1, .int (iI t))]) (st' := [.int (iI (-1))]) rfl ?_
  refine T_p xr_40_32 xn_40 (pc' := 34) (ls' := [(6, .int (iI (-1))), (4, .long (X_st (-2) (X_Hq G (X_T_ G) u i j))), (3, .int (iI j)), (2, .int (iI i)), (0, .ref 517), (1, .int (iI t))]) (st' := []) rfl ?_
  refine T_p xr_40_34 xn_40 (pc' := 35) (ls' := [(6, .int (iI (-1))), (4, .long (X_st (-2) (X_Hq G (X_T_ G) u i j))), (3, .int (iI j)), (2, .int (iI i)), (0, .ref 517), (1, .int (iI t))]) (st' := [.int (iI 0)]) rfl ?_
  refine T_p xr_40_35 xn_40 (pc' := 37) (ls' := [(7, .int (iI 0)), (6, .int (iI (-1))), (4, .long (X_st (-2) (X_Hq G (X_T_ G) u i j))), (3, .int (iI j)), (2, .int (iI i)), (0, .ref 517), (1, .int (iI t))]) (st' := []) rfl ?_
  have L996 : ∀ (m998 : Nat) (S1001 : X_S) (w : Int) (c : Int) (R : Nat) (K : Nat) (fN1 : Int → Int64) (hfN1 : S1001.1 524 = .inl (.long, 30, .inr (.inl fun k : Nat => fN1 (k : Int)))) (hF1000 : X_Fr (fun q => q = 524) S S1001) (hw : 0 ≤ w ∧ w ≤ gw G ∧ -1 ≤ c ∧ c < 30) (hKm : K ≤ 9223372036854775807) (hN : fN1 t = iL (K : Int) ∧ ∀ q, ¬ q = t → fN1 q = fN q) (hinv : (k - K + R = X_Hq G (X_T_ G) u i j + X_Su (X_cF G u o en i j) 0 w ∧ K ≤ k ∧ ((c = -1 ∧ K = k ∧ R = X_Hq G (X_T_ G) u i j) ∨ (0 ≤ c ∧ c < w ∧ (X_bt (ga G (gD G c 2 0)) u ∧ X_lt G o en c) ∧ R = (X_T_ G).1 c i j ∧ k = X_Hq G (X_T_ G) u i j + X_Su (X_cF G u o en i j) 0 c + K)))) (hm999 : gw G - w < m998), X_T sc 40 (37, [(7, .int (iI w)), (6, .int (iI c)), (4, .long (X_st (-2) R)), (2, .int (iI i)), (3, .int (iI j)), (0, .ref 517), (1, .int (iI t))], [], S1001) Q := by
    intro m998
    induction m998 with
    | zero =>
      intro S1001 w c R K fN1 hfN1 hF1000 hw hKm hN hinv hm999
      exact (show False by omega).elim
    | succ m998 ih997 =>
      intro S1001 w c R K fN1 hfN1 hF1000 hw hKm hN hinv hm999
      refine T_p xr_40_37 xn_40 (pc' := 39) (ls' := [(7, .int (iI w)), (6, .int (iI c)), (4, .long (X_st (-2) R)), (2, .int (iI i)), (3, .int (iI j)), (0, .ref 517), (1, .int (iI t))]) (st' := [.int (iI w)]) rfl ?_
      refine T_p xr_40_39 xn_40 (pc' := 40) (ls' := [(7, .int (iI w)), (6, .int (iI c)), (4, .long (X_st (-2) R)), (2, .int (iI i)), (3, .int (iI j)), (0, .ref 517), (1, .int (iI t))]) (st' := [.ref 517, .int (iI w)]) rfl ?_
      have h1002 := (hF1000.1 517 (by omega)).trans (hO517)
      refine T_get xr_40_40 h1002 rfl (v := .ref 511) rfl (pc' := 43) rfl ?_
      have h1003 := (hF1000.1 511 (by omega)).trans (hO511)
      refine T_get xr_40_43 h1003 rfl (v := .ref B) rfl (pc' := 46) rfl ?_
      have h1004 := (hF1000.1 B (by omega)).trans (hb0)
      refine T_get xr_40_46 h1004 rfl (v := .int (iI (gw G))) rfl (pc' := 49) rfl ?_
      refine T_zicmp_ge xr_40_49 (t := 121) (pc' := 52) rfl rfl (fun c1005 => ?_) (fun c1005 => ?_)
      · skip
        have c1005 : (gw G) ≤ w := c1005
        refine T_p xr_40_121 xn_40 (pc' := 123) (ls' := [(7, .int (iI w)), (6, .int (iI c)), (4, .long (X_st (-2) R)), (2, .int (iI i)), (3, .int (iI j)), (0, .ref 517), (1, .int (iI t))]) (st' := [.int (iI c)]) rfl ?_
        refine T_iret xr_40_123 xf_40.2.2 rfl ?_
        refine hQ _ _ ?_
        have hKR1006 : K < R := by
          first
            | exact (X_st_lt (m := -2) (by omega) hKm).mp (Or.inl (by first | assumption | exact Classical.not_not.mp (by assumption)))
            | exact (X_st_lt (m := -2) (by omega) hKm).mp (Or.inr (by first | assumption | exact Int64.not_le.mp (by assumption) | exact Classical.not_not.mp (by assumption)))
            | (rw [show w = gw G by omega] at hinv; omega)
        obtain ⟨a1, a2, ⟨b1, b2, b3⟩ | ⟨b1, b2, b3, b4, b5⟩⟩ := hinv
        · refine Or.inl ⟨fN1, by rw [b1], by omega, fun q => ?_, hfN1, (X_Fr.rf).tr (X_Fr.mono ⟨hF1000.1, hF1000.2⟩ (fun q hq => (by omega)))⟩
          by_cases hq : q = t
          · rw [hq, hN.1, b2, hfn]
          · exact hN.2 q hq
        · exact Or.inr ⟨c, K, fN1, rfl, by omega, by omega, X_ch_u hG (by omega) b3 b5 (by omega), by omega, by omega, hN.1, hN.2, hfN1, (X_Fr.rf).tr (X_Fr.mono ⟨hF1000.1, hF1000.2⟩ (fun q hq => (by omega)))⟩
      · skip
        have c1005 : ¬ ((gw G) ≤ w) := c1005
        refine T_p xr_40_52 xn_40 (pc' := 54) (ls' := [(7, .int (iI w)), (6, .int (iI c)), (4, .long (X_st (-2) R)), (2, .int (iI i)), (3, .int (iI j)), (0, .ref 517), (1, .int (iI t))]) (st' := [.long (X_st (-2) R)]) rfl ?_
        refine T_p xr_40_54 xn_40 (pc' := 57) (ls' := [(7, .int (iI w)), (6, .int (iI c)), (4, .long (X_st (-2) R)), (2, .int (iI i)), (3, .int (iI j)), (0, .ref 517), (1, .int (iI t))]) (st' := [.long (iL (-2)), .long (X_st (-2) R)]) rfl ?_
        refine T_lc_eq xr_40_57 xr_40_58 (t := 121) (pc' := 61) rfl rfl (fun c1007 => ?_) (fun c1007 => ?_)
        · skip
          have c1007 : (X_st (-2) R) = (iL (-2)) := c1007
          refine T_p xr_40_121 xn_40 (pc' := 123) (ls' := [(7, .int (iI w)), (6, .int (iI c)), (4, .long (X_st (-2) R)), (2, .int (iI i)), (3, .int (iI j)), (0, .ref 517), (1, .int (iI t))]) (st' := [.int (iI c)]) rfl ?_
          refine T_iret xr_40_123 xf_40.2.2 rfl ?_
          refine hQ _ _ ?_
          have hKR1008 : K < R := by
            first
              | exact (X_st_lt (m := -2) (by omega) hKm).mp (Or.inl (by first | assumption | exact Classical.not_not.mp (by assumption)))
              | exact (X_st_lt (m := -2) (by omega) hKm).mp (Or.inr (by first | assumption | exact Int64.not_le.mp (by assumption) | exact Classical.not_not.mp (by assumption)))
              | (rw [show w = gw G by omega] at hinv; omega)
          obtain ⟨a1, a2, ⟨b1, b2, b3⟩ | ⟨b1, b2, b3, b4, b5⟩⟩ := hinv
          · refine Or.inl ⟨fN1, by rw [b1], by omega, fun q => ?_, hfN1, (X_Fr.rf).tr (X_Fr.mono ⟨hF1000.1, hF1000.2⟩ (fun q hq => (by omega)))⟩
            by_cases hq : q = t
            · rw [hq, hN.1, b2, hfn]
            · exact hN.2 q hq
          · exact Or.inr ⟨c, K, fN1, rfl, by omega, by omega, X_ch_u hG (by omega) b3 b5 (by omega), by omega, by omega, hN.1, hN.2, hfN1, (X_Fr.rf).tr (X_Fr.mono ⟨hF1000.1, hF1000.2⟩ (fun q hq => (by omega)))⟩
        · skip
          have c1007 : ¬ ((X_st (-2) R) = (iL (-2))) := c1007
          refine T_p xr_40_61 xn_40 (pc' := 62) (ls' := [(7, .int (iI w)), (6, .int (iI c)), (4, .long (X_st (-2) R)), (2, .int (iI i)), (3, .int (iI j)), (0, .ref 517), (1, .int (iI t))]) (st' := [.ref 517]) rfl ?_
          refine T_get xr_40_62 h1002 rfl (v := .ref 524) rfl (pc' := 65) rfl ?_
          refine T_p xr_40_65 xn_40 (pc' := 66) (ls' := [(7, .int (iI w)), (6, .int (iI c)), (4, .long (X_st (-2) R)), (2, .int (iI i)), (3, .int (iI j)), (0, .ref 517), (1, .int (iI t))]) (st' := [.int (iI t), .ref 524]) rfl ?_
          refine T_zlald xr_40_66 hfN1 (pc' := 67) rfl ?_
          refine T_le (y := (iL (K : Int))) hN.1 ?_
          refine T_p xr_40_67 xn_40 (pc' := 69) (ls' := [(7, .int (iI w)), (6, .int (iI c)), (4, .long (X_st (-2) R)), (2, .int (iI i)), (3, .int (iI j)), (0, .ref 517), (1, .int (iI t))]) (st' := [.long (X_st (-2) R), .long (iL (K : Int))]) rfl ?_
          refine T_lc_lt xr_40_69 xr_40_70 (t := 121) (pc' := 73) rfl rfl (fun c1009 => ?_) (fun c1009 => ?_)
          · skip
            have c1009 : (iL (K : Int)) < (X_st (-2) R) := c1009
            refine T_p xr_40_121 xn_40 (pc' := 123) (ls' := [(7, .int (iI w)), (6, .int (iI c)), (4, .long (X_st (-2) R)), (2, .int (iI i)), (3, .int (iI j)), (0, .ref 517), (1, .int (iI t))]) (st' := [.int (iI c)]) rfl ?_
            refine T_iret xr_40_123 xf_40.2.2 rfl ?_
            refine hQ _ _ ?_
            have hKR1010 : K < R := by
              first
                | exact (X_st_lt (m := -2) (by omega) hKm).mp (Or.inl (by first | assumption | exact Classical.not_not.mp (by assumption)))
                | exact (X_st_lt (m := -2) (by omega) hKm).mp (Or.inr (by first | assumption | exact Int64.not_le.mp (by assumption) | exact Classical.not_not.mp (by assumption)))
                | (rw [show w = gw G by omega] at hinv; omega)
            obtain ⟨a1, a2, ⟨b1, b2, b3⟩ | ⟨b1, b2, b3, b4, b5⟩⟩ := hinv
            · refine Or.inl ⟨fN1, by rw [b1], by omega, fun q => ?_, hfN1, (X_Fr.rf).tr (X_Fr.mono ⟨hF1000.1, hF1000.2⟩ (fun q hq => (by omega)))⟩
              by_cases hq : q = t
              · rw [hq, hN.1, b2, hfn]
              · exact hN.2 q hq
            · exact Or.inr ⟨c, K, fN1, rfl, by omega, by omega, X_ch_u hG (by omega) b3 b5 (by omega), by omega, by omega, hN.1, hN.2, hfN1, (X_Fr.rf).tr (X_Fr.mono ⟨hF1000.1, hF1000.2⟩ (fun q hq => (by omega)))⟩
          · skip
            have c1009 : ¬ ((iL (K : Int)) < (X_st (-2) R)) := c1009
            refine T_p xr_40_73 xn_40 (pc' := 74) (ls' := [(7, .int (iI w)), (6, .int (iI c)), (4, .long (X_st (-2) R)), (2, .int (iI i)), (3, .int (iI j)), (0, .ref 517), (1, .int (iI t))]) (st' := [.ref 517]) rfl ?_
            refine T_get xr_40_74 h1002 rfl (v := .ref 522) rfl (pc' := 77) rfl ?_
            refine T_p xr_40_77 xn_40 (pc' := 78) (ls' := [(7, .int (iI w)), (6, .int (iI c)), (4, .long (X_st (-2) R)), (2, .int (iI i)), (3, .int (iI j)), (0, .ref 517), (1, .int (iI t))]) (st' := [.int (iI t), .ref 522]) rfl ?_
            have h1011 := (hF1000.1 522 (by omega)).trans (hA522)
            refine T_ziald xr_40_78 h1011 (pc' := 79) rfl ?_
            refine T_p xr_40_79 xn_40 (pc' := 81) (ls' := [(7, .int (iI w)), (6, .int (iI c)), (4, .long (X_st (-2) R)), (2, .int (iI i)), (3, .int (iI j)), (0, .ref 517), (1, .int (iI t))]) (st' := [.int (iI w), .int (iI (fW t))]) rfl ?_
            refine T_cs xr_40_81 (by decide) xf_112.1 xn_112 (as := [.int (iI (fW t)), .int (iI w)]) (r := []) rfl (Nat.le_of_ble_eq_true rfl) (Nat.le_of_ble_eq_true rfl) (pc' := 84) rfl (ls' := [(0, .int (iI (fW t))), (1, .int (iI w))]) rfl ?_
            refine T_mono (c_hasBit sc S1001 (fW t) w) (fun v1013 S1014 h1012 => ?_)
            obtain ⟨h1015, h1016⟩ := h1012
            rw [h1015, h1016]
            show X_T sc 40 (84, [(7, .int (iI w)), (6, .int (iI c)), (4, .long (X_st (-2) R)), (2, .int (iI i)), (3, .int (iI j)), (0, .ref 517), (1, .int (iI t))], [.int (iI (bI (X_bt (fW t) w)))], S1001) _
            refine T_bif_eq xr_40_84 (t := 115) (pc' := 87) rfl rfl (fun c1017 => ?_) (fun c1017 => ?_)
            · skip
              have c1017 : ¬ (X_bt (fW t) w) := c1017
              refine T_ziinc xr_40_115 xn_40 (a := w) (z := w + 1) rfl (Nat.le_of_ble_eq_true rfl) (by omega) (ls' := [(7, .int (iI (w + 1))), (6, .int (iI c)), (4, .long (X_st (-2) R)), (2, .int (iI i)), (3, .int (iI j)), (0, .ref 517), (1, .int (iI t))]) rfl (pc' := 118) rfl ?_
              refine T_p xr_40_118 xn_40 (pc' := 37) (ls' := [(7, .int (iI (w + 1))), (6, .int (iI c)), (4, .long (X_st (-2) R)), (2, .int (iI i)), (3, .int (iI j)), (0, .ref 517), (1, .int (iI t))]) (st' := []) rfl ?_
              exact ih997 S1001 (w + 1) c R K fN1 hfN1 (hF1000.tr (X_Fr.rf)) (by omega) (by omega) hN (by
                    obtain ⟨a1, a2, a3⟩ := hinv
                    have hno : ¬ (X_bt (ga G (gD G w 2 0)) u ∧ X_lt G o en w) := fun z => absurd ((hwb w (by omega) (by omega)).mpr z) (by assumption)
                    have es : X_Su (X_cF G u o en i j) 0 (w + 1) = X_Su (X_cF G u o en i j) 0 w := by rw [X_Su_s (by omega), show X_cF G u o en i j w = 0 from X_if_f hno]; rfl
                    rw [es]
                    exact ⟨a1, a2, by rcases a3 with a3 | ⟨b1, b2, b3⟩; exact Or.inl a3; exact Or.inr ⟨b1, by omega, b3⟩⟩) (by omega)
            · skip
              have c1017 : (X_bt (fW t) w) := c1017
              refine T_p xr_40_87 xn_40 (pc' := 88) (ls' := [(7, .int (iI w)), (6, .int (iI c)), (4, .long (X_st (-2) R)), (2, .int (iI i)), (3, .int (iI j)), (0, .ref 517), (1, .int (iI t))]) (st' := [.ref 517]) rfl ?_
              refine T_get xr_40_88 h1002 rfl (v := .ref 524) rfl (pc' := 91) rfl ?_
              refine T_p xr_40_91 xn_40 (pc' := 92) (ls' := [(7, .int (iI w)), (6, .int (iI c)), (4, .long (X_st (-2) R)), (2, .int (iI i)), (3, .int (iI j)), (0, .ref 517), (1, .int (iI t))]) (st' := [.int (iI t), .ref 524]) rfl ?_
              refine T_p xr_40_92 xn_40 (pc' := 93) (ls' := [(7, .int (iI w)), (6, .int (iI c)), (4, .long (X_st (-2) R)), (2, .int (iI i)), (3, .int (iI j)), (0, .ref 517), (1, .int (iI t))]) (st' := [.int (iI t), .ref 524, .int (iI t), .ref 524]) rfl ?_
              refine T_zlald xr_40_93 hfN1 (pc' := 94) rfl ?_
              refine T_le (y := (iL (K : Int))) hN.1 ?_
              refine T_p xr_40_94 xn_40 (pc' := 96) (ls' := [(7, .int (iI w)), (6, .int (iI c)), (4, .long (X_st (-2) R)), (2, .int (iI i)), (3, .int (iI j)), (0, .ref 517), (1, .int (iI t))]) (st' := [.long (X_st (-2) R), .long (iL (K : Int)), .int (iI t), .ref 524]) rfl ?_
              refine T_p xr_40_96 xn_40 (pc' := 97) (ls' := [(7, .int (iI w)), (6, .int (iI c)), (4, .long (X_st (-2) R)), (2, .int (iI i)), (3, .int (iI j)), (0, .ref 517), (1, .int (iI t))]) (st' := [.long ((iL (K : Int)) - (X_st (-2) R)), .int (iI t), .ref 524]) rfl ?_
              have hRK : R ≤ K ∧ X_st (-2) R = iL (R : Int) := by
                have h1 : ¬ (X_st (-2) R = iL (-2) ∨ iL (K : Int) < X_st (-2) R) := by
                  rintro (h | h)
                  · exact absurd h (by assumption)
                  · first | exact absurd h (by assumption) | exact absurd h (Int64.not_lt.mpr (Classical.not_not.mp (by assumption))) | exact absurd h (Int64.not_lt.mpr (by assumption))
                rw [X_st_lt (by omega) hKm] at h1
                exact ⟨by omega, X_st_lo (by omega)⟩
              refine T_le (y := (iL ((K - R : Nat) : Int))) (by rw [hRK.2]; exact iL_sub hRK.1) ?_
              refine T_zlast xr_40_97 hfN1 (pc' := 98) rfl (fun S1018 h1019 n1020 e1021 => ?_)
              refine T_p xr_40_98 xn_40 (pc' := 99) (ls' := [(7, .int (iI w)), (6, .int (iI c)), (4, .long (X_st (-2) R)), (2, .int (iI i)), (3, .int (iI j)), (0, .ref 517), (1, .int (iI t))]) (st' := [.ref 517]) rfl ?_
              have h1022 := (n1020 517 (by decide)).trans (h1002)
              refine T_get xr_40_99 h1022 rfl (v := .ref 511) rfl (pc' := 102) rfl ?_
              refine T_p xr_40_102 xn_40 (pc' := 103) (ls' := [(7, .int (iI w)), (6, .int (iI c)), (4, .long (X_st (-2) R)), (2, .int (iI i)), (3, .int (iI j)), (0, .ref 517), (1, .int (iI t))]) (st' := [.int (iI i), .ref 511]) rfl ?_
              refine T_p xr_40_103 xn_40 (pc' := 104) (ls' := [(7, .int (iI w)), (6, .int (iI c)), (4, .long (X_st (-2) R)), (2, .int (iI i)), (3, .int (iI j)), (0, .ref 517), (1, .int (iI t))]) (st' := [.int (iI j), .int (iI i), .ref 511]) rfl ?_
              refine T_p xr_40_104 xn_40 (pc' := 106) (ls' := [(7, .int (iI w)), (6, .int (iI c)), (4, .long (X_st (-2) R)), (2, .int (iI i)), (3, .int (iI j)), (0, .ref 517), (1, .int (iI t))]) (st' := [.int (iI w), .int (iI j), .int (iI i), .ref 511]) rfl ?_
              have h1023 := (n1020 511 (by decide)).trans (h1003)
              refine T_cv (S := S1018) (q := 511) xr_40_106 xf_22.1 xf_22.2.1 xn_22 (as := [.int (iI i), .int (iI j), .int (iI w)]) (r := []) rfl h1023 (Nat.le_of_ble_eq_true rfl) (Nat.le_of_ble_eq_true rfl) (pc' := 109) rfl (ls' := [(0, .ref 511), (1, .int (iI i)), (2, .int (iI j)), (3, .int (iI w))]) rfl ?_
              refine T_p xr_22_0 xn_22 (pc' := 1) (ls' := [(0, .ref 511), (1, .int (iI i)), (2, .int (iI j)), (3, .int (iI w))]) (st' := [.ref 511]) rfl ?_
              refine T_get xr_22_1 h1023 rfl (v := .ref 513) rfl (pc' := 4) rfl ?_
              refine T_p xr_22_4 xn_22 (pc' := 5) (ls' := [(0, .ref 511), (1, .int (iI i)), (2, .int (iI j)), (3, .int (iI w))]) (st' := [.int (iI i), .ref 513]) rfl ?_
              refine T_p xr_22_5 xn_22 (pc' := 6) (ls' := [(0, .ref 511), (1, .int (iI i)), (2, .int (iI j)), (3, .int (iI w))]) (st' := [.int (iI j), .int (iI i), .ref 513]) rfl ?_
              refine T_cs xr_22_6 (by decide) xf_20.1 xn_20 (as := [.int (iI i), .int (iI j)]) (r := [.ref 513]) rfl (Nat.le_of_ble_eq_true rfl) (Nat.le_of_ble_eq_true rfl) (pc' := 9) rfl (ls' := [(0, .int (iI i)), (1, .int (iI j))]) rfl ?_
              refine T_mono (c_rowOf sc S1018 i j (by omega)) (fun v1024 S1025 h1026 => ?_)
              rcases h1026 with ⟨hv1027, hf1028⟩
              rw [hv1027]
              rw [hf1028]
              have hr1029 := X_ro_r (i := i) (j := j) (by omega) (by omega) (by omega)
              show X_T sc 22 (9, [(0, .ref 511), (1, .int (iI i)), (2, .int (iI j)), (3, .int (iI w))], [.int (iI (X_ro i j)), .ref 513], S1018) _
              refine T_p xr_22_9 xn_22 (pc' := 11) (ls' := [(0, .ref 511), (1, .int (iI i)), (2, .int (iI j)), (3, .int (iI w))]) (st' := [.int (iI 30), .int (iI (X_ro i j)), .ref 513]) rfl ?_
              refine T_zimul xr_22_11 (z := (X_ro i j) * 30) rfl (pc' := 12) rfl ?_
              refine T_p xr_22_12 xn_22 (pc' := 13) (ls' := [(0, .ref 511), (1, .int (iI i)), (2, .int (iI j)), (3, .int (iI w))]) (st' := [.int (iI w), .int (iI ((X_ro i j) * 30)), .ref 513]) rfl ?_
              refine T_ziadd xr_22_13 (z := ((X_ro i j) * 30) + w) rfl (pc' := 14) rfl ?_
              have h1030 := (n1020 513 (by decide)).trans ((hF1000.1 513 (by omega)).trans (hA513))
              refine T_zlald xr_22_14 h1030 (pc' := 15) rfl ?_
              refine T_le (y := (X_st (-2) ((X_T_ G).1 w i j))) (hrw.2.1 w (by omega) (by omega)) ?_
              refine T_lret xr_22_15 xf_22.2.2 rfl ?_
              show X_T sc 40 (109, [(7, .int (iI w)), (6, .int (iI c)), (4, .long (X_st (-2) R)), (2, .int (iI i)), (3, .int (iI j)), (0, .ref 517), (1, .int (iI t))], [.long (X_st (-2) ((X_T_ G).1 w i j))], S1018) _
              refine T_p xr_40_109 xn_40 (pc' := 111) (ls' := [(4, .long (X_st (-2) ((X_T_ G).1 w i j))), (7, .int (iI w)), (6, .int (iI c)), (2, .int (iI i)), (3, .int (iI j)), (0, .ref 517), (1, .int (iI t))]) (st' := []) rfl ?_
              refine T_p xr_40_111 xn_40 (pc' := 113) (ls' := [(4, .long (X_st (-2) ((X_T_ G).1 w i j))), (7, .int (iI w)), (6, .int (iI c)), (2, .int (iI i)), (3, .int (iI j)), (0, .ref 517), (1, .int (iI t))]) (st' := [.int (iI w)]) rfl ?_
              refine T_p xr_40_113 xn_40 (pc' := 115) (ls' := [(6, .int (iI w)), (4, .long (X_st (-2) ((X_T_ G).1 w i j))), (7, .int (iI w)), (2, .int (iI i)), (3, .int (iI j)), (0, .ref 517), (1, .int (iI t))]) (st' := []) rfl ?_
              refine T_ziinc xr_40_115 xn_40 (a := w) (z := w + 1) rfl (Nat.le_of_ble_eq_true rfl) (by omega) (ls' := [(7, .int (iI (w + 1))), (6, .int (iI w)), (4, .long (X_st (-2) ((X_T_ G).1 w i j))), (2, .int (iI i)), (3, .int (iI j)), (0, .ref 517), (1, .int (iI t))]) rfl (pc' := 118) rfl ?_
              refine T_p xr_40_118 xn_40 (pc' := 37) (ls' := [(7, .int (iI (w + 1))), (6, .int (iI w)), (4, .long (X_st (-2) ((X_T_ G).1 w i j))), (2, .int (iI i)), (3, .int (iI j)), (0, .ref 517), (1, .int (iI t))]) (st' := []) rfl ?_
              exact ih997 S1018 (w + 1) w ((X_T_ G).1 w i j) (K - R) (X_ug fN1 t (iL ((K - R : Nat) : Int))) h1019 (hF1000.tr ((X_Fr.rf).tr (X_Fr.of n1020 e1021 (by omega)))) (by omega) (by omega) ⟨X_ug_s _ _ _, fun q hq => (X_ug_n _ _ hq).trans (hN.2 q hq)⟩ (by
                    obtain ⟨a1, a2, a3⟩ := hinv
                    have hok := (hwb w (by omega) (by omega)).mp (by assumption)
                    have es : X_Su (X_cF G u o en i j) 0 (w + 1) = X_Su (X_cF G u o en i j) 0 w + (X_T_ G).1 w i j := by rw [X_Su_s (by omega)]; congr 1; exact X_if_t hok
                    refine ⟨by omega, by omega, Or.inr ⟨by omega, by omega, hok, rfl, by omega⟩⟩) (by omega)
  refine T_sub (ls := [(7, .int (iI 0)), (6, .int (iI (-1))), (4, .long (X_st (-2) (X_Hq G (X_T_ G) u i j))), (2, .int (iI i)), (3, .int (iI j)), (0, .ref 517), (1, .int (iI t))]) ⟨rfl, rfl, rfl, rfl, rfl, rfl, rfl, trivial⟩ rfl rfl ?_
  exact L996 ((gw G) + 1).toNat S 0 (-1) (X_Hq G (X_T_ G) u i j) k fN hA524 ((X_Fr.rf)) (by omega) hkm ⟨hfn, fun _ _ => rfl⟩ ⟨by rw [X_Su_e (Int.le_refl 0)]; omega, Nat.le_refl _, Or.inl ⟨rfl, rfl, rfl⟩⟩ (by omega)
