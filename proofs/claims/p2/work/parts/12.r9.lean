theorem xr_157_0 : X_row 157 0 = some (0, (.bipush 30, 2), (0, 0, 0)) := by decide +kernel
theorem xr_157_2 : X_row 157 2 = some (2, (.aload_n 0, 1), (0, 0, 0)) := by decide +kernel
theorem xr_157_3 : X_row 157 3 = some (3, (.getfield 91, 3), (11, 4, 8)) := by decide +kernel
theorem xr_157_6 : X_row 157 6 = some (6, (.imul, 1), (0, 0, 0)) := by decide +kernel
theorem xr_157_7 : X_row 157 7 = some (7, (.aload_n 0, 1), (0, 0, 0)) := by decide +kernel
theorem xr_157_8 : X_row 157 8 = some (8, (.getfield 138, 3), (11, 30, 60)) := by decide +kernel
theorem xr_157_11 : X_row 157 11 = some (11, (.iadd, 1), (0, 0, 0)) := by decide +kernel
theorem xr_157_12 : X_row 157 12 = some (12, (.istore_n 1, 1), (0, 0, 0)) := by decide +kernel
theorem xr_157_13 : X_row 157 13 = some (13, (.aload_n 0, 1), (0, 0, 0)) := by decide +kernel
theorem xr_157_14 : X_row 157 14 = some (14, (.getfield 141, 3), (11, 17, 34)) := by decide +kernel
theorem xr_157_17 : X_row 157 17 = some (17, (.iload_n 1, 1), (0, 0, 0)) := by decide +kernel
theorem xr_157_18 : X_row 157 18 = some (18, (.aload_n 0, 1), (0, 0, 0)) := by decide +kernel
theorem xr_157_19 : X_row 157 19 = some (19, (.invokevirtual 119, 3), (151, 30, 0)) := by decide +kernel
theorem xr_157_22 : X_row 157 22 = some (22, (.iastore, 1), (0, 0, 0)) := by decide +kernel
theorem xr_157_23 : X_row 157 23 = some (23, (.aload_n 0, 1), (0, 0, 0)) := by decide +kernel
theorem xr_157_24 : X_row 157 24 = some (24, (.getfield 144, 3), (11, 18, 36)) := by decide +kernel
theorem xr_157_27 : X_row 157 27 = some (27, (.iload_n 1, 1), (0, 0, 0)) := by decide +kernel
theorem xr_157_28 : X_row 157 28 = some (28, (.iconst 0, 1), (0, 0, 0)) := by decide +kernel
theorem xr_157_29 : X_row 157 29 = some (29, (.iastore, 1), (0, 0, 0)) := by decide +kernel
theorem xr_157_30 : X_row 157 30 = some (30, (.aload_n 0, 1), (0, 0, 0)) := by decide +kernel
theorem xr_157_31 : X_row 157 31 = some (31, (.getfield 147, 3), (11, 19, 38)) := by decide +kernel
theorem xr_157_34 : X_row 157 34 = some (34, (.iload_n 1, 1), (0, 0, 0)) := by decide +kernel
theorem xr_157_35 : X_row 157 35 = some (35, (.iconst 0, 1), (0, 0, 0)) := by decide +kernel
theorem xr_157_36 : X_row 157 36 = some (36, (.iastore, 1), (0, 0, 0)) := by decide +kernel
theorem xr_157_37 : X_row 157 37 = some (37, (.aload_n 0, 1), (0, 0, 0)) := by decide +kernel
theorem xr_157_38 : X_row 157 38 = some (38, (.getfield 150, 3), (11, 20, 40)) := by decide +kernel
theorem xr_157_41 : X_row 157 41 = some (41, (.iload_n 1, 1), (0, 0, 0)) := by decide +kernel
theorem xr_157_42 : X_row 157 42 = some (42, (.iconst 0, 1), (0, 0, 0)) := by decide +kernel
theorem xr_157_43 : X_row 157 43 = some (43, (.iastore, 1), (0, 0, 0)) := by decide +kernel
theorem xr_157_44 : X_row 157 44 = some (44, (.aload_n 0, 1), (0, 0, 0)) := by decide +kernel
theorem xr_157_45 : X_row 157 45 = some (45, (.getfield 153, 3), (11, 21, 42)) := by decide +kernel
theorem xr_157_48 : X_row 157 48 = some (48, (.iload_n 1, 1), (0, 0, 0)) := by decide +kernel
theorem xr_157_49 : X_row 157 49 = some (49, (.iconst 0, 1), (0, 0, 0)) := by decide +kernel
theorem xr_157_50 : X_row 157 50 = some (50, (.iastore, 1), (0, 0, 0)) := by decide +kernel
theorem xr_157_51 : X_row 157 51 = some (51, (.aload_n 0, 1), (0, 0, 0)) := by decide +kernel
theorem xr_157_52 : X_row 157 52 = some (52, (.getfield 156, 3), (11, 22, 44)) := by decide +kernel
theorem xr_157_55 : X_row 157 55 = some (55, (.iload_n 1, 1), (0, 0, 0)) := by decide +kernel
theorem xr_157_56 : X_row 157 56 = some (56, (.iconst (-1), 1), (0, 0, 0)) := by decide +kernel
theorem xr_157_57 : X_row 157 57 = some (57, (.iastore, 1), (0, 0, 0)) := by decide +kernel
theorem xr_157_58 : X_row 157 58 = some (58, (.aload_n 0, 1), (0, 0, 0)) := by decide +kernel
theorem xr_157_59 : X_row 157 59 = some (59, (.invokevirtual 100, 3), (140, 14, 0)) := by decide +kernel
theorem xr_157_62 : X_row 157 62 = some (62, (.ifCond .eq 48, 3), (0, 0, 0)) := by decide +kernel
theorem xr_157_65 : X_row 157 65 = some (65, (.aload_n 0, 1), (0, 0, 0)) := by decide +kernel
theorem xr_157_66 : X_row 157 66 = some (66, (.ldc2_w 55, 3), (1818584692, 1290, 0)) := by decide +kernel
theorem xr_157_69 : X_row 157 69 = some (69, (.invokevirtual 127, 3), (146, 38, 0)) := by decide +kernel
theorem xr_157_72 : X_row 157 72 = some (72, (.ifCond .ne 13, 3), (0, 0, 0)) := by decide +kernel
theorem xr_157_75 : X_row 157 75 = some (75, (.aload_n 0, 1), (0, 0, 0)) := by decide +kernel
theorem xr_157_76 : X_row 157 76 = some (76, (.ldc2_w 57, 3), (491394656372, 1291, 0)) := by decide +kernel
theorem xr_157_79 : X_row 157 79 = some (79, (.invokevirtual 127, 3), (146, 38, 0)) := by decide +kernel
theorem xr_157_82 : X_row 157 82 = some (82, (.ifCond .eq 28, 3), (0, 0, 0)) := by decide +kernel
theorem xr_157_85 : X_row 157 85 = some (85, (.aload_n 0, 1), (0, 0, 0)) := by decide +kernel
theorem xr_157_86 : X_row 157 86 = some (86, (.getfield 144, 3), (11, 18, 36)) := by decide +kernel
theorem xr_157_89 : X_row 157 89 = some (89, (.iload_n 1, 1), (0, 0, 0)) := by decide +kernel
theorem xr_157_90 : X_row 157 90 = some (90, (.aload_n 0, 1), (0, 0, 0)) := by decide +kernel
theorem xr_157_91 : X_row 157 91 = some (91, (.ldc2_w 55, 3), (1818584692, 1290, 0)) := by decide +kernel
theorem xr_157_94 : X_row 157 94 = some (94, (.invokevirtual 127, 3), (146, 38, 0)) := by decide +kernel
theorem xr_157_97 : X_row 157 97 = some (97, (.ifCond .eq 7, 3), (0, 0, 0)) := by decide +kernel
theorem xr_157_100 : X_row 157 100 = some (100, (.iconst 1, 1), (0, 0, 0)) := by decide +kernel
theorem xr_157_101 : X_row 157 101 = some (101, (.goto 4, 3), (0, 0, 0)) := by decide +kernel
theorem xr_157_104 : X_row 157 104 = some (104, (.iconst 2, 1), (0, 0, 0)) := by decide +kernel
theorem xr_157_105 : X_row 157 105 = some (105, (.iastore, 1), (0, 0, 0)) := by decide +kernel
theorem xr_157_106 : X_row 157 106 = some (106, (.aload_n 0, 1), (0, 0, 0)) := by decide +kernel
theorem xr_157_107 : X_row 157 107 = some (107, (.invokevirtual 78, 3), (141, 0, 0)) := by decide +kernel
theorem xr_157_110 : X_row 157 110 = some (110, (.aload_n 0, 1), (0, 0, 0)) := by decide +kernel
theorem xr_157_111 : X_row 157 111 = some (111, (.invokevirtual 100, 3), (140, 14, 0)) := by decide +kernel
theorem xr_157_114 : X_row 157 114 = some (114, (.ifCond .eq 21, 3), (0, 0, 0)) := by decide +kernel
theorem xr_157_117 : X_row 157 117 = some (117, (.aload_n 0, 1), (0, 0, 0)) := by decide +kernel
theorem xr_157_118 : X_row 157 118 = some (118, (.getfield 27, 3), (11, 9, 18)) := by decide +kernel
theorem xr_157_121 : X_row 157 121 = some (121, (.iconst 2, 1), (0, 0, 0)) := by decide +kernel
theorem xr_157_122 : X_row 157 122 = some (122, (.if_icmp .ne 13, 3), (0, 0, 0)) := by decide +kernel
theorem xr_157_125 : X_row 157 125 = some (125, (.aload_n 0, 1), (0, 0, 0)) := by decide +kernel
theorem xr_157_126 : X_row 157 126 = some (126, (.getfield 147, 3), (11, 19, 38)) := by decide +kernel
theorem xr_157_129 : X_row 157 129 = some (129, (.iload_n 1, 1), (0, 0, 0)) := by decide +kernel
theorem xr_157_130 : X_row 157 130 = some (130, (.aload_n 0, 1), (0, 0, 0)) := by decide +kernel
theorem xr_157_131 : X_row 157 131 = some (131, (.invokevirtual 131, 3), (152, 40, 0)) := by decide +kernel
theorem xr_157_134 : X_row 157 134 = some (134, (.iastore, 1), (0, 0, 0)) := by decide +kernel
theorem xr_157_135 : X_row 157 135 = some (135, (.aload_n 0, 1), (0, 0, 0)) := by decide +kernel
theorem xr_157_136 : X_row 157 136 = some (136, (.getfield 20, 3), (11, 7, 14)) := by decide +kernel
theorem xr_157_139 : X_row 157 139 = some (139, (.istore_n 2, 1), (0, 0, 0)) := by decide +kernel
theorem xr_157_140 : X_row 157 140 = some (140, (.aload_n 0, 1), (0, 0, 0)) := by decide +kernel
theorem xr_157_141 : X_row 157 141 = some (141, (.invokevirtual 100, 3), (140, 14, 0)) := by decide +kernel
theorem xr_157_144 : X_row 157 144 = some (144, (.ifCond .eq 9, 3), (0, 0, 0)) := by decide +kernel
theorem xr_157_147 : X_row 157 147 = some (147, (.aload_n 0, 1), (0, 0, 0)) := by decide +kernel
theorem xr_157_148 : X_row 157 148 = some (148, (.bipush 58, 2), (0, 0, 0)) := by decide +kernel
theorem xr_157_150 : X_row 157 150 = some (150, (.invokevirtual 115, 3), (148, 24, 0)) := by decide +kernel
theorem xr_157_153 : X_row 157 153 = some (153, (.iconst 0, 1), (0, 0, 0)) := by decide +kernel
theorem xr_157_154 : X_row 157 154 = some (154, (.istore_n 3, 1), (0, 0, 0)) := by decide +kernel
theorem R_w.set2 {x k : Int} {d : Nat → Int → Int} {q : Int → Int64} {wR wL wK wM wH wS sO sN : Int → Int} {eP : Int → Int64} {eH hK : Int → Int} (h : R_w x d q wR wL wK wM wH wS sO sN eP eH hK) : R_w x (X_wu d 2 (fun _ => k)) q wR wL (X_ug wK x k) wM wH wS sO sN eP eH hK := ⟨h.1, h.2.1, X_ug_s _ _ _, h.2.2.2.1, h.2.2.2.2⟩
theorem R_w.set2' {x k : Int} {d : Nat → Int → Int} {q : Int → Int64} {wR wL wK wM wH wS sO sN : Int → Int} {eP : Int → Int64} {eH hK : Int → Int} (h : R_w x d q wR wL wK wM wH wS sO sN eP eH hK) (hk : d 2 0 = k) : R_w x (X_wu d 2 (fun _ => k)) q wR wL wK wM wH wS sO sN eP eH hK := ⟨h.1, h.2.1, h.2.2.1.trans hk, h.2.2.2.1, h.2.2.2.2⟩
set_option maxHeartbeats 8000000 in
theorem r_rwB (sc : X_Sc) (S : X_S) (o : Nat → Int) (nm : Int64) (tx : Int → Int) (kN : Int → Int64) (wR : Int → Int) (wL : Int → Int) (wK : Int → Int) (wM : Int → Int) (wH : Int → Int) (wS : Int → Int) (sO : Int → Int) (sN : Int → Int) (eP : Int → Int64) (eH : Int → Int) (hK : Int → Int) (tb : Int → Int) (len : Int) (n : Int) (so : Int → Int) (pl : Int → Int) (ct : Int → Int64) (E : Int → Int) (c : Int) (kn : Int → Int64) (kc : Int) (wc : Int) (wi : Int) (d : Nat → Int → Int) (q : Int → Int64) (hM : M_o S o nm) (hA532 : S.1 532 = .inl (.byte, 2000, .inl fun k : Nat => iI (tx (k : Int)))) (hA534 : S.1 534 = .inl (.long, 22, .inr (.inl fun k : Nat => kN (k : Int)))) (hA537 : S.1 537 = .inl (.int, 60, .inl fun k : Nat => iI (wR (k : Int)))) (hA538 : S.1 538 = .inl (.int, 60, .inl fun k : Nat => iI (wL (k : Int)))) (hA539 : S.1 539 = .inl (.int, 60, .inl fun k : Nat => iI (wK (k : Int)))) (hA540 : S.1 540 = .inl (.int, 60, .inl fun k : Nat => iI (wM (k : Int)))) (hA541 : S.1 541 = .inl (.int, 60, .inl fun k : Nat => iI (wH (k : Int)))) (hA542 : S.1 542 = .inl (.int, 60, .inl fun k : Nat => iI (wS (k : Int)))) (hA543 : S.1 543 = .inl (.int, 1800, .inl fun k : Nat => iI (sO (k : Int)))) (hA544 : S.1 544 = .inl (.int, 1800, .inl fun k : Nat => iI (sN (k : Int)))) (hA545 : S.1 545 = .inl (.long, 480, .inr (.inl fun k : Nat => eP (k : Int)))) (hA546 : S.1 546 = .inl (.int, 480, .inl fun k : Nat => iI (eH (k : Int)))) (hA547 : S.1 547 = .inl (.int, 240, .inl fun k : Nat => iI (hK (k : Int)))) (hlen : o 3 = len) (hl : 0 ≤ len ∧ len ≤ 2000) (htx : ∀ k, 0 ≤ k → k < len → tx k = tb k) (hX : X_TxE tb len n so pl ct E) (hT : R_tk n so pl ct E c (o 7) (o 8) (o 9) (o 10) (o 11) nm) (h5 : o 5 = 0) (hkc : o 29 = kc) (hwc : o 30 = wc) (hcr : 1 ≤ kc ∧ kc ≤ 11) (hb : 0 ≤ o 4 ∧ o 4 ≤ 1) (hN : ∀ i, 0 ≤ i → i < kc → kN (11 * o 4 + i) = kn i) (hw : 0 ≤ wi ∧ wi < 60 ∧ 0 ≤ wc ∧ wc < 30) (hW : R_w wi d q wR wL wK wM wH wS sO sN eP eH hK) (hd3 : d 3 0 = 0 ∧ d 4 0 = 0 ∧ d 5 0 = -1) (hd1 : 0 ≤ d 1 0 ∧ d 1 0 ≤ 2) (hct : ∀ i, 0 ≤ i → i < n → so i = 6 → ¬ ct i = 0) (hd2 : d 2 0 = 0) : X_T sc 157 (110, [(1, .int (iI wi)), (0, .ref 530)], [], S) (fun v S' => (∃ (at1 : Int) (en1 : Int) (tk1 : Int) (nu1 : Int) (dg1 : Int) (nm1 : Int64) (g1 : Int) (c2 : Int) (d2 : Nat → Int → Int) (q2 : Int → Int64) (wR1 : Int → Int) (wL1 : Int → Int) (wK1 : Int → Int) (wM1 : Int → Int) (wH1 : Int → Int) (wS1 : Int → Int) (sO1 : Int → Int) (sN1 : Int → Int) (eP1 : Int → Int64) (eH1 : Int → Int) (hK1 : Int → Int), v = none ∧ R_tk n so pl ct E c2 at1 en1 tk1 nu1 dg1 nm1 ∧ sp_wk n so ct kn kc c d q = some (c2, d2, q2) ∧ R_w wi d2 q2 wR1 wL1 wK1 wM1 wH1 wS1 sO1 sN1 eP1 eH1 hK1 ∧ R_ob 1 wi wR wR1 ∧ R_ob 1 wi wL wL1 ∧ R_ob 1 wi wK wK1 ∧ R_ob 1 wi wM wM1 ∧ R_ob 1 wi wH wH1 ∧ R_ob 1 wi wS wS1 ∧ R_ob 30 wi sO sO1 ∧ R_ob 30 wi sN sN1 ∧ R_ob 8 wi eP eP1 ∧ R_ob 8 wi eH eH1 ∧ R_ob 4 wi hK hK1 ∧ M_o S' (X_ou (X_ou (X_ou (X_ou (X_ou (X_ou (X_ou o 7 at1) 8 en1) 9 tk1) 10 nu1) 11 dg1) 6 g1) 30 (wc + 1)) nm1 ∧ S'.1 537 = .inl (.int, 60, .inl fun k : Nat => iI (wR1 (k : Int))) ∧ S'.1 538 = .inl (.int, 60, .inl fun k : Nat => iI (wL1 (k : Int))) ∧ S'.1 539 = .inl (.int, 60, .inl fun k : Nat => iI (wK1 (k : Int))) ∧ S'.1 540 = .inl (.int, 60, .inl fun k : Nat => iI (wM1 (k : Int))) ∧ S'.1 541 = .inl (.int, 60, .inl fun k : Nat => iI (wH1 (k : Int))) ∧ S'.1 542 = .inl (.int, 60, .inl fun k : Nat => iI (wS1 (k : Int))) ∧ S'.1 543 = .inl (.int, 1800, .inl fun k : Nat => iI (sO1 (k : Int))) ∧ S'.1 544 = .inl (.int, 1800, .inl fun k : Nat => iI (sN1 (k : Int))) ∧ S'.1 545 = .inl (.long, 480, .inr (.inl fun k : Nat => eP1 (k : Int))) ∧ S'.1 546 = .inl (.int, 480, .inl fun k : Nat => iI (eH1 (k : Int))) ∧ S'.1 547 = .inl (.int, 240, .inl fun k : Nat => iI (hK1 (k : Int))) ∧ (X_Fr (fun q => q = 530 ∨ q = 537 ∨ q = 538 ∨ q = 539 ∨ q = 540 ∨ q = 541 ∨ q = 542 ∨ q = 543 ∨ q = 544 ∨ q = 545 ∨ q = 546 ∨ q = 547) S S')) ∨ (∃ (at1 : Int) (en1 : Int) (tk1 : Int) (nu1 : Int) (dg1 : Int) (nm1 : Int64) (wc1 : Int) (f1 : Int) (g1 : Int) (wR1 : Int → Int) (wL1 : Int → Int) (wK1 : Int → Int) (wM1 : Int → Int) (wH1 : Int → Int) (wS1 : Int → Int) (sO1 : Int → Int) (sN1 : Int → Int) (eP1 : Int → Int64) (eH1 : Int → Int) (hK1 : Int → Int), v = none ∧ (1 ≤ f1 ∧ f1 ≤ 5) ∧ sp_wk n so ct kn kc c d q = none ∧ R_ob 1 wi wR wR1 ∧ R_ob 1 wi wL wL1 ∧ R_ob 1 wi wK wK1 ∧ R_ob 1 wi wM wM1 ∧ R_ob 1 wi wH wH1 ∧ R_ob 1 wi wS wS1 ∧ R_ob 30 wi sO sO1 ∧ R_ob 30 wi sN sN1 ∧ R_ob 8 wi eP eP1 ∧ R_ob 8 wi eH eH1 ∧ R_ob 4 wi hK hK1 ∧ M_o S' (X_ou (X_ou (X_ou (X_ou (X_ou (X_ou (X_ou (X_ou o 7 at1) 8 en1) 9 tk1) 10 nu1) 11 dg1) 5 f1) 6 g1) 30 wc1) nm1 ∧ S'.1 537 = .inl (.int, 60, .inl fun k : Nat => iI (wR1 (k : Int))) ∧ S'.1 538 = .inl (.int, 60, .inl fun k : Nat => iI (wL1 (k : Int))) ∧ S'.1 539 = .inl (.int, 60, .inl fun k : Nat => iI (wK1 (k : Int))) ∧ S'.1 540 = .inl (.int, 60, .inl fun k : Nat => iI (wM1 (k : Int))) ∧ S'.1 541 = .inl (.int, 60, .inl fun k : Nat => iI (wH1 (k : Int))) ∧ S'.1 542 = .inl (.int, 60, .inl fun k : Nat => iI (wS1 (k : Int))) ∧ S'.1 543 = .inl (.int, 1800, .inl fun k : Nat => iI (sO1 (k : Int))) ∧ S'.1 544 = .inl (.int, 1800, .inl fun k : Nat => iI (sN1 (k : Int))) ∧ S'.1 545 = .inl (.long, 480, .inr (.inl fun k : Nat => eP1 (k : Int))) ∧ S'.1 546 = .inl (.int, 480, .inl fun k : Nat => iI (eH1 (k : Int))) ∧ S'.1 547 = .inl (.int, 240, .inl fun k : Nat => iI (hK1 (k : Int))) ∧ (X_Fr (fun q => q = 530 ∨ q = 537 ∨ q = 538 ∨ q = 539 ∨ q = 540 ∨ q = 541 ∨ q = 542 ∨ q = 543 ∨ q = 544 ∨ q = 545 ∨ q = 546 ∨ q = 547) S S'))) := by
  obtain ⟨⟨hc0, hcn⟩, ⟨hs0, hs1⟩, hk0, ⟨ha0, ha1⟩, hk0e, ⟨_, _⟩, ⟨_, _⟩⟩ := R_tk_f hX hT
  have hn2 := hX.2.1
  refine X_QI (fun Q hQ => ?_)
  refine T_p xr_157_110 xn_157 (pc' := 111) (ls' := [(1, .int (iI wi)), (0, .ref 530)]) (st' := [.ref 530]) rfl ?_
  refine T_cv (S := S) (q := 530) xr_157_111 xf_140.1 xf_140.2.1 xn_140 (as := []) (r := []) rfl hM (Nat.le_of_ble_eq_true rfl) (Nat.le_of_ble_eq_true rfl) (pc' := 114) rfl (ls' := [(0, .ref 530)]) rfl ?_
  refine T_mono (r_isGood sc S o nm hM (show 0 ≤ (o 5) ∧ (o 5) ≤ 5 from by omega)) (fun v3841 S3842 h3843 => ?_)
  rcases h3843 with ⟨hv3844, hf3845⟩
  rw [hv3844]
  rw [hf3845]
  show X_T sc 157 (114, [(1, .int (iI wi)), (0, .ref 530)], [.int (iI (bI ((o 5) = 0)))], S) _
  refine T_bif_eq xr_157_114 (t := 135) (pc' := 117) rfl rfl (fun c3846 => ?_) (fun c3846 => ?_)
  · skip
    have c3846 : ¬ ((o 5) = 0) := c3846
    exact (show False by first | contradiction | omega).elim
  · skip
    have c3846 : ((o 5) = 0) := c3846
    refine T_p xr_157_117 xn_157 (pc' := 118) (ls' := [(1, .int (iI wi)), (0, .ref 530)]) (st' := [.ref 530]) rfl ?_
    refine T_get xr_157_118 hM rfl (v := .int (iI (o 9))) rfl (pc' := 121) rfl ?_
    refine T_p xr_157_121 xn_157 (pc' := 122) (ls' := [(1, .int (iI wi)), (0, .ref 530)]) (st' := [.int (iI 2), .int (iI (o 9))]) rfl ?_
    refine T_zicmp_ne xr_157_122 (t := 135) (pc' := 125) rfl rfl (fun c3847 => ?_) (fun c3847 => ?_)
    · skip
      have c3847 : ¬ (o 9) = 2 := c3847
      refine T_p xr_157_135 xn_157 (pc' := 136) (ls' := [(1, .int (iI wi)), (0, .ref 530)]) (st' := [.ref 530]) rfl ?_
      refine T_get xr_157_136 hM rfl (v := .int (iI (o 7))) rfl (pc' := 139) rfl ?_
      refine T_p xr_157_139 xn_157 (pc' := 140) (ls' := [(2, .int (iI (o 7))), (1, .int (iI wi)), (0, .ref 530)]) (st' := []) rfl ?_
      refine T_p xr_157_140 xn_157 (pc' := 141) (ls' := [(2, .int (iI (o 7))), (1, .int (iI wi)), (0, .ref 530)]) (st' := [.ref 530]) rfl ?_
      refine T_cv (S := S) (q := 530) xr_157_141 xf_140.1 xf_140.2.1 xn_140 (as := []) (r := []) rfl hM (Nat.le_of_ble_eq_true rfl) (Nat.le_of_ble_eq_true rfl) (pc' := 144) rfl (ls' := [(0, .ref 530)]) rfl ?_
      refine T_mono (r_isGood sc S o nm hM (show 0 ≤ (o 5) ∧ (o 5) ≤ 5 from by omega)) (fun v3848 S3849 h3850 => ?_)
      rcases h3850 with ⟨hv3851, hf3852⟩
      rw [hv3851]
      rw [hf3852]
      show X_T sc 157 (144, [(2, .int (iI (o 7))), (1, .int (iI wi)), (0, .ref 530)], [.int (iI (bI ((o 5) = 0)))], S) _
      refine T_bif_eq xr_157_144 (t := 153) (pc' := 147) rfl rfl (fun c3853 => ?_) (fun c3853 => ?_)
      · skip
        have c3853 : ¬ ((o 5) = 0) := c3853
        exact (show False by first | contradiction | omega).elim
      · skip
        have c3853 : ((o 5) = 0) := c3853
        refine T_p xr_157_147 xn_157 (pc' := 148) (ls' := [(2, .int (iI (o 7))), (1, .int (iI wi)), (0, .ref 530)]) (st' := [.ref 530]) rfl ?_
        refine T_p xr_157_148 xn_157 (pc' := 150) (ls' := [(2, .int (iI (o 7))), (1, .int (iI wi)), (0, .ref 530)]) (st' := [.int (iI 58), .ref 530]) rfl ?_
        refine T_cv (S := S) (q := 530) xr_157_150 xf_148.1 xf_148.2.1 xn_148 (as := [.int (iI 58)]) (r := []) rfl hM (Nat.le_of_ble_eq_true rfl) (Nat.le_of_ble_eq_true rfl) (pc' := 153) rfl (ls' := [(0, .ref 530), (1, .int (iI 58))]) rfl ?_
        refine T_mono (r_must sc S o nm tx tb len n so pl ct E c 58 hM hA532 (show (o 3) = len from by first | assumption | omega) hl htx hX hT (show (o 5) = 0 from by omega) (by omega)) (fun v3854 S3855 h3856 => ?_)
        rcases h3856 with ⟨at3857, en3858, tk3859, nu3860, dg3861, nm3862, hv3863, hp3864, hp3865, hM3866, hf3867⟩ | ⟨f3868, g3869, hv3870, hp3871, hp3872, hM3873, hf3874⟩
        · skip
          rw [hv3863]
          have h3875 : S3855.1 530 = .inr (11, [.ref 531, .int (iI (o 1)), .ref 532, .int (iI (o 3)), .int (iI (o 4)), .int (iI (o 5)), .int (iI (o 6)), .int (iI at3857), .int (iI en3858), .int (iI tk3859), .int (iI nu3860), .int (iI dg3861), .long nm3862, .ref 533, .ref 534, .ref 535, .ref 536, .ref 537, .ref 538, .ref 539, .ref 540, .ref 541, .ref 542, .ref 543, .ref 544, .ref 545, .ref 546, .ref 547, .int (iI (o 28)), .int (iI (o 29)), .int (iI (o 30)), .int (iI (o 31)), .int (iI (o 32)), .int (iI (o 33)), .ref 548, .ref 549, .ref 550, .ref 551, .int (iI (o 38)), .ref 552, .ref 553, .ref 554, .ref 555, .ref 556, .ref 557, .ref 558, .ref 559, .ref 560, .ref 561, .int (iI (o 49)), .ref 562, .ref 563, .ref 564, .ref 565, .ref 566, .ref 567, .ref 568, .ref 569, .int (iI (o 58)), .ref 570, .ref 571, .ref 572, .ref 573, .ref 574, .ref 575, .ref 576, .ref 577, .ref 578, .int (iI (o 68)), .int (iI (o 69)), .int (iI (o 70)), .ref 579]) := hM3866
          obtain ⟨⟨_, _⟩, ⟨_, _⟩, hk3876, ⟨_, _⟩, hk3876e, ⟨_, _⟩, ⟨_, _⟩⟩ := R_tk_f hX hp3864
          show X_T sc 157 (153, [(2, .int (iI (o 7))), (1, .int (iI wi)), (0, .ref 530)], [], S3855) _
          refine T_p xr_157_153 xn_157 (pc' := 154) (ls' := [(2, .int (iI (o 7))), (1, .int (iI wi)), (0, .ref 530)]) (st' := [.int (iI 0)]) rfl ?_
          refine T_ie (y := iI (bI (False))) (by rw [bI_f (fun h => h)]) ?_
          refine T_p xr_157_154 xn_157 (pc' := 155) (ls' := [(3, .int (iI (bI (False)))), (2, .int (iI (o 7))), (1, .int (iI wi)), (0, .ref 530)]) (st' := []) rfl ?_
          have h3878 := (hf3867.1 532 (by omega)).trans (hA532)
          have h3879 := (hf3867.1 534 (by omega)).trans (hA534)
          have h3880 := (hf3867.1 537 (by omega)).trans (hA537)
          have h3881 := (hf3867.1 538 (by omega)).trans (hA538)
          have h3882 := (hf3867.1 539 (by omega)).trans (hA539)
          have h3883 := (hf3867.1 540 (by omega)).trans (hA540)
          have h3884 := (hf3867.1 541 (by omega)).trans (hA541)
          have h3885 := (hf3867.1 542 (by omega)).trans (hA542)
          have h3886 := (hf3867.1 543 (by omega)).trans (hA543)
          have h3887 := (hf3867.1 544 (by omega)).trans (hA544)
          have h3888 := (hf3867.1 545 (by omega)).trans (hA545)
          have h3889 := (hf3867.1 546 (by omega)).trans (hA546)
          have h3890 := (hf3867.1 547 (by omega)).trans (hA547)
          refine T_mono (r_rwC sc S3855 (X_ou (X_ou (X_ou (X_ou (X_ou o 7 at3857) 8 en3858) 9 tk3859) 10 nu3860) 11 dg3861) nm3862 tx kN wR wL wK wM wH wS sO sN eP eH hK tb len n so pl ct E (X_av n c) kn kc wc wi (X_wu d 2 (fun _ => 0)) q (o 7) h3875 h3878 h3879 h3880 h3881 h3882 h3883 h3884 h3885 h3886 h3887 h3888 h3889 h3890 (show (o 3) = len from by first | assumption | omega) hl htx hX hp3864 (show (o 5) = 0 from by omega) (show (o 29) = kc from by omega) (show (o 30) = wc from by omega) (by omega) (show 0 ≤ (o 4) ∧ (o 4) ≤ 1 from by omega) hN (by omega) (hW.set2' hd2) hd3 hd1 hct) (fun v3891 S3892 h3893 => hQ _ _ ?_)
          rcases h3893 with ⟨at3894, en3895, tk3896, nu3897, dg3898, nm3899, g3900, c3901, d3902, q3903, wR3904, wL3905, wK3906, wM3907, wH3908, wS3909, sO3910, sN3911, eP3912, eH3913, hK3914, hv3915, hp3916, hp3917, hp3918, hp3919, hp3920, hp3921, hp3922, hp3923, hp3924, hp3925, hp3926, hp3927, hp3928, hp3929, hM3930, ha3931, ha3932, ha3933, ha3934, ha3935, ha3936, ha3937, ha3938, ha3939, ha3940, ha3941, hf3942⟩ | ⟨at3943, en3944, tk3945, nu3946, dg3947, nm3948, wc3949, f3950, g3951, wR3952, wL3953, wK3954, wM3955, wH3956, wS3957, sO3958, sN3959, eP3960, eH3961, hK3962, hv3963, hp3964, hp3965, hp3966, hp3967, hp3968, hp3969, hp3970, hp3971, hp3972, hp3973, hp3974, hp3975, hp3976, hM3977, ha3978, ha3979, ha3980, ha3981, ha3982, ha3983, ha3984, ha3985, ha3986, ha3987, ha3988, hf3989⟩
          · skip
            rw [hv3915]
            have h3990 : S3892.1 530 = .inr (11, [.ref 531, .int (iI (o 1)), .ref 532, .int (iI (o 3)), .int (iI (o 4)), .int (iI (o 5)), .int (iI g3900), .int (iI at3894), .int (iI en3895), .int (iI tk3896), .int (iI nu3897), .int (iI dg3898), .long nm3899, .ref 533, .ref 534, .ref 535, .ref 536, .ref 537, .ref 538, .ref 539, .ref 540, .ref 541, .ref 542, .ref 543, .ref 544, .ref 545, .ref 546, .ref 547, .int (iI (o 28)), .int (iI (o 29)), .int (iI (wc + 1)), .int (iI (o 31)), .int (iI (o 32)), .int (iI (o 33)), .ref 548, .ref 549, .ref 550, .ref 551, .int (iI (o 38)), .ref 552, .ref 553, .ref 554, .ref 555, .ref 556, .ref 557, .ref 558, .ref 559, .ref 560, .ref 561, .int (iI (o 49)), .ref 562, .ref 563, .ref 564, .ref 565, .ref 566, .ref 567, .ref 568, .ref 569, .int (iI (o 58)), .ref 570, .ref 571, .ref 572, .ref 573, .ref 574, .ref 575, .ref 576, .ref 577, .ref 578, .int (iI (o 68)), .int (iI (o 69)), .int (iI (o 70)), .ref 579]) := hM3930
            exact Or.inl ⟨at3894, en3895, tk3896, nu3897, dg3898, nm3899, g3900, c3901, d3902, q3903, wR3904, wL3905, wK3906, wM3907, wH3908, wS3909, sO3910, sN3911, eP3912, eH3913, hK3914, rfl, hp3916, (by
                  unfold sp_wk
                  (repeat (first | rw [if_pos (by assumption)] | rw [if_neg (by assumption)] | rw [if_neg (by omega)] | rw [if_pos (by omega)]))
                  unfold sp_wb
                  rw [if_pos (by assumption)]
                  exact hp3917), hp3918, hp3919, hp3920, hp3921, hp3922, hp3923, hp3924, hp3925, hp3926, hp3927, hp3928, hp3929, h3990, ha3931, ha3932, ha3933, ha3934, ha3935, ha3936, ha3937, ha3938, ha3939, ha3940, ha3941, ((X_Fr.rf).tr (X_Fr.mono ⟨hf3867.1, hf3867.2⟩ (fun q hq => (by omega)))).tr (X_Fr.mono ⟨hf3942.1, hf3942.2⟩ (fun q hq => (by omega)))⟩
          · skip
            rw [hv3963]
            have h3991 : S3892.1 530 = .inr (11, [.ref 531, .int (iI (o 1)), .ref 532, .int (iI (o 3)), .int (iI (o 4)), .int (iI f3950), .int (iI g3951), .int (iI at3943), .int (iI en3944), .int (iI tk3945), .int (iI nu3946), .int (iI dg3947), .long nm3948, .ref 533, .ref 534, .ref 535, .ref 536, .ref 537, .ref 538, .ref 539, .ref 540, .ref 541, .ref 542, .ref 543, .ref 544, .ref 545, .ref 546, .ref 547, .int (iI (o 28)), .int (iI (o 29)), .int (iI wc3949), .int (iI (o 31)), .int (iI (o 32)), .int (iI (o 33)), .ref 548, .ref 549, .ref 550, .ref 551, .int (iI (o 38)), .ref 552, .ref 553, .ref 554, .ref 555, .ref 556, .ref 557, .ref 558, .ref 559, .ref 560, .ref 561, .int (iI (o 49)), .ref 562, .ref 563, .ref 564, .ref 565, .ref 566, .ref 567, .ref 568, .ref 569, .int (iI (o 58)), .ref 570, .ref 571, .ref 572, .ref 573, .ref 574, .ref 575, .ref 576, .ref 577, .ref 578, .int (iI (o 68)), .int (iI (o 69)), .int (iI (o 70)), .ref 579]) := hM3977
            exact Or.inr ⟨at3943, en3944, tk3945, nu3946, dg3947, nm3948, wc3949, f3950, g3951, wR3952, wL3953, wK3954, wM3955, wH3956, wS3957, sO3958, sN3959, eP3960, eH3961, hK3962, rfl, hp3964, (by
                  unfold sp_wk
                  (repeat (first | rw [if_pos (by assumption)] | rw [if_neg (by assumption)] | rw [if_neg (by omega)] | rw [if_pos (by omega)]))
                  unfold sp_wb
                  rw [if_pos (by assumption)]
                  exact hp3965), hp3966, hp3967, hp3968, hp3969, hp3970, hp3971, hp3972, hp3973, hp3974, hp3975, hp3976, h3991, ha3978, ha3979, ha3980, ha3981, ha3982, ha3983, ha3984, ha3985, ha3986, ha3987, ha3988, ((X_Fr.rf).tr (X_Fr.mono ⟨hf3867.1, hf3867.2⟩ (fun q hq => (by omega)))).tr (X_Fr.mono ⟨hf3989.1, hf3989.2⟩ (fun q hq => (by omega)))⟩
        · skip
          rw [hv3870]
          have h3877 : S3855.1 530 = .inr (11, [.ref 531, .int (iI (o 1)), .ref 532, .int (iI (o 3)), .int (iI (o 4)), .int (iI f3868), .int (iI g3869), .int (iI (o 7)), .int (iI (o 8)), .int (iI (o 9)), .int (iI (o 10)), .int (iI (o 11)), .long nm, .ref 533, .ref 534, .ref 535, .ref 536, .ref 537, .ref 538, .ref 539, .ref 540, .ref 541, .ref 542, .ref 543, .ref 544, .ref 545, .ref 546, .ref 547, .int (iI (o 28)), .int (iI (o 29)), .int (iI (o 30)), .int (iI (o 31)), .int (iI (o 32)), .int (iI (o 33)), .ref 548, .ref 549, .ref 550, .ref 551, .int (iI (o 38)), .ref 552, .ref 553, .ref 554, .ref 555, .ref 556, .ref 557, .ref 558, .ref 559, .ref 560, .ref 561, .int (iI (o 49)), .ref 562, .ref 563, .ref 564, .ref 565, .ref 566, .ref 567, .ref 568, .ref 569, .int (iI (o 58)), .ref 570, .ref 571, .ref 572, .ref 573, .ref 574, .ref 575, .ref 576, .ref 577, .ref 578, .int (iI (o 68)), .int (iI (o 69)), .int (iI (o 70)), .ref 579]) := hM3873
          show X_T sc 157 (153, [(2, .int (iI (o 7))), (1, .int (iI wi)), (0, .ref 530)], [], S3855) _
          refine T_p xr_157_153 xn_157 (pc' := 154) (ls' := [(2, .int (iI (o 7))), (1, .int (iI wi)), (0, .ref 530)]) (st' := [.int (iI 0)]) rfl ?_
          refine T_p xr_157_154 xn_157 (pc' := 155) (ls' := [(3, .int (iI 0)), (2, .int (iI (o 7))), (1, .int (iI wi)), (0, .ref 530)]) (st' := []) rfl ?_
          refine T_p xr_157_155 xn_157 (pc' := 156) (ls' := [(3, .int (iI 0)), (2, .int (iI (o 7))), (1, .int (iI wi)), (0, .ref 530)]) (st' := [.ref 530]) rfl ?_
          refine T_cv (S := S3855) (q := 530) xr_157_156 xf_140.1 xf_140.2.1 xn_140 (as := []) (r := []) rfl h3877 (Nat.le_of_ble_eq_true rfl) (Nat.le_of_ble_eq_true rfl) (pc' := 159) rfl (ls' := [(0, .ref 530)]) rfl ?_
          refine T_mono (r_isGood sc S3855 (X_ou (X_ou o 5 f3868) 6 g3869) nm h3877 (show 0 ≤ f3868 ∧ f3868 ≤ 5 from by omega)) (fun v3992 S3993 h3994 => ?_)
          rcases h3994 with ⟨hv3995, hf3996⟩
          rw [hv3995]
          rw [hf3996]
          show X_T sc 157 (159, [(3, .int (iI 0)), (2, .int (iI (o 7))), (1, .int (iI wi)), (0, .ref 530)], [.int (iI (bI (f3868 = 0)))], S3855) _
          refine T_bif_eq xr_157_159 (t := 205) (pc' := 162) rfl rfl (fun c3997 => ?_) (fun c3997 => ?_)
          · skip
            have c3997 : ¬ (f3868 = 0) := c3997
            refine T_p xr_157_205 xn_157 (pc' := 206) (ls' := [(3, .int (iI 0)), (2, .int (iI (o 7))), (1, .int (iI wi)), (0, .ref 530)]) (st' := [.ref 530]) rfl ?_
            refine T_cv (S := S3855) (q := 530) xr_157_206 xf_140.1 xf_140.2.1 xn_140 (as := []) (r := []) rfl h3877 (Nat.le_of_ble_eq_true rfl) (Nat.le_of_ble_eq_true rfl) (pc' := 209) rfl (ls' := [(0, .ref 530)]) rfl ?_
            refine T_mono (r_isGood sc S3855 (X_ou (X_ou o 5 f3868) 6 g3869) nm h3877 (show 0 ≤ f3868 ∧ f3868 ≤ 5 from by omega)) (fun v3998 S3999 h4000 => ?_)
            rcases h4000 with ⟨hv4001, hf4002⟩
            rw [hv4001]
            rw [hf4002]
            show X_T sc 157 (209, [(3, .int (iI 0)), (2, .int (iI (o 7))), (1, .int (iI wi)), (0, .ref 530)], [.int (iI (bI (f3868 = 0)))], S3855) _
            refine T_bif_eq xr_157_209 (t := 247) (pc' := 212) rfl rfl (fun c4003 => ?_) (fun c4003 => ?_)
            · skip
              have c4003 : ¬ (f3868 = 0) := c4003
              refine T_p xr_157_247 xn_157 (pc' := 248) (ls' := [(3, .int (iI 0)), (2, .int (iI (o 7))), (1, .int (iI wi)), (0, .ref 530)]) (st' := [.ref 530]) rfl ?_
              refine T_cv (S := S3855) (q := 530) xr_157_248 xf_140.1 xf_140.2.1 xn_140 (as := []) (r := []) rfl h3877 (Nat.le_of_ble_eq_true rfl) (Nat.le_of_ble_eq_true rfl) (pc' := 251) rfl (ls' := [(0, .ref 530)]) rfl ?_
              refine T_mono (r_isGood sc S3855 (X_ou (X_ou o 5 f3868) 6 g3869) nm h3877 (show 0 ≤ f3868 ∧ f3868 ≤ 5 from by omega)) (fun v4004 S4005 h4006 => ?_)
              rcases h4006 with ⟨hv4007, hf4008⟩
              rw [hv4007]
              rw [hf4008]
              show X_T sc 157 (251, [(3, .int (iI 0)), (2, .int (iI (o 7))), (1, .int (iI wi)), (0, .ref 530)], [.int (iI (bI (f3868 = 0)))], S3855) _
              refine T_bif_eq xr_157_251 (t := 277) (pc' := 254) rfl rfl (fun c4009 => ?_) (fun c4009 => ?_)
              · skip
                have c4009 : ¬ (f3868 = 0) := c4009
                refine T_p xr_157_277 xn_157 (pc' := 278) (ls' := [(3, .int (iI 0)), (2, .int (iI (o 7))), (1, .int (iI wi)), (0, .ref 530)]) (st' := [.ref 530]) rfl ?_
                refine T_cv (S := S3855) (q := 530) xr_157_278 xf_140.1 xf_140.2.1 xn_140 (as := []) (r := []) rfl h3877 (Nat.le_of_ble_eq_true rfl) (Nat.le_of_ble_eq_true rfl) (pc' := 281) rfl (ls' := [(0, .ref 530)]) rfl ?_
                refine T_mono (r_isGood sc S3855 (X_ou (X_ou o 5 f3868) 6 g3869) nm h3877 (show 0 ≤ f3868 ∧ f3868 ≤ 5 from by omega)) (fun v4010 S4011 h4012 => ?_)
                rcases h4012 with ⟨hv4013, hf4014⟩
                rw [hv4013]
                rw [hf4014]
                show X_T sc 157 (281, [(3, .int (iI 0)), (2, .int (iI (o 7))), (1, .int (iI wi)), (0, .ref 530)], [.int (iI (bI (f3868 = 0)))], S3855) _
                refine T_bif_eq xr_157_281 (t := 302) (pc' := 284) rfl rfl (fun c4015 => ?_) (fun c4015 => ?_)
                · skip
                  have c4015 : ¬ (f3868 = 0) := c4015
                  refine T_p xr_157_302 xn_157 (pc' := 303) (ls' := [(3, .int (iI 0)), (2, .int (iI (o 7))), (1, .int (iI wi)), (0, .ref 530)]) (st' := [.ref 530]) rfl ?_
                  refine T_p xr_157_303 xn_157 (pc' := 304) (ls' := [(3, .int (iI 0)), (2, .int (iI (o 7))), (1, .int (iI wi)), (0, .ref 530)]) (st' := [.ref 530, .ref 530]) rfl ?_
                  refine T_get xr_157_304 h3877 rfl (v := .int (iI (o 30))) rfl (pc' := 307) rfl ?_
                  refine T_p xr_157_307 xn_157 (pc' := 308) (ls' := [(3, .int (iI 0)), (2, .int (iI (o 7))), (1, .int (iI wi)), (0, .ref 530)]) (st' := [.int (iI 1), .int (iI (o 30)), .ref 530]) rfl ?_
                  refine T_ziadd xr_157_308 (z := (o 30) + 1) rfl (pc' := 309) rfl ?_
                  refine T_ie (y := iI (wc + 1)) (by rw [hwc]) ?_
                  refine T_put xr_157_309 h3877 rfl (Nat.le_of_ble_eq_true rfl) rfl (fs' := [.ref 531, .int (iI (o 1)), .ref 532, .int (iI (o 3)), .int (iI (o 4)), .int (iI f3868), .int (iI g3869), .int (iI (o 7)), .int (iI (o 8)), .int (iI (o 9)), .int (iI (o 10)), .int (iI (o 11)), .long nm, .ref 533, .ref 534, .ref 535, .ref 536, .ref 537, .ref 538, .ref 539, .ref 540, .ref 541, .ref 542, .ref 543, .ref 544, .ref 545, .ref 546, .ref 547, .int (iI (o 28)), .int (iI (o 29)), .int (iI (wc + 1)), .int (iI (o 31)), .int (iI (o 32)), .int (iI (o 33)), .ref 548, .ref 549, .ref 550, .ref 551, .int (iI (o 38)), .ref 552, .ref 553, .ref 554, .ref 555, .ref 556, .ref 557, .ref 558, .ref 559, .ref 560, .ref 561, .int (iI (o 49)), .ref 562, .ref 563, .ref 564, .ref 565, .ref 566, .ref 567, .ref 568, .ref 569, .int (iI (o 58)), .ref 570, .ref 571, .ref 572, .ref 573, .ref 574, .ref 575, .ref 576, .ref 577, .ref 578, .int (iI (o 68)), .int (iI (o 69)), .int (iI (o 70)), .ref 579]) rfl (pc' := 312) rfl (fun S4016 h4017 n4018 e4019 => ?_)
                  refine T_p xr_157_312 xn_157 (pc' := 313) (ls' := [(3, .int (iI 0)), (2, .int (iI (o 7))), (1, .int (iI wi)), (0, .ref 530)]) (st' := [.ref 530]) rfl ?_
                  refine T_cv (S := S4016) (q := 530) xr_157_313 xf_140.1 xf_140.2.1 xn_140 (as := []) (r := []) rfl h4017 (Nat.le_of_ble_eq_true rfl) (Nat.le_of_ble_eq_true rfl) (pc' := 316) rfl (ls' := [(0, .ref 530)]) rfl ?_
                  refine T_mono (r_isGood sc S4016 (X_ou (X_ou (X_ou o 5 f3868) 6 g3869) 30 (wc + 1)) nm h4017 (show 0 ≤ f3868 ∧ f3868 ≤ 5 from by omega)) (fun v4020 S4021 h4022 => ?_)
                  rcases h4022 with ⟨hv4023, hf4024⟩
                  rw [hv4023]
                  rw [hf4024]
                  show X_T sc 157 (316, [(3, .int (iI 0)), (2, .int (iI (o 7))), (1, .int (iI wi)), (0, .ref 530)], [.int (iI (bI (f3868 = 0)))], S4016) _
                  refine T_bif_eq xr_157_316 (t := 325) (pc' := 319) rfl rfl (fun c4025 => ?_) (fun c4025 => ?_)
                  · skip
                    have c4025 : ¬ (f3868 = 0) := c4025
                    refine T_vret xr_157_325 xf_157.2.2 ?_
                    refine hQ _ _ ?_
                    have h4026 := (n4018 537 (by decide)).trans ((hf3874.1 537 (by omega)).trans (hA537))
                    have h4027 := (n4018 538 (by decide)).trans ((hf3874.1 538 (by omega)).trans (hA538))
                    have h4028 := (n4018 539 (by decide)).trans ((hf3874.1 539 (by omega)).trans (hA539))
                    have h4029 := (n4018 540 (by decide)).trans ((hf3874.1 540 (by omega)).trans (hA540))
                    have h4030 := (n4018 541 (by decide)).trans ((hf3874.1 541 (by omega)).trans (hA541))
                    have h4031 := (n4018 542 (by decide)).trans ((hf3874.1 542 (by omega)).trans (hA542))
                    have h4032 := (n4018 543 (by decide)).trans ((hf3874.1 543 (by omega)).trans (hA543))
                    have h4033 := (n4018 544 (by decide)).trans ((hf3874.1 544 (by omega)).trans (hA544))
                    have h4034 := (n4018 545 (by decide)).trans ((hf3874.1 545 (by omega)).trans (hA545))
                    have h4035 := (n4018 546 (by decide)).trans ((hf3874.1 546 (by omega)).trans (hA546))
                    have h4036 := (n4018 547 (by decide)).trans ((hf3874.1 547 (by omega)).trans (hA547))
                    refine Or.inr ⟨o 7, o 8, o 9, o 10, o 11, nm, wc + 1, f3868, g3869, wR, wL, wK, wM, wH, wS, sO, sN, eP, eH, hK, rfl, by omega, ?_, by first | exact R_ob.rf | exact R_ob.rf.up (by omega) | exact (R_ob.rf.up (by omega)).up (by omega), by first | exact R_ob.rf | exact R_ob.rf.up (by omega) | exact (R_ob.rf.up (by omega)).up (by omega), by first | exact R_ob.rf | exact R_ob.rf.up (by omega) | exact (R_ob.rf.up (by omega)).up (by omega), by first | exact R_ob.rf | exact R_ob.rf.up (by omega) | exact (R_ob.rf.up (by omega)).up (by omega), by first | exact R_ob.rf | exact R_ob.rf.up (by omega) | exact (R_ob.rf.up (by omega)).up (by omega), by first | exact R_ob.rf | exact R_ob.rf.up (by omega) | exact (R_ob.rf.up (by omega)).up (by omega), by first | exact R_ob.rf | exact R_ob.rf.up (by omega) | exact (R_ob.rf.up (by omega)).up (by omega), by first | exact R_ob.rf | exact R_ob.rf.up (by omega) | exact (R_ob.rf.up (by omega)).up (by omega), by first | exact R_ob.rf | exact R_ob.rf.up (by omega) | exact (R_ob.rf.up (by omega)).up (by omega), by first | exact R_ob.rf | exact R_ob.rf.up (by omega) | exact (R_ob.rf.up (by omega)).up (by omega), by first | exact R_ob.rf | exact R_ob.rf.up (by omega) | exact (R_ob.rf.up (by omega)).up (by omega), h4017, h4026, h4027, h4028, h4029, h4030, h4031, h4032, h4033, h4034, h4035, h4036, ((X_Fr.rf).tr (X_Fr.mono ⟨hf3874.1, hf3874.2⟩ (fun q hq => (by omega)))).tr (X_Fr.of n4018 e4019 (by omega))⟩
                    unfold sp_wk
                    (repeat (first | rw [if_pos (by assumption)] | rw [if_neg (by assumption)] | rw [if_neg (by omega)] | rw [if_pos (by omega)]))
                    all_goals first | rfl | (unfold sp_wb; (repeat' split) <;> first | rfl | (exfalso; omega) | contradiction)
                  · skip
                    have c4025 : (f3868 = 0) := c4025
                    exact (show False by first | contradiction | omega).elim
                · skip
                  have c4015 : (f3868 = 0) := c4015
                  exact (show False by first | contradiction | omega).elim
              · skip
                have c4009 : (f3868 = 0) := c4009
                exact (show False by first | contradiction | omega).elim
            · skip
              have c4003 : (f3868 = 0) := c4003
              exact (show False by first | contradiction | omega).elim
          · skip
            have c3997 : (f3868 = 0) := c3997
            exact (show False by first | contradiction | omega).elim
    · skip
      have c3847 : ¬ (¬ (o 9) = 2) := c3847
      refine T_p xr_157_125 xn_157 (pc' := 126) (ls' := [(1, .int (iI wi)), (0, .ref 530)]) (st' := [.ref 530]) rfl ?_
      refine T_get xr_157_126 hM rfl (v := .ref 539) rfl (pc' := 129) rfl ?_
      refine T_p xr_157_129 xn_157 (pc' := 130) (ls' := [(1, .int (iI wi)), (0, .ref 530)]) (st' := [.int (iI wi), .ref 539]) rfl ?_
      refine T_p xr_157_130 xn_157 (pc' := 131) (ls' := [(1, .int (iI wi)), (0, .ref 530)]) (st' := [.ref 530, .int (iI wi), .ref 539]) rfl ?_
      refine T_cv (S := S) (q := 530) xr_157_131 xf_152.1 xf_152.2.1 xn_152 (as := []) (r := [.int (iI wi), .ref 539]) rfl hM (Nat.le_of_ble_eq_true rfl) (Nat.le_of_ble_eq_true rfl) (pc' := 134) rfl (ls' := [(0, .ref 530)]) rfl ?_
      refine T_mono (r_aKind sc S o nm tx kN tb len n so pl ct E c kn kc hM hA532 hA534 (show (o 3) = len from by first | assumption | omega) hl htx hX hT (show (o 5) = 0 from by omega) (show (o 29) = kc from by omega) (by omega) (show 0 ≤ (o 4) ∧ (o 4) ≤ 1 from by omega) hN) (fun v4037 S4038 h4039 => ?_)
      rcases h4039 with ⟨at4040, en4041, tk4042, nu4043, dg4044, nm4045, hv4046, hp4047, hp4048, hp4049, hM4050, hf4051⟩ | ⟨r4052, f4053, g4054, hv4055, hp4056, hp4057, hp4058, hM4059, hf4060⟩
      · skip
        rw [hv4046]
        have h4061 : S4038.1 530 = .inr (11, [.ref 531, .int (iI (o 1)), .ref 532, .int (iI (o 3)), .int (iI (o 4)), .int (iI (o 5)), .int (iI (o 6)), .int (iI at4040), .int (iI en4041), .int (iI tk4042), .int (iI nu4043), .int (iI dg4044), .long nm4045, .ref 533, .ref 534, .ref 535, .ref 536, .ref 537, .ref 538, .ref 539, .ref 540, .ref 541, .ref 542, .ref 543, .ref 544, .ref 545, .ref 546, .ref 547, .int (iI (o 28)), .int (iI (o 29)), .int (iI (o 30)), .int (iI (o 31)), .int (iI (o 32)), .int (iI (o 33)), .ref 548, .ref 549, .ref 550, .ref 551, .int (iI (o 38)), .ref 552, .ref 553, .ref 554, .ref 555, .ref 556, .ref 557, .ref 558, .ref 559, .ref 560, .ref 561, .int (iI (o 49)), .ref 562, .ref 563, .ref 564, .ref 565, .ref 566, .ref 567, .ref 568, .ref 569, .int (iI (o 58)), .ref 570, .ref 571, .ref 572, .ref 573, .ref 574, .ref 575, .ref 576, .ref 577, .ref 578, .int (iI (o 68)), .int (iI (o 69)), .int (iI (o 70)), .ref 579]) := hM4050
        obtain ⟨⟨_, _⟩, ⟨_, _⟩, hk4062, ⟨_, _⟩, hk4062e, ⟨_, _⟩, ⟨_, _⟩⟩ := R_tk_f hX hp4047
        show X_T sc 157 (134, [(1, .int (iI wi)), (0, .ref 530)], [.int (iI (X_ix kn kc (ct c))), .int (iI wi), .ref 539], S4038) _
        have h4064 := (hf4051.1 539 (by omega)).trans (hA539)
        refine T_ziast xr_157_134 h4064 (pc' := 135) rfl (fun S4065 h4066 n4067 e4068 => ?_)
        refine T_p xr_157_135 xn_157 (pc' := 136) (ls' := [(1, .int (iI wi)), (0, .ref 530)]) (st' := [.ref 530]) rfl ?_
        have h4069 := (n4067 530 (by decide)).trans (h4061)
        refine T_get xr_157_136 h4069 rfl (v := .int (iI at4040)) rfl (pc' := 139) rfl ?_
        refine T_p xr_157_139 xn_157 (pc' := 140) (ls' := [(2, .int (iI at4040)), (1, .int (iI wi)), (0, .ref 530)]) (st' := []) rfl ?_
        refine T_p xr_157_140 xn_157 (pc' := 141) (ls' := [(2, .int (iI at4040)), (1, .int (iI wi)), (0, .ref 530)]) (st' := [.ref 530]) rfl ?_
        refine T_cv (S := S4065) (q := 530) xr_157_141 xf_140.1 xf_140.2.1 xn_140 (as := []) (r := []) rfl h4069 (Nat.le_of_ble_eq_true rfl) (Nat.le_of_ble_eq_true rfl) (pc' := 144) rfl (ls' := [(0, .ref 530)]) rfl ?_
        refine T_mono (r_isGood sc S4065 (X_ou (X_ou (X_ou (X_ou (X_ou o 7 at4040) 8 en4041) 9 tk4042) 10 nu4043) 11 dg4044) nm4045 h4069 (show 0 ≤ (o 5) ∧ (o 5) ≤ 5 from by omega)) (fun v4070 S4071 h4072 => ?_)
        rcases h4072 with ⟨hv4073, hf4074⟩
        rw [hv4073]
        rw [hf4074]
        show X_T sc 157 (144, [(2, .int (iI at4040)), (1, .int (iI wi)), (0, .ref 530)], [.int (iI (bI ((o 5) = 0)))], S4065) _
        refine T_bif_eq xr_157_144 (t := 153) (pc' := 147) rfl rfl (fun c4075 => ?_) (fun c4075 => ?_)
        · skip
          have c4075 : ¬ ((o 5) = 0) := c4075
          exact (show False by first | contradiction | omega).elim
        · skip
          have c4075 : ((o 5) = 0) := c4075
          refine T_p xr_157_147 xn_157 (pc' := 148) (ls' := [(2, .int (iI at4040)), (1, .int (iI wi)), (0, .ref 530)]) (st' := [.ref 530]) rfl ?_
          refine T_p xr_157_148 xn_157 (pc' := 150) (ls' := [(2, .int (iI at4040)), (1, .int (iI wi)), (0, .ref 530)]) (st' := [.int (iI 58), .ref 530]) rfl ?_
          refine T_cv (S := S4065) (q := 530) xr_157_150 xf_148.1 xf_148.2.1 xn_148 (as := [.int (iI 58)]) (r := []) rfl h4069 (Nat.le_of_ble_eq_true rfl) (Nat.le_of_ble_eq_true rfl) (pc' := 153) rfl (ls' := [(0, .ref 530), (1, .int (iI 58))]) rfl ?_
          have h4076 := (n4067 532 (by decide)).trans ((hf4051.1 532 (by omega)).trans (hA532))
          refine T_mono (r_must sc S4065 (X_ou (X_ou (X_ou (X_ou (X_ou o 7 at4040) 8 en4041) 9 tk4042) 10 nu4043) 11 dg4044) nm4045 tx tb len n so pl ct E (X_av n c) 58 h4069 h4076 (show (o 3) = len from by first | assumption | omega) hl htx hX hp4047 (show (o 5) = 0 from by omega) (by omega)) (fun v4077 S4078 h4079 => ?_)
          rcases h4079 with ⟨at4080, en4081, tk4082, nu4083, dg4084, nm4085, hv4086, hp4087, hp4088, hM4089, hf4090⟩ | ⟨f4091, g4092, hv4093, hp4094, hp4095, hM4096, hf4097⟩
          · skip
            rw [hv4086]
            have h4098 : S4078.1 530 = .inr (11, [.ref 531, .int (iI (o 1)), .ref 532, .int (iI (o 3)), .int (iI (o 4)), .int (iI (o 5)), .int (iI (o 6)), .int (iI at4080), .int (iI en4081), .int (iI tk4082), .int (iI nu4083), .int (iI dg4084), .long nm4085, .ref 533, .ref 534, .ref 535, .ref 536, .ref 537, .ref 538, .ref 539, .ref 540, .ref 541, .ref 542, .ref 543, .ref 544, .ref 545, .ref 546, .ref 547, .int (iI (o 28)), .int (iI (o 29)), .int (iI (o 30)), .int (iI (o 31)), .int (iI (o 32)), .int (iI (o 33)), .ref 548, .ref 549, .ref 550, .ref 551, .int (iI (o 38)), .ref 552, .ref 553, .ref 554, .ref 555, .ref 556, .ref 557, .ref 558, .ref 559, .ref 560, .ref 561, .int (iI (o 49)), .ref 562, .ref 563, .ref 564, .ref 565, .ref 566, .ref 567, .ref 568, .ref 569, .int (iI (o 58)), .ref 570, .ref 571, .ref 572, .ref 573, .ref 574, .ref 575, .ref 576, .ref 577, .ref 578, .int (iI (o 68)), .int (iI (o 69)), .int (iI (o 70)), .ref 579]) := hM4089
            obtain ⟨⟨_, _⟩, ⟨_, _⟩, hk4099, ⟨_, _⟩, hk4099e, ⟨_, _⟩, ⟨_, _⟩⟩ := R_tk_f hX hp4087
            show X_T sc 157 (153, [(2, .int (iI at4040)), (1, .int (iI wi)), (0, .ref 530)], [], S4078) _
            refine T_p xr_157_153 xn_157 (pc' := 154) (ls' := [(2, .int (iI at4040)), (1, .int (iI wi)), (0, .ref 530)]) (st' := [.int (iI 0)]) rfl ?_
            refine T_ie (y := iI (bI (False))) (by rw [bI_f (fun h => h)]) ?_
            refine T_p xr_157_154 xn_157 (pc' := 155) (ls' := [(3, .int (iI (bI (False)))), (2, .int (iI at4040)), (1, .int (iI wi)), (0, .ref 530)]) (st' := []) rfl ?_
            have h4101 := (hf4090.1 532 (by omega)).trans (h4076)
            have h4102 := (hf4090.1 534 (by omega)).trans ((n4067 534 (by decide)).trans ((hf4051.1 534 (by omega)).trans (hA534)))
            have h4103 := (hf4090.1 537 (by omega)).trans ((n4067 537 (by decide)).trans ((hf4051.1 537 (by omega)).trans (hA537)))
            have h4104 := (hf4090.1 538 (by omega)).trans ((n4067 538 (by decide)).trans ((hf4051.1 538 (by omega)).trans (hA538)))
            have h4105 := (hf4090.1 539 (by omega)).trans (h4066)
            have h4106 := (hf4090.1 540 (by omega)).trans ((n4067 540 (by decide)).trans ((hf4051.1 540 (by omega)).trans (hA540)))
            have h4107 := (hf4090.1 541 (by omega)).trans ((n4067 541 (by decide)).trans ((hf4051.1 541 (by omega)).trans (hA541)))
            have h4108 := (hf4090.1 542 (by omega)).trans ((n4067 542 (by decide)).trans ((hf4051.1 542 (by omega)).trans (hA542)))
            have h4109 := (hf4090.1 543 (by omega)).trans ((n4067 543 (by decide)).trans ((hf4051.1 543 (by omega)).trans (hA543)))
            have h4110 := (hf4090.1 544 (by omega)).trans ((n4067 544 (by decide)).trans ((hf4051.1 544 (by omega)).trans (hA544)))
            have h4111 := (hf4090.1 545 (by omega)).trans ((n4067 545 (by decide)).trans ((hf4051.1 545 (by omega)).trans (hA545)))
            have h4112 := (hf4090.1 546 (by omega)).trans ((n4067 546 (by decide)).trans ((hf4051.1 546 (by omega)).trans (hA546)))
            have h4113 := (hf4090.1 547 (by omega)).trans ((n4067 547 (by decide)).trans ((hf4051.1 547 (by omega)).trans (hA547)))
            refine T_mono (r_rwC sc S4078 (X_ou (X_ou (X_ou (X_ou (X_ou o 7 at4080) 8 en4081) 9 tk4082) 10 nu4083) 11 dg4084) nm4085 tx kN wR wL (X_ug wK wi (X_ix kn kc (ct c))) wM wH wS sO sN eP eH hK tb len n so pl ct E (X_av n (X_av n c)) kn kc wc wi (X_wu d 2 (fun _ => (X_ix kn kc (ct c)))) q at4040 h4098 h4101 h4102 h4103 h4104 h4105 h4106 h4107 h4108 h4109 h4110 h4111 h4112 h4113 (show (o 3) = len from by first | assumption | omega) hl htx hX hp4087 (show (o 5) = 0 from by omega) (show (o 29) = kc from by omega) (show (o 30) = wc from by omega) (by omega) (show 0 ≤ (o 4) ∧ (o 4) ≤ 1 from by omega) hN (by omega) hW.set2 hd3 hd1 hct) (fun v4114 S4115 h4116 => hQ _ _ ?_)
            rcases h4116 with ⟨at4117, en4118, tk4119, nu4120, dg4121, nm4122, g4123, c4124, d4125, q4126, wR4127, wL4128, wK4129, wM4130, wH4131, wS4132, sO4133, sN4134, eP4135, eH4136, hK4137, hv4138, hp4139, hp4140, hp4141, hp4142, hp4143, hp4144, hp4145, hp4146, hp4147, hp4148, hp4149, hp4150, hp4151, hp4152, hM4153, ha4154, ha4155, ha4156, ha4157, ha4158, ha4159, ha4160, ha4161, ha4162, ha4163, ha4164, hf4165⟩ | ⟨at4166, en4167, tk4168, nu4169, dg4170, nm4171, wc4172, f4173, g4174, wR4175, wL4176, wK4177, wM4178, wH4179, wS4180, sO4181, sN4182, eP4183, eH4184, hK4185, hv4186, hp4187, hp4188, hp4189, hp4190, hp4191, hp4192, hp4193, hp4194, hp4195, hp4196, hp4197, hp4198, hp4199, hM4200, ha4201, ha4202, ha4203, ha4204, ha4205, ha4206, ha4207, ha4208, ha4209, ha4210, ha4211, hf4212⟩
            · skip
              rw [hv4138]
              have h4213 : S4115.1 530 = .inr (11, [.ref 531, .int (iI (o 1)), .ref 532, .int (iI (o 3)), .int (iI (o 4)), .int (iI (o 5)), .int (iI g4123), .int (iI at4117), .int (iI en4118), .int (iI tk4119), .int (iI nu4120), .int (iI dg4121), .long nm4122, .ref 533, .ref 534, .ref 535, .ref 536, .ref 537, .ref 538, .ref 539, .ref 540, .ref 541, .ref 542, .ref 543, .ref 544, .ref 545, .ref 546, .ref 547, .int (iI (o 28)), .int (iI (o 29)), .int (iI (wc + 1)), .int (iI (o 31)), .int (iI (o 32)), .int (iI (o 33)), .ref 548, .ref 549, .ref 550, .ref 551, .int (iI (o 38)), .ref 552, .ref 553, .ref 554, .ref 555, .ref 556, .ref 557, .ref 558, .ref 559, .ref 560, .ref 561, .int (iI (o 49)), .ref 562, .ref 563, .ref 564, .ref 565, .ref 566, .ref 567, .ref 568, .ref 569, .int (iI (o 58)), .ref 570, .ref 571, .ref 572, .ref 573, .ref 574, .ref 575, .ref 576, .ref 577, .ref 578, .int (iI (o 68)), .int (iI (o 69)), .int (iI (o 70)), .ref 579]) := hM4153
              exact Or.inl ⟨at4117, en4118, tk4119, nu4120, dg4121, nm4122, g4123, c4124, d4125, q4126, wR4127, wL4128, wK4129, wM4130, wH4131, wS4132, sO4133, sN4134, eP4135, eH4136, hK4137, rfl, hp4139, (by
                    unfold sp_wk
                    (repeat (first | rw [if_pos (by assumption)] | rw [if_neg (by assumption)] | rw [if_neg (by omega)] | rw [if_pos (by omega)]))
                    unfold sp_wb
                    rw [if_pos (by assumption)]
                    exact hp4140), hp4141, hp4142, hp4143, (R_ob.rf.up (by omega)).tr hp4144, hp4145, hp4146, hp4147, hp4148, hp4149, hp4150, hp4151, hp4152, h4213, ha4154, ha4155, ha4156, ha4157, ha4158, ha4159, ha4160, ha4161, ha4162, ha4163, ha4164, ((((X_Fr.rf).tr (X_Fr.mono ⟨hf4051.1, hf4051.2⟩ (fun q hq => (by omega)))).tr (X_Fr.of n4067 e4068 (by omega))).tr (X_Fr.mono ⟨hf4090.1, hf4090.2⟩ (fun q hq => (by omega)))).tr (X_Fr.mono ⟨hf4165.1, hf4165.2⟩ (fun q hq => (by omega)))⟩
            · skip
              rw [hv4186]
              have h4214 : S4115.1 530 = .inr (11, [.ref 531, .int (iI (o 1)), .ref 532, .int (iI (o 3)), .int (iI (o 4)), .int (iI f4173), .int (iI g4174), .int (iI at4166), .int (iI en4167), .int (iI tk4168), .int (iI nu4169), .int (iI dg4170), .long nm4171, .ref 533, .ref 534, .ref 535, .ref 536, .ref 537, .ref 538, .ref 539, .ref 540, .ref 541, .ref 542, .ref 543, .ref 544, .ref 545, .ref 546, .ref 547, .int (iI (o 28)), .int (iI (o 29)), .int (iI wc4172), .int (iI (o 31)), .int (iI (o 32)), .int (iI (o 33)), .ref 548, .ref 549, .ref 550, .ref 551, .int (iI (o 38)), .ref 552, .ref 553, .ref 554, .ref 555, .ref 556, .ref 557, .ref 558, .ref 559, .ref 560, .ref 561, .int (iI (o 49)), .ref 562, .ref 563, .ref 564, .ref 565, .ref 566, .ref 567, .ref 568, .ref 569, .int (iI (o 58)), .ref 570, .ref 571, .ref 572, .ref 573, .ref 574, .ref 575, .ref 576, .ref 577, .ref 578, .int (iI (o 68)), .int (iI (o 69)), .int (iI (o 70)), .ref 579]) := hM4200
              exact Or.inr ⟨at4166, en4167, tk4168, nu4169, dg4170, nm4171, wc4172, f4173, g4174, wR4175, wL4176, wK4177, wM4178, wH4179, wS4180, sO4181, sN4182, eP4183, eH4184, hK4185, rfl, hp4187, (by
                    unfold sp_wk
                    (repeat (first | rw [if_pos (by assumption)] | rw [if_neg (by assumption)] | rw [if_neg (by omega)] | rw [if_pos (by omega)]))
                    unfold sp_wb
                    rw [if_pos (by assumption)]
                    exact hp4188), hp4189, hp4190, (R_ob.rf.up (by omega)).tr hp4191, hp4192, hp4193, hp4194, hp4195, hp4196, hp4197, hp4198, hp4199, h4214, ha4201, ha4202, ha4203, ha4204, ha4205, ha4206, ha4207, ha4208, ha4209, ha4210, ha4211, ((((X_Fr.rf).tr (X_Fr.mono ⟨hf4051.1, hf4051.2⟩ (fun q hq => (by omega)))).tr (X_Fr.of n4067 e4068 (by omega))).tr (X_Fr.mono ⟨hf4090.1, hf4090.2⟩ (fun q hq => (by omega)))).tr (X_Fr.mono ⟨hf4212.1, hf4212.2⟩ (fun q hq => (by omega)))⟩
          · skip
            rw [hv4093]
            have h4100 : S4078.1 530 = .inr (11, [.ref 531, .int (iI (o 1)), .ref 532, .int (iI (o 3)), .int (iI (o 4)), .int (iI f4091), .int (iI g4092), .int (iI at4040), .int (iI en4041), .int (iI tk4042), .int (iI nu4043), .int (iI dg4044), .long nm4045, .ref 533, .ref 534, .ref 535, .ref 536, .ref 537, .ref 538, .ref 539, .ref 540, .ref 541, .ref 542, .ref 543, .ref 544, .ref 545, .ref 546, .ref 547, .int (iI (o 28)), .int (iI (o 29)), .int (iI (o 30)), .int (iI (o 31)), .int (iI (o 32)), .int (iI (o 33)), .ref 548, .ref 549, .ref 550, .ref 551, .int (iI (o 38)), .ref 552, .ref 553, .ref 554, .ref 555, .ref 556, .ref 557, .ref 558, .ref 559, .ref 560, .ref 561, .int (iI (o 49)), .ref 562, .ref 563, .ref 564, .ref 565, .ref 566, .ref 567, .ref 568, .ref 569, .int (iI (o 58)), .ref 570, .ref 571, .ref 572, .ref 573, .ref 574, .ref 575, .ref 576, .ref 577, .ref 578, .int (iI (o 68)), .int (iI (o 69)), .int (iI (o 70)), .ref 579]) := hM4096
            show X_T sc 157 (153, [(2, .int (iI at4040)), (1, .int (iI wi)), (0, .ref 530)], [], S4078) _
            refine T_p xr_157_153 xn_157 (pc' := 154) (ls' := [(2, .int (iI at4040)), (1, .int (iI wi)), (0, .ref 530)]) (st' := [.int (iI 0)]) rfl ?_
            refine T_p xr_157_154 xn_157 (pc' := 155) (ls' := [(3, .int (iI 0)), (2, .int (iI at4040)), (1, .int (iI wi)), (0, .ref 530)]) (st' := []) rfl ?_
            refine T_p xr_157_155 xn_157 (pc' := 156) (ls' := [(3, .int (iI 0)), (2, .int (iI at4040)), (1, .int (iI wi)), (0, .ref 530)]) (st' := [.ref 530]) rfl ?_
            refine T_cv (S := S4078) (q := 530) xr_157_156 xf_140.1 xf_140.2.1 xn_140 (as := []) (r := []) rfl h4100 (Nat.le_of_ble_eq_true rfl) (Nat.le_of_ble_eq_true rfl) (pc' := 159) rfl (ls' := [(0, .ref 530)]) rfl ?_
            refine T_mono (r_isGood sc S4078 (X_ou (X_ou (X_ou (X_ou (X_ou (X_ou (X_ou o 5 f4091) 6 g4092) 7 at4040) 8 en4041) 9 tk4042) 10 nu4043) 11 dg4044) nm4045 h4100 (show 0 ≤ f4091 ∧ f4091 ≤ 5 from by omega)) (fun v4215 S4216 h4217 => ?_)
            rcases h4217 with ⟨hv4218, hf4219⟩
            rw [hv4218]
            rw [hf4219]
            show X_T sc 157 (159, [(3, .int (iI 0)), (2, .int (iI at4040)), (1, .int (iI wi)), (0, .ref 530)], [.int (iI (bI (f4091 = 0)))], S4078) _
            refine T_bif_eq xr_157_159 (t := 205) (pc' := 162) rfl rfl (fun c4220 => ?_) (fun c4220 => ?_)
            · skip
              have c4220 : ¬ (f4091 = 0) := c4220
              refine T_p xr_157_205 xn_157 (pc' := 206) (ls' := [(3, .int (iI 0)), (2, .int (iI at4040)), (1, .int (iI wi)), (0, .ref 530)]) (st' := [.ref 530]) rfl ?_
              refine T_cv (S := S4078) (q := 530) xr_157_206 xf_140.1 xf_140.2.1 xn_140 (as := []) (r := []) rfl h4100 (Nat.le_of_ble_eq_true rfl) (Nat.le_of_ble_eq_true rfl) (pc' := 209) rfl (ls' := [(0, .ref 530)]) rfl ?_
              refine T_mono (r_isGood sc S4078 (X_ou (X_ou (X_ou (X_ou (X_ou (X_ou (X_ou o 5 f4091) 6 g4092) 7 at4040) 8 en4041) 9 tk4042) 10 nu4043) 11 dg4044) nm4045 h4100 (show 0 ≤ f4091 ∧ f4091 ≤ 5 from by omega)) (fun v4221 S4222 h4223 => ?_)
              rcases h4223 with ⟨hv4224, hf4225⟩
              rw [hv4224]
              rw [hf4225]
              show X_T sc 157 (209, [(3, .int (iI 0)), (2, .int (iI at4040)), (1, .int (iI wi)), (0, .ref 530)], [.int (iI (bI (f4091 = 0)))], S4078) _
              refine T_bif_eq xr_157_209 (t := 247) (pc' := 212) rfl rfl (fun c4226 => ?_) (fun c4226 => ?_)
              · skip
                have c4226 : ¬ (f4091 = 0) := c4226
                refine T_p xr_157_247 xn_157 (pc' := 248) (ls' := [(3, .int (iI 0)), (2, .int (iI at4040)), (1, .int (iI wi)), (0, .ref 530)]) (st' := [.ref 530]) rfl ?_
                refine T_cv (S := S4078) (q := 530) xr_157_248 xf_140.1 xf_140.2.1 xn_140 (as := []) (r := []) rfl h4100 (Nat.le_of_ble_eq_true rfl) (Nat.le_of_ble_eq_true rfl) (pc' := 251) rfl (ls' := [(0, .ref 530)]) rfl ?_
                refine T_mono (r_isGood sc S4078 (X_ou (X_ou (X_ou (X_ou (X_ou (X_ou (X_ou o 5 f4091) 6 g4092) 7 at4040) 8 en4041) 9 tk4042) 10 nu4043) 11 dg4044) nm4045 h4100 (show 0 ≤ f4091 ∧ f4091 ≤ 5 from by omega)) (fun v4227 S4228 h4229 => ?_)
                rcases h4229 with ⟨hv4230, hf4231⟩
                rw [hv4230]
                rw [hf4231]
                show X_T sc 157 (251, [(3, .int (iI 0)), (2, .int (iI at4040)), (1, .int (iI wi)), (0, .ref 530)], [.int (iI (bI (f4091 = 0)))], S4078) _
                refine T_bif_eq xr_157_251 (t := 277) (pc' := 254) rfl rfl (fun c4232 => ?_) (fun c4232 => ?_)
                · skip
                  have c4232 : ¬ (f4091 = 0) := c4232
                  refine T_p xr_157_277 xn_157 (pc' := 278) (ls' := [(3, .int (iI 0)), (2, .int (iI at4040)), (1, .int (iI wi)), (0, .ref 530)]) (st' := [.ref 530]) rfl ?_
                  refine T_cv (S := S4078) (q := 530) xr_157_278 xf_140.1 xf_140.2.1 xn_140 (as := []) (r := []) rfl h4100 (Nat.le_of_ble_eq_true rfl) (Nat.le_of_ble_eq_true rfl) (pc' := 281) rfl (ls' := [(0, .ref 530)]) rfl ?_
                  refine T_mono (r_isGood sc S4078 (X_ou (X_ou (X_ou (X_ou (X_ou (X_ou (X_ou o 5 f4091) 6 g4092) 7 at4040) 8 en4041) 9 tk4042) 10 nu4043) 11 dg4044) nm4045 h4100 (show 0 ≤ f4091 ∧ f4091 ≤ 5 from by omega)) (fun v4233 S4234 h4235 => ?_)
                  rcases h4235 with ⟨hv4236, hf4237⟩
                  rw [hv4236]
                  rw [hf4237]
                  show X_T sc 157 (281, [(3, .int (iI 0)), (2, .int (iI at4040)), (1, .int (iI wi)), (0, .ref 530)], [.int (iI (bI (f4091 = 0)))], S4078) _
                  refine T_bif_eq xr_157_281 (t := 302) (pc' := 284) rfl rfl (fun c4238 => ?_) (fun c4238 => ?_)
                  · skip
                    have c4238 : ¬ (f4091 = 0) := c4238
                    refine T_p xr_157_302 xn_157 (pc' := 303) (ls' := [(3, .int (iI 0)), (2, .int (iI at4040)), (1, .int (iI wi)), (0, .ref 530)]) (st' := [.ref 530]) rfl ?_
                    refine T_p xr_157_303 xn_157 (pc' := 304) (ls' := [(3, .int (iI 0)), (2, .int (iI at4040)), (1, .int (iI wi)), (0, .ref 530)]) (st' := [.ref 530, .ref 530]) rfl ?_
                    refine T_get xr_157_304 h4100 rfl (v := .int (iI (o 30))) rfl (pc' := 307) rfl ?_
                    refine T_p xr_157_307 xn_157 (pc' := 308) (ls' := [(3, .int (iI 0)), (2, .int (iI at4040)), (1, .int (iI wi)), (0, .ref 530)]) (st' := [.int (iI 1), .int (iI (o 30)), .ref 530]) rfl ?_
                    refine T_ziadd xr_157_308 (z := (o 30) + 1) rfl (pc' := 309) rfl ?_
                    refine T_ie (y := iI (wc + 1)) (by rw [hwc]) ?_
                    refine T_put xr_157_309 h4100 rfl (Nat.le_of_ble_eq_true rfl) rfl (fs' := [.ref 531, .int (iI (o 1)), .ref 532, .int (iI (o 3)), .int (iI (o 4)), .int (iI f4091), .int (iI g4092), .int (iI at4040), .int (iI en4041), .int (iI tk4042), .int (iI nu4043), .int (iI dg4044), .long nm4045, .ref 533, .ref 534, .ref 535, .ref 536, .ref 537, .ref 538, .ref 539, .ref 540, .ref 541, .ref 542, .ref 543, .ref 544, .ref 545, .ref 546, .ref 547, .int (iI (o 28)), .int (iI (o 29)), .int (iI (wc + 1)), .int (iI (o 31)), .int (iI (o 32)), .int (iI (o 33)), .ref 548, .ref 549, .ref 550, .ref 551, .int (iI (o 38)), .ref 552, .ref 553, .ref 554, .ref 555, .ref 556, .ref 557, .ref 558, .ref 559, .ref 560, .ref 561, .int (iI (o 49)), .ref 562, .ref 563, .ref 564, .ref 565, .ref 566, .ref 567, .ref 568, .ref 569, .int (iI (o 58)), .ref 570, .ref 571, .ref 572, .ref 573, .ref 574, .ref 575, .ref 576, .ref 577, .ref 578, .int (iI (o 68)), .int (iI (o 69)), .int (iI (o 70)), .ref 579]) rfl (pc' := 312) rfl (fun S4239 h4240 n4241 e4242 => ?_)
                    refine T_p xr_157_312 xn_157 (pc' := 313) (ls' := [(3, .int (iI 0)), (2, .int (iI at4040)), (1, .int (iI wi)), (0, .ref 530)]) (st' := [.ref 530]) rfl ?_
                    refine T_cv (S := S4239) (q := 530) xr_157_313 xf_140.1 xf_140.2.1 xn_140 (as := []) (r := []) rfl h4240 (Nat.le_of_ble_eq_true rfl) (Nat.le_of_ble_eq_true rfl) (pc' := 316) rfl (ls' := [(0, .ref 530)]) rfl ?_
                    refine T_mono (r_isGood sc S4239 (X_ou (X_ou (X_ou (X_ou (X_ou (X_ou (X_ou (X_ou o 5 f4091) 6 g4092) 7 at4040) 8 en4041) 9 tk4042) 10 nu4043) 11 dg4044) 30 (wc + 1)) nm4045 h4240 (show 0 ≤ f4091 ∧ f4091 ≤ 5 from by omega)) (fun v4243 S4244 h4245 => ?_)
                    rcases h4245 with ⟨hv4246, hf4247⟩
                    rw [hv4246]
                    rw [hf4247]
                    show X_T sc 157 (316, [(3, .int (iI 0)), (2, .int (iI at4040)), (1, .int (iI wi)), (0, .ref 530)], [.int (iI (bI (f4091 = 0)))], S4239) _
                    refine T_bif_eq xr_157_316 (t := 325) (pc' := 319) rfl rfl (fun c4248 => ?_) (fun c4248 => ?_)
                    · skip
                      have c4248 : ¬ (f4091 = 0) := c4248
                      refine T_vret xr_157_325 xf_157.2.2 ?_
                      refine hQ _ _ ?_
                      have h4249 := (n4241 537 (by decide)).trans ((hf4097.1 537 (by omega)).trans ((n4067 537 (by decide)).trans ((hf4051.1 537 (by omega)).trans (hA537))))
                      have h4250 := (n4241 538 (by decide)).trans ((hf4097.1 538 (by omega)).trans ((n4067 538 (by decide)).trans ((hf4051.1 538 (by omega)).trans (hA538))))
                      have h4251 := (n4241 539 (by decide)).trans ((hf4097.1 539 (by omega)).trans (h4066))
                      have h4252 := (n4241 540 (by decide)).trans ((hf4097.1 540 (by omega)).trans ((n4067 540 (by decide)).trans ((hf4051.1 540 (by omega)).trans (hA540))))
                      have h4253 := (n4241 541 (by decide)).trans ((hf4097.1 541 (by omega)).trans ((n4067 541 (by decide)).trans ((hf4051.1 541 (by omega)).trans (hA541))))
                      have h4254 := (n4241 542 (by decide)).trans ((hf4097.1 542 (by omega)).trans ((n4067 542 (by decide)).trans ((hf4051.1 542 (by omega)).trans (hA542))))
                      have h4255 := (n4241 543 (by decide)).trans ((hf4097.1 543 (by omega)).trans ((n4067 543 (by decide)).trans ((hf4051.1 543 (by omega)).trans (hA543))))
                      have h4256 := (n4241 544 (by decide)).trans ((hf4097.1 544 (by omega)).trans ((n4067 544 (by decide)).trans ((hf4051.1 544 (by omega)).trans (hA544))))
                      have h4257 := (n4241 545 (by decide)).trans ((hf4097.1 545 (by omega)).trans ((n4067 545 (by decide)).trans ((hf4051.1 545 (by omega)).trans (hA545))))
                      have h4258 := (n4241 546 (by decide)).trans ((hf4097.1 546 (by omega)).trans ((n4067 546 (by decide)).trans ((hf4051.1 546 (by omega)).trans (hA546))))
                      have h4259 := (n4241 547 (by decide)).trans ((hf4097.1 547 (by omega)).trans ((n4067 547 (by decide)).trans ((hf4051.1 547 (by omega)).trans (hA547))))
                      refine Or.inr ⟨at4040, en4041, tk4042, nu4043, dg4044, nm4045, wc + 1, f4091, g4092, wR, wL, (X_ug wK wi (X_ix kn kc (ct c))), wM, wH, wS, sO, sN, eP, eH, hK, rfl, by omega, ?_, by first | exact R_ob.rf | exact R_ob.rf.up (by omega) | exact (R_ob.rf.up (by omega)).up (by omega), by first | exact R_ob.rf | exact R_ob.rf.up (by omega) | exact (R_ob.rf.up (by omega)).up (by omega), by first | exact R_ob.rf | exact R_ob.rf.up (by omega) | exact (R_ob.rf.up (by omega)).up (by omega), by first | exact R_ob.rf | exact R_ob.rf.up (by omega) | exact (R_ob.rf.up (by omega)).up (by omega), by first | exact R_ob.rf | exact R_ob.rf.up (by omega) | exact (R_ob.rf.up (by omega)).up (by omega), by first | exact R_ob.rf | exact R_ob.rf.up (by omega) | exact (R_ob.rf.up (by omega)).up (by omega), by first | exact R_ob.rf | exact R_ob.rf.up (by omega) | exact (R_ob.rf.up (by omega)).up (by omega), by first | exact R_ob.rf | exact R_ob.rf.up (by omega) | exact (R_ob.rf.up (by omega)).up (by omega), by first | exact R_ob.rf | exact R_ob.rf.up (by omega) | exact (R_ob.rf.up (by omega)).up (by omega), by first | exact R_ob.rf | exact R_ob.rf.up (by omega) | exact (R_ob.rf.up (by omega)).up (by omega), by first | exact R_ob.rf | exact R_ob.rf.up (by omega) | exact (R_ob.rf.up (by omega)).up (by omega), h4240, h4249, h4250, h4251, h4252, h4253, h4254, h4255, h4256, h4257, h4258, h4259, ((((X_Fr.rf).tr (X_Fr.mono ⟨hf4051.1, hf4051.2⟩ (fun q hq => (by omega)))).tr (X_Fr.of n4067 e4068 (by omega))).tr (X_Fr.mono ⟨hf4097.1, hf4097.2⟩ (fun q hq => (by omega)))).tr (X_Fr.of n4241 e4242 (by omega))⟩
                      unfold sp_wk
                      (repeat (first | rw [if_pos (by assumption)] | rw [if_neg (by assumption)] | rw [if_neg (by omega)] | rw [if_pos (by omega)]))
                      all_goals first | rfl | (unfold sp_wb; (repeat' split) <;> first | rfl | (exfalso; omega) | contradiction)
                    · skip
                      have c4248 : (f4091 = 0) := c4248
                      exact (show False by first | contradiction | omega).elim
                  · skip
                    have c4238 : (f4091 = 0) := c4238
                    exact (show False by first | contradiction | omega).elim
                · skip
                  have c4232 : (f4091 = 0) := c4232
                  exact (show False by first | contradiction | omega).elim
              · skip
                have c4226 : (f4091 = 0) := c4226
                exact (show False by first | contradiction | omega).elim
            · skip
              have c4220 : (f4091 = 0) := c4220
              exact (show False by first | contradiction | omega).elim
      · skip
        rw [hv4055]
        have h4063 : S4038.1 530 = .inr (11, [.ref 531, .int (iI (o 1)), .ref 532, .int (iI (o 3)), .int (iI (o 4)), .int (iI f4053), .int (iI g4054), .int (iI (o 7)), .int (iI (o 8)), .int (iI (o 9)), .int (iI (o 10)), .int (iI (o 11)), .long nm, .ref 533, .ref 534, .ref 535, .ref 536, .ref 537, .ref 538, .ref 539, .ref 540, .ref 541, .ref 542, .ref 543, .ref 544, .ref 545, .ref 546, .ref 547, .int (iI (o 28)), .int (iI (o 29)), .int (iI (o 30)), .int (iI (o 31)), .int (iI (o 32)), .int (iI (o 33)), .ref 548, .ref 549, .ref 550, .ref 551, .int (iI (o 38)), .ref 552, .ref 553, .ref 554, .ref 555, .ref 556, .ref 557, .ref 558, .ref 559, .ref 560, .ref 561, .int (iI (o 49)), .ref 562, .ref 563, .ref 564, .ref 565, .ref 566, .ref 567, .ref 568, .ref 569, .int (iI (o 58)), .ref 570, .ref 571, .ref 572, .ref 573, .ref 574, .ref 575, .ref 576, .ref 577, .ref 578, .int (iI (o 68)), .int (iI (o 69)), .int (iI (o 70)), .ref 579]) := hM4059
        show X_T sc 157 (134, [(1, .int (iI wi)), (0, .ref 530)], [.int (iI r4052), .int (iI wi), .ref 539], S4038) _
        have h4260 := (hf4060.1 539 (by omega)).trans (hA539)
        refine T_ziast xr_157_134 h4260 (pc' := 135) rfl (fun S4261 h4262 n4263 e4264 => ?_)
        refine T_p xr_157_135 xn_157 (pc' := 136) (ls' := [(1, .int (iI wi)), (0, .ref 530)]) (st' := [.ref 530]) rfl ?_
        have h4265 := (n4263 530 (by decide)).trans (h4063)
        refine T_get xr_157_136 h4265 rfl (v := .int (iI (o 7))) rfl (pc' := 139) rfl ?_
        refine T_p xr_157_139 xn_157 (pc' := 140) (ls' := [(2, .int (iI (o 7))), (1, .int (iI wi)), (0, .ref 530)]) (st' := []) rfl ?_
        refine T_p xr_157_140 xn_157 (pc' := 141) (ls' := [(2, .int (iI (o 7))), (1, .int (iI wi)), (0, .ref 530)]) (st' := [.ref 530]) rfl ?_
        refine T_cv (S := S4261) (q := 530) xr_157_141 xf_140.1 xf_140.2.1 xn_140 (as := []) (r := []) rfl h4265 (Nat.le_of_ble_eq_true rfl) (Nat.le_of_ble_eq_true rfl) (pc' := 144) rfl (ls' := [(0, .ref 530)]) rfl ?_
        refine T_mono (r_isGood sc S4261 (X_ou (X_ou o 5 f4053) 6 g4054) nm h4265 (show 0 ≤ f4053 ∧ f4053 ≤ 5 from by omega)) (fun v4266 S4267 h4268 => ?_)
        rcases h4268 with ⟨hv4269, hf4270⟩
        rw [hv4269]
        rw [hf4270]
        show X_T sc 157 (144, [(2, .int (iI (o 7))), (1, .int (iI wi)), (0, .ref 530)], [.int (iI (bI (f4053 = 0)))], S4261) _
        refine T_bif_eq xr_157_144 (t := 153) (pc' := 147) rfl rfl (fun c4271 => ?_) (fun c4271 => ?_)
        · skip
          have c4271 : ¬ (f4053 = 0) := c4271
          refine T_p xr_157_153 xn_157 (pc' := 154) (ls' := [(2, .int (iI (o 7))), (1, .int (iI wi)), (0, .ref 530)]) (st' := [.int (iI 0)]) rfl ?_
          refine T_p xr_157_154 xn_157 (pc' := 155) (ls' := [(3, .int (iI 0)), (2, .int (iI (o 7))), (1, .int (iI wi)), (0, .ref 530)]) (st' := []) rfl ?_
          refine T_p xr_157_155 xn_157 (pc' := 156) (ls' := [(3, .int (iI 0)), (2, .int (iI (o 7))), (1, .int (iI wi)), (0, .ref 530)]) (st' := [.ref 530]) rfl ?_
          refine T_cv (S := S4261) (q := 530) xr_157_156 xf_140.1 xf_140.2.1 xn_140 (as := []) (r := []) rfl h4265 (Nat.le_of_ble_eq_true rfl) (Nat.le_of_ble_eq_true rfl) (pc' := 159) rfl (ls' := [(0, .ref 530)]) rfl ?_
          refine T_mono (r_isGood sc S4261 (X_ou (X_ou o 5 f4053) 6 g4054) nm h4265 (show 0 ≤ f4053 ∧ f4053 ≤ 5 from by omega)) (fun v4272 S4273 h4274 => ?_)
          rcases h4274 with ⟨hv4275, hf4276⟩
          rw [hv4275]
          rw [hf4276]
          show X_T sc 157 (159, [(3, .int (iI 0)), (2, .int (iI (o 7))), (1, .int (iI wi)), (0, .ref 530)], [.int (iI (bI (f4053 = 0)))], S4261) _
          refine T_bif_eq xr_157_159 (t := 205) (pc' := 162) rfl rfl (fun c4277 => ?_) (fun c4277 => ?_)
          · skip
            have c4277 : ¬ (f4053 = 0) := c4277
            refine T_p xr_157_205 xn_157 (pc' := 206) (ls' := [(3, .int (iI 0)), (2, .int (iI (o 7))), (1, .int (iI wi)), (0, .ref 530)]) (st' := [.ref 530]) rfl ?_
            refine T_cv (S := S4261) (q := 530) xr_157_206 xf_140.1 xf_140.2.1 xn_140 (as := []) (r := []) rfl h4265 (Nat.le_of_ble_eq_true rfl) (Nat.le_of_ble_eq_true rfl) (pc' := 209) rfl (ls' := [(0, .ref 530)]) rfl ?_
            refine T_mono (r_isGood sc S4261 (X_ou (X_ou o 5 f4053) 6 g4054) nm h4265 (show 0 ≤ f4053 ∧ f4053 ≤ 5 from by omega)) (fun v4278 S4279 h4280 => ?_)
            rcases h4280 with ⟨hv4281, hf4282⟩
            rw [hv4281]
            rw [hf4282]
            show X_T sc 157 (209, [(3, .int (iI 0)), (2, .int (iI (o 7))), (1, .int (iI wi)), (0, .ref 530)], [.int (iI (bI (f4053 = 0)))], S4261) _
            refine T_bif_eq xr_157_209 (t := 247) (pc' := 212) rfl rfl (fun c4283 => ?_) (fun c4283 => ?_)
            · skip
              have c4283 : ¬ (f4053 = 0) := c4283
              refine T_p xr_157_247 xn_157 (pc' := 248) (ls' := [(3, .int (iI 0)), (2, .int (iI (o 7))), (1, .int (iI wi)), (0, .ref 530)]) (st' := [.ref 530]) rfl ?_
              refine T_cv (S := S4261) (q := 530) xr_157_248 xf_140.1 xf_140.2.1 xn_140 (as := []) (r := []) rfl h4265 (Nat.le_of_ble_eq_true rfl) (Nat.le_of_ble_eq_true rfl) (pc' := 251) rfl (ls' := [(0, .ref 530)]) rfl ?_
              refine T_mono (r_isGood sc S4261 (X_ou (X_ou o 5 f4053) 6 g4054) nm h4265 (show 0 ≤ f4053 ∧ f4053 ≤ 5 from by omega)) (fun v4284 S4285 h4286 => ?_)
              rcases h4286 with ⟨hv4287, hf4288⟩
              rw [hv4287]
              rw [hf4288]
              show X_T sc 157 (251, [(3, .int (iI 0)), (2, .int (iI (o 7))), (1, .int (iI wi)), (0, .ref 530)], [.int (iI (bI (f4053 = 0)))], S4261) _
              refine T_bif_eq xr_157_251 (t := 277) (pc' := 254) rfl rfl (fun c4289 => ?_) (fun c4289 => ?_)
              · skip
                have c4289 : ¬ (f4053 = 0) := c4289
                refine T_p xr_157_277 xn_157 (pc' := 278) (ls' := [(3, .int (iI 0)), (2, .int (iI (o 7))), (1, .int (iI wi)), (0, .ref 530)]) (st' := [.ref 530]) rfl ?_
                refine T_cv (S := S4261) (q := 530) xr_157_278 xf_140.1 xf_140.2.1 xn_140 (as := []) (r := []) rfl h4265 (Nat.le_of_ble_eq_true rfl) (Nat.le_of_ble_eq_true rfl) (pc' := 281) rfl (ls' := [(0, .ref 530)]) rfl ?_
                refine T_mono (r_isGood sc S4261 (X_ou (X_ou o 5 f4053) 6 g4054) nm h4265 (show 0 ≤ f4053 ∧ f4053 ≤ 5 from by omega)) (fun v4290 S4291 h4292 => ?_)
                rcases h4292 with ⟨hv4293, hf4294⟩
                rw [hv4293]
                rw [hf4294]
                show X_T sc 157 (281, [(3, .int (iI 0)), (2, .int (iI (o 7))), (1, .int (iI wi)), (0, .ref 530)], [.int (iI (bI (f4053 = 0)))], S4261) _
                refine T_bif_eq xr_157_281 (t := 302) (pc' := 284) rfl rfl (fun c4295 => ?_) (fun c4295 => ?_)
                · skip
                  have c4295 : ¬ (f4053 = 0) := c4295
                  refine T_p xr_157_302 xn_157 (pc' := 303) (ls' := [(3, .int (iI 0)), (2, .int (iI (o 7))), (1, .int (iI wi)), (0, .ref 530)]) (st' := [.ref 530]) rfl ?_
                  refine T_p xr_157_303 xn_157 (pc' := 304) (ls' := [(3, .int (iI 0)), (2, .int (iI (o 7))), (1, .int (iI wi)), (0, .ref 530)]) (st' := [.ref 530, .ref 530]) rfl ?_
                  refine T_get xr_157_304 h4265 rfl (v := .int (iI (o 30))) rfl (pc' := 307) rfl ?_
                  refine T_p xr_157_307 xn_157 (pc' := 308) (ls' := [(3, .int (iI 0)), (2, .int (iI (o 7))), (1, .int (iI wi)), (0, .ref 530)]) (st' := [.int (iI 1), .int (iI (o 30)), .ref 530]) rfl ?_
                  refine T_ziadd xr_157_308 (z := (o 30) + 1) rfl (pc' := 309) rfl ?_
                  refine T_ie (y := iI (wc + 1)) (by rw [hwc]) ?_
                  refine T_put xr_157_309 h4265 rfl (Nat.le_of_ble_eq_true rfl) rfl (fs' := [.ref 531, .int (iI (o 1)), .ref 532, .int (iI (o 3)), .int (iI (o 4)), .int (iI f4053), .int (iI g4054), .int (iI (o 7)), .int (iI (o 8)), .int (iI (o 9)), .int (iI (o 10)), .int (iI (o 11)), .long nm, .ref 533, .ref 534, .ref 535, .ref 536, .ref 537, .ref 538, .ref 539, .ref 540, .ref 541, .ref 542, .ref 543, .ref 544, .ref 545, .ref 546, .ref 547, .int (iI (o 28)), .int (iI (o 29)), .int (iI (wc + 1)), .int (iI (o 31)), .int (iI (o 32)), .int (iI (o 33)), .ref 548, .ref 549, .ref 550, .ref 551, .int (iI (o 38)), .ref 552, .ref 553, .ref 554, .ref 555, .ref 556, .ref 557, .ref 558, .ref 559, .ref 560, .ref 561, .int (iI (o 49)), .ref 562, .ref 563, .ref 564, .ref 565, .ref 566, .ref 567, .ref 568, .ref 569, .int (iI (o 58)), .ref 570, .ref 571, .ref 572, .ref 573, .ref 574, .ref 575, .ref 576, .ref 577, .ref 578, .int (iI (o 68)), .int (iI (o 69)), .int (iI (o 70)), .ref 579]) rfl (pc' := 312) rfl (fun S4296 h4297 n4298 e4299 => ?_)
                  refine T_p xr_157_312 xn_157 (pc' := 313) (ls' := [(3, .int (iI 0)), (2, .int (iI (o 7))), (1, .int (iI wi)), (0, .ref 530)]) (st' := [.ref 530]) rfl ?_
                  refine T_cv (S := S4296) (q := 530) xr_157_313 xf_140.1 xf_140.2.1 xn_140 (as := []) (r := []) rfl h4297 (Nat.le_of_ble_eq_true rfl) (Nat.le_of_ble_eq_true rfl) (pc' := 316) rfl (ls' := [(0, .ref 530)]) rfl ?_
                  refine T_mono (r_isGood sc S4296 (X_ou (X_ou (X_ou o 5 f4053) 6 g4054) 30 (wc + 1)) nm h4297 (show 0 ≤ f4053 ∧ f4053 ≤ 5 from by omega)) (fun v4300 S4301 h4302 => ?_)
                  rcases h4302 with ⟨hv4303, hf4304⟩
                  rw [hv4303]
                  rw [hf4304]
                  show X_T sc 157 (316, [(3, .int (iI 0)), (2, .int (iI (o 7))), (1, .int (iI wi)), (0, .ref 530)], [.int (iI (bI (f4053 = 0)))], S4296) _
                  refine T_bif_eq xr_157_316 (t := 325) (pc' := 319) rfl rfl (fun c4305 => ?_) (fun c4305 => ?_)
                  · skip
                    have c4305 : ¬ (f4053 = 0) := c4305
                    refine T_vret xr_157_325 xf_157.2.2 ?_
                    refine hQ _ _ ?_
                    have h4306 := (n4298 537 (by decide)).trans ((n4263 537 (by decide)).trans ((hf4060.1 537 (by omega)).trans (hA537)))
                    have h4307 := (n4298 538 (by decide)).trans ((n4263 538 (by decide)).trans ((hf4060.1 538 (by omega)).trans (hA538)))
                    have h4308 := (n4298 539 (by decide)).trans (h4262)
                    have h4309 := (n4298 540 (by decide)).trans ((n4263 540 (by decide)).trans ((hf4060.1 540 (by omega)).trans (hA540)))
                    have h4310 := (n4298 541 (by decide)).trans ((n4263 541 (by decide)).trans ((hf4060.1 541 (by omega)).trans (hA541)))
                    have h4311 := (n4298 542 (by decide)).trans ((n4263 542 (by decide)).trans ((hf4060.1 542 (by omega)).trans (hA542)))
                    have h4312 := (n4298 543 (by decide)).trans ((n4263 543 (by decide)).trans ((hf4060.1 543 (by omega)).trans (hA543)))
                    have h4313 := (n4298 544 (by decide)).trans ((n4263 544 (by decide)).trans ((hf4060.1 544 (by omega)).trans (hA544)))
                    have h4314 := (n4298 545 (by decide)).trans ((n4263 545 (by decide)).trans ((hf4060.1 545 (by omega)).trans (hA545)))
                    have h4315 := (n4298 546 (by decide)).trans ((n4263 546 (by decide)).trans ((hf4060.1 546 (by omega)).trans (hA546)))
                    have h4316 := (n4298 547 (by decide)).trans ((n4263 547 (by decide)).trans ((hf4060.1 547 (by omega)).trans (hA547)))
                    refine Or.inr ⟨o 7, o 8, o 9, o 10, o 11, nm, wc + 1, f4053, g4054, wR, wL, (X_ug wK wi r4052), wM, wH, wS, sO, sN, eP, eH, hK, rfl, by omega, ?_, by first | exact R_ob.rf | exact R_ob.rf.up (by omega) | exact (R_ob.rf.up (by omega)).up (by omega), by first | exact R_ob.rf | exact R_ob.rf.up (by omega) | exact (R_ob.rf.up (by omega)).up (by omega), by first | exact R_ob.rf | exact R_ob.rf.up (by omega) | exact (R_ob.rf.up (by omega)).up (by omega), by first | exact R_ob.rf | exact R_ob.rf.up (by omega) | exact (R_ob.rf.up (by omega)).up (by omega), by first | exact R_ob.rf | exact R_ob.rf.up (by omega) | exact (R_ob.rf.up (by omega)).up (by omega), by first | exact R_ob.rf | exact R_ob.rf.up (by omega) | exact (R_ob.rf.up (by omega)).up (by omega), by first | exact R_ob.rf | exact R_ob.rf.up (by omega) | exact (R_ob.rf.up (by omega)).up (by omega), by first | exact R_ob.rf | exact R_ob.rf.up (by omega) | exact (R_ob.rf.up (by omega)).up (by omega), by first | exact R_ob.rf | exact R_ob.rf.up (by omega) | exact (R_ob.rf.up (by omega)).up (by omega), by first | exact R_ob.rf | exact R_ob.rf.up (by omega) | exact (R_ob.rf.up (by omega)).up (by omega), by first | exact R_ob.rf | exact R_ob.rf.up (by omega) | exact (R_ob.rf.up (by omega)).up (by omega), h4297, h4306, h4307, h4308, h4309, h4310, h4311, h4312, h4313, h4314, h4315, h4316, (((X_Fr.rf).tr (X_Fr.mono ⟨hf4060.1, hf4060.2⟩ (fun q hq => (by omega)))).tr (X_Fr.of n4263 e4264 (by omega))).tr (X_Fr.of n4298 e4299 (by omega))⟩
                    unfold sp_wk
                    (repeat (first | rw [if_pos (by assumption)] | rw [if_neg (by assumption)] | rw [if_neg (by omega)] | rw [if_pos (by omega)]))
                    all_goals first | rfl | (unfold sp_wb; (repeat' split) <;> first | rfl | (exfalso; omega) | contradiction)
                  · skip
                    have c4305 : (f4053 = 0) := c4305
                    exact (show False by first | contradiction | omega).elim
                · skip
                  have c4295 : (f4053 = 0) := c4295
                  exact (show False by first | contradiction | omega).elim
              · skip
                have c4289 : (f4053 = 0) := c4289
                exact (show False by first | contradiction | omega).elim
            · skip
              have c4283 : (f4053 = 0) := c4283
              exact (show False by first | contradiction | omega).elim
          · skip
            have c4277 : (f4053 = 0) := c4277
            exact (show False by first | contradiction | omega).elim
        · skip
          have c4271 : (f4053 = 0) := c4271
          exact (show False by first | contradiction | omega).elim
set_option maxHeartbeats 8000000 in
theorem r_readWord (sc : X_Sc) (S : X_S) (o : Nat → Int) (nm : Int64) (tx : Int → Int) (rN : Int → Int64) (kN : Int → Int64) (wR : Int → Int) (wL : Int → Int) (wK : Int → Int) (wM : Int → Int) (wH : Int → Int) (wS : Int → Int) (sO : Int → Int) (sN : Int → Int) (eP : Int → Int64) (eH : Int → Int) (hK : Int → Int) (tb : Int → Int) (len : Int) (n : Int) (so : Int → Int) (pl : Int → Int) (ct : Int → Int64) (E : Int → Int) (c : Int) (c0 : Int) (rc : Int) (kc : Int) (wc : Int) (rn : Int → Int64) (lo : Int → Int) (kn : Int → Int64) (ab : Int → Int) (D : Int → Nat → Int → Int) (W : Int → Int → Int64) (hM : M_o S o nm) (hA532 : S.1 532 = .inl (.byte, 2000, .inl fun k : Nat => iI (tx (k : Int)))) (hA533 : S.1 533 = .inl (.long, 24, .inr (.inl fun k : Nat => rN (k : Int)))) (hA534 : S.1 534 = .inl (.long, 22, .inr (.inl fun k : Nat => kN (k : Int)))) (hA537 : S.1 537 = .inl (.int, 60, .inl fun k : Nat => iI (wR (k : Int)))) (hA538 : S.1 538 = .inl (.int, 60, .inl fun k : Nat => iI (wL (k : Int)))) (hA539 : S.1 539 = .inl (.int, 60, .inl fun k : Nat => iI (wK (k : Int)))) (hA540 : S.1 540 = .inl (.int, 60, .inl fun k : Nat => iI (wM (k : Int)))) (hA541 : S.1 541 = .inl (.int, 60, .inl fun k : Nat => iI (wH (k : Int)))) (hA542 : S.1 542 = .inl (.int, 60, .inl fun k : Nat => iI (wS (k : Int)))) (hA543 : S.1 543 = .inl (.int, 1800, .inl fun k : Nat => iI (sO (k : Int)))) (hA544 : S.1 544 = .inl (.int, 1800, .inl fun k : Nat => iI (sN (k : Int)))) (hA545 : S.1 545 = .inl (.long, 480, .inr (.inl fun k : Nat => eP (k : Int)))) (hA546 : S.1 546 = .inl (.int, 480, .inl fun k : Nat => iI (eH (k : Int)))) (hA547 : S.1 547 = .inl (.int, 240, .inl fun k : Nat => iI (hK (k : Int)))) (hlen : o 3 = len) (hl : 0 ≤ len ∧ len ≤ 2000) (htx : ∀ k, 0 ≤ k → k < len → tx k = tb k) (hX : X_TxE tb len n so pl ct E) (hT : R_tk n so pl ct E c (o 7) (o 8) (o 9) (o 10) (o 11) nm) (h5 : o 5 = 0) (hrc : o 28 = rc) (hkc : o 29 = kc) (hwc : o 30 = wc) (hcr : (0 ≤ rc ∧ rc ≤ 12) ∧ 1 ≤ kc ∧ kc ≤ 11) (hb : 0 ≤ o 4 ∧ o 4 ≤ 1) (hwl : 0 ≤ wc ∧ wc < 30) (hc : c = X_av n c0) (hN1 : ∀ i, 0 ≤ i → i < rc → rN (12 * o 4 + i) = rn i) (hN2 : ∀ i, 0 ≤ i → i < kc → kN (11 * o 4 + i) = kn i) (hct : ∀ i, 0 ≤ i → i < n → so i = 6 → ¬ ct i = 0) : X_T sc 157 (0, [(0, .ref 530)], [], S) (fun v S' => (∃ (at1 : Int) (en1 : Int) (tk1 : Int) (nu1 : Int) (dg1 : Int) (nm1 : Int64) (g1 : Int) (c2 : Int) (d2 : Nat → Int → Int) (q2 : Int → Int64) (wR1 : Int → Int) (wL1 : Int → Int) (wK1 : Int → Int) (wM1 : Int → Int) (wH1 : Int → Int) (wS1 : Int → Int) (sO1 : Int → Int) (sN1 : Int → Int) (eP1 : Int → Int64) (eH1 : Int → Int) (hK1 : Int → Int), v = none ∧ R_tk n so pl ct E c2 at1 en1 tk1 nu1 dg1 nm1 ∧ sp_word n so ct (c0, rc, kc, wc, rn, lo, kn, ab, D, W) = some (c2, rc, kc, wc + 1, rn, lo, kn, ab, X_ug D wc d2, X_ug W wc q2) ∧ R_w (30 * o 4 + wc) d2 q2 wR1 wL1 wK1 wM1 wH1 wS1 sO1 sN1 eP1 eH1 hK1 ∧ R_ob 1 (30 * o 4 + wc) wR wR1 ∧ R_ob 1 (30 * o 4 + wc) wL wL1 ∧ R_ob 1 (30 * o 4 + wc) wK wK1 ∧ R_ob 1 (30 * o 4 + wc) wM wM1 ∧ R_ob 1 (30 * o 4 + wc) wH wH1 ∧ R_ob 1 (30 * o 4 + wc) wS wS1 ∧ R_ob 30 (30 * o 4 + wc) sO sO1 ∧ R_ob 30 (30 * o 4 + wc) sN sN1 ∧ R_ob 8 (30 * o 4 + wc) eP eP1 ∧ R_ob 8 (30 * o 4 + wc) eH eH1 ∧ R_ob 4 (30 * o 4 + wc) hK hK1 ∧ M_o S' (X_ou (X_ou (X_ou (X_ou (X_ou (X_ou (X_ou o 7 at1) 8 en1) 9 tk1) 10 nu1) 11 dg1) 6 g1) 30 (wc + 1)) nm1 ∧ S'.1 537 = .inl (.int, 60, .inl fun k : Nat => iI (wR1 (k : Int))) ∧ S'.1 538 = .inl (.int, 60, .inl fun k : Nat => iI (wL1 (k : Int))) ∧ S'.1 539 = .inl (.int, 60, .inl fun k : Nat => iI (wK1 (k : Int))) ∧ S'.1 540 = .inl (.int, 60, .inl fun k : Nat => iI (wM1 (k : Int))) ∧ S'.1 541 = .inl (.int, 60, .inl fun k : Nat => iI (wH1 (k : Int))) ∧ S'.1 542 = .inl (.int, 60, .inl fun k : Nat => iI (wS1 (k : Int))) ∧ S'.1 543 = .inl (.int, 1800, .inl fun k : Nat => iI (sO1 (k : Int))) ∧ S'.1 544 = .inl (.int, 1800, .inl fun k : Nat => iI (sN1 (k : Int))) ∧ S'.1 545 = .inl (.long, 480, .inr (.inl fun k : Nat => eP1 (k : Int))) ∧ S'.1 546 = .inl (.int, 480, .inl fun k : Nat => iI (eH1 (k : Int))) ∧ S'.1 547 = .inl (.int, 240, .inl fun k : Nat => iI (hK1 (k : Int))) ∧ (X_Fr (fun q => q = 530 ∨ q = 537 ∨ q = 538 ∨ q = 539 ∨ q = 540 ∨ q = 541 ∨ q = 542 ∨ q = 543 ∨ q = 544 ∨ q = 545 ∨ q = 546 ∨ q = 547) S S')) ∨ (∃ (at1 : Int) (en1 : Int) (tk1 : Int) (nu1 : Int) (dg1 : Int) (nm1 : Int64) (wc1 : Int) (f1 : Int) (g1 : Int) (wR1 : Int → Int) (wL1 : Int → Int) (wK1 : Int → Int) (wM1 : Int → Int) (wH1 : Int → Int) (wS1 : Int → Int) (sO1 : Int → Int) (sN1 : Int → Int) (eP1 : Int → Int64) (eH1 : Int → Int) (hK1 : Int → Int), v = none ∧ (1 ≤ f1 ∧ f1 ≤ 5) ∧ sp_word n so ct (c0, rc, kc, wc, rn, lo, kn, ab, D, W) = none ∧ R_ob 1 (30 * o 4 + wc) wR wR1 ∧ R_ob 1 (30 * o 4 + wc) wL wL1 ∧ R_ob 1 (30 * o 4 + wc) wK wK1 ∧ R_ob 1 (30 * o 4 + wc) wM wM1 ∧ R_ob 1 (30 * o 4 + wc) wH wH1 ∧ R_ob 1 (30 * o 4 + wc) wS wS1 ∧ R_ob 30 (30 * o 4 + wc) sO sO1 ∧ R_ob 30 (30 * o 4 + wc) sN sN1 ∧ R_ob 8 (30 * o 4 + wc) eP eP1 ∧ R_ob 8 (30 * o 4 + wc) eH eH1 ∧ R_ob 4 (30 * o 4 + wc) hK hK1 ∧ M_o S' (X_ou (X_ou (X_ou (X_ou (X_ou (X_ou (X_ou (X_ou o 7 at1) 8 en1) 9 tk1) 10 nu1) 11 dg1) 5 f1) 6 g1) 30 wc1) nm1 ∧ S'.1 537 = .inl (.int, 60, .inl fun k : Nat => iI (wR1 (k : Int))) ∧ S'.1 538 = .inl (.int, 60, .inl fun k : Nat => iI (wL1 (k : Int))) ∧ S'.1 539 = .inl (.int, 60, .inl fun k : Nat => iI (wK1 (k : Int))) ∧ S'.1 540 = .inl (.int, 60, .inl fun k : Nat => iI (wM1 (k : Int))) ∧ S'.1 541 = .inl (.int, 60, .inl fun k : Nat => iI (wH1 (k : Int))) ∧ S'.1 542 = .inl (.int, 60, .inl fun k : Nat => iI (wS1 (k : Int))) ∧ S'.1 543 = .inl (.int, 1800, .inl fun k : Nat => iI (sO1 (k : Int))) ∧ S'.1 544 = .inl (.int, 1800, .inl fun k : Nat => iI (sN1 (k : Int))) ∧ S'.1 545 = .inl (.long, 480, .inr (.inl fun k : Nat => eP1 (k : Int))) ∧ S'.1 546 = .inl (.int, 480, .inl fun k : Nat => iI (eH1 (k : Int))) ∧ S'.1 547 = .inl (.int, 240, .inl fun k : Nat => iI (hK1 (k : Int))) ∧ (X_Fr (fun q => q = 530 ∨ q = 537 ∨ q = 538 ∨ q = 539 ∨ q = 540 ∨ q = 541 ∨ q = 542 ∨ q = 543 ∨ q = 544 ∨ q = 545 ∨ q = 546 ∨ q = 547) S S'))) := by
  obtain ⟨⟨hc0, hcn⟩, ⟨hs0, hs1⟩, hk0, ⟨ha0, ha1⟩, hk0e, ⟨_, _⟩, ⟨_, _⟩⟩ := R_tk_f hX hT
  have hn2 := hX.2.1
  refine X_QI (fun Q hQ => ?_)
  refine T_p xr_157_0 xn_157 (pc' := 2) (ls' := [(0, .ref 530)]) (st' := [.int (iI 30)]) rfl ?_
  refine T_p xr_157_2 xn_157 (pc' := 3) (ls' := [(0, .ref 530)]) (st' := [.ref 530, .int (iI 30)]) rfl ?_
  refine T_get xr_157_3 hM rfl (v := .int (iI (o 4))) rfl (pc' := 6) rfl ?_
  refine T_zimul xr_157_6 (z := 30 * (o 4)) rfl (pc' := 7) rfl ?_
  refine T_p xr_157_7 xn_157 (pc' := 8) (ls' := [(0, .ref 530)]) (st' := [.ref 530, .int (iI (30 * (o 4)))]) rfl ?_
  refine T_get xr_157_8 hM rfl (v := .int (iI (o 30))) rfl (pc' := 11) rfl ?_
  refine T_ziadd xr_157_11 (z := (30 * (o 4)) + (o 30)) rfl (pc' := 12) rfl ?_
  obtain ⟨wi, hwi⟩ : ∃ z : Int, z = 30 * o 4 + wc := ⟨_, rfl⟩
  simp only [← hwi] at hQ
  refine T_ie (y := iI wi) (by congr 1; omega) ?_
  refine T_p xr_157_12 xn_157 (pc' := 13) (ls' := [(1, .int (iI wi)), (0, .ref 530)]) (st' := []) rfl ?_
  refine T_p xr_157_13 xn_157 (pc' := 14) (ls' := [(1, .int (iI wi)), (0, .ref 530)]) (st' := [.ref 530]) rfl ?_
  refine T_get xr_157_14 hM rfl (v := .ref 537) rfl (pc' := 17) rfl ?_
  refine T_p xr_157_17 xn_157 (pc' := 18) (ls' := [(1, .int (iI wi)), (0, .ref 530)]) (st' := [.int (iI wi), .ref 537]) rfl ?_
  refine T_p xr_157_18 xn_157 (pc' := 19) (ls' := [(1, .int (iI wi)), (0, .ref 530)]) (st' := [.ref 530, .int (iI wi), .ref 537]) rfl ?_
  refine T_cv (S := S) (q := 530) xr_157_19 xf_151.1 xf_151.2.1 xn_151 (as := []) (r := [.int (iI wi), .ref 537]) rfl hM (Nat.le_of_ble_eq_true rfl) (Nat.le_of_ble_eq_true rfl) (pc' := 22) rfl (ls' := [(0, .ref 530)]) rfl ?_
  refine T_mono (r_aRank sc S o nm tx rN tb len n so pl ct E c rn rc hM hA532 hA533 (show (o 3) = len from by first | assumption | omega) hl htx hX hT (show (o 5) = 0 from by omega) (show (o 28) = rc from by omega) (by omega) (show 0 ≤ (o 4) ∧ (o 4) ≤ 1 from by omega) hN1) (fun v4317 S4318 h4319 => ?_)
  rcases h4319 with ⟨at4320, en4321, tk4322, nu4323, dg4324, nm4325, hv4326, hp4327, hp4328, hp4329, hM4330, hf4331⟩ | ⟨r4332, f4333, g4334, hv4335, hp4336, hp4337, hp4338, hM4339, hf4340⟩
  · skip
    rw [hv4326]
    have h4341 : S4318.1 530 = .inr (11, [.ref 531, .int (iI (o 1)), .ref 532, .int (iI (o 3)), .int (iI (o 4)), .int (iI (o 5)), .int (iI (o 6)), .int (iI at4320), .int (iI en4321), .int (iI tk4322), .int (iI nu4323), .int (iI dg4324), .long nm4325, .ref 533, .ref 534, .ref 535, .ref 536, .ref 537, .ref 538, .ref 539, .ref 540, .ref 541, .ref 542, .ref 543, .ref 544, .ref 545, .ref 546, .ref 547, .int (iI (o 28)), .int (iI (o 29)), .int (iI (o 30)), .int (iI (o 31)), .int (iI (o 32)), .int (iI (o 33)), .ref 548, .ref 549, .ref 550, .ref 551, .int (iI (o 38)), .ref 552, .ref 553, .ref 554, .ref 555, .ref 556, .ref 557, .ref 558, .ref 559, .ref 560, .ref 561, .int (iI (o 49)), .ref 562, .ref 563, .ref 564, .ref 565, .ref 566, .ref 567, .ref 568, .ref 569, .int (iI (o 58)), .ref 570, .ref 571, .ref 572, .ref 573, .ref 574, .ref 575, .ref 576, .ref 577, .ref 578, .int (iI (o 68)), .int (iI (o 69)), .int (iI (o 70)), .ref 579]) := hM4330
    obtain ⟨⟨_, _⟩, ⟨_, _⟩, hk4342, ⟨_, _⟩, hk4342e, ⟨_, _⟩, ⟨_, _⟩⟩ := R_tk_f hX hp4327
    show X_T sc 157 (22, [(1, .int (iI wi)), (0, .ref 530)], [.int (iI (X_ix rn rc (ct c))), .int (iI wi), .ref 537], S4318) _
    have h4344 := (hf4331.1 537 (by omega)).trans (hA537)
    refine T_ziast xr_157_22 h4344 (pc' := 23) rfl (fun S4345 h4346 n4347 e4348 => ?_)
    refine T_p xr_157_23 xn_157 (pc' := 24) (ls' := [(1, .int (iI wi)), (0, .ref 530)]) (st' := [.ref 530]) rfl ?_
    have h4349 := (n4347 530 (by decide)).trans (h4341)
    refine T_get xr_157_24 h4349 rfl (v := .ref 538) rfl (pc' := 27) rfl ?_
    refine T_p xr_157_27 xn_157 (pc' := 28) (ls' := [(1, .int (iI wi)), (0, .ref 530)]) (st' := [.int (iI wi), .ref 538]) rfl ?_
    refine T_p xr_157_28 xn_157 (pc' := 29) (ls' := [(1, .int (iI wi)), (0, .ref 530)]) (st' := [.int (iI 0), .int (iI wi), .ref 538]) rfl ?_
    have h4350 := (n4347 538 (by decide)).trans ((hf4331.1 538 (by omega)).trans (hA538))
    refine T_ziast xr_157_29 h4350 (pc' := 30) rfl (fun S4351 h4352 n4353 e4354 => ?_)
    refine T_p xr_157_30 xn_157 (pc' := 31) (ls' := [(1, .int (iI wi)), (0, .ref 530)]) (st' := [.ref 530]) rfl ?_
    have h4355 := (n4353 530 (by decide)).trans (h4349)
    refine T_get xr_157_31 h4355 rfl (v := .ref 539) rfl (pc' := 34) rfl ?_
    refine T_p xr_157_34 xn_157 (pc' := 35) (ls' := [(1, .int (iI wi)), (0, .ref 530)]) (st' := [.int (iI wi), .ref 539]) rfl ?_
    refine T_p xr_157_35 xn_157 (pc' := 36) (ls' := [(1, .int (iI wi)), (0, .ref 530)]) (st' := [.int (iI 0), .int (iI wi), .ref 539]) rfl ?_
    have h4356 := (n4353 539 (by decide)).trans ((n4347 539 (by decide)).trans ((hf4331.1 539 (by omega)).trans (hA539)))
    refine T_ziast xr_157_36 h4356 (pc' := 37) rfl (fun S4357 h4358 n4359 e4360 => ?_)
    refine T_p xr_157_37 xn_157 (pc' := 38) (ls' := [(1, .int (iI wi)), (0, .ref 530)]) (st' := [.ref 530]) rfl ?_
    have h4361 := (n4359 530 (by decide)).trans (h4355)
    refine T_get xr_157_38 h4361 rfl (v := .ref 540) rfl (pc' := 41) rfl ?_
    refine T_p xr_157_41 xn_157 (pc' := 42) (ls' := [(1, .int (iI wi)), (0, .ref 530)]) (st' := [.int (iI wi), .ref 540]) rfl ?_
    refine T_p xr_157_42 xn_157 (pc' := 43) (ls' := [(1, .int (iI wi)), (0, .ref 530)]) (st' := [.int (iI 0), .int (iI wi), .ref 540]) rfl ?_
    have h4362 := (n4359 540 (by decide)).trans ((n4353 540 (by decide)).trans ((n4347 540 (by decide)).trans ((hf4331.1 540 (by omega)).trans (hA540))))
    refine T_ziast xr_157_43 h4362 (pc' := 44) rfl (fun S4363 h4364 n4365 e4366 => ?_)
    refine T_p xr_157_44 xn_157 (pc' := 45) (ls' := [(1, .int (iI wi)), (0, .ref 530)]) (st' := [.ref 530]) rfl ?_
    have h4367 := (n4365 530 (by decide)).trans (h4361)
    refine T_get xr_157_45 h4367 rfl (v := .ref 541) rfl (pc' := 48) rfl ?_
    refine T_p xr_157_48 xn_157 (pc' := 49) (ls' := [(1, .int (iI wi)), (0, .ref 530)]) (st' := [.int (iI wi), .ref 541]) rfl ?_
    refine T_p xr_157_49 xn_157 (pc' := 50) (ls' := [(1, .int (iI wi)), (0, .ref 530)]) (st' := [.int (iI 0), .int (iI wi), .ref 541]) rfl ?_
    have h4368 := (n4365 541 (by decide)).trans ((n4359 541 (by decide)).trans ((n4353 541 (by decide)).trans ((n4347 541 (by decide)).trans ((hf4331.1 541 (by omega)).trans (hA541)))))
    refine T_ziast xr_157_50 h4368 (pc' := 51) rfl (fun S4369 h4370 n4371 e4372 => ?_)
    refine T_p xr_157_51 xn_157 (pc' := 52) (ls' := [(1, .int (iI wi)), (0, .ref 530)]) (st' := [.ref 530]) rfl ?_
    have h4373 := (n4371 530 (by decide)).trans (h4367)
    refine T_get xr_157_52 h4373 rfl (v := .ref 542) rfl (pc' := 55) rfl ?_
    refine T_p xr_157_55 xn_157 (pc' := 56) (ls' := [(1, .int (iI wi)), (0, .ref 530)]) (st' := [.int (iI wi), .ref 542]) rfl ?_
    refine T_p xr_157_56 xn_157 (pc' := 57) (ls' := [(1, .int (iI wi)), (0, .ref 530)]) (st' := [.int (iI (-1)), .int (iI wi), .ref 542]) rfl ?_
    have h4374 := (n4371 542 (by decide)).trans ((n4365 542 (by decide)).trans ((n4359 542 (by decide)).trans ((n4353 542 (by decide)).trans ((n4347 542 (by decide)).trans ((hf4331.1 542 (by omega)).trans (hA542))))))
    refine T_ziast xr_157_57 h4374 (pc' := 58) rfl (fun S4375 h4376 n4377 e4378 => ?_)
    refine T_p xr_157_58 xn_157 (pc' := 59) (ls' := [(1, .int (iI wi)), (0, .ref 530)]) (st' := [.ref 530]) rfl ?_
    have h4379 := (n4377 530 (by decide)).trans (h4373)
    refine T_cv (S := S4375) (q := 530) xr_157_59 xf_140.1 xf_140.2.1 xn_140 (as := []) (r := []) rfl h4379 (Nat.le_of_ble_eq_true rfl) (Nat.le_of_ble_eq_true rfl) (pc' := 62) rfl (ls' := [(0, .ref 530)]) rfl ?_
    refine T_mono (r_isGood sc S4375 (X_ou (X_ou (X_ou (X_ou (X_ou o 7 at4320) 8 en4321) 9 tk4322) 10 nu4323) 11 dg4324) nm4325 h4379 (show 0 ≤ (o 5) ∧ (o 5) ≤ 5 from by omega)) (fun v4380 S4381 h4382 => ?_)
    rcases h4382 with ⟨hv4383, hf4384⟩
    rw [hv4383]
    rw [hf4384]
    show X_T sc 157 (62, [(1, .int (iI wi)), (0, .ref 530)], [.int (iI (bI ((o 5) = 0)))], S4375) _
    refine T_bif_eq xr_157_62 (t := 110) (pc' := 65) rfl rfl (fun c4385 => ?_) (fun c4385 => ?_)
    · skip
      have c4385 : ¬ ((o 5) = 0) := c4385
      exact (show False by first | contradiction | omega).elim
    · skip
      have c4385 : ((o 5) = 0) := c4385
      refine T_p xr_157_65 xn_157 (pc' := 66) (ls' := [(1, .int (iI wi)), (0, .ref 530)]) (st' := [.ref 530]) rfl ?_
      refine T_p xr_157_66 xn_157 (pc' := 69) (ls' := [(1, .int (iI wi)), (0, .ref 530)]) (st' := [.long (Int64.ofNat 1818584692), .ref 530]) rfl ?_
      refine T_cv (S := S4375) (q := 530) xr_157_69 xf_146.1 xf_146.2.1 xn_146 (as := [.long (Int64.ofNat 1818584692)]) (r := []) rfl h4379 (Nat.le_of_ble_eq_true rfl) (Nat.le_of_ble_eq_true rfl) (pc' := 72) rfl (ls' := [(0, .ref 530), (1, .long (Int64.ofNat 1818584692))]) rfl ?_
      have h4386 := (n4377 532 (by decide)).trans ((n4371 532 (by decide)).trans ((n4365 532 (by decide)).trans ((n4359 532 (by decide)).trans ((n4353 532 (by decide)).trans ((n4347 532 (by decide)).trans ((hf4331.1 532 (by omega)).trans (hA532)))))))
      refine T_mono (r_isWord sc S4375 (X_ou (X_ou (X_ou (X_ou (X_ou o 7 at4320) 8 en4321) 9 tk4322) 10 nu4323) 11 dg4324) nm4325 tx tb len n so pl ct E (X_av n c) (Int64.ofNat 1818584692) h4379 h4386 (show (o 3) = len from by first | assumption | omega) hl htx hX hp4327) (fun v4387 S4388 h4389 => ?_)
      rcases h4389 with ⟨hv4390, hf4391⟩
      rw [hv4390]
      rw [hf4391]
      show X_T sc 157 (72, [(1, .int (iI wi)), (0, .ref 530)], [.int (iI (bI (so (X_av n c) = 3 ∧ ct (X_av n c) = (Int64.ofNat 1818584692))))], S4375) _
      refine T_bif_ne xr_157_72 (t := 85) (pc' := 75) rfl rfl (fun c4392 => ?_) (fun c4392 => ?_)
      · skip
        have c4392 : (so (X_av n c) = 3 ∧ ct (X_av n c) = (Int64.ofNat 1818584692)) := c4392
        refine T_p xr_157_85 xn_157 (pc' := 86) (ls' := [(1, .int (iI wi)), (0, .ref 530)]) (st' := [.ref 530]) rfl ?_
        refine T_get xr_157_86 h4379 rfl (v := .ref 538) rfl (pc' := 89) rfl ?_
        refine T_p xr_157_89 xn_157 (pc' := 90) (ls' := [(1, .int (iI wi)), (0, .ref 530)]) (st' := [.int (iI wi), .ref 538]) rfl ?_
        refine T_p xr_157_90 xn_157 (pc' := 91) (ls' := [(1, .int (iI wi)), (0, .ref 530)]) (st' := [.ref 530, .int (iI wi), .ref 538]) rfl ?_
        refine T_p xr_157_91 xn_157 (pc' := 94) (ls' := [(1, .int (iI wi)), (0, .ref 530)]) (st' := [.long (Int64.ofNat 1818584692), .ref 530, .int (iI wi), .ref 538]) rfl ?_
        refine T_cv (S := S4375) (q := 530) xr_157_94 xf_146.1 xf_146.2.1 xn_146 (as := [.long (Int64.ofNat 1818584692)]) (r := [.int (iI wi), .ref 538]) rfl h4379 (Nat.le_of_ble_eq_true rfl) (Nat.le_of_ble_eq_true rfl) (pc' := 97) rfl (ls' := [(0, .ref 530), (1, .long (Int64.ofNat 1818584692))]) rfl ?_
        refine T_mono (r_isWord sc S4375 (X_ou (X_ou (X_ou (X_ou (X_ou o 7 at4320) 8 en4321) 9 tk4322) 10 nu4323) 11 dg4324) nm4325 tx tb len n so pl ct E (X_av n c) (Int64.ofNat 1818584692) h4379 h4386 (show (o 3) = len from by first | assumption | omega) hl htx hX hp4327) (fun v4393 S4394 h4395 => ?_)
        rcases h4395 with ⟨hv4396, hf4397⟩
        rw [hv4396]
        rw [hf4397]
        show X_T sc 157 (97, [(1, .int (iI wi)), (0, .ref 530)], [.int (iI (bI (so (X_av n c) = 3 ∧ ct (X_av n c) = (Int64.ofNat 1818584692)))), .int (iI wi), .ref 538], S4375) _
        refine T_bif_eq xr_157_97 (t := 104) (pc' := 100) rfl rfl (fun c4398 => ?_) (fun c4398 => ?_)
        · skip
          have c4398 : ¬ (so (X_av n c) = 3 ∧ ct (X_av n c) = (Int64.ofNat 1818584692)) := c4398
          exact (show False by first | contradiction | omega).elim
        · skip
          have c4398 : (so (X_av n c) = 3 ∧ ct (X_av n c) = (Int64.ofNat 1818584692)) := c4398
          refine T_p xr_157_100 xn_157 (pc' := 101) (ls' := [(1, .int (iI wi)), (0, .ref 530)]) (st' := [.int (iI 1), .int (iI wi), .ref 538]) rfl ?_
          refine T_p xr_157_101 xn_157 (pc' := 105) (ls' := [(1, .int (iI wi)), (0, .ref 530)]) (st' := [.int (iI 1), .int (iI wi), .ref 538]) rfl ?_
          have h4399 := (n4377 538 (by decide)).trans ((n4371 538 (by decide)).trans ((n4365 538 (by decide)).trans ((n4359 538 (by decide)).trans (h4352))))
          refine T_ziast xr_157_105 h4399 (pc' := 106) rfl (fun S4400 h4401 n4402 e4403 => ?_)
          refine T_p xr_157_106 xn_157 (pc' := 107) (ls' := [(1, .int (iI wi)), (0, .ref 530)]) (st' := [.ref 530]) rfl ?_
          have h4404 := (n4402 530 (by decide)).trans (h4379)
          refine T_cv (S := S4400) (q := 530) xr_157_107 xf_141.1 xf_141.2.1 xn_141 (as := []) (r := []) rfl h4404 (Nat.le_of_ble_eq_true rfl) (Nat.le_of_ble_eq_true rfl) (pc' := 110) rfl (ls' := [(0, .ref 530)]) rfl ?_
          have h4405 := (n4402 532 (by decide)).trans (h4386)
          refine T_mono (r_nx sc S4400 (X_ou (X_ou (X_ou (X_ou (X_ou o 7 at4320) 8 en4321) 9 tk4322) 10 nu4323) 11 dg4324) nm4325 tx tb len n so pl ct E (X_av n c) h4404 h4405 (show (o 3) = len from by first | assumption | omega) hl htx hX hp4327 (by omega)) (fun v4406 S4407 h4408 => ?_)
          rcases h4408 with ⟨at4409, en4410, tk4411, nu4412, dg4413, nm4414, hv4415, hp4416, hM4417, hf4418⟩
          rw [hv4415]
          have h4419 : S4407.1 530 = .inr (11, [.ref 531, .int (iI (o 1)), .ref 532, .int (iI (o 3)), .int (iI (o 4)), .int (iI (o 5)), .int (iI (o 6)), .int (iI at4409), .int (iI en4410), .int (iI tk4411), .int (iI nu4412), .int (iI dg4413), .long nm4414, .ref 533, .ref 534, .ref 535, .ref 536, .ref 537, .ref 538, .ref 539, .ref 540, .ref 541, .ref 542, .ref 543, .ref 544, .ref 545, .ref 546, .ref 547, .int (iI (o 28)), .int (iI (o 29)), .int (iI (o 30)), .int (iI (o 31)), .int (iI (o 32)), .int (iI (o 33)), .ref 548, .ref 549, .ref 550, .ref 551, .int (iI (o 38)), .ref 552, .ref 553, .ref 554, .ref 555, .ref 556, .ref 557, .ref 558, .ref 559, .ref 560, .ref 561, .int (iI (o 49)), .ref 562, .ref 563, .ref 564, .ref 565, .ref 566, .ref 567, .ref 568, .ref 569, .int (iI (o 58)), .ref 570, .ref 571, .ref 572, .ref 573, .ref 574, .ref 575, .ref 576, .ref 577, .ref 578, .int (iI (o 68)), .int (iI (o 69)), .int (iI (o 70)), .ref 579]) := hM4417
          obtain ⟨⟨_, _⟩, ⟨_, _⟩, hk4420, ⟨_, _⟩, hk4420e, ⟨_, _⟩, ⟨_, _⟩⟩ := R_tk_f hX hp4416
          show X_T sc 157 (110, [(1, .int (iI wi)), (0, .ref 530)], [], S4407) _
          have h4421 := (hf4418.1 538 (by omega)).trans (h4401)
          have eC : X_lnC n so ct (X_av n c) = (X_av n (X_av n c)) := by unfold X_lnC; rw [if_pos (Or.inl (by assumption))]
          have eV : X_lnV so ct (X_av n c) 0 = 1 := by unfold X_lnV; rw [if_pos (by assumption)]
          have h4422 := (hf4418.1 537 (by omega)).trans ((n4402 537 (by decide)).trans ((n4377 537 (by decide)).trans ((n4371 537 (by decide)).trans ((n4365 537 (by decide)).trans ((n4359 537 (by decide)).trans ((n4353 537 (by decide)).trans (h4346)))))))
          have h4423 := (hf4418.1 539 (by omega)).trans ((n4402 539 (by decide)).trans ((n4377 539 (by decide)).trans ((n4371 539 (by decide)).trans ((n4365 539 (by decide)).trans (h4358)))))
          have h4424 := (hf4418.1 540 (by omega)).trans ((n4402 540 (by decide)).trans ((n4377 540 (by decide)).trans ((n4371 540 (by decide)).trans (h4364))))
          have h4425 := (hf4418.1 541 (by omega)).trans ((n4402 541 (by decide)).trans ((n4377 541 (by decide)).trans (h4370)))
          have h4426 := (hf4418.1 542 (by omega)).trans ((n4402 542 (by decide)).trans (h4376))
          have h4427 := (hf4418.1 543 (by omega)).trans ((n4402 543 (by decide)).trans ((n4377 543 (by decide)).trans ((n4371 543 (by decide)).trans ((n4365 543 (by decide)).trans ((n4359 543 (by decide)).trans ((n4353 543 (by decide)).trans ((n4347 543 (by decide)).trans ((hf4331.1 543 (by omega)).trans (hA543)))))))))
          have h4428 := (hf4418.1 544 (by omega)).trans ((n4402 544 (by decide)).trans ((n4377 544 (by decide)).trans ((n4371 544 (by decide)).trans ((n4365 544 (by decide)).trans ((n4359 544 (by decide)).trans ((n4353 544 (by decide)).trans ((n4347 544 (by decide)).trans ((hf4331.1 544 (by omega)).trans (hA544)))))))))
          have h4429 := (hf4418.1 545 (by omega)).trans ((n4402 545 (by decide)).trans ((n4377 545 (by decide)).trans ((n4371 545 (by decide)).trans ((n4365 545 (by decide)).trans ((n4359 545 (by decide)).trans ((n4353 545 (by decide)).trans ((n4347 545 (by decide)).trans ((hf4331.1 545 (by omega)).trans (hA545)))))))))
          have h4430 := (hf4418.1 546 (by omega)).trans ((n4402 546 (by decide)).trans ((n4377 546 (by decide)).trans ((n4371 546 (by decide)).trans ((n4365 546 (by decide)).trans ((n4359 546 (by decide)).trans ((n4353 546 (by decide)).trans ((n4347 546 (by decide)).trans ((hf4331.1 546 (by omega)).trans (hA546)))))))))
          have h4431 := (hf4418.1 547 (by omega)).trans ((n4402 547 (by decide)).trans ((n4377 547 (by decide)).trans ((n4371 547 (by decide)).trans ((n4365 547 (by decide)).trans ((n4359 547 (by decide)).trans ((n4353 547 (by decide)).trans ((n4347 547 (by decide)).trans ((hf4331.1 547 (by omega)).trans (hA547)))))))))
          have hW0 : R_w wi (X_wu (X_clr (D wc) (X_ix rn rc (ct c))) 1 (fun _ => 1)) (W wc) (X_ug wR wi (X_ix rn rc (ct c))) (X_ug (X_ug wL wi 0) wi 1) (X_ug wK wi 0) (X_ug wM wi 0) (X_ug wH wi 0) (X_ug wS wi (-1)) sO sN eP eH hK := ⟨X_ug_s _ _ _, X_ug_s _ _ _, X_ug_s _ _ _, ⟨X_ug_s _ _ _, X_ug_s _ _ _, fun e h1 h2 => absurd (show e < 0 from h2) (by omega), fun e h1 h2 => absurd (show e < 0 from h2) (by omega)⟩, X_ug_s _ _ _, fun e h1 h2 => absurd (show e < -1 from h2) (by omega)⟩
          have h4432 := (hf4418.1 532 (by omega)).trans (h4405)
          have h4433 := (hf4418.1 534 (by omega)).trans ((n4402 534 (by decide)).trans ((n4377 534 (by decide)).trans ((n4371 534 (by decide)).trans ((n4365 534 (by decide)).trans ((n4359 534 (by decide)).trans ((n4353 534 (by decide)).trans ((n4347 534 (by decide)).trans ((hf4331.1 534 (by omega)).trans (hA534)))))))))
          refine T_mono (r_rwB sc S4407 (X_ou (X_ou (X_ou (X_ou (X_ou o 7 at4409) 8 en4410) 9 tk4411) 10 nu4412) 11 dg4413) nm4414 tx kN (X_ug wR wi (X_ix rn rc (ct c))) (X_ug (X_ug wL wi 0) wi 1) (X_ug wK wi 0) (X_ug wM wi 0) (X_ug wH wi 0) (X_ug wS wi (-1)) sO sN eP eH hK tb len n so pl ct E (X_av n (X_av n c)) kn kc wc wi (X_wu (X_clr (D wc) (X_ix rn rc (ct c))) 1 (fun _ => 1)) (W wc) h4419 h4432 h4433 h4422 h4421 h4423 h4424 h4425 h4426 h4427 h4428 h4429 h4430 h4431 (show (o 3) = len from by first | assumption | omega) hl htx hX hp4416 (show (o 5) = 0 from by omega) (show (o 29) = kc from by omega) (show (o 30) = wc from by omega) (by omega) (show 0 ≤ (o 4) ∧ (o 4) ≤ 1 from by omega) hN2 (by omega) hW0 ⟨rfl, rfl, rfl⟩ (show (0 : Int) ≤ 1 ∧ (1 : Int) ≤ 2 by omega) hct rfl) (fun v4434 S4435 h4436 => hQ _ _ ?_)
          rcases h4436 with ⟨at4437, en4438, tk4439, nu4440, dg4441, nm4442, g4443, c4444, d4445, q4446, wR4447, wL4448, wK4449, wM4450, wH4451, wS4452, sO4453, sN4454, eP4455, eH4456, hK4457, hv4458, hp4459, hp4460, hp4461, hp4462, hp4463, hp4464, hp4465, hp4466, hp4467, hp4468, hp4469, hp4470, hp4471, hp4472, hM4473, ha4474, ha4475, ha4476, ha4477, ha4478, ha4479, ha4480, ha4481, ha4482, ha4483, ha4484, hf4485⟩ | ⟨at4486, en4487, tk4488, nu4489, dg4490, nm4491, wc4492, f4493, g4494, wR4495, wL4496, wK4497, wM4498, wH4499, wS4500, sO4501, sN4502, eP4503, eH4504, hK4505, hv4506, hp4507, hp4508, hp4509, hp4510, hp4511, hp4512, hp4513, hp4514, hp4515, hp4516, hp4517, hp4518, hp4519, hM4520, ha4521, ha4522, ha4523, ha4524, ha4525, ha4526, ha4527, ha4528, ha4529, ha4530, ha4531, hf4532⟩
          · skip
            rw [hv4458]
            have h4533 : S4435.1 530 = .inr (11, [.ref 531, .int (iI (o 1)), .ref 532, .int (iI (o 3)), .int (iI (o 4)), .int (iI (o 5)), .int (iI g4443), .int (iI at4437), .int (iI en4438), .int (iI tk4439), .int (iI nu4440), .int (iI dg4441), .long nm4442, .ref 533, .ref 534, .ref 535, .ref 536, .ref 537, .ref 538, .ref 539, .ref 540, .ref 541, .ref 542, .ref 543, .ref 544, .ref 545, .ref 546, .ref 547, .int (iI (o 28)), .int (iI (o 29)), .int (iI (wc + 1)), .int (iI (o 31)), .int (iI (o 32)), .int (iI (o 33)), .ref 548, .ref 549, .ref 550, .ref 551, .int (iI (o 38)), .ref 552, .ref 553, .ref 554, .ref 555, .ref 556, .ref 557, .ref 558, .ref 559, .ref 560, .ref 561, .int (iI (o 49)), .ref 562, .ref 563, .ref 564, .ref 565, .ref 566, .ref 567, .ref 568, .ref 569, .int (iI (o 58)), .ref 570, .ref 571, .ref 572, .ref 573, .ref 574, .ref 575, .ref 576, .ref 577, .ref 578, .int (iI (o 68)), .int (iI (o 69)), .int (iI (o 70)), .ref 579]) := hM4473
            exact Or.inl ⟨at4437, en4438, tk4439, nu4440, dg4441, nm4442, g4443, c4444, d4445, q4446, wR4447, wL4448, wK4449, wM4450, wH4451, wS4452, sO4453, sN4454, eP4455, eH4456, hK4457, rfl, hp4459, (by
                  simp only [sp_word]
                  rw [← hc, if_neg (by omega), if_pos (by assumption), if_neg (by omega), eC, eV, hp4460]
                  rfl), hp4461, (R_ob.rf.up (by omega)).tr hp4462, ((R_ob.rf.up (by omega)).up (by omega)).tr hp4463, (R_ob.rf.up (by omega)).tr hp4464, (R_ob.rf.up (by omega)).tr hp4465, (R_ob.rf.up (by omega)).tr hp4466, (R_ob.rf.up (by omega)).tr hp4467, hp4468, hp4469, hp4470, hp4471, hp4472, h4533, ha4474, ha4475, ha4476, ha4477, ha4478, ha4479, ha4480, ha4481, ha4482, ha4483, ha4484, ((((((((((X_Fr.rf).tr (X_Fr.mono ⟨hf4331.1, hf4331.2⟩ (fun q hq => (by omega)))).tr (X_Fr.of n4347 e4348 (by omega))).tr (X_Fr.of n4353 e4354 (by omega))).tr (X_Fr.of n4359 e4360 (by omega))).tr (X_Fr.of n4365 e4366 (by omega))).tr (X_Fr.of n4371 e4372 (by omega))).tr (X_Fr.of n4377 e4378 (by omega))).tr (X_Fr.of n4402 e4403 (by omega))).tr (X_Fr.mono ⟨hf4418.1, hf4418.2⟩ (fun q hq => (by omega)))).tr (X_Fr.mono ⟨hf4485.1, hf4485.2⟩ (fun q hq => (by omega)))⟩
          · skip
            rw [hv4506]
            have h4534 : S4435.1 530 = .inr (11, [.ref 531, .int (iI (o 1)), .ref 532, .int (iI (o 3)), .int (iI (o 4)), .int (iI f4493), .int (iI g4494), .int (iI at4486), .int (iI en4487), .int (iI tk4488), .int (iI nu4489), .int (iI dg4490), .long nm4491, .ref 533, .ref 534, .ref 535, .ref 536, .ref 537, .ref 538, .ref 539, .ref 540, .ref 541, .ref 542, .ref 543, .ref 544, .ref 545, .ref 546, .ref 547, .int (iI (o 28)), .int (iI (o 29)), .int (iI wc4492), .int (iI (o 31)), .int (iI (o 32)), .int (iI (o 33)), .ref 548, .ref 549, .ref 550, .ref 551, .int (iI (o 38)), .ref 552, .ref 553, .ref 554, .ref 555, .ref 556, .ref 557, .ref 558, .ref 559, .ref 560, .ref 561, .int (iI (o 49)), .ref 562, .ref 563, .ref 564, .ref 565, .ref 566, .ref 567, .ref 568, .ref 569, .int (iI (o 58)), .ref 570, .ref 571, .ref 572, .ref 573, .ref 574, .ref 575, .ref 576, .ref 577, .ref 578, .int (iI (o 68)), .int (iI (o 69)), .int (iI (o 70)), .ref 579]) := hM4520
            exact Or.inr ⟨at4486, en4487, tk4488, nu4489, dg4490, nm4491, wc4492, f4493, g4494, wR4495, wL4496, wK4497, wM4498, wH4499, wS4500, sO4501, sN4502, eP4503, eH4504, hK4505, rfl, hp4507, (by
                  simp only [sp_word]
                  rw [← hc, if_neg (by omega), if_pos (by assumption), if_neg (by omega), eC, eV, hp4508]
                  rfl), (R_ob.rf.up (by omega)).tr hp4509, ((R_ob.rf.up (by omega)).up (by omega)).tr hp4510, (R_ob.rf.up (by omega)).tr hp4511, (R_ob.rf.up (by omega)).tr hp4512, (R_ob.rf.up (by omega)).tr hp4513, (R_ob.rf.up (by omega)).tr hp4514, hp4515, hp4516, hp4517, hp4518, hp4519, h4534, ha4521, ha4522, ha4523, ha4524, ha4525, ha4526, ha4527, ha4528, ha4529, ha4530, ha4531, ((((((((((X_Fr.rf).tr (X_Fr.mono ⟨hf4331.1, hf4331.2⟩ (fun q hq => (by omega)))).tr (X_Fr.of n4347 e4348 (by omega))).tr (X_Fr.of n4353 e4354 (by omega))).tr (X_Fr.of n4359 e4360 (by omega))).tr (X_Fr.of n4365 e4366 (by omega))).tr (X_Fr.of n4371 e4372 (by omega))).tr (X_Fr.of n4377 e4378 (by omega))).tr (X_Fr.of n4402 e4403 (by omega))).tr (X_Fr.mono ⟨hf4418.1, hf4418.2⟩ (fun q hq => (by omega)))).tr (X_Fr.mono ⟨hf4532.1, hf4532.2⟩ (fun q hq => (by omega)))⟩
      · skip
        have c4392 : ¬ (so (X_av n c) = 3 ∧ ct (X_av n c) = (Int64.ofNat 1818584692)) := c4392
        refine T_p xr_157_75 xn_157 (pc' := 76) (ls' := [(1, .int (iI wi)), (0, .ref 530)]) (st' := [.ref 530]) rfl ?_
        refine T_p xr_157_76 xn_157 (pc' := 79) (ls' := [(1, .int (iI wi)), (0, .ref 530)]) (st' := [.long (Int64.ofNat 491394656372), .ref 530]) rfl ?_
        refine T_cv (S := S4375) (q := 530) xr_157_79 xf_146.1 xf_146.2.1 xn_146 (as := [.long (Int64.ofNat 491394656372)]) (r := []) rfl h4379 (Nat.le_of_ble_eq_true rfl) (Nat.le_of_ble_eq_true rfl) (pc' := 82) rfl (ls' := [(0, .ref 530), (1, .long (Int64.ofNat 491394656372))]) rfl ?_
        refine T_mono (r_isWord sc S4375 (X_ou (X_ou (X_ou (X_ou (X_ou o 7 at4320) 8 en4321) 9 tk4322) 10 nu4323) 11 dg4324) nm4325 tx tb len n so pl ct E (X_av n c) (Int64.ofNat 491394656372) h4379 h4386 (show (o 3) = len from by first | assumption | omega) hl htx hX hp4327) (fun v4535 S4536 h4537 => ?_)
        rcases h4537 with ⟨hv4538, hf4539⟩
        rw [hv4538]
        rw [hf4539]
        show X_T sc 157 (82, [(1, .int (iI wi)), (0, .ref 530)], [.int (iI (bI (so (X_av n c) = 3 ∧ ct (X_av n c) = (Int64.ofNat 491394656372))))], S4375) _
        refine T_bif_eq xr_157_82 (t := 110) (pc' := 85) rfl rfl (fun c4540 => ?_) (fun c4540 => ?_)
        · skip
          have c4540 : ¬ (so (X_av n c) = 3 ∧ ct (X_av n c) = (Int64.ofNat 491394656372)) := c4540
          have h4541 := (n4377 538 (by decide)).trans ((n4371 538 (by decide)).trans ((n4365 538 (by decide)).trans ((n4359 538 (by decide)).trans (h4352))))
          have eC : X_lnC n so ct (X_av n c) = (X_av n c) := by unfold X_lnC; rw [if_neg (by rintro (h | h) <;> contradiction)]
          have eV : X_lnV so ct (X_av n c) 0 = 0 := by unfold X_lnV; rw [if_neg (by assumption), if_neg (by assumption)]
          have h4542 := (n4377 537 (by decide)).trans ((n4371 537 (by decide)).trans ((n4365 537 (by decide)).trans ((n4359 537 (by decide)).trans ((n4353 537 (by decide)).trans (h4346)))))
          have h4543 := (n4377 539 (by decide)).trans ((n4371 539 (by decide)).trans ((n4365 539 (by decide)).trans (h4358)))
          have h4544 := (n4377 540 (by decide)).trans ((n4371 540 (by decide)).trans (h4364))
          have h4545 := (n4377 541 (by decide)).trans (h4370)
          have h4546 := (n4377 543 (by decide)).trans ((n4371 543 (by decide)).trans ((n4365 543 (by decide)).trans ((n4359 543 (by decide)).trans ((n4353 543 (by decide)).trans ((n4347 543 (by decide)).trans ((hf4331.1 543 (by omega)).trans (hA543)))))))
          have h4547 := (n4377 544 (by decide)).trans ((n4371 544 (by decide)).trans ((n4365 544 (by decide)).trans ((n4359 544 (by decide)).trans ((n4353 544 (by decide)).trans ((n4347 544 (by decide)).trans ((hf4331.1 544 (by omega)).trans (hA544)))))))
          have h4548 := (n4377 545 (by decide)).trans ((n4371 545 (by decide)).trans ((n4365 545 (by decide)).trans ((n4359 545 (by decide)).trans ((n4353 545 (by decide)).trans ((n4347 545 (by decide)).trans ((hf4331.1 545 (by omega)).trans (hA545)))))))
          have h4549 := (n4377 546 (by decide)).trans ((n4371 546 (by decide)).trans ((n4365 546 (by decide)).trans ((n4359 546 (by decide)).trans ((n4353 546 (by decide)).trans ((n4347 546 (by decide)).trans ((hf4331.1 546 (by omega)).trans (hA546)))))))
          have h4550 := (n4377 547 (by decide)).trans ((n4371 547 (by decide)).trans ((n4365 547 (by decide)).trans ((n4359 547 (by decide)).trans ((n4353 547 (by decide)).trans ((n4347 547 (by decide)).trans ((hf4331.1 547 (by omega)).trans (hA547)))))))
          have hW0 : R_w wi (X_wu (X_clr (D wc) (X_ix rn rc (ct c))) 1 (fun _ => 0)) (W wc) (X_ug wR wi (X_ix rn rc (ct c))) (X_ug wL wi 0) (X_ug wK wi 0) (X_ug wM wi 0) (X_ug wH wi 0) (X_ug wS wi (-1)) sO sN eP eH hK := ⟨X_ug_s _ _ _, X_ug_s _ _ _, X_ug_s _ _ _, ⟨X_ug_s _ _ _, X_ug_s _ _ _, fun e h1 h2 => absurd (show e < 0 from h2) (by omega), fun e h1 h2 => absurd (show e < 0 from h2) (by omega)⟩, X_ug_s _ _ _, fun e h1 h2 => absurd (show e < -1 from h2) (by omega)⟩
          have h4551 := (n4377 534 (by decide)).trans ((n4371 534 (by decide)).trans ((n4365 534 (by decide)).trans ((n4359 534 (by decide)).trans ((n4353 534 (by decide)).trans ((n4347 534 (by decide)).trans ((hf4331.1 534 (by omega)).trans (hA534)))))))
          refine T_mono (r_rwB sc S4375 (X_ou (X_ou (X_ou (X_ou (X_ou o 7 at4320) 8 en4321) 9 tk4322) 10 nu4323) 11 dg4324) nm4325 tx kN (X_ug wR wi (X_ix rn rc (ct c))) (X_ug wL wi 0) (X_ug wK wi 0) (X_ug wM wi 0) (X_ug wH wi 0) (X_ug wS wi (-1)) sO sN eP eH hK tb len n so pl ct E (X_av n c) kn kc wc wi (X_wu (X_clr (D wc) (X_ix rn rc (ct c))) 1 (fun _ => 0)) (W wc) h4379 h4386 h4551 h4542 h4541 h4543 h4544 h4545 h4376 h4546 h4547 h4548 h4549 h4550 (show (o 3) = len from by first | assumption | omega) hl htx hX hp4327 (show (o 5) = 0 from by omega) (show (o 29) = kc from by omega) (show (o 30) = wc from by omega) (by omega) (show 0 ≤ (o 4) ∧ (o 4) ≤ 1 from by omega) hN2 (by omega) hW0 ⟨rfl, rfl, rfl⟩ (show (0 : Int) ≤ 0 ∧ (0 : Int) ≤ 2 by omega) hct rfl) (fun v4552 S4553 h4554 => hQ _ _ ?_)
          rcases h4554 with ⟨at4555, en4556, tk4557, nu4558, dg4559, nm4560, g4561, c4562, d4563, q4564, wR4565, wL4566, wK4567, wM4568, wH4569, wS4570, sO4571, sN4572, eP4573, eH4574, hK4575, hv4576, hp4577, hp4578, hp4579, hp4580, hp4581, hp4582, hp4583, hp4584, hp4585, hp4586, hp4587, hp4588, hp4589, hp4590, hM4591, ha4592, ha4593, ha4594, ha4595, ha4596, ha4597, ha4598, ha4599, ha4600, ha4601, ha4602, hf4603⟩ | ⟨at4604, en4605, tk4606, nu4607, dg4608, nm4609, wc4610, f4611, g4612, wR4613, wL4614, wK4615, wM4616, wH4617, wS4618, sO4619, sN4620, eP4621, eH4622, hK4623, hv4624, hp4625, hp4626, hp4627, hp4628, hp4629, hp4630, hp4631, hp4632, hp4633, hp4634, hp4635, hp4636, hp4637, hM4638, ha4639, ha4640, ha4641, ha4642, ha4643, ha4644, ha4645, ha4646, ha4647, ha4648, ha4649, hf4650⟩
          · skip
            rw [hv4576]
            have h4651 : S4553.1 530 = .inr (11, [.ref 531, .int (iI (o 1)), .ref 532, .int (iI (o 3)), .int (iI (o 4)), .int (iI (o 5)), .int (iI g4561), .int (iI at4555), .int (iI en4556), .int (iI tk4557), .int (iI nu4558), .int (iI dg4559), .long nm4560, .ref 533, .ref 534, .ref 535, .ref 536, .ref 537, .ref 538, .ref 539, .ref 540, .ref 541, .ref 542, .ref 543, .ref 544, .ref 545, .ref 546, .ref 547, .int (iI (o 28)), .int (iI (o 29)), .int (iI (wc + 1)), .int (iI (o 31)), .int (iI (o 32)), .int (iI (o 33)), .ref 548, .ref 549, .ref 550, .ref 551, .int (iI (o 38)), .ref 552, .ref 553, .ref 554, .ref 555, .ref 556, .ref 557, .ref 558, .ref 559, .ref 560, .ref 561, .int (iI (o 49)), .ref 562, .ref 563, .ref 564, .ref 565, .ref 566, .ref 567, .ref 568, .ref 569, .int (iI (o 58)), .ref 570, .ref 571, .ref 572, .ref 573, .ref 574, .ref 575, .ref 576, .ref 577, .ref 578, .int (iI (o 68)), .int (iI (o 69)), .int (iI (o 70)), .ref 579]) := hM4591
            exact Or.inl ⟨at4555, en4556, tk4557, nu4558, dg4559, nm4560, g4561, c4562, d4563, q4564, wR4565, wL4566, wK4567, wM4568, wH4569, wS4570, sO4571, sN4572, eP4573, eH4574, hK4575, rfl, hp4577, (by
                  simp only [sp_word]
                  rw [← hc, if_neg (by omega), if_pos (by assumption), if_neg (by omega), eC, eV, hp4578]
                  rfl), hp4579, (R_ob.rf.up (by omega)).tr hp4580, (R_ob.rf.up (by omega)).tr hp4581, (R_ob.rf.up (by omega)).tr hp4582, (R_ob.rf.up (by omega)).tr hp4583, (R_ob.rf.up (by omega)).tr hp4584, (R_ob.rf.up (by omega)).tr hp4585, hp4586, hp4587, hp4588, hp4589, hp4590, h4651, ha4592, ha4593, ha4594, ha4595, ha4596, ha4597, ha4598, ha4599, ha4600, ha4601, ha4602, ((((((((X_Fr.rf).tr (X_Fr.mono ⟨hf4331.1, hf4331.2⟩ (fun q hq => (by omega)))).tr (X_Fr.of n4347 e4348 (by omega))).tr (X_Fr.of n4353 e4354 (by omega))).tr (X_Fr.of n4359 e4360 (by omega))).tr (X_Fr.of n4365 e4366 (by omega))).tr (X_Fr.of n4371 e4372 (by omega))).tr (X_Fr.of n4377 e4378 (by omega))).tr (X_Fr.mono ⟨hf4603.1, hf4603.2⟩ (fun q hq => (by omega)))⟩
          · skip
            rw [hv4624]
            have h4652 : S4553.1 530 = .inr (11, [.ref 531, .int (iI (o 1)), .ref 532, .int (iI (o 3)), .int (iI (o 4)), .int (iI f4611), .int (iI g4612), .int (iI at4604), .int (iI en4605), .int (iI tk4606), .int (iI nu4607), .int (iI dg4608), .long nm4609, .ref 533, .ref 534, .ref 535, .ref 536, .ref 537, .ref 538, .ref 539, .ref 540, .ref 541, .ref 542, .ref 543, .ref 544, .ref 545, .ref 546, .ref 547, .int (iI (o 28)), .int (iI (o 29)), .int (iI wc4610), .int (iI (o 31)), .int (iI (o 32)), .int (iI (o 33)), .ref 548, .ref 549, .ref 550, .ref 551, .int (iI (o 38)), .ref 552, .ref 553, .ref 554, .ref 555, .ref 556, .ref 557, .ref 558, .ref 559, .ref 560, .ref 561, .int (iI (o 49)), .ref 562, .ref 563, .ref 564, .ref 565, .ref 566, .ref 567, .ref 568, .ref 569, .int (iI (o 58)), .ref 570, .ref 571, .ref 572, .ref 573, .ref 574, .ref 575, .ref 576, .ref 577, .ref 578, .int (iI (o 68)), .int (iI (o 69)), .int (iI (o 70)), .ref 579]) := hM4638
            exact Or.inr ⟨at4604, en4605, tk4606, nu4607, dg4608, nm4609, wc4610, f4611, g4612, wR4613, wL4614, wK4615, wM4616, wH4617, wS4618, sO4619, sN4620, eP4621, eH4622, hK4623, rfl, hp4625, (by
                  simp only [sp_word]
                  rw [← hc, if_neg (by omega), if_pos (by assumption), if_neg (by omega), eC, eV, hp4626]
                  rfl), (R_ob.rf.up (by omega)).tr hp4627, (R_ob.rf.up (by omega)).tr hp4628, (R_ob.rf.up (by omega)).tr hp4629, (R_ob.rf.up (by omega)).tr hp4630, (R_ob.rf.up (by omega)).tr hp4631, (R_ob.rf.up (by omega)).tr hp4632, hp4633, hp4634, hp4635, hp4636, hp4637, h4652, ha4639, ha4640, ha4641, ha4642, ha4643, ha4644, ha4645, ha4646, ha4647, ha4648, ha4649, ((((((((X_Fr.rf).tr (X_Fr.mono ⟨hf4331.1, hf4331.2⟩ (fun q hq => (by omega)))).tr (X_Fr.of n4347 e4348 (by omega))).tr (X_Fr.of n4353 e4354 (by omega))).tr (X_Fr.of n4359 e4360 (by omega))).tr (X_Fr.of n4365 e4366 (by omega))).tr (X_Fr.of n4371 e4372 (by omega))).tr (X_Fr.of n4377 e4378 (by omega))).tr (X_Fr.mono ⟨hf4650.1, hf4650.2⟩ (fun q hq => (by omega)))⟩
        · skip
          have c4540 : (so (X_av n c) = 3 ∧ ct (X_av n c) = (Int64.ofNat 491394656372)) := c4540
          refine T_p xr_157_85 xn_157 (pc' := 86) (ls' := [(1, .int (iI wi)), (0, .ref 530)]) (st' := [.ref 530]) rfl ?_
          refine T_get xr_157_86 h4379 rfl (v := .ref 538) rfl (pc' := 89) rfl ?_
          refine T_p xr_157_89 xn_157 (pc' := 90) (ls' := [(1, .int (iI wi)), (0, .ref 530)]) (st' := [.int (iI wi), .ref 538]) rfl ?_
          refine T_p xr_157_90 xn_157 (pc' := 91) (ls' := [(1, .int (iI wi)), (0, .ref 530)]) (st' := [.ref 530, .int (iI wi), .ref 538]) rfl ?_
          refine T_p xr_157_91 xn_157 (pc' := 94) (ls' := [(1, .int (iI wi)), (0, .ref 530)]) (st' := [.long (Int64.ofNat 1818584692), .ref 530, .int (iI wi), .ref 538]) rfl ?_
          refine T_cv (S := S4375) (q := 530) xr_157_94 xf_146.1 xf_146.2.1 xn_146 (as := [.long (Int64.ofNat 1818584692)]) (r := [.int (iI wi), .ref 538]) rfl h4379 (Nat.le_of_ble_eq_true rfl) (Nat.le_of_ble_eq_true rfl) (pc' := 97) rfl (ls' := [(0, .ref 530), (1, .long (Int64.ofNat 1818584692))]) rfl ?_
          refine T_mono (r_isWord sc S4375 (X_ou (X_ou (X_ou (X_ou (X_ou o 7 at4320) 8 en4321) 9 tk4322) 10 nu4323) 11 dg4324) nm4325 tx tb len n so pl ct E (X_av n c) (Int64.ofNat 1818584692) h4379 h4386 (show (o 3) = len from by first | assumption | omega) hl htx hX hp4327) (fun v4653 S4654 h4655 => ?_)
          rcases h4655 with ⟨hv4656, hf4657⟩
          rw [hv4656]
          rw [hf4657]
          show X_T sc 157 (97, [(1, .int (iI wi)), (0, .ref 530)], [.int (iI (bI (so (X_av n c) = 3 ∧ ct (X_av n c) = (Int64.ofNat 1818584692)))), .int (iI wi), .ref 538], S4375) _
          refine T_bif_eq xr_157_97 (t := 104) (pc' := 100) rfl rfl (fun c4658 => ?_) (fun c4658 => ?_)
          · skip
            have c4658 : ¬ (so (X_av n c) = 3 ∧ ct (X_av n c) = (Int64.ofNat 1818584692)) := c4658
            refine T_p xr_157_104 xn_157 (pc' := 105) (ls' := [(1, .int (iI wi)), (0, .ref 530)]) (st' := [.int (iI 2), .int (iI wi), .ref 538]) rfl ?_
            have h4659 := (n4377 538 (by decide)).trans ((n4371 538 (by decide)).trans ((n4365 538 (by decide)).trans ((n4359 538 (by decide)).trans (h4352))))
            refine T_ziast xr_157_105 h4659 (pc' := 106) rfl (fun S4660 h4661 n4662 e4663 => ?_)
            refine T_p xr_157_106 xn_157 (pc' := 107) (ls' := [(1, .int (iI wi)), (0, .ref 530)]) (st' := [.ref 530]) rfl ?_
            have h4664 := (n4662 530 (by decide)).trans (h4379)
            refine T_cv (S := S4660) (q := 530) xr_157_107 xf_141.1 xf_141.2.1 xn_141 (as := []) (r := []) rfl h4664 (Nat.le_of_ble_eq_true rfl) (Nat.le_of_ble_eq_true rfl) (pc' := 110) rfl (ls' := [(0, .ref 530)]) rfl ?_
            have h4665 := (n4662 532 (by decide)).trans (h4386)
            refine T_mono (r_nx sc S4660 (X_ou (X_ou (X_ou (X_ou (X_ou o 7 at4320) 8 en4321) 9 tk4322) 10 nu4323) 11 dg4324) nm4325 tx tb len n so pl ct E (X_av n c) h4664 h4665 (show (o 3) = len from by first | assumption | omega) hl htx hX hp4327 (by omega)) (fun v4666 S4667 h4668 => ?_)
            rcases h4668 with ⟨at4669, en4670, tk4671, nu4672, dg4673, nm4674, hv4675, hp4676, hM4677, hf4678⟩
            rw [hv4675]
            have h4679 : S4667.1 530 = .inr (11, [.ref 531, .int (iI (o 1)), .ref 532, .int (iI (o 3)), .int (iI (o 4)), .int (iI (o 5)), .int (iI (o 6)), .int (iI at4669), .int (iI en4670), .int (iI tk4671), .int (iI nu4672), .int (iI dg4673), .long nm4674, .ref 533, .ref 534, .ref 535, .ref 536, .ref 537, .ref 538, .ref 539, .ref 540, .ref 541, .ref 542, .ref 543, .ref 544, .ref 545, .ref 546, .ref 547, .int (iI (o 28)), .int (iI (o 29)), .int (iI (o 30)), .int (iI (o 31)), .int (iI (o 32)), .int (iI (o 33)), .ref 548, .ref 549, .ref 550, .ref 551, .int (iI (o 38)), .ref 552, .ref 553, .ref 554, .ref 555, .ref 556, .ref 557, .ref 558, .ref 559, .ref 560, .ref 561, .int (iI (o 49)), .ref 562, .ref 563, .ref 564, .ref 565, .ref 566, .ref 567, .ref 568, .ref 569, .int (iI (o 58)), .ref 570, .ref 571, .ref 572, .ref 573, .ref 574, .ref 575, .ref 576, .ref 577, .ref 578, .int (iI (o 68)), .int (iI (o 69)), .int (iI (o 70)), .ref 579]) := hM4677
            obtain ⟨⟨_, _⟩, ⟨_, _⟩, hk4680, ⟨_, _⟩, hk4680e, ⟨_, _⟩, ⟨_, _⟩⟩ := R_tk_f hX hp4676
            show X_T sc 157 (110, [(1, .int (iI wi)), (0, .ref 530)], [], S4667) _
            have h4681 := (hf4678.1 538 (by omega)).trans (h4661)
            have eC : X_lnC n so ct (X_av n c) = (X_av n (X_av n c)) := by unfold X_lnC; rw [if_pos (Or.inr (by assumption))]
            have eV : X_lnV so ct (X_av n c) 0 = 2 := by unfold X_lnV; rw [if_neg (by assumption), if_pos (by assumption)]
            have h4682 := (hf4678.1 537 (by omega)).trans ((n4662 537 (by decide)).trans ((n4377 537 (by decide)).trans ((n4371 537 (by decide)).trans ((n4365 537 (by decide)).trans ((n4359 537 (by decide)).trans ((n4353 537 (by decide)).trans (h4346)))))))
            have h4683 := (hf4678.1 539 (by omega)).trans ((n4662 539 (by decide)).trans ((n4377 539 (by decide)).trans ((n4371 539 (by decide)).trans ((n4365 539 (by decide)).trans (h4358)))))
            have h4684 := (hf4678.1 540 (by omega)).trans ((n4662 540 (by decide)).trans ((n4377 540 (by decide)).trans ((n4371 540 (by decide)).trans (h4364))))
            have h4685 := (hf4678.1 541 (by omega)).trans ((n4662 541 (by decide)).trans ((n4377 541 (by decide)).trans (h4370)))
            have h4686 := (hf4678.1 542 (by omega)).trans ((n4662 542 (by decide)).trans (h4376))
            have h4687 := (hf4678.1 543 (by omega)).trans ((n4662 543 (by decide)).trans ((n4377 543 (by decide)).trans ((n4371 543 (by decide)).trans ((n4365 543 (by decide)).trans ((n4359 543 (by decide)).trans ((n4353 543 (by decide)).trans ((n4347 543 (by decide)).trans ((hf4331.1 543 (by omega)).trans (hA543)))))))))
            have h4688 := (hf4678.1 544 (by omega)).trans ((n4662 544 (by decide)).trans ((n4377 544 (by decide)).trans ((n4371 544 (by decide)).trans ((n4365 544 (by decide)).trans ((n4359 544 (by decide)).trans ((n4353 544 (by decide)).trans ((n4347 544 (by decide)).trans ((hf4331.1 544 (by omega)).trans (hA544)))))))))
            have h4689 := (hf4678.1 545 (by omega)).trans ((n4662 545 (by decide)).trans ((n4377 545 (by decide)).trans ((n4371 545 (by decide)).trans ((n4365 545 (by decide)).trans ((n4359 545 (by decide)).trans ((n4353 545 (by decide)).trans ((n4347 545 (by decide)).trans ((hf4331.1 545 (by omega)).trans (hA545)))))))))
            have h4690 := (hf4678.1 546 (by omega)).trans ((n4662 546 (by decide)).trans ((n4377 546 (by decide)).trans ((n4371 546 (by decide)).trans ((n4365 546 (by decide)).trans ((n4359 546 (by decide)).trans ((n4353 546 (by decide)).trans ((n4347 546 (by decide)).trans ((hf4331.1 546 (by omega)).trans (hA546)))))))))
            have h4691 := (hf4678.1 547 (by omega)).trans ((n4662 547 (by decide)).trans ((n4377 547 (by decide)).trans ((n4371 547 (by decide)).trans ((n4365 547 (by decide)).trans ((n4359 547 (by decide)).trans ((n4353 547 (by decide)).trans ((n4347 547 (by decide)).trans ((hf4331.1 547 (by omega)).trans (hA547)))))))))
            have hW0 : R_w wi (X_wu (X_clr (D wc) (X_ix rn rc (ct c))) 1 (fun _ => 2)) (W wc) (X_ug wR wi (X_ix rn rc (ct c))) (X_ug (X_ug wL wi 0) wi 2) (X_ug wK wi 0) (X_ug wM wi 0) (X_ug wH wi 0) (X_ug wS wi (-1)) sO sN eP eH hK := ⟨X_ug_s _ _ _, X_ug_s _ _ _, X_ug_s _ _ _, ⟨X_ug_s _ _ _, X_ug_s _ _ _, fun e h1 h2 => absurd (show e < 0 from h2) (by omega), fun e h1 h2 => absurd (show e < 0 from h2) (by omega)⟩, X_ug_s _ _ _, fun e h1 h2 => absurd (show e < -1 from h2) (by omega)⟩
            have h4692 := (hf4678.1 532 (by omega)).trans (h4665)
            have h4693 := (hf4678.1 534 (by omega)).trans ((n4662 534 (by decide)).trans ((n4377 534 (by decide)).trans ((n4371 534 (by decide)).trans ((n4365 534 (by decide)).trans ((n4359 534 (by decide)).trans ((n4353 534 (by decide)).trans ((n4347 534 (by decide)).trans ((hf4331.1 534 (by omega)).trans (hA534)))))))))
            refine T_mono (r_rwB sc S4667 (X_ou (X_ou (X_ou (X_ou (X_ou o 7 at4669) 8 en4670) 9 tk4671) 10 nu4672) 11 dg4673) nm4674 tx kN (X_ug wR wi (X_ix rn rc (ct c))) (X_ug (X_ug wL wi 0) wi 2) (X_ug wK wi 0) (X_ug wM wi 0) (X_ug wH wi 0) (X_ug wS wi (-1)) sO sN eP eH hK tb len n so pl ct E (X_av n (X_av n c)) kn kc wc wi (X_wu (X_clr (D wc) (X_ix rn rc (ct c))) 1 (fun _ => 2)) (W wc) h4679 h4692 h4693 h4682 h4681 h4683 h4684 h4685 h4686 h4687 h4688 h4689 h4690 h4691 (show (o 3) = len from by first | assumption | omega) hl htx hX hp4676 (show (o 5) = 0 from by omega) (show (o 29) = kc from by omega) (show (o 30) = wc from by omega) (by omega) (show 0 ≤ (o 4) ∧ (o 4) ≤ 1 from by omega) hN2 (by omega) hW0 ⟨rfl, rfl, rfl⟩ (show (0 : Int) ≤ 2 ∧ (2 : Int) ≤ 2 by omega) hct rfl) (fun v4694 S4695 h4696 => hQ _ _ ?_)
            rcases h4696 with ⟨at4697, en4698, tk4699, nu4700, dg4701, nm4702, g4703, c4704, d4705, q4706, wR4707, wL4708, wK4709, wM4710, wH4711, wS4712, sO4713, sN4714, eP4715, eH4716, hK4717, hv4718, hp4719, hp4720, hp4721, hp4722, hp4723, hp4724, hp4725, hp4726, hp4727, hp4728, hp4729, hp4730, hp4731, hp4732, hM4733, ha4734, ha4735, ha4736, ha4737, ha4738, ha4739, ha4740, ha4741, ha4742, ha4743, ha4744, hf4745⟩ | ⟨at4746, en4747, tk4748, nu4749, dg4750, nm4751, wc4752, f4753, g4754, wR4755, wL4756, wK4757, wM4758, wH4759, wS4760, sO4761, sN4762, eP4763, eH4764, hK4765, hv4766, hp4767, hp4768, hp4769, hp4770, hp4771, hp4772, hp4773, hp4774, hp4775, hp4776, hp4777, hp4778, hp4779, hM4780, ha4781, ha4782, ha4783, ha4784, ha4785, ha4786, ha4787, ha4788, ha4789, ha4790, ha4791, hf4792⟩
            · skip
              rw [hv4718]
              have h4793 : S4695.1 530 = .inr (11, [.ref 531, .int (iI (o 1)), .ref 532, .int (iI (o 3)), .int (iI (o 4)), .int (iI (o 5)), .int (iI g4703), .int (iI at4697), .int (iI en4698), .int (iI tk4699), .int (iI nu4700), .int (iI dg4701), .long nm4702, .ref 533, .ref 534, .ref 535, .ref 536, .ref 537, .ref 538, .ref 539, .ref 540, .ref 541, .ref 542, .ref 543, .ref 544, .ref 545, .ref 546, .ref 547, .int (iI (o 28)), .int (iI (o 29)), .int (iI (wc + 1)), .int (iI (o 31)), .int (iI (o 32)), .int (iI (o 33)), .ref 548, .ref 549, .ref 550, .ref 551, .int (iI (o 38)), .ref 552, .ref 553, .ref 554, .ref 555, .ref 556, .ref 557, .ref 558, .ref 559, .ref 560, .ref 561, .int (iI (o 49)), .ref 562, .ref 563, .ref 564, .ref 565, .ref 566, .ref 567, .ref 568, .ref 569, .int (iI (o 58)), .ref 570, .ref 571, .ref 572, .ref 573, .ref 574, .ref 575, .ref 576, .ref 577, .ref 578, .int (iI (o 68)), .int (iI (o 69)), .int (iI (o 70)), .ref 579]) := hM4733
              exact Or.inl ⟨at4697, en4698, tk4699, nu4700, dg4701, nm4702, g4703, c4704, d4705, q4706, wR4707, wL4708, wK4709, wM4710, wH4711, wS4712, sO4713, sN4714, eP4715, eH4716, hK4717, rfl, hp4719, (by
                    simp only [sp_word]
                    rw [← hc, if_neg (by omega), if_pos (by assumption), if_neg (by omega), eC, eV, hp4720]
                    rfl), hp4721, (R_ob.rf.up (by omega)).tr hp4722, ((R_ob.rf.up (by omega)).up (by omega)).tr hp4723, (R_ob.rf.up (by omega)).tr hp4724, (R_ob.rf.up (by omega)).tr hp4725, (R_ob.rf.up (by omega)).tr hp4726, (R_ob.rf.up (by omega)).tr hp4727, hp4728, hp4729, hp4730, hp4731, hp4732, h4793, ha4734, ha4735, ha4736, ha4737, ha4738, ha4739, ha4740, ha4741, ha4742, ha4743, ha4744, ((((((((((X_Fr.rf).tr (X_Fr.mono ⟨hf4331.1, hf4331.2⟩ (fun q hq => (by omega)))).tr (X_Fr.of n4347 e4348 (by omega))).tr (X_Fr.of n4353 e4354 (by omega))).tr (X_Fr.of n4359 e4360 (by omega))).tr (X_Fr.of n4365 e4366 (by omega))).tr (X_Fr.of n4371 e4372 (by omega))).tr (X_Fr.of n4377 e4378 (by omega))).tr (X_Fr.of n4662 e4663 (by omega))).tr (X_Fr.mono ⟨hf4678.1, hf4678.2⟩ (fun q hq => (by omega)))).tr (X_Fr.mono ⟨hf4745.1, hf4745.2⟩ (fun q hq => (by omega)))⟩
            · skip
              rw [hv4766]
              have h4794 : S4695.1 530 = .inr (11, [.ref 531, .int (iI (o 1)), .ref 532, .int (iI (o 3)), .int (iI (o 4)), .int (iI f4753), .int (iI g4754), .int (iI at4746), .int (iI en4747), .int (iI tk4748), .int (iI nu4749), .int (iI dg4750), .long nm4751, .ref 533, .ref 534, .ref 535, .ref 536, .ref 537, .ref 538, .ref 539, .ref 540, .ref 541, .ref 542, .ref 543, .ref 544, .ref 545, .ref 546, .ref 547, .int (iI (o 28)), .int (iI (o 29)), .int (iI wc4752), .int (iI (o 31)), .int (iI (o 32)), .int (iI (o 33)), .ref 548, .ref 549, .ref 550, .ref 551, .int (iI (o 38)), .ref 552, .ref 553, .ref 554, .ref 555, .ref 556, .ref 557, .ref 558, .ref 559, .ref 560, .ref 561, .int (iI (o 49)), .ref 562, .ref 563, .ref 564, .ref 565, .ref 566, .ref 567, .ref 568, .ref 569, .int (iI (o 58)), .ref 570, .ref 571, .ref 572, .ref 573, .ref 574, .ref 575, .ref 576, .ref 577, .ref 578, .int (iI (o 68)), .int (iI (o 69)), .int (iI (o 70)), .ref 579]) := hM4780
              exact Or.inr ⟨at4746, en4747, tk4748, nu4749, dg4750, nm4751, wc4752, f4753, g4754, wR4755, wL4756, wK4757, wM4758, wH4759, wS4760, sO4761, sN4762, eP4763, eH4764, hK4765, rfl, hp4767, (by
                    simp only [sp_word]
                    rw [← hc, if_neg (by omega), if_pos (by assumption), if_neg (by omega), eC, eV, hp4768]
                    rfl), (R_ob.rf.up (by omega)).tr hp4769, ((R_ob.rf.up (by omega)).up (by omega)).tr hp4770, (R_ob.rf.up (by omega)).tr hp4771, (R_ob.rf.up (by omega)).tr hp4772, (R_ob.rf.up (by omega)).tr hp4773, (R_ob.rf.up (by omega)).tr hp4774, hp4775, hp4776, hp4777, hp4778, hp4779, h4794, ha4781, ha4782, ha4783, ha4784, ha4785, ha4786, ha4787, ha4788, ha4789, ha4790, ha4791, ((((((((((X_Fr.rf).tr (X_Fr.mono ⟨hf4331.1, hf4331.2⟩ (fun q hq => (by omega)))).tr (X_Fr.of n4347 e4348 (by omega))).tr (X_Fr.of n4353 e4354 (by omega))).tr (X_Fr.of n4359 e4360 (by omega))).tr (X_Fr.of n4365 e4366 (by omega))).tr (X_Fr.of n4371 e4372 (by omega))).tr (X_Fr.of n4377 e4378 (by omega))).tr (X_Fr.of n4662 e4663 (by omega))).tr (X_Fr.mono ⟨hf4678.1, hf4678.2⟩ (fun q hq => (by omega)))).tr (X_Fr.mono ⟨hf4792.1, hf4792.2⟩ (fun q hq => (by omega)))⟩
          · skip
            have c4658 : (so (X_av n c) = 3 ∧ ct (X_av n c) = (Int64.ofNat 1818584692)) := c4658
            exact (show False by first | contradiction | omega).elim
  · skip
    rw [hv4335]
    have h4343 : S4318.1 530 = .inr (11, [.ref 531, .int (iI (o 1)), .ref 532, .int (iI (o 3)), .int (iI (o 4)), .int (iI f4333), .int (iI g4334), .int (iI (o 7)), .int (iI (o 8)), .int (iI (o 9)), .int (iI (o 10)), .int (iI (o 11)), .long nm, .ref 533, .ref 534, .ref 535, .ref 536, .ref 537, .ref 538, .ref 539, .ref 540, .ref 541, .ref 542, .ref 543, .ref 544, .ref 545, .ref 546, .ref 547, .int (iI (o 28)), .int (iI (o 29)), .int (iI (o 30)), .int (iI (o 31)), .int (iI (o 32)), .int (iI (o 33)), .ref 548, .ref 549, .ref 550, .ref 551, .int (iI (o 38)), .ref 552, .ref 553, .ref 554, .ref 555, .ref 556, .ref 557, .ref 558, .ref 559, .ref 560, .ref 561, .int (iI (o 49)), .ref 562, .ref 563, .ref 564, .ref 565, .ref 566, .ref 567, .ref 568, .ref 569, .int (iI (o 58)), .ref 570, .ref 571, .ref 572, .ref 573, .ref 574, .ref 575, .ref 576, .ref 577, .ref 578, .int (iI (o 68)), .int (iI (o 69)), .int (iI (o 70)), .ref 579]) := hM4339
    show X_T sc 157 (22, [(1, .int (iI wi)), (0, .ref 530)], [.int (iI r4332), .int (iI wi), .ref 537], S4318) _
    have h4795 := (hf4340.1 537 (by omega)).trans (hA537)
    refine T_ziast xr_157_22 h4795 (pc' := 23) rfl (fun S4796 h4797 n4798 e4799 => ?_)
    refine T_p xr_157_23 xn_157 (pc' := 24) (ls' := [(1, .int (iI wi)), (0, .ref 530)]) (st' := [.ref 530]) rfl ?_
    have h4800 := (n4798 530 (by decide)).trans (h4343)
    refine T_get xr_157_24 h4800 rfl (v := .ref 538) rfl (pc' := 27) rfl ?_
    refine T_p xr_157_27 xn_157 (pc' := 28) (ls' := [(1, .int (iI wi)), (0, .ref 530)]) (st' := [.int (iI wi), .ref 538]) rfl ?_
    refine T_p xr_157_28 xn_157 (pc' := 29) (ls' := [(1, .int (iI wi)), (0, .ref 530)]) (st' := [.int (iI 0), .int (iI wi), .ref 538]) rfl ?_
    have h4801 := (n4798 538 (by decide)).trans ((hf4340.1 538 (by omega)).trans (hA538))
    refine T_ziast xr_157_29 h4801 (pc' := 30) rfl (fun S4802 h4803 n4804 e4805 => ?_)
    refine T_p xr_157_30 xn_157 (pc' := 31) (ls' := [(1, .int (iI wi)), (0, .ref 530)]) (st' := [.ref 530]) rfl ?_
    have h4806 := (n4804 530 (by decide)).trans (h4800)
    refine T_get xr_157_31 h4806 rfl (v := .ref 539) rfl (pc' := 34) rfl ?_
    refine T_p xr_157_34 xn_157 (pc' := 35) (ls' := [(1, .int (iI wi)), (0, .ref 530)]) (st' := [.int (iI wi), .ref 539]) rfl ?_
    refine T_p xr_157_35 xn_157 (pc' := 36) (ls' := [(1, .int (iI wi)), (0, .ref 530)]) (st' := [.int (iI 0), .int (iI wi), .ref 539]) rfl ?_
    have h4807 := (n4804 539 (by decide)).trans ((n4798 539 (by decide)).trans ((hf4340.1 539 (by omega)).trans (hA539)))
    refine T_ziast xr_157_36 h4807 (pc' := 37) rfl (fun S4808 h4809 n4810 e4811 => ?_)
    refine T_p xr_157_37 xn_157 (pc' := 38) (ls' := [(1, .int (iI wi)), (0, .ref 530)]) (st' := [.ref 530]) rfl ?_
    have h4812 := (n4810 530 (by decide)).trans (h4806)
    refine T_get xr_157_38 h4812 rfl (v := .ref 540) rfl (pc' := 41) rfl ?_
    refine T_p xr_157_41 xn_157 (pc' := 42) (ls' := [(1, .int (iI wi)), (0, .ref 530)]) (st' := [.int (iI wi), .ref 540]) rfl ?_
    refine T_p xr_157_42 xn_157 (pc' := 43) (ls' := [(1, .int (iI wi)), (0, .ref 530)]) (st' := [.int (iI 0), .int (iI wi), .ref 540]) rfl ?_
    have h4813 := (n4810 540 (by decide)).trans ((n4804 540 (by decide)).trans ((n4798 540 (by decide)).trans ((hf4340.1 540 (by omega)).trans (hA540))))
    refine T_ziast xr_157_43 h4813 (pc' := 44) rfl (fun S4814 h4815 n4816 e4817 => ?_)
    refine T_p xr_157_44 xn_157 (pc' := 45) (ls' := [(1, .int (iI wi)), (0, .ref 530)]) (st' := [.ref 530]) rfl ?_
    have h4818 := (n4816 530 (by decide)).trans (h4812)
    refine T_get xr_157_45 h4818 rfl (v := .ref 541) rfl (pc' := 48) rfl ?_
    refine T_p xr_157_48 xn_157 (pc' := 49) (ls' := [(1, .int (iI wi)), (0, .ref 530)]) (st' := [.int (iI wi), .ref 541]) rfl ?_
    refine T_p xr_157_49 xn_157 (pc' := 50) (ls' := [(1, .int (iI wi)), (0, .ref 530)]) (st' := [.int (iI 0), .int (iI wi), .ref 541]) rfl ?_
    have h4819 := (n4816 541 (by decide)).trans ((n4810 541 (by decide)).trans ((n4804 541 (by decide)).trans ((n4798 541 (by decide)).trans ((hf4340.1 541 (by omega)).trans (hA541)))))
    refine T_ziast xr_157_50 h4819 (pc' := 51) rfl (fun S4820 h4821 n4822 e4823 => ?_)
    refine T_p xr_157_51 xn_157 (pc' := 52) (ls' := [(1, .int (iI wi)), (0, .ref 530)]) (st' := [.ref 530]) rfl ?_
    have h4824 := (n4822 530 (by decide)).trans (h4818)
    refine T_get xr_157_52 h4824 rfl (v := .ref 542) rfl (pc' := 55) rfl ?_
    refine T_p xr_157_55 xn_157 (pc' := 56) (ls' := [(1, .int (iI wi)), (0, .ref 530)]) (st' := [.int (iI wi), .ref 542]) rfl ?_
    refine T_p xr_157_56 xn_157 (pc' := 57) (ls' := [(1, .int (iI wi)), (0, .ref 530)]) (st' := [.int (iI (-1)), .int (iI wi), .ref 542]) rfl ?_
    have h4825 := (n4822 542 (by decide)).trans ((n4816 542 (by decide)).trans ((n4810 542 (by decide)).trans ((n4804 542 (by decide)).trans ((n4798 542 (by decide)).trans ((hf4340.1 542 (by omega)).trans (hA542))))))
    refine T_ziast xr_157_57 h4825 (pc' := 58) rfl (fun S4826 h4827 n4828 e4829 => ?_)
    refine T_p xr_157_58 xn_157 (pc' := 59) (ls' := [(1, .int (iI wi)), (0, .ref 530)]) (st' := [.ref 530]) rfl ?_
    have h4830 := (n4828 530 (by decide)).trans (h4824)
    refine T_cv (S := S4826) (q := 530) xr_157_59 xf_140.1 xf_140.2.1 xn_140 (as := []) (r := []) rfl h4830 (Nat.le_of_ble_eq_true rfl) (Nat.le_of_ble_eq_true rfl) (pc' := 62) rfl (ls' := [(0, .ref 530)]) rfl ?_
    refine T_mono (r_isGood sc S4826 (X_ou (X_ou o 5 f4333) 6 g4334) nm h4830 (show 0 ≤ f4333 ∧ f4333 ≤ 5 from by omega)) (fun v4831 S4832 h4833 => ?_)
    rcases h4833 with ⟨hv4834, hf4835⟩
    rw [hv4834]
    rw [hf4835]
    show X_T sc 157 (62, [(1, .int (iI wi)), (0, .ref 530)], [.int (iI (bI (f4333 = 0)))], S4826) _
    refine T_bif_eq xr_157_62 (t := 110) (pc' := 65) rfl rfl (fun c4836 => ?_) (fun c4836 => ?_)
    · skip
      have c4836 : ¬ (f4333 = 0) := c4836
      refine T_p xr_157_110 xn_157 (pc' := 111) (ls' := [(1, .int (iI wi)), (0, .ref 530)]) (st' := [.ref 530]) rfl ?_
      refine T_cv (S := S4826) (q := 530) xr_157_111 xf_140.1 xf_140.2.1 xn_140 (as := []) (r := []) rfl h4830 (Nat.le_of_ble_eq_true rfl) (Nat.le_of_ble_eq_true rfl) (pc' := 114) rfl (ls' := [(0, .ref 530)]) rfl ?_
      refine T_mono (r_isGood sc S4826 (X_ou (X_ou o 5 f4333) 6 g4334) nm h4830 (show 0 ≤ f4333 ∧ f4333 ≤ 5 from by omega)) (fun v4837 S4838 h4839 => ?_)
      rcases h4839 with ⟨hv4840, hf4841⟩
      rw [hv4840]
      rw [hf4841]
      show X_T sc 157 (114, [(1, .int (iI wi)), (0, .ref 530)], [.int (iI (bI (f4333 = 0)))], S4826) _
      refine T_bif_eq xr_157_114 (t := 135) (pc' := 117) rfl rfl (fun c4842 => ?_) (fun c4842 => ?_)
      · skip
        have c4842 : ¬ (f4333 = 0) := c4842
        refine T_p xr_157_135 xn_157 (pc' := 136) (ls' := [(1, .int (iI wi)), (0, .ref 530)]) (st' := [.ref 530]) rfl ?_
        refine T_get xr_157_136 h4830 rfl (v := .int (iI (o 7))) rfl (pc' := 139) rfl ?_
        refine T_p xr_157_139 xn_157 (pc' := 140) (ls' := [(2, .int (iI (o 7))), (1, .int (iI wi)), (0, .ref 530)]) (st' := []) rfl ?_
        refine T_p xr_157_140 xn_157 (pc' := 141) (ls' := [(2, .int (iI (o 7))), (1, .int (iI wi)), (0, .ref 530)]) (st' := [.ref 530]) rfl ?_
        refine T_cv (S := S4826) (q := 530) xr_157_141 xf_140.1 xf_140.2.1 xn_140 (as := []) (r := []) rfl h4830 (Nat.le_of_ble_eq_true rfl) (Nat.le_of_ble_eq_true rfl) (pc' := 144) rfl (ls' := [(0, .ref 530)]) rfl ?_
        refine T_mono (r_isGood sc S4826 (X_ou (X_ou o 5 f4333) 6 g4334) nm h4830 (show 0 ≤ f4333 ∧ f4333 ≤ 5 from by omega)) (fun v4843 S4844 h4845 => ?_)
        rcases h4845 with ⟨hv4846, hf4847⟩
        rw [hv4846]
        rw [hf4847]
        show X_T sc 157 (144, [(2, .int (iI (o 7))), (1, .int (iI wi)), (0, .ref 530)], [.int (iI (bI (f4333 = 0)))], S4826) _
        refine T_bif_eq xr_157_144 (t := 153) (pc' := 147) rfl rfl (fun c4848 => ?_) (fun c4848 => ?_)
        · skip
          have c4848 : ¬ (f4333 = 0) := c4848
          refine T_p xr_157_153 xn_157 (pc' := 154) (ls' := [(2, .int (iI (o 7))), (1, .int (iI wi)), (0, .ref 530)]) (st' := [.int (iI 0)]) rfl ?_
          refine T_p xr_157_154 xn_157 (pc' := 155) (ls' := [(3, .int (iI 0)), (2, .int (iI (o 7))), (1, .int (iI wi)), (0, .ref 530)]) (st' := []) rfl ?_
          refine T_p xr_157_155 xn_157 (pc' := 156) (ls' := [(3, .int (iI 0)), (2, .int (iI (o 7))), (1, .int (iI wi)), (0, .ref 530)]) (st' := [.ref 530]) rfl ?_
          refine T_cv (S := S4826) (q := 530) xr_157_156 xf_140.1 xf_140.2.1 xn_140 (as := []) (r := []) rfl h4830 (Nat.le_of_ble_eq_true rfl) (Nat.le_of_ble_eq_true rfl) (pc' := 159) rfl (ls' := [(0, .ref 530)]) rfl ?_
          refine T_mono (r_isGood sc S4826 (X_ou (X_ou o 5 f4333) 6 g4334) nm h4830 (show 0 ≤ f4333 ∧ f4333 ≤ 5 from by omega)) (fun v4849 S4850 h4851 => ?_)
          rcases h4851 with ⟨hv4852, hf4853⟩
          rw [hv4852]
          rw [hf4853]
          show X_T sc 157 (159, [(3, .int (iI 0)), (2, .int (iI (o 7))), (1, .int (iI wi)), (0, .ref 530)], [.int (iI (bI (f4333 = 0)))], S4826) _
          refine T_bif_eq xr_157_159 (t := 205) (pc' := 162) rfl rfl (fun c4854 => ?_) (fun c4854 => ?_)
          · skip
            have c4854 : ¬ (f4333 = 0) := c4854
            refine T_p xr_157_205 xn_157 (pc' := 206) (ls' := [(3, .int (iI 0)), (2, .int (iI (o 7))), (1, .int (iI wi)), (0, .ref 530)]) (st' := [.ref 530]) rfl ?_
            refine T_cv (S := S4826) (q := 530) xr_157_206 xf_140.1 xf_140.2.1 xn_140 (as := []) (r := []) rfl h4830 (Nat.le_of_ble_eq_true rfl) (Nat.le_of_ble_eq_true rfl) (pc' := 209) rfl (ls' := [(0, .ref 530)]) rfl ?_
            refine T_mono (r_isGood sc S4826 (X_ou (X_ou o 5 f4333) 6 g4334) nm h4830 (show 0 ≤ f4333 ∧ f4333 ≤ 5 from by omega)) (fun v4855 S4856 h4857 => ?_)
            rcases h4857 with ⟨hv4858, hf4859⟩
            rw [hv4858]
            rw [hf4859]
            show X_T sc 157 (209, [(3, .int (iI 0)), (2, .int (iI (o 7))), (1, .int (iI wi)), (0, .ref 530)], [.int (iI (bI (f4333 = 0)))], S4826) _
            refine T_bif_eq xr_157_209 (t := 247) (pc' := 212) rfl rfl (fun c4860 => ?_) (fun c4860 => ?_)
            · skip
              have c4860 : ¬ (f4333 = 0) := c4860
              refine T_p xr_157_247 xn_157 (pc' := 248) (ls' := [(3, .int (iI 0)), (2, .int (iI (o 7))), (1, .int (iI wi)), (0, .ref 530)]) (st' := [.ref 530]) rfl ?_
              refine T_cv (S := S4826) (q := 530) xr_157_248 xf_140.1 xf_140.2.1 xn_140 (as := []) (r := []) rfl h4830 (Nat.le_of_ble_eq_true rfl) (Nat.le_of_ble_eq_true rfl) (pc' := 251) rfl (ls' := [(0, .ref 530)]) rfl ?_
              refine T_mono (r_isGood sc S4826 (X_ou (X_ou o 5 f4333) 6 g4334) nm h4830 (show 0 ≤ f4333 ∧ f4333 ≤ 5 from by omega)) (fun v4861 S4862 h4863 => ?_)
              rcases h4863 with ⟨hv4864, hf4865⟩
              rw [hv4864]
              rw [hf4865]
              show X_T sc 157 (251, [(3, .int (iI 0)), (2, .int (iI (o 7))), (1, .int (iI wi)), (0, .ref 530)], [.int (iI (bI (f4333 = 0)))], S4826) _
              refine T_bif_eq xr_157_251 (t := 277) (pc' := 254) rfl rfl (fun c4866 => ?_) (fun c4866 => ?_)
              · skip
                have c4866 : ¬ (f4333 = 0) := c4866
                refine T_p xr_157_277 xn_157 (pc' := 278) (ls' := [(3, .int (iI 0)), (2, .int (iI (o 7))), (1, .int (iI wi)), (0, .ref 530)]) (st' := [.ref 530]) rfl ?_
                refine T_cv (S := S4826) (q := 530) xr_157_278 xf_140.1 xf_140.2.1 xn_140 (as := []) (r := []) rfl h4830 (Nat.le_of_ble_eq_true rfl) (Nat.le_of_ble_eq_true rfl) (pc' := 281) rfl (ls' := [(0, .ref 530)]) rfl ?_
                refine T_mono (r_isGood sc S4826 (X_ou (X_ou o 5 f4333) 6 g4334) nm h4830 (show 0 ≤ f4333 ∧ f4333 ≤ 5 from by omega)) (fun v4867 S4868 h4869 => ?_)
                rcases h4869 with ⟨hv4870, hf4871⟩
                rw [hv4870]
                rw [hf4871]
                show X_T sc 157 (281, [(3, .int (iI 0)), (2, .int (iI (o 7))), (1, .int (iI wi)), (0, .ref 530)], [.int (iI (bI (f4333 = 0)))], S4826) _
                refine T_bif_eq xr_157_281 (t := 302) (pc' := 284) rfl rfl (fun c4872 => ?_) (fun c4872 => ?_)
                · skip
                  have c4872 : ¬ (f4333 = 0) := c4872
                  refine T_p xr_157_302 xn_157 (pc' := 303) (ls' := [(3, .int (iI 0)), (2, .int (iI (o 7))), (1, .int (iI wi)), (0, .ref 530)]) (st' := [.ref 530]) rfl ?_
                  refine T_p xr_157_303 xn_157 (pc' := 304) (ls' := [(3, .int (iI 0)), (2, .int (iI (o 7))), (1, .int (iI wi)), (0, .ref 530)]) (st' := [.ref 530, .ref 530]) rfl ?_
                  refine T_get xr_157_304 h4830 rfl (v := .int (iI (o 30))) rfl (pc' := 307) rfl ?_
                  refine T_p xr_157_307 xn_157 (pc' := 308) (ls' := [(3, .int (iI 0)), (2, .int (iI (o 7))), (1, .int (iI wi)), (0, .ref 530)]) (st' := [.int (iI 1), .int (iI (o 30)), .ref 530]) rfl ?_
                  refine T_ziadd xr_157_308 (z := (o 30) + 1) rfl (pc' := 309) rfl ?_
                  refine T_ie (y := iI (wc + 1)) (by rw [hwc]) ?_
                  refine T_put xr_157_309 h4830 rfl (Nat.le_of_ble_eq_true rfl) rfl (fs' := [.ref 531, .int (iI (o 1)), .ref 532, .int (iI (o 3)), .int (iI (o 4)), .int (iI f4333), .int (iI g4334), .int (iI (o 7)), .int (iI (o 8)), .int (iI (o 9)), .int (iI (o 10)), .int (iI (o 11)), .long nm, .ref 533, .ref 534, .ref 535, .ref 536, .ref 537, .ref 538, .ref 539, .ref 540, .ref 541, .ref 542, .ref 543, .ref 544, .ref 545, .ref 546, .ref 547, .int (iI (o 28)), .int (iI (o 29)), .int (iI (wc + 1)), .int (iI (o 31)), .int (iI (o 32)), .int (iI (o 33)), .ref 548, .ref 549, .ref 550, .ref 551, .int (iI (o 38)), .ref 552, .ref 553, .ref 554, .ref 555, .ref 556, .ref 557, .ref 558, .ref 559, .ref 560, .ref 561, .int (iI (o 49)), .ref 562, .ref 563, .ref 564, .ref 565, .ref 566, .ref 567, .ref 568, .ref 569, .int (iI (o 58)), .ref 570, .ref 571, .ref 572, .ref 573, .ref 574, .ref 575, .ref 576, .ref 577, .ref 578, .int (iI (o 68)), .int (iI (o 69)), .int (iI (o 70)), .ref 579]) rfl (pc' := 312) rfl (fun S4873 h4874 n4875 e4876 => ?_)
                  refine T_p xr_157_312 xn_157 (pc' := 313) (ls' := [(3, .int (iI 0)), (2, .int (iI (o 7))), (1, .int (iI wi)), (0, .ref 530)]) (st' := [.ref 530]) rfl ?_
                  refine T_cv (S := S4873) (q := 530) xr_157_313 xf_140.1 xf_140.2.1 xn_140 (as := []) (r := []) rfl h4874 (Nat.le_of_ble_eq_true rfl) (Nat.le_of_ble_eq_true rfl) (pc' := 316) rfl (ls' := [(0, .ref 530)]) rfl ?_
                  refine T_mono (r_isGood sc S4873 (X_ou (X_ou (X_ou o 5 f4333) 6 g4334) 30 (wc + 1)) nm h4874 (show 0 ≤ f4333 ∧ f4333 ≤ 5 from by omega)) (fun v4877 S4878 h4879 => ?_)
                  rcases h4879 with ⟨hv4880, hf4881⟩
                  rw [hv4880]
                  rw [hf4881]
                  show X_T sc 157 (316, [(3, .int (iI 0)), (2, .int (iI (o 7))), (1, .int (iI wi)), (0, .ref 530)], [.int (iI (bI (f4333 = 0)))], S4873) _
                  refine T_bif_eq xr_157_316 (t := 325) (pc' := 319) rfl rfl (fun c4882 => ?_) (fun c4882 => ?_)
                  · skip
                    have c4882 : ¬ (f4333 = 0) := c4882
                    refine T_vret xr_157_325 xf_157.2.2 ?_
                    refine hQ _ _ ?_
                    have h4883 := (n4875 537 (by decide)).trans ((n4828 537 (by decide)).trans ((n4822 537 (by decide)).trans ((n4816 537 (by decide)).trans ((n4810 537 (by decide)).trans ((n4804 537 (by decide)).trans (h4797))))))
                    have h4884 := (n4875 538 (by decide)).trans ((n4828 538 (by decide)).trans ((n4822 538 (by decide)).trans ((n4816 538 (by decide)).trans ((n4810 538 (by decide)).trans (h4803)))))
                    have h4885 := (n4875 539 (by decide)).trans ((n4828 539 (by decide)).trans ((n4822 539 (by decide)).trans ((n4816 539 (by decide)).trans (h4809))))
                    have h4886 := (n4875 540 (by decide)).trans ((n4828 540 (by decide)).trans ((n4822 540 (by decide)).trans (h4815)))
                    have h4887 := (n4875 541 (by decide)).trans ((n4828 541 (by decide)).trans (h4821))
                    have h4888 := (n4875 542 (by decide)).trans (h4827)
                    have h4889 := (n4875 543 (by decide)).trans ((n4828 543 (by decide)).trans ((n4822 543 (by decide)).trans ((n4816 543 (by decide)).trans ((n4810 543 (by decide)).trans ((n4804 543 (by decide)).trans ((n4798 543 (by decide)).trans ((hf4340.1 543 (by omega)).trans (hA543))))))))
                    have h4890 := (n4875 544 (by decide)).trans ((n4828 544 (by decide)).trans ((n4822 544 (by decide)).trans ((n4816 544 (by decide)).trans ((n4810 544 (by decide)).trans ((n4804 544 (by decide)).trans ((n4798 544 (by decide)).trans ((hf4340.1 544 (by omega)).trans (hA544))))))))
                    have h4891 := (n4875 545 (by decide)).trans ((n4828 545 (by decide)).trans ((n4822 545 (by decide)).trans ((n4816 545 (by decide)).trans ((n4810 545 (by decide)).trans ((n4804 545 (by decide)).trans ((n4798 545 (by decide)).trans ((hf4340.1 545 (by omega)).trans (hA545))))))))
                    have h4892 := (n4875 546 (by decide)).trans ((n4828 546 (by decide)).trans ((n4822 546 (by decide)).trans ((n4816 546 (by decide)).trans ((n4810 546 (by decide)).trans ((n4804 546 (by decide)).trans ((n4798 546 (by decide)).trans ((hf4340.1 546 (by omega)).trans (hA546))))))))
                    have h4893 := (n4875 547 (by decide)).trans ((n4828 547 (by decide)).trans ((n4822 547 (by decide)).trans ((n4816 547 (by decide)).trans ((n4810 547 (by decide)).trans ((n4804 547 (by decide)).trans ((n4798 547 (by decide)).trans ((hf4340.1 547 (by omega)).trans (hA547))))))))
                    refine Or.inr ⟨o 7, o 8, o 9, o 10, o 11, nm, wc + 1, f4333, g4334, (X_ug wR wi r4332), (X_ug wL wi 0), (X_ug wK wi 0), (X_ug wM wi 0), (X_ug wH wi 0), (X_ug wS wi (-1)), sO, sN, eP, eH, hK, rfl, by omega, ?_, by first | exact R_ob.rf | exact R_ob.rf.up (by omega) | exact (R_ob.rf.up (by omega)).up (by omega), by first | exact R_ob.rf | exact R_ob.rf.up (by omega) | exact (R_ob.rf.up (by omega)).up (by omega), by first | exact R_ob.rf | exact R_ob.rf.up (by omega) | exact (R_ob.rf.up (by omega)).up (by omega), by first | exact R_ob.rf | exact R_ob.rf.up (by omega) | exact (R_ob.rf.up (by omega)).up (by omega), by first | exact R_ob.rf | exact R_ob.rf.up (by omega) | exact (R_ob.rf.up (by omega)).up (by omega), by first | exact R_ob.rf | exact R_ob.rf.up (by omega) | exact (R_ob.rf.up (by omega)).up (by omega), by first | exact R_ob.rf | exact R_ob.rf.up (by omega) | exact (R_ob.rf.up (by omega)).up (by omega), by first | exact R_ob.rf | exact R_ob.rf.up (by omega) | exact (R_ob.rf.up (by omega)).up (by omega), by first | exact R_ob.rf | exact R_ob.rf.up (by omega) | exact (R_ob.rf.up (by omega)).up (by omega), by first | exact R_ob.rf | exact R_ob.rf.up (by omega) | exact (R_ob.rf.up (by omega)).up (by omega), by first | exact R_ob.rf | exact R_ob.rf.up (by omega) | exact (R_ob.rf.up (by omega)).up (by omega), h4874, h4883, h4884, h4885, h4886, h4887, h4888, h4889, h4890, h4891, h4892, h4893, ((((((((X_Fr.rf).tr (X_Fr.mono ⟨hf4340.1, hf4340.2⟩ (fun q hq => (by omega)))).tr (X_Fr.of n4798 e4799 (by omega))).tr (X_Fr.of n4804 e4805 (by omega))).tr (X_Fr.of n4810 e4811 (by omega))).tr (X_Fr.of n4816 e4817 (by omega))).tr (X_Fr.of n4822 e4823 (by omega))).tr (X_Fr.of n4828 e4829 (by omega))).tr (X_Fr.of n4875 e4876 (by omega))⟩
                    simp only [sp_word]
                    rw [← hc]
                    (repeat (first | rw [if_pos (by assumption)] | rw [if_neg (by assumption)] | rw [if_neg (by omega)] | rw [if_pos (by omega)]))
                    all_goals first | rfl | ((repeat' split) <;> first | rfl | (exfalso; omega) | contradiction)
                  · skip
                    have c4882 : (f4333 = 0) := c4882
                    exact (show False by first | contradiction | omega).elim
                · skip
                  have c4872 : (f4333 = 0) := c4872
                  exact (show False by first | contradiction | omega).elim
              · skip
                have c4866 : (f4333 = 0) := c4866
                exact (show False by first | contradiction | omega).elim
            · skip
              have c4860 : (f4333 = 0) := c4860
              exact (show False by first | contradiction | omega).elim
          · skip
            have c4854 : (f4333 = 0) := c4854
            exact (show False by first | contradiction | omega).elim
        · skip
          have c4848 : (f4333 = 0) := c4848
          exact (show False by first | contradiction | omega).elim
      · skip
        have c4842 : (f4333 = 0) := c4842
        exact (show False by first | contradiction | omega).elim
    · skip
      have c4836 : (f4333 = 0) := c4836
      exact (show False by first | contradiction | omega).elim
