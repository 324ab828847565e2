theorem xr_73_0 : X_row 73 0 = some (0, (.iconst 0, 1), (0, 0, 0)) := by decide +kernel
theorem xr_73_1 : X_row 73 1 = some (1, (.istore_n 2, 1), (0, 0, 0)) := by decide +kernel
theorem xr_73_2 : X_row 73 2 = some (2, (.iload_n 2, 1), (0, 0, 0)) := by decide +kernel
theorem xr_73_3 : X_row 73 3 = some (3, (.bipush 8, 2), (0, 0, 0)) := by decide +kernel
theorem xr_73_5 : X_row 73 5 = some (5, (.if_icmp .gt 164, 3), (0, 0, 0)) := by decide +kernel
theorem xr_73_8 : X_row 73 8 = some (8, (.aload_n 0, 1), (0, 0, 0)) := by decide +kernel
theorem xr_73_9 : X_row 73 9 = some (9, (.getfield 23, 3), (4, 0, 18)) := by decide +kernel
theorem xr_73_12 : X_row 73 12 = some (12, (.invokevirtual 39, 3), (44, 6, 0)) := by decide +kernel
theorem xr_73_15 : X_row 73 15 = some (15, (.bipush 61, 2), (0, 0, 0)) := by decide +kernel
theorem xr_73_17 : X_row 73 17 = some (17, (.if_icmp .eq 15, 3), (0, 0, 0)) := by decide +kernel
theorem xr_73_20 : X_row 73 20 = some (20, (.aload_n 0, 1), (0, 0, 0)) := by decide +kernel
theorem xr_73_21 : X_row 73 21 = some (21, (.getfield 23, 3), (4, 0, 18)) := by decide +kernel
theorem xr_73_24 : X_row 73 24 = some (24, (.invokevirtual 39, 3), (44, 6, 0)) := by decide +kernel
theorem xr_73_27 : X_row 73 27 = some (27, (.bipush 59, 2), (0, 0, 0)) := by decide +kernel
theorem xr_73_29 : X_row 73 29 = some (29, (.if_icmp .ne 5, 3), (0, 0, 0)) := by decide +kernel
theorem xr_73_32 : X_row 73 32 = some (32, (.iconst 1, 1), (0, 0, 0)) := by decide +kernel
theorem xr_73_33 : X_row 73 33 = some (33, (.ireturn, 1), (0, 0, 0)) := by decide +kernel
theorem xr_73_34 : X_row 73 34 = some (34, (.aload_n 0, 1), (0, 0, 0)) := by decide +kernel
theorem xr_73_35 : X_row 73 35 = some (35, (.getfield 23, 3), (4, 0, 18)) := by decide +kernel
theorem xr_73_38 : X_row 73 38 = some (38, (.invokevirtual 39, 3), (44, 6, 0)) := by decide +kernel
theorem xr_73_41 : X_row 73 41 = some (41, (.bipush 6, 2), (0, 0, 0)) := by decide +kernel
theorem xr_73_43 : X_row 73 43 = some (43, (.if_icmp .ne 16, 3), (0, 0, 0)) := by decide +kernel
theorem xr_73_46 : X_row 73 46 = some (46, (.aload_n 1, 1), (0, 0, 0)) := by decide +kernel
theorem xr_73_47 : X_row 73 47 = some (47, (.getfield 164, 3), (8, 3, 5)) := by decide +kernel
theorem xr_73_50 : X_row 73 50 = some (50, (.bipush 8, 2), (0, 0, 0)) := by decide +kernel
theorem xr_73_52 : X_row 73 52 = some (52, (.if_icmp .ge 7, 3), (0, 0, 0)) := by decide +kernel
theorem xr_73_55 : X_row 73 55 = some (55, (.iconst 1, 1), (0, 0, 0)) := by decide +kernel
theorem xr_73_56 : X_row 73 56 = some (56, (.goto 4, 3), (0, 0, 0)) := by decide +kernel
theorem xr_73_59 : X_row 73 59 = some (59, (.iconst 0, 1), (0, 0, 0)) := by decide +kernel
theorem xr_73_60 : X_row 73 60 = some (60, (.istore_n 3, 1), (0, 0, 0)) := by decide +kernel
theorem xr_73_61 : X_row 73 61 = some (61, (.aload_n 0, 1), (0, 0, 0)) := by decide +kernel
theorem xr_73_62 : X_row 73 62 = some (62, (.getfield 23, 3), (4, 0, 18)) := by decide +kernel
theorem xr_73_65 : X_row 73 65 = some (65, (.invokevirtual 39, 3), (44, 6, 0)) := by decide +kernel
theorem xr_73_68 : X_row 73 68 = some (68, (.bipush 95, 2), (0, 0, 0)) := by decide +kernel
theorem xr_73_70 : X_row 73 70 = some (70, (.if_icmp .ne 14, 3), (0, 0, 0)) := by decide +kernel
theorem xr_73_73 : X_row 73 73 = some (73, (.aload_n 1, 1), (0, 0, 0)) := by decide +kernel
theorem xr_73_74 : X_row 73 74 = some (74, (.invokevirtual 174, 3), (92, 54, 0)) := by decide +kernel
theorem xr_73_77 : X_row 73 77 = some (77, (.ifCond .eq 7, 3), (0, 0, 0)) := by decide +kernel
theorem xr_73_80 : X_row 73 80 = some (80, (.iconst 1, 1), (0, 0, 0)) := by decide +kernel
theorem xr_73_81 : X_row 73 81 = some (81, (.goto 4, 3), (0, 0, 0)) := by decide +kernel
theorem xr_73_84 : X_row 73 84 = some (84, (.iconst 0, 1), (0, 0, 0)) := by decide +kernel
theorem xr_73_85 : X_row 73 85 = some (85, (.istore 4, 2), (0, 0, 0)) := by decide +kernel
theorem xr_73_87 : X_row 73 87 = some (87, (.iload_n 3, 1), (0, 0, 0)) := by decide +kernel
theorem xr_73_88 : X_row 73 88 = some (88, (.ifCond .ne 11, 3), (0, 0, 0)) := by decide +kernel
theorem xr_73_91 : X_row 73 91 = some (91, (.iload 4, 2), (0, 0, 0)) := by decide +kernel
theorem xr_73_93 : X_row 73 93 = some (93, (.ifCond .ne 6, 3), (0, 0, 0)) := by decide +kernel
theorem xr_73_96 : X_row 73 96 = some (96, (.goto 73, 3), (0, 0, 0)) := by decide +kernel
theorem xr_73_99 : X_row 73 99 = some (99, (.aload_n 0, 1), (0, 0, 0)) := by decide +kernel
theorem xr_73_100 : X_row 73 100 = some (100, (.getfield 23, 3), (4, 0, 18)) := by decide +kernel
theorem xr_73_103 : X_row 73 103 = some (103, (.invokevirtual 86, 3), (46, 20, 0)) := by decide +kernel
theorem xr_73_106 : X_row 73 106 = some (106, (.lstore 5, 2), (0, 0, 0)) := by decide +kernel
theorem xr_73_108 : X_row 73 108 = some (108, (.aload_n 0, 1), (0, 0, 0)) := by decide +kernel
theorem xr_73_109 : X_row 73 109 = some (109, (.getfield 23, 3), (4, 0, 18)) := by decide +kernel
theorem xr_73_112 : X_row 73 112 = some (112, (.invokevirtual 80, 3), (48, 18, 0)) := by decide +kernel
theorem xr_73_115 : X_row 73 115 = some (115, (.iload_n 3, 1), (0, 0, 0)) := by decide +kernel
theorem xr_73_116 : X_row 73 116 = some (116, (.ifCond .eq 12, 3), (0, 0, 0)) := by decide +kernel
theorem xr_73_119 : X_row 73 119 = some (119, (.aload_n 1, 1), (0, 0, 0)) := by decide +kernel
theorem xr_73_120 : X_row 73 120 = some (120, (.lload 5, 2), (0, 0, 0)) := by decide +kernel
theorem xr_73_122 : X_row 73 122 = some (122, (.invokevirtual 177, 3), (91, 56, 0)) := by decide +kernel
theorem xr_73_125 : X_row 73 125 = some (125, (.goto 38, 3), (0, 0, 0)) := by decide +kernel
theorem xr_73_128 : X_row 73 128 = some (128, (.aload_n 0, 1), (0, 0, 0)) := by decide +kernel
theorem xr_73_129 : X_row 73 129 = some (129, (.getfield 23, 3), (4, 0, 18)) := by decide +kernel
theorem xr_73_132 : X_row 73 132 = some (132, (.invokevirtual 39, 3), (44, 6, 0)) := by decide +kernel
theorem xr_73_135 : X_row 73 135 = some (135, (.iconst 2, 1), (0, 0, 0)) := by decide +kernel
theorem xr_73_136 : X_row 73 136 = some (136, (.if_icmp .ne 10, 3), (0, 0, 0)) := by decide +kernel
theorem xr_73_139 : X_row 73 139 = some (139, (.aload_n 0, 1), (0, 0, 0)) := by decide +kernel
theorem xr_73_140 : X_row 73 140 = some (140, (.invokevirtual 120, 3), (69, 42, 0)) := by decide +kernel
theorem xr_73_143 : X_row 73 143 = some (143, (.goto 4, 3), (0, 0, 0)) := by decide +kernel
theorem xr_73_146 : X_row 73 146 = some (146, (.iconst 0, 1), (0, 0, 0)) := by decide +kernel
theorem xr_73_147 : X_row 73 147 = some (147, (.istore 7, 2), (0, 0, 0)) := by decide +kernel
theorem xr_73_149 : X_row 73 149 = some (149, (.iload 7, 2), (0, 0, 0)) := by decide +kernel
theorem xr_73_151 : X_row 73 151 = some (151, (.iconst (-1), 1), (0, 0, 0)) := by decide +kernel
theorem xr_73_152 : X_row 73 152 = some (152, (.if_icmp .ne 5, 3), (0, 0, 0)) := by decide +kernel
theorem xr_73_155 : X_row 73 155 = some (155, (.iconst 0, 1), (0, 0, 0)) := by decide +kernel
theorem xr_73_156 : X_row 73 156 = some (156, (.ireturn, 1), (0, 0, 0)) := by decide +kernel
theorem xr_73_157 : X_row 73 157 = some (157, (.aload_n 1, 1), (0, 0, 0)) := by decide +kernel
theorem xr_73_158 : X_row 73 158 = some (158, (.iload 7, 2), (0, 0, 0)) := by decide +kernel
theorem xr_73_160 : X_row 73 160 = some (160, (.invokevirtual 180, 3), (93, 58, 0)) := by decide +kernel
theorem xr_73_163 : X_row 73 163 = some (163, (.iinc 2 1, 3), (0, 0, 0)) := by decide +kernel
theorem xr_73_166 : X_row 73 166 = some (166, (.goto (-164), 3), (0, 0, 0)) := by decide +kernel
theorem xr_73_169 : X_row 73 169 = some (169, (.aload_n 0, 1), (0, 0, 0)) := by decide +kernel
theorem xr_73_170 : X_row 73 170 = some (170, (.invokevirtual 67, 3), (63, 12, 0)) := by decide +kernel
theorem xr_73_173 : X_row 73 173 = some (173, (.iconst 0, 1), (0, 0, 0)) := by decide +kernel
theorem xr_73_174 : X_row 73 174 = some (174, (.ireturn, 1), (0, 0, 0)) := by decide +kernel
theorem xn_73 : X_nL 73 = 8 := by decide +kernel
theorem xf_73 : X_na 73 = 1 ∧ X_ci 73 = 4 ∧ X_rt 73 = (some .boolean) := by decide +kernel
def X_aP (d : Nat → Int → Int) : Nat → Int → Int := X_wu d 3 (fun _ => d 3 0 + 1)
def X_aH (d : Nat → Int → Int) (k : Int) : Nat → Int → Int := X_wu (X_wu (X_wu (X_wu d 8 (X_ug (d 8) (d 3 0) (d 4 0))) 9 (X_ug (d 9) (d 4 0) k)) 3 (fun _ => d 3 0 + 1)) 4 (fun _ => d 4 0 + 1)
theorem X_wr_P {d : Nat → Int → Int} (h : X_wr d) (h3 : d 3 0 < 8) : X_wr (X_aP d) := X_wr_3 h (by have := h.2.2.2.1; omega)
theorem X_wr_H {d : Nat → Int → Int} {k : Int} (h : X_wr d) (h3 : d 3 0 < 8) (h4 : d 4 0 < 4) : X_wr (X_aH d k) := X_wr_4 (X_wr_3 (X_wr_9 (X_wr_8 h)) (by have := h.2.2.2.1; omega)) (by have := h.2.2.2.2.1; omega)
/-- a word's elements up to the = or ; behind them -/
noncomputable def sp_el (n : Int) (so : Int → Int) (ct : Int → Int64) (kn : Int → Int64) (kc : Int) : Nat → Int → (Nat → Int → Int) → (Int → Int64) → Option (Int × (Nat → Int → Int) × (Int → Int64))
  | 0, _, _, _ => none
  | k + 1, c, d, q => if so c = 61 then some (c, d, q) else if so c = 59 then some (c, d, q) else
    if so c = 6 ∧ d 3 0 < 8 then sp_el n so ct kn kc k (X_av n c) (X_aP d) (X_ug q (d 3 0) (ct c)) else
    @ite _ (so c = 95 ∧ (d 3 0 < 8 ∧ d 4 0 < 4 ∧ ¬ X_hl d q (d 3 0 - 1))) (Classical.propDecidable _)
      (if so (X_av n c) = 2 then (if X_ix kn kc (ct (X_av n c)) = -1 then none else sp_el n so ct kn kc k (X_av n (X_av n c)) (X_aH d (X_ix kn kc (ct (X_av n c)))) (X_ug q (d 3 0) 0)) else sp_el n so ct kn kc k (X_av n c) (X_aH d 0) (X_ug q (d 3 0) 0)) none
theorem sp_el_s {n : Int} {so : Int → Int} {ct : Int → Int64} {kn : Int → Int64} {kc i c : Int} {d : Nat → Int → Int} {q : Int → Int64} (h : 0 ≤ i ∧ i ≤ 8) : sp_el n so ct kn kc (9 - i).toNat c d q = if so c = 61 then some (c, d, q) else if so c = 59 then some (c, d, q) else
    if so c = 6 ∧ d 3 0 < 8 then sp_el n so ct kn kc (9 - (i + 1)).toNat (X_av n c) (X_aP d) (X_ug q (d 3 0) (ct c)) else
    @ite _ (so c = 95 ∧ (d 3 0 < 8 ∧ d 4 0 < 4 ∧ ¬ X_hl d q (d 3 0 - 1))) (Classical.propDecidable _)
      (if so (X_av n c) = 2 then (if X_ix kn kc (ct (X_av n c)) = -1 then none else sp_el n so ct kn kc (9 - (i + 1)).toNat (X_av n (X_av n c)) (X_aH d (X_ix kn kc (ct (X_av n c)))) (X_ug q (d 3 0) 0)) else sp_el n so ct kn kc (9 - (i + 1)).toNat (X_av n c) (X_aH d 0) (X_ug q (d 3 0) 0)) none := by
  rw [show (9 - i).toNat = (9 - (i + 1)).toNat + 1 by omega]
  rfl
theorem c_parseElements (sc : X_Sc) (S : X_S) (B : Nat) (fl fp at_ n cur : Int) (so pl : Int → Int) (ct : Int → Int64) (rc kc wc : Int) (rn : Int → Int64) (lo : Int → Int) (kn : Int → Int64) (ab : Int → Int) (a : Nat) (d : Nat → Int → Int) (q : Int → Int64) (hB : 4 ≤ B ∧ B + 246 ≤ 496) (ha : B + 6 ≤ a ∧ a + 7 < B + 246) (hp : C_pa S B fl fp) (hx : C_lx S at_ n cur so pl ct) (hcu : 0 ≤ cur ∧ cur < n ∧ n ≤ 2001) (hso : ∀ i, 0 ≤ i → i < n → 0 ≤ so i ∧ so i ≤ 255) (hb : C_bk S B rc kc wc rn lo kn ab) (hw : C_wd S a d q) (hr : X_wr d) : X_T sc 73 (0, [(0, .ref 496), (1, .ref a)], [], S) (fun v S' => (v = some (.int (iI 1)) ∧ ∃ c2 d2 q2, sp_el n so ct kn kc 9 cur d q = some (c2, d2, q2) ∧ C_pa S' B fl fp ∧ S'.1 497 = .inr (3, [.ref 2, .int (iI at_), .int (iI n), .ref 498, .ref 499, .ref 500, .int (iI (c2))]) ∧ (0 ≤ c2 ∧ c2 < n) ∧ C_wd S' a d2 q2 ∧ X_wr d2 ∧ X_Fr (fun q => q = 496 ∨ q = 497 ∨ (a ≤ q ∧ q ≤ a + 7)) S S') ∨ (v = some (.int (iI 0)) ∧ sp_el n so ct kn kc 9 cur d q = none ∧ (∃ fl' fp', (¬ fl' = 0 ∧ 0 ≤ fl' ∧ fl' ≤ 5) ∧ C_pa S' B fl' fp') ∧ (∃ c2 d2 q2, S'.1 497 = .inr (3, [.ref 2, .int (iI at_), .int (iI n), .ref 498, .ref 499, .ref 500, .int (iI (c2))]) ∧ (0 ≤ c2 ∧ c2 < n) ∧ C_wd S' a d2 q2 ∧ X_wr d2) ∧ X_Fr (fun q => q = 496 ∨ q = 497 ∨ (a ≤ q ∧ q ≤ a + 7)) S S')) := by
  obtain ⟨hb0, hb1, hb2, hb3, hb4, ⟨f, hb5, hf⟩, ⟨hrc, hrcb⟩, ⟨hkc, hkcb⟩, ⟨hwc, hwcb⟩⟩ := id hb
  obtain ⟨⟨hr0, hr0b⟩, ⟨hr1, hr1b⟩, ⟨hr2, hr2b⟩, ⟨hr3, hr3b⟩, ⟨hr4, hr4b⟩, ⟨hr5, hr5b⟩, ⟨hr6, hr6b⟩, ⟨hr7, hr7b⟩⟩ := id hr
  refine X_QI (fun Q hQ => ?_)
  refine T_p xr_73_0 xn_73 (pc' := 1) (ls' := [(0, .ref 496), (1, .ref a)]) (st' := [.int (iI 0)]) rfl ?_
  refine T_p xr_73_1 xn_73 (pc' := 2) (ls' := [(2, .int (iI 0)), (0, .ref 496), (1, .ref a)]) (st' := []) rfl ?_
  have L1466 : ∀ (m1468 : Nat) (S1471 : X_S) (i : Int) (c1 : Int) (d1 : Nat → Int → Int) (q1 : Int → Int64) (hp1 : S1471.1 496 = .inr (4, [.ref 497, .ref B, .int (iI fl), .int (iI fp)])) (hx1 : S1471.1 497 = .inr (3, [.ref 2, .int (iI at_), .int (iI n), .ref 498, .ref 499, .ref 500, .int (iI c1)])) (hw0 : S1471.1 a = .inr (8, [.int (iI (d1 0 0)), .int (iI (d1 1 0)), .int (iI (d1 2 0)), .int (iI (d1 3 0)), .int (iI (d1 4 0)), .int (iI (d1 5 0)), .int (iI (d1 6 0)), .int (iI (d1 7 0)), .ref (a + 1), .ref (a + 2), .ref (a + 3), .ref (a + 4), .ref (a + 5), .ref (a + 6), .ref (a + 7)])) (hw1 : S1471.1 (a + 1) = .inl (.long, 8, .inr (.inl fun k : Nat => q1 (k : Int)))) (hw2 : S1471.1 (a + 2) = .inl (.int, 8, .inl fun k : Nat => iI ((d1 8) (k : Int)))) (hw3 : S1471.1 (a + 3) = .inl (.int, 4, .inl fun k : Nat => iI ((d1 9) (k : Int)))) (hw4 : S1471.1 (a + 4) = .inl (.int, 4, .inl fun k : Nat => iI ((d1 10) (k : Int)))) (hw5 : S1471.1 (a + 5) = .inl (.int, 4, .inl fun k : Nat => iI ((d1 11) (k : Int)))) (hw6 : S1471.1 (a + 6) = .inl (.int, 30, .inl fun k : Nat => iI ((d1 12) (k : Int)))) (hw7 : S1471.1 (a + 7) = .inl (.int, 30, .inl fun k : Nat => iI ((d1 13) (k : Int)))) (hF1470 : X_Fr (fun q => q = 496 ∨ q = 497 ∨ (a ≤ q ∧ q ≤ a + 7)) S S1471) (hi : 0 ≤ i ∧ i ≤ 9) (hr1 : X_wr d1) (hc1 : 0 ≤ c1 ∧ c1 < n) (hR : sp_el n so ct kn kc (9 - i).toNat c1 d1 q1 = sp_el n so ct kn kc 9 cur d q) (hm1469 : 9 - i < m1468), X_T sc 73 (2, [(2, .int (iI i)), (0, .ref 496), (1, .ref a)], [], S1471) Q := by
    intro m1468
    induction m1468 with
    | zero =>
      intro S1471 i c1 d1 q1 hp1 hx1 hw0 hw1 hw2 hw3 hw4 hw5 hw6 hw7 hF1470 hi hr1 hc1 hR hm1469
      exact (show False by omega).elim
    | succ m1468 ih1467 =>
      intro S1471 i c1 d1 q1 hp1 hx1 hw0 hw1 hw2 hw3 hw4 hw5 hw6 hw7 hF1470 hi hr1 hc1 hR hm1469
      obtain ⟨⟨_, _⟩, ⟨_, _⟩, ⟨_, _⟩, ⟨_, _⟩, ⟨_, _⟩, ⟨_, _⟩, ⟨_, _⟩, ⟨_, _⟩⟩ := id hr1
      refine T_p xr_73_2 xn_73 (pc' := 3) (ls' := [(2, .int (iI i)), (0, .ref 496), (1, .ref a)]) (st' := [.int (iI i)]) rfl ?_
      refine T_p xr_73_3 xn_73 (pc' := 5) (ls' := [(2, .int (iI i)), (0, .ref 496), (1, .ref a)]) (st' := [.int (iI 8), .int (iI i)]) rfl ?_
      refine T_zicmp_gt xr_73_5 (t := 169) (pc' := 8) rfl rfl (fun c1472 => ?_) (fun c1472 => ?_)
      · skip
        have c1472 : 8 < i := c1472
        refine T_p xr_73_169 xn_73 (pc' := 170) (ls' := [(2, .int (iI i)), (0, .ref 496), (1, .ref a)]) (st' := [.ref 496]) rfl ?_
        refine T_cv (S := S1471) (q := 496) xr_73_170 xf_63.1 xf_63.2.1 xn_63 (as := []) (r := []) rfl hp1 (Nat.le_of_ble_eq_true rfl) (Nat.le_of_ble_eq_true rfl) (pc' := 173) rfl (ls' := [(0, .ref 496)]) rfl ?_
        have h1482 := (hF1470.1 498 (by omega)).trans (hx.2.1)
        have h1483 := (hF1470.1 499 (by omega)).trans (hx.2.2.1)
        have h1484 := (hF1470.1 500 (by omega)).trans (hx.2.2.2)
        refine T_mono (c_refuse sc S1471 B fl fp at_ n c1 so pl ct hp1 ⟨hx1, h1482, h1483, h1484⟩ (by omega) hso) (fun v1473 S1474 h1475 => ?_)
        obtain ⟨h1476, ⟨fl1477, fp1478, hn1479, hp1480⟩, hf1481⟩ := h1475
        rw [h1476]
        show X_T sc 73 (173, [(2, .int (iI i)), (0, .ref 496), (1, .ref a)], [], S1474) _
        refine T_p xr_73_173 xn_73 (pc' := 174) (ls' := [(2, .int (iI i)), (0, .ref 496), (1, .ref a)]) (st' := [.int (iI 0)]) rfl ?_
        refine T_iret xr_73_174 xf_73.2.2 (by decide) ?_
        refine hQ _ _ ?_
        have h1485 := (hf1481.1 497 (by omega)).trans (hx1)
        have h1486 := (hf1481.1 a (by omega)).trans (hw0)
        have h1487 := (hf1481.1 (a + 1) (by omega)).trans (hw1)
        have h1488 := (hf1481.1 (a + 2) (by omega)).trans (hw2)
        have h1489 := (hf1481.1 (a + 3) (by omega)).trans (hw3)
        have h1490 := (hf1481.1 (a + 4) (by omega)).trans (hw4)
        have h1491 := (hf1481.1 (a + 5) (by omega)).trans (hw5)
        have h1492 := (hf1481.1 (a + 6) (by omega)).trans (hw6)
        have h1493 := (hf1481.1 (a + 7) (by omega)).trans (hw7)
        refine Or.inr ⟨rfl, ?_, ⟨_, _, by omega, hp1480⟩, ⟨c1, d1, q1, h1485, by omega, ⟨h1486, h1487, h1488, h1489, h1490, h1491, h1492, h1493⟩, hr1⟩, ((X_Fr.rf).tr (X_Fr.mono ⟨hF1470.1, hF1470.2⟩ (fun q hq => (by omega)))).tr (X_Fr.mono ⟨hf1481.1, hf1481.2⟩ (fun q hq => (by omega)))⟩
        rw [← hR]
        first
          | (rw [sp_el_s (i := i) (by omega)]
             (repeat (first | rw [if_pos (by assumption)] | rw [if_neg (by assumption)]))
             all_goals first | rfl | ((repeat' split) <;> first | rfl | (exfalso; omega)))
          | (rw [show (9 - i).toNat = 0 by omega]; rfl)
      · skip
        have c1472 : ¬ (8 < i) := c1472
        refine T_p xr_73_8 xn_73 (pc' := 9) (ls' := [(2, .int (iI i)), (0, .ref 496), (1, .ref a)]) (st' := [.ref 496]) rfl ?_
        refine T_get xr_73_9 hp1 rfl (v := .ref 497) rfl (pc' := 12) rfl ?_
        refine T_cv (S := S1471) (q := 497) xr_73_12 xf_44.1 xf_44.2.1 xn_44 (as := []) (r := []) rfl hx1 (Nat.le_of_ble_eq_true rfl) (Nat.le_of_ble_eq_true rfl) (pc' := 15) rfl (ls' := [(0, .ref 497)]) rfl ?_
        have h1494 := (hF1470.1 498 (by omega)).trans (hx.2.1)
        have h1495 := (hF1470.1 499 (by omega)).trans (hx.2.2.1)
        have h1496 := (hF1470.1 500 (by omega)).trans (hx.2.2.2)
        refine T_mono (c_sort sc S1471 at_ n c1 so pl ct ⟨hx1, h1494, h1495, h1496⟩ (by omega)) (fun v1498 S1499 h1497 => ?_)
        obtain ⟨h1500, h1501⟩ := h1497
        rw [h1500, h1501]
        show X_T sc 73 (15, [(2, .int (iI i)), (0, .ref 496), (1, .ref a)], [.int (iI (so c1))], S1471) _
        have hs1502 := hso c1 (by omega) (by omega)
        refine T_p xr_73_15 xn_73 (pc' := 17) (ls' := [(2, .int (iI i)), (0, .ref 496), (1, .ref a)]) (st' := [.int (iI 61), .int (iI (so c1))]) rfl ?_
        refine T_zicmp_eq xr_73_17 (t := 32) (pc' := 20) rfl rfl (fun c1503 => ?_) (fun c1503 => ?_)
        · skip
          have c1503 : (so c1) = 61 := c1503
          refine T_p xr_73_32 xn_73 (pc' := 33) (ls' := [(2, .int (iI i)), (0, .ref 496), (1, .ref a)]) (st' := [.int (iI 1)]) rfl ?_
          refine T_iret xr_73_33 xf_73.2.2 (by decide) ?_
          refine hQ _ _ ?_
          refine Or.inl ⟨rfl, c1, d1, q1, ?_, hp1, hx1, by omega, ⟨hw0, hw1, hw2, hw3, hw4, hw5, hw6, hw7⟩, hr1, (X_Fr.rf).tr (X_Fr.mono ⟨hF1470.1, hF1470.2⟩ (fun q hq => (by omega)))⟩
          rw [← hR, sp_el_s (i := i) (by omega)]
          (repeat (first | rw [if_pos (by assumption)] | rw [if_neg (by assumption)]))
          all_goals first | rfl | ((repeat' split) <;> first | rfl | (exfalso; omega))
        · skip
          have c1503 : ¬ ((so c1) = 61) := c1503
          refine T_p xr_73_20 xn_73 (pc' := 21) (ls' := [(2, .int (iI i)), (0, .ref 496), (1, .ref a)]) (st' := [.ref 496]) rfl ?_
          refine T_get xr_73_21 hp1 rfl (v := .ref 497) rfl (pc' := 24) rfl ?_
          refine T_cv (S := S1471) (q := 497) xr_73_24 xf_44.1 xf_44.2.1 xn_44 (as := []) (r := []) rfl hx1 (Nat.le_of_ble_eq_true rfl) (Nat.le_of_ble_eq_true rfl) (pc' := 27) rfl (ls' := [(0, .ref 497)]) rfl ?_
          refine T_mono (c_sort sc S1471 at_ n c1 so pl ct ⟨hx1, h1494, h1495, h1496⟩ (by omega)) (fun v1505 S1506 h1504 => ?_)
          obtain ⟨h1507, h1508⟩ := h1504
          rw [h1507, h1508]
          show X_T sc 73 (27, [(2, .int (iI i)), (0, .ref 496), (1, .ref a)], [.int (iI (so c1))], S1471) _
          have hs1509 := hso c1 (by omega) (by omega)
          refine T_p xr_73_27 xn_73 (pc' := 29) (ls' := [(2, .int (iI i)), (0, .ref 496), (1, .ref a)]) (st' := [.int (iI 59), .int (iI (so c1))]) rfl ?_
          refine T_zicmp_ne xr_73_29 (t := 34) (pc' := 32) rfl rfl (fun c1510 => ?_) (fun c1510 => ?_)
          · skip
            have c1510 : ¬ (so c1) = 59 := c1510
            have J1511 : X_T sc 73 (60, [(2, .int (iI i)), (0, .ref 496), (1, .ref a)], [.int (iI (bI (so c1 = 6 ∧ d1 3 0 < 8)))], S1471) Q := by
              refine T_p xr_73_60 xn_73 (pc' := 61) (ls' := [(3, .int (iI (bI (so c1 = 6 ∧ d1 3 0 < 8)))), (2, .int (iI i)), (0, .ref 496), (1, .ref a)]) (st' := []) rfl ?_
              have J1512 : X_T sc 73 (85, [(3, .int (iI (bI (so c1 = 6 ∧ d1 3 0 < 8)))), (2, .int (iI i)), (0, .ref 496), (1, .ref a)], [.int (iI (bI (so c1 = 95 ∧ (d1 3 0 < 8 ∧ d1 4 0 < 4 ∧ ¬ X_hl d1 q1 (d1 3 0 - 1)))))], S1471) Q := by
                refine T_p xr_73_85 xn_73 (pc' := 87) (ls' := [(4, .int (iI (bI (so c1 = 95 ∧ (d1 3 0 < 8 ∧ d1 4 0 < 4 ∧ ¬ X_hl d1 q1 (d1 3 0 - 1)))))), (3, .int (iI (bI (so c1 = 6 ∧ d1 3 0 < 8)))), (2, .int (iI i)), (0, .ref 496), (1, .ref a)]) (st' := []) rfl ?_
                refine T_p xr_73_87 xn_73 (pc' := 88) (ls' := [(4, .int (iI (bI (so c1 = 95 ∧ (d1 3 0 < 8 ∧ d1 4 0 < 4 ∧ ¬ X_hl d1 q1 (d1 3 0 - 1)))))), (3, .int (iI (bI (so c1 = 6 ∧ d1 3 0 < 8)))), (2, .int (iI i)), (0, .ref 496), (1, .ref a)]) (st' := [.int (iI (bI (so c1 = 6 ∧ d1 3 0 < 8)))]) rfl ?_
                refine T_bif_ne xr_73_88 (t := 99) (pc' := 91) rfl rfl (fun c1513 => ?_) (fun c1513 => ?_)
                · skip
                  have c1513 : (so c1 = 6 ∧ d1 3 0 < 8) := c1513
                  refine T_p xr_73_99 xn_73 (pc' := 100) (ls' := [(4, .int (iI (bI (so c1 = 95 ∧ (d1 3 0 < 8 ∧ d1 4 0 < 4 ∧ ¬ X_hl d1 q1 (d1 3 0 - 1)))))), (3, .int (iI (bI (so c1 = 6 ∧ d1 3 0 < 8)))), (2, .int (iI i)), (0, .ref 496), (1, .ref a)]) (st' := [.ref 496]) rfl ?_
                  refine T_get xr_73_100 hp1 rfl (v := .ref 497) rfl (pc' := 103) rfl ?_
                  refine T_cv (S := S1471) (q := 497) xr_73_103 xf_46.1 xf_46.2.1 xn_46 (as := []) (r := []) rfl hx1 (Nat.le_of_ble_eq_true rfl) (Nat.le_of_ble_eq_true rfl) (pc' := 106) rfl (ls' := [(0, .ref 497)]) rfl ?_
                  refine T_mono (c_content sc S1471 at_ n c1 so pl ct ⟨hx1, h1494, h1495, h1496⟩ (by omega)) (fun v1515 S1516 h1514 => ?_)
                  obtain ⟨h1517, h1518⟩ := h1514
                  rw [h1517, h1518]
                  show X_T sc 73 (106, [(4, .int (iI (bI (so c1 = 95 ∧ (d1 3 0 < 8 ∧ d1 4 0 < 4 ∧ ¬ X_hl d1 q1 (d1 3 0 - 1)))))), (3, .int (iI (bI (so c1 = 6 ∧ d1 3 0 < 8)))), (2, .int (iI i)), (0, .ref 496), (1, .ref a)], [.long (ct c1)], S1471) _
                  refine T_p xr_73_106 xn_73 (pc' := 108) (ls' := [(5, .long (ct c1)), (4, .int (iI (bI (so c1 = 95 ∧ (d1 3 0 < 8 ∧ d1 4 0 < 4 ∧ ¬ X_hl d1 q1 (d1 3 0 - 1)))))), (3, .int (iI (bI (so c1 = 6 ∧ d1 3 0 < 8)))), (2, .int (iI i)), (0, .ref 496), (1, .ref a)]) (st' := []) rfl ?_
                  refine T_p xr_73_108 xn_73 (pc' := 109) (ls' := [(5, .long (ct c1)), (4, .int (iI (bI (so c1 = 95 ∧ (d1 3 0 < 8 ∧ d1 4 0 < 4 ∧ ¬ X_hl d1 q1 (d1 3 0 - 1)))))), (3, .int (iI (bI (so c1 = 6 ∧ d1 3 0 < 8)))), (2, .int (iI i)), (0, .ref 496), (1, .ref a)]) (st' := [.ref 496]) rfl ?_
                  refine T_get xr_73_109 hp1 rfl (v := .ref 497) rfl (pc' := 112) rfl ?_
                  refine T_cv (S := S1471) (q := 497) xr_73_112 xf_48.1 xf_48.2.1 xn_48 (as := []) (r := []) rfl hx1 (Nat.le_of_ble_eq_true rfl) (Nat.le_of_ble_eq_true rfl) (pc' := 115) rfl (ls' := [(0, .ref 497)]) rfl ?_
                  refine T_mono (c_advance sc S1471 at_ n c1 so pl ct ⟨hx1, h1494, h1495, h1496⟩ (by omega)) (fun v1520 S1521 h1519 => ?_)
                  obtain ⟨h1522, h1524, h1523⟩ := h1519
                  rw [h1522]
                  show X_T sc 73 (115, [(5, .long (ct c1)), (4, .int (iI (bI (so c1 = 95 ∧ (d1 3 0 < 8 ∧ d1 4 0 < 4 ∧ ¬ X_hl d1 q1 (d1 3 0 - 1)))))), (3, .int (iI (bI (so c1 = 6 ∧ d1 3 0 < 8)))), (2, .int (iI i)), (0, .ref 496), (1, .ref a)], [], S1521) _
                  have hv1525 := X_av_r (n := n) (c := c1) (by omega)
                  refine T_p xr_73_115 xn_73 (pc' := 116) (ls' := [(5, .long (ct c1)), (4, .int (iI (bI (so c1 = 95 ∧ (d1 3 0 < 8 ∧ d1 4 0 < 4 ∧ ¬ X_hl d1 q1 (d1 3 0 - 1)))))), (3, .int (iI (bI (so c1 = 6 ∧ d1 3 0 < 8)))), (2, .int (iI i)), (0, .ref 496), (1, .ref a)]) (st' := [.int (iI (bI (so c1 = 6 ∧ d1 3 0 < 8)))]) rfl ?_
                  refine T_bif_eq xr_73_116 (t := 128) (pc' := 119) rfl rfl (fun c1526 => ?_) (fun c1526 => ?_)
                  · skip
                    have c1526 : ¬ (so c1 = 6 ∧ d1 3 0 < 8) := c1526
                    exact (show False by first | contradiction | omega).elim
                  · skip
                    have c1526 : (so c1 = 6 ∧ d1 3 0 < 8) := c1526
                    refine T_p xr_73_119 xn_73 (pc' := 120) (ls' := [(5, .long (ct c1)), (4, .int (iI (bI (so c1 = 95 ∧ (d1 3 0 < 8 ∧ d1 4 0 < 4 ∧ ¬ X_hl d1 q1 (d1 3 0 - 1)))))), (3, .int (iI (bI (so c1 = 6 ∧ d1 3 0 < 8)))), (2, .int (iI i)), (0, .ref 496), (1, .ref a)]) (st' := [.ref a]) rfl ?_
                    refine T_p xr_73_120 xn_73 (pc' := 122) (ls' := [(5, .long (ct c1)), (4, .int (iI (bI (so c1 = 95 ∧ (d1 3 0 < 8 ∧ d1 4 0 < 4 ∧ ¬ X_hl d1 q1 (d1 3 0 - 1)))))), (3, .int (iI (bI (so c1 = 6 ∧ d1 3 0 < 8)))), (2, .int (iI i)), (0, .ref 496), (1, .ref a)]) (st' := [.long (ct c1), .ref a]) rfl ?_
                    have h1527 := (h1523.1 a (by omega)).trans (hw0)
                    refine T_cv (S := S1521) (q := a) xr_73_122 xf_91.1 xf_91.2.1 xn_91 (as := [.long (ct c1)]) (r := []) rfl h1527 (Nat.le_of_ble_eq_true rfl) (Nat.le_of_ble_eq_true rfl) (pc' := 125) rfl (ls' := [(0, .ref a), (1, .long (ct c1))]) rfl ?_
                    have hr1534 : X_wr (X_aP d1) := X_wr_P hr1 (by omega)
                    have h1535 := (h1523.1 (a + 1) (by omega)).trans (hw1)
                    have h1536 := (h1523.1 (a + 2) (by omega)).trans (hw2)
                    have h1537 := (h1523.1 (a + 3) (by omega)).trans (hw3)
                    have h1538 := (h1523.1 (a + 4) (by omega)).trans (hw4)
                    have h1539 := (h1523.1 (a + 5) (by omega)).trans (hw5)
                    have h1540 := (h1523.1 (a + 6) (by omega)).trans (hw6)
                    have h1541 := (h1523.1 (a + 7) (by omega)).trans (hw7)
                    refine T_mono (c_addPart sc S1521 a d1 q1 (ct c1) ⟨h1527, h1535, h1536, h1537, h1538, h1539, h1540, h1541⟩ hr1 (by omega)) (fun v1528 S1529 h1530 => ?_)
                    obtain ⟨h1531, hw1532, hf1533⟩ := h1530
                    rw [h1531]
                    have hw1532 : C_wd S1529 a (X_aP d1) (X_ug q1 (d1 3 0) (ct c1)) := hw1532
                    show X_T sc 73 (125, [(5, .long (ct c1)), (4, .int (iI (bI (so c1 = 95 ∧ (d1 3 0 < 8 ∧ d1 4 0 < 4 ∧ ¬ X_hl d1 q1 (d1 3 0 - 1)))))), (3, .int (iI (bI (so c1 = 6 ∧ d1 3 0 < 8)))), (2, .int (iI i)), (0, .ref 496), (1, .ref a)], [], S1529) _
                    refine T_p xr_73_125 xn_73 (pc' := 163) (ls' := [(5, .long (ct c1)), (4, .int (iI (bI (so c1 = 95 ∧ (d1 3 0 < 8 ∧ d1 4 0 < 4 ∧ ¬ X_hl d1 q1 (d1 3 0 - 1)))))), (3, .int (iI (bI (so c1 = 6 ∧ d1 3 0 < 8)))), (2, .int (iI i)), (0, .ref 496), (1, .ref a)]) (st' := []) rfl ?_
                    refine T_ziinc xr_73_163 xn_73 (a := i) (z := i + 1) rfl (Nat.le_of_ble_eq_true rfl) (by omega) (ls' := [(2, .int (iI (i + 1))), (5, .long (ct c1)), (4, .int (iI (bI (so c1 = 95 ∧ (d1 3 0 < 8 ∧ d1 4 0 < 4 ∧ ¬ X_hl d1 q1 (d1 3 0 - 1)))))), (3, .int (iI (bI (so c1 = 6 ∧ d1 3 0 < 8)))), (0, .ref 496), (1, .ref a)]) rfl (pc' := 166) rfl ?_
                    refine T_p xr_73_166 xn_73 (pc' := 2) (ls' := [(2, .int (iI (i + 1))), (5, .long (ct c1)), (4, .int (iI (bI (so c1 = 95 ∧ (d1 3 0 < 8 ∧ d1 4 0 < 4 ∧ ¬ X_hl d1 q1 (d1 3 0 - 1)))))), (3, .int (iI (bI (so c1 = 6 ∧ d1 3 0 < 8)))), (0, .ref 496), (1, .ref a)]) (st' := []) rfl ?_
                    have h1542 := (hf1533.1 497 (by omega)).trans (h1524)
                    have h1543 := (hf1533.1 496 (by omega)).trans ((h1523.1 496 (by omega)).trans (hp1))
                    refine T_sub (ls := [(2, .int (iI (i + 1))), (0, .ref 496), (1, .ref a)]) ⟨rfl, rfl, rfl, trivial⟩ rfl rfl ?_
                    exact ih1467 S1529 (i + 1) (X_av n c1) (X_aP d1) (X_ug q1 (d1 3 0) (ct c1)) h1543 h1542 hw1532.1 hw1532.2.1 hw1532.2.2.1 hw1532.2.2.2.1 hw1532.2.2.2.2.1 hw1532.2.2.2.2.2.1 hw1532.2.2.2.2.2.2.1 hw1532.2.2.2.2.2.2.2 (hF1470.tr (((X_Fr.rf).tr (X_Fr.mono ⟨h1523.1, h1523.2⟩ (fun q hq => (by omega)))).tr (X_Fr.mono ⟨hf1533.1, hf1533.2⟩ (fun q hq => (by omega))))) (by omega) hr1534 (by omega) (by
                          rw [← hR, sp_el_s (i := i) (by omega)]
                          (repeat (first | rw [if_pos (by assumption)] | rw [if_neg (by assumption)]))
                          all_goals rfl) (by omega)
                · skip
                  have c1513 : ¬ (so c1 = 6 ∧ d1 3 0 < 8) := c1513
                  refine T_p xr_73_91 xn_73 (pc' := 93) (ls' := [(4, .int (iI (bI (so c1 = 95 ∧ (d1 3 0 < 8 ∧ d1 4 0 < 4 ∧ ¬ X_hl d1 q1 (d1 3 0 - 1)))))), (3, .int (iI (bI (so c1 = 6 ∧ d1 3 0 < 8)))), (2, .int (iI i)), (0, .ref 496), (1, .ref a)]) (st' := [.int (iI (bI (so c1 = 95 ∧ (d1 3 0 < 8 ∧ d1 4 0 < 4 ∧ ¬ X_hl d1 q1 (d1 3 0 - 1)))))]) rfl ?_
                  refine T_bif_ne xr_73_93 (t := 99) (pc' := 96) rfl rfl (fun c1544 => ?_) (fun c1544 => ?_)
                  · skip
                    have c1544 : (so c1 = 95 ∧ (d1 3 0 < 8 ∧ d1 4 0 < 4 ∧ ¬ X_hl d1 q1 (d1 3 0 - 1))) := c1544
                    refine T_p xr_73_99 xn_73 (pc' := 100) (ls' := [(4, .int (iI (bI (so c1 = 95 ∧ (d1 3 0 < 8 ∧ d1 4 0 < 4 ∧ ¬ X_hl d1 q1 (d1 3 0 - 1)))))), (3, .int (iI (bI (so c1 = 6 ∧ d1 3 0 < 8)))), (2, .int (iI i)), (0, .ref 496), (1, .ref a)]) (st' := [.ref 496]) rfl ?_
                    refine T_get xr_73_100 hp1 rfl (v := .ref 497) rfl (pc' := 103) rfl ?_
                    refine T_cv (S := S1471) (q := 497) xr_73_103 xf_46.1 xf_46.2.1 xn_46 (as := []) (r := []) rfl hx1 (Nat.le_of_ble_eq_true rfl) (Nat.le_of_ble_eq_true rfl) (pc' := 106) rfl (ls' := [(0, .ref 497)]) rfl ?_
                    refine T_mono (c_content sc S1471 at_ n c1 so pl ct ⟨hx1, h1494, h1495, h1496⟩ (by omega)) (fun v1546 S1547 h1545 => ?_)
                    obtain ⟨h1548, h1549⟩ := h1545
                    rw [h1548, h1549]
                    show X_T sc 73 (106, [(4, .int (iI (bI (so c1 = 95 ∧ (d1 3 0 < 8 ∧ d1 4 0 < 4 ∧ ¬ X_hl d1 q1 (d1 3 0 - 1)))))), (3, .int (iI (bI (so c1 = 6 ∧ d1 3 0 < 8)))), (2, .int (iI i)), (0, .ref 496), (1, .ref a)], [.long (ct c1)], S1471) _
                    refine T_p xr_73_106 xn_73 (pc' := 108) (ls' := [(5, .long (ct c1)), (4, .int (iI (bI (so c1 = 95 ∧ (d1 3 0 < 8 ∧ d1 4 0 < 4 ∧ ¬ X_hl d1 q1 (d1 3 0 - 1)))))), (3, .int (iI (bI (so c1 = 6 ∧ d1 3 0 < 8)))), (2, .int (iI i)), (0, .ref 496), (1, .ref a)]) (st' := []) rfl ?_
                    refine T_p xr_73_108 xn_73 (pc' := 109) (ls' := [(5, .long (ct c1)), (4, .int (iI (bI (so c1 = 95 ∧ (d1 3 0 < 8 ∧ d1 4 0 < 4 ∧ ¬ X_hl d1 q1 (d1 3 0 - 1)))))), (3, .int (iI (bI (so c1 = 6 ∧ d1 3 0 < 8)))), (2, .int (iI i)), (0, .ref 496), (1, .ref a)]) (st' := [.ref 496]) rfl ?_
                    refine T_get xr_73_109 hp1 rfl (v := .ref 497) rfl (pc' := 112) rfl ?_
                    refine T_cv (S := S1471) (q := 497) xr_73_112 xf_48.1 xf_48.2.1 xn_48 (as := []) (r := []) rfl hx1 (Nat.le_of_ble_eq_true rfl) (Nat.le_of_ble_eq_true rfl) (pc' := 115) rfl (ls' := [(0, .ref 497)]) rfl ?_
                    refine T_mono (c_advance sc S1471 at_ n c1 so pl ct ⟨hx1, h1494, h1495, h1496⟩ (by omega)) (fun v1551 S1552 h1550 => ?_)
                    obtain ⟨h1553, h1555, h1554⟩ := h1550
                    rw [h1553]
                    show X_T sc 73 (115, [(5, .long (ct c1)), (4, .int (iI (bI (so c1 = 95 ∧ (d1 3 0 < 8 ∧ d1 4 0 < 4 ∧ ¬ X_hl d1 q1 (d1 3 0 - 1)))))), (3, .int (iI (bI (so c1 = 6 ∧ d1 3 0 < 8)))), (2, .int (iI i)), (0, .ref 496), (1, .ref a)], [], S1552) _
                    have hv1556 := X_av_r (n := n) (c := c1) (by omega)
                    refine T_p xr_73_115 xn_73 (pc' := 116) (ls' := [(5, .long (ct c1)), (4, .int (iI (bI (so c1 = 95 ∧ (d1 3 0 < 8 ∧ d1 4 0 < 4 ∧ ¬ X_hl d1 q1 (d1 3 0 - 1)))))), (3, .int (iI (bI (so c1 = 6 ∧ d1 3 0 < 8)))), (2, .int (iI i)), (0, .ref 496), (1, .ref a)]) (st' := [.int (iI (bI (so c1 = 6 ∧ d1 3 0 < 8)))]) rfl ?_
                    refine T_bif_eq xr_73_116 (t := 128) (pc' := 119) rfl rfl (fun c1557 => ?_) (fun c1557 => ?_)
                    · skip
                      have c1557 : ¬ (so c1 = 6 ∧ d1 3 0 < 8) := c1557
                      refine T_p xr_73_128 xn_73 (pc' := 129) (ls' := [(5, .long (ct c1)), (4, .int (iI (bI (so c1 = 95 ∧ (d1 3 0 < 8 ∧ d1 4 0 < 4 ∧ ¬ X_hl d1 q1 (d1 3 0 - 1)))))), (3, .int (iI (bI (so c1 = 6 ∧ d1 3 0 < 8)))), (2, .int (iI i)), (0, .ref 496), (1, .ref a)]) (st' := [.ref 496]) rfl ?_
                      have h1558 := (h1554.1 496 (by omega)).trans (hp1)
                      refine T_get xr_73_129 h1558 rfl (v := .ref 497) rfl (pc' := 132) rfl ?_
                      refine T_cv (S := S1552) (q := 497) xr_73_132 xf_44.1 xf_44.2.1 xn_44 (as := []) (r := []) rfl h1555 (Nat.le_of_ble_eq_true rfl) (Nat.le_of_ble_eq_true rfl) (pc' := 135) rfl (ls' := [(0, .ref 497)]) rfl ?_
                      have h1559 := (h1554.1 498 (by omega)).trans (h1494)
                      have h1560 := (h1554.1 499 (by omega)).trans (h1495)
                      have h1561 := (h1554.1 500 (by omega)).trans (h1496)
                      refine T_mono (c_sort sc S1552 at_ n (X_av n c1) so pl ct ⟨h1555, h1559, h1560, h1561⟩ (by omega)) (fun v1563 S1564 h1562 => ?_)
                      obtain ⟨h1565, h1566⟩ := h1562
                      rw [h1565, h1566]
                      show X_T sc 73 (135, [(5, .long (ct c1)), (4, .int (iI (bI (so c1 = 95 ∧ (d1 3 0 < 8 ∧ d1 4 0 < 4 ∧ ¬ X_hl d1 q1 (d1 3 0 - 1)))))), (3, .int (iI (bI (so c1 = 6 ∧ d1 3 0 < 8)))), (2, .int (iI i)), (0, .ref 496), (1, .ref a)], [.int (iI (so (X_av n c1)))], S1552) _
                      have hs1567 := hso (X_av n c1) (by omega) (by omega)
                      refine T_p xr_73_135 xn_73 (pc' := 136) (ls' := [(5, .long (ct c1)), (4, .int (iI (bI (so c1 = 95 ∧ (d1 3 0 < 8 ∧ d1 4 0 < 4 ∧ ¬ X_hl d1 q1 (d1 3 0 - 1)))))), (3, .int (iI (bI (so c1 = 6 ∧ d1 3 0 < 8)))), (2, .int (iI i)), (0, .ref 496), (1, .ref a)]) (st' := [.int (iI 2), .int (iI (so (X_av n c1)))]) rfl ?_
                      refine T_zicmp_ne xr_73_136 (t := 146) (pc' := 139) rfl rfl (fun c1568 => ?_) (fun c1568 => ?_)
                      · skip
                        have c1568 : ¬ (so (X_av n c1)) = 2 := c1568
                        refine T_p xr_73_146 xn_73 (pc' := 147) (ls' := [(5, .long (ct c1)), (4, .int (iI (bI (so c1 = 95 ∧ (d1 3 0 < 8 ∧ d1 4 0 < 4 ∧ ¬ X_hl d1 q1 (d1 3 0 - 1)))))), (3, .int (iI (bI (so c1 = 6 ∧ d1 3 0 < 8)))), (2, .int (iI i)), (0, .ref 496), (1, .ref a)]) (st' := [.int (iI 0)]) rfl ?_
                        refine T_p xr_73_147 xn_73 (pc' := 149) (ls' := [(7, .int (iI 0)), (5, .long (ct c1)), (4, .int (iI (bI (so c1 = 95 ∧ (d1 3 0 < 8 ∧ d1 4 0 < 4 ∧ ¬ X_hl d1 q1 (d1 3 0 - 1)))))), (3, .int (iI (bI (so c1 = 6 ∧ d1 3 0 < 8)))), (2, .int (iI i)), (0, .ref 496), (1, .ref a)]) (st' := []) rfl ?_
                        refine T_p xr_73_149 xn_73 (pc' := 151) (ls' := [(7, .int (iI 0)), (5, .long (ct c1)), (4, .int (iI (bI (so c1 = 95 ∧ (d1 3 0 < 8 ∧ d1 4 0 < 4 ∧ ¬ X_hl d1 q1 (d1 3 0 - 1)))))), (3, .int (iI (bI (so c1 = 6 ∧ d1 3 0 < 8)))), (2, .int (iI i)), (0, .ref 496), (1, .ref a)]) (st' := [.int (iI 0)]) rfl ?_
                        refine T_p xr_73_151 xn_73 (pc' := 152) (ls' := [(7, .int (iI 0)), (5, .long (ct c1)), (4, .int (iI (bI (so c1 = 95 ∧ (d1 3 0 < 8 ∧ d1 4 0 < 4 ∧ ¬ X_hl d1 q1 (d1 3 0 - 1)))))), (3, .int (iI (bI (so c1 = 6 ∧ d1 3 0 < 8)))), (2, .int (iI i)), (0, .ref 496), (1, .ref a)]) (st' := [.int (iI (-1)), .int (iI 0)]) rfl ?_
                        refine T_zicmp_net xr_73_152 (t := 157) rfl (by decide) ?_
                        refine T_p xr_73_157 xn_73 (pc' := 158) (ls' := [(7, .int (iI 0)), (5, .long (ct c1)), (4, .int (iI (bI (so c1 = 95 ∧ (d1 3 0 < 8 ∧ d1 4 0 < 4 ∧ ¬ X_hl d1 q1 (d1 3 0 - 1)))))), (3, .int (iI (bI (so c1 = 6 ∧ d1 3 0 < 8)))), (2, .int (iI i)), (0, .ref 496), (1, .ref a)]) (st' := [.ref a]) rfl ?_
                        refine T_p xr_73_158 xn_73 (pc' := 160) (ls' := [(7, .int (iI 0)), (5, .long (ct c1)), (4, .int (iI (bI (so c1 = 95 ∧ (d1 3 0 < 8 ∧ d1 4 0 < 4 ∧ ¬ X_hl d1 q1 (d1 3 0 - 1)))))), (3, .int (iI (bI (so c1 = 6 ∧ d1 3 0 < 8)))), (2, .int (iI i)), (0, .ref 496), (1, .ref a)]) (st' := [.int (iI 0), .ref a]) rfl ?_
                        have h1569 := (h1554.1 a (by omega)).trans (hw0)
                        refine T_cv (S := S1552) (q := a) xr_73_160 xf_93.1 xf_93.2.1 xn_93 (as := [.int (iI 0)]) (r := []) rfl h1569 (Nat.le_of_ble_eq_true rfl) (Nat.le_of_ble_eq_true rfl) (pc' := 163) rfl (ls' := [(0, .ref a), (1, .int (iI 0))]) rfl ?_
                        have hr1576 : X_wr (X_aH d1 0) := X_wr_H hr1 (by omega) (by omega)
                        have h1577 := (h1554.1 (a + 1) (by omega)).trans (hw1)
                        have h1578 := (h1554.1 (a + 2) (by omega)).trans (hw2)
                        have h1579 := (h1554.1 (a + 3) (by omega)).trans (hw3)
                        have h1580 := (h1554.1 (a + 4) (by omega)).trans (hw4)
                        have h1581 := (h1554.1 (a + 5) (by omega)).trans (hw5)
                        have h1582 := (h1554.1 (a + 6) (by omega)).trans (hw6)
                        have h1583 := (h1554.1 (a + 7) (by omega)).trans (hw7)
                        refine T_mono (c_addHole sc S1552 a d1 q1 0 ⟨h1569, h1577, h1578, h1579, h1580, h1581, h1582, h1583⟩ hr1 (by omega) (by omega)) (fun v1570 S1571 h1572 => ?_)
                        obtain ⟨h1573, hw1574, hf1575⟩ := h1572
                        rw [h1573]
                        have hw1574 : C_wd S1571 a (X_aH d1 0) (X_ug q1 (d1 3 0) 0) := hw1574
                        show X_T sc 73 (163, [(7, .int (iI 0)), (5, .long (ct c1)), (4, .int (iI (bI (so c1 = 95 ∧ (d1 3 0 < 8 ∧ d1 4 0 < 4 ∧ ¬ X_hl d1 q1 (d1 3 0 - 1)))))), (3, .int (iI (bI (so c1 = 6 ∧ d1 3 0 < 8)))), (2, .int (iI i)), (0, .ref 496), (1, .ref a)], [], S1571) _
                        refine T_ziinc xr_73_163 xn_73 (a := i) (z := i + 1) rfl (Nat.le_of_ble_eq_true rfl) (by omega) (ls' := [(2, .int (iI (i + 1))), (7, .int (iI 0)), (5, .long (ct c1)), (4, .int (iI (bI (so c1 = 95 ∧ (d1 3 0 < 8 ∧ d1 4 0 < 4 ∧ ¬ X_hl d1 q1 (d1 3 0 - 1)))))), (3, .int (iI (bI (so c1 = 6 ∧ d1 3 0 < 8)))), (0, .ref 496), (1, .ref a)]) rfl (pc' := 166) rfl ?_
                        refine T_p xr_73_166 xn_73 (pc' := 2) (ls' := [(2, .int (iI (i + 1))), (7, .int (iI 0)), (5, .long (ct c1)), (4, .int (iI (bI (so c1 = 95 ∧ (d1 3 0 < 8 ∧ d1 4 0 < 4 ∧ ¬ X_hl d1 q1 (d1 3 0 - 1)))))), (3, .int (iI (bI (so c1 = 6 ∧ d1 3 0 < 8)))), (0, .ref 496), (1, .ref a)]) (st' := []) rfl ?_
                        have h1584 := (hf1575.1 497 (by omega)).trans (h1555)
                        have h1585 := (hf1575.1 496 (by omega)).trans (h1558)
                        refine T_sub (ls := [(2, .int (iI (i + 1))), (0, .ref 496), (1, .ref a)]) ⟨rfl, rfl, rfl, trivial⟩ rfl rfl ?_
                        exact ih1467 S1571 (i + 1) (X_av n c1) (X_aH d1 0) (X_ug q1 (d1 3 0) 0) h1585 h1584 hw1574.1 hw1574.2.1 hw1574.2.2.1 hw1574.2.2.2.1 hw1574.2.2.2.2.1 hw1574.2.2.2.2.2.1 hw1574.2.2.2.2.2.2.1 hw1574.2.2.2.2.2.2.2 (hF1470.tr (((X_Fr.rf).tr (X_Fr.mono ⟨h1554.1, h1554.2⟩ (fun q hq => (by omega)))).tr (X_Fr.mono ⟨hf1575.1, hf1575.2⟩ (fun q hq => (by omega))))) (by omega) hr1576 (by omega) (by
                              rw [← hR, sp_el_s (i := i) (by omega)]
                              (repeat (first | rw [if_pos (by assumption)] | rw [if_neg (by assumption)]))
                              all_goals rfl) (by omega)
                      · skip
                        have c1568 : ¬ (¬ (so (X_av n c1)) = 2) := c1568
                        refine T_p xr_73_139 xn_73 (pc' := 140) (ls' := [(5, .long (ct c1)), (4, .int (iI (bI (so c1 = 95 ∧ (d1 3 0 < 8 ∧ d1 4 0 < 4 ∧ ¬ X_hl d1 q1 (d1 3 0 - 1)))))), (3, .int (iI (bI (so c1 = 6 ∧ d1 3 0 < 8)))), (2, .int (iI i)), (0, .ref 496), (1, .ref a)]) (st' := [.ref 496]) rfl ?_
                        refine T_cv (S := S1552) (q := 496) xr_73_140 xf_69.1 xf_69.2.1 xn_69 (as := []) (r := []) rfl h1558 (Nat.le_of_ble_eq_true rfl) (Nat.le_of_ble_eq_true rfl) (pc' := 143) rfl (ls' := [(0, .ref 496)]) rfl ?_
                        have h1586 := (h1554.1 B (by omega)).trans ((hF1470.1 B (by omega)).trans (hb0))
                        have h1587 := (h1554.1 (B + 3) (by omega)).trans ((hF1470.1 (B + 3) (by omega)).trans (hb3))
                        have h1593 := (h1554.1 (B + 1) (by omega)).trans ((hF1470.1 (B + 1) (by omega)).trans (hb1))
                        have h1594 := (h1554.1 (B + 2) (by omega)).trans ((hF1470.1 (B + 2) (by omega)).trans (hb2))
                        have h1595 := (h1554.1 (B + 4) (by omega)).trans ((hF1470.1 (B + 4) (by omega)).trans (hb4))
                        have h1596 := (h1554.1 (B + 5) (by omega)).trans ((hF1470.1 (B + 5) (by omega)).trans (hb5))
                        have hb1597 : C_bk S1552 B rc kc wc rn lo kn ab := ⟨h1586, h1593, h1594, h1587, h1595, ⟨f, h1596, hf⟩, ⟨by omega, by omega⟩, ⟨by omega, by omega⟩, ⟨by omega, by omega⟩⟩
                        refine T_mono (c_passKind sc S1552 B fl fp at_ n (X_av n c1) so pl ct rc kc wc rn lo kn ab h1558 ⟨h1555, h1559, h1560, h1561⟩ (by omega) hso hB hb1597) (fun v1599 S1600 h1601 => ?_)
                        rcases h1601 with ⟨h1588, h1589, h1590, h1591, hp1602, hl1603, hf1604⟩ | ⟨h1588, h1592, ⟨fl1605, fp1606, hn1607, hp1602⟩, hl1603, hf1604⟩
                        · skip
                          rw [h1588]
                          have hv1598 := X_av_r (n := n) (c := (X_av n c1)) (by omega)
                          show X_T sc 73 (143, [(5, .long (ct c1)), (4, .int (iI (bI (so c1 = 95 ∧ (d1 3 0 < 8 ∧ d1 4 0 < 4 ∧ ¬ X_hl d1 q1 (d1 3 0 - 1)))))), (3, .int (iI (bI (so c1 = 6 ∧ d1 3 0 < 8)))), (2, .int (iI i)), (0, .ref 496), (1, .ref a)], [.int (iI (X_ix kn kc (ct (X_av n c1))))], S1600) _
                          refine T_p xr_73_143 xn_73 (pc' := 147) (ls' := [(5, .long (ct c1)), (4, .int (iI (bI (so c1 = 95 ∧ (d1 3 0 < 8 ∧ d1 4 0 < 4 ∧ ¬ X_hl d1 q1 (d1 3 0 - 1)))))), (3, .int (iI (bI (so c1 = 6 ∧ d1 3 0 < 8)))), (2, .int (iI i)), (0, .ref 496), (1, .ref a)]) (st' := [.int (iI (X_ix kn kc (ct (X_av n c1))))]) rfl ?_
                          refine T_p xr_73_147 xn_73 (pc' := 149) (ls' := [(7, .int (iI (X_ix kn kc (ct (X_av n c1))))), (5, .long (ct c1)), (4, .int (iI (bI (so c1 = 95 ∧ (d1 3 0 < 8 ∧ d1 4 0 < 4 ∧ ¬ X_hl d1 q1 (d1 3 0 - 1)))))), (3, .int (iI (bI (so c1 = 6 ∧ d1 3 0 < 8)))), (2, .int (iI i)), (0, .ref 496), (1, .ref a)]) (st' := []) rfl ?_
                          refine T_p xr_73_149 xn_73 (pc' := 151) (ls' := [(7, .int (iI (X_ix kn kc (ct (X_av n c1))))), (5, .long (ct c1)), (4, .int (iI (bI (so c1 = 95 ∧ (d1 3 0 < 8 ∧ d1 4 0 < 4 ∧ ¬ X_hl d1 q1 (d1 3 0 - 1)))))), (3, .int (iI (bI (so c1 = 6 ∧ d1 3 0 < 8)))), (2, .int (iI i)), (0, .ref 496), (1, .ref a)]) (st' := [.int (iI (X_ix kn kc (ct (X_av n c1))))]) rfl ?_
                          refine T_p xr_73_151 xn_73 (pc' := 152) (ls' := [(7, .int (iI (X_ix kn kc (ct (X_av n c1))))), (5, .long (ct c1)), (4, .int (iI (bI (so c1 = 95 ∧ (d1 3 0 < 8 ∧ d1 4 0 < 4 ∧ ¬ X_hl d1 q1 (d1 3 0 - 1)))))), (3, .int (iI (bI (so c1 = 6 ∧ d1 3 0 < 8)))), (2, .int (iI i)), (0, .ref 496), (1, .ref a)]) (st' := [.int (iI (-1)), .int (iI (X_ix kn kc (ct (X_av n c1))))]) rfl ?_
                          refine T_zicmp_ne xr_73_152 (t := 157) (pc' := 155) rfl rfl (fun c1608 => ?_) (fun c1608 => ?_)
                          · skip
                            have c1608 : ¬ (X_ix kn kc (ct (X_av n c1))) = (-1) := c1608
                            refine T_p xr_73_157 xn_73 (pc' := 158) (ls' := [(7, .int (iI (X_ix kn kc (ct (X_av n c1))))), (5, .long (ct c1)), (4, .int (iI (bI (so c1 = 95 ∧ (d1 3 0 < 8 ∧ d1 4 0 < 4 ∧ ¬ X_hl d1 q1 (d1 3 0 - 1)))))), (3, .int (iI (bI (so c1 = 6 ∧ d1 3 0 < 8)))), (2, .int (iI i)), (0, .ref 496), (1, .ref a)]) (st' := [.ref a]) rfl ?_
                            refine T_p xr_73_158 xn_73 (pc' := 160) (ls' := [(7, .int (iI (X_ix kn kc (ct (X_av n c1))))), (5, .long (ct c1)), (4, .int (iI (bI (so c1 = 95 ∧ (d1 3 0 < 8 ∧ d1 4 0 < 4 ∧ ¬ X_hl d1 q1 (d1 3 0 - 1)))))), (3, .int (iI (bI (so c1 = 6 ∧ d1 3 0 < 8)))), (2, .int (iI i)), (0, .ref 496), (1, .ref a)]) (st' := [.int (iI (X_ix kn kc (ct (X_av n c1)))), .ref a]) rfl ?_
                            have h1609 := (hf1604.1 a (by omega)).trans ((h1554.1 a (by omega)).trans (hw0))
                            refine T_cv (S := S1600) (q := a) xr_73_160 xf_93.1 xf_93.2.1 xn_93 (as := [.int (iI (X_ix kn kc (ct (X_av n c1))))]) (r := []) rfl h1609 (Nat.le_of_ble_eq_true rfl) (Nat.le_of_ble_eq_true rfl) (pc' := 163) rfl (ls' := [(0, .ref a), (1, .int (iI (X_ix kn kc (ct (X_av n c1)))))]) rfl ?_
                            have hr1616 : X_wr (X_aH d1 (X_ix kn kc (ct (X_av n c1)))) := X_wr_H hr1 (by omega) (by omega)
                            have h1617 := (hf1604.1 (a + 1) (by omega)).trans ((h1554.1 (a + 1) (by omega)).trans (hw1))
                            have h1618 := (hf1604.1 (a + 2) (by omega)).trans ((h1554.1 (a + 2) (by omega)).trans (hw2))
                            have h1619 := (hf1604.1 (a + 3) (by omega)).trans ((h1554.1 (a + 3) (by omega)).trans (hw3))
                            have h1620 := (hf1604.1 (a + 4) (by omega)).trans ((h1554.1 (a + 4) (by omega)).trans (hw4))
                            have h1621 := (hf1604.1 (a + 5) (by omega)).trans ((h1554.1 (a + 5) (by omega)).trans (hw5))
                            have h1622 := (hf1604.1 (a + 6) (by omega)).trans ((h1554.1 (a + 6) (by omega)).trans (hw6))
                            have h1623 := (hf1604.1 (a + 7) (by omega)).trans ((h1554.1 (a + 7) (by omega)).trans (hw7))
                            refine T_mono (c_addHole sc S1600 a d1 q1 (X_ix kn kc (ct (X_av n c1))) ⟨h1609, h1617, h1618, h1619, h1620, h1621, h1622, h1623⟩ hr1 (by omega) (by omega)) (fun v1610 S1611 h1612 => ?_)
                            obtain ⟨h1613, hw1614, hf1615⟩ := h1612
                            rw [h1613]
                            have hw1614 : C_wd S1611 a (X_aH d1 (X_ix kn kc (ct (X_av n c1)))) (X_ug q1 (d1 3 0) 0) := hw1614
                            show X_T sc 73 (163, [(7, .int (iI (X_ix kn kc (ct (X_av n c1))))), (5, .long (ct c1)), (4, .int (iI (bI (so c1 = 95 ∧ (d1 3 0 < 8 ∧ d1 4 0 < 4 ∧ ¬ X_hl d1 q1 (d1 3 0 - 1)))))), (3, .int (iI (bI (so c1 = 6 ∧ d1 3 0 < 8)))), (2, .int (iI i)), (0, .ref 496), (1, .ref a)], [], S1611) _
                            refine T_ziinc xr_73_163 xn_73 (a := i) (z := i + 1) rfl (Nat.le_of_ble_eq_true rfl) (by omega) (ls' := [(2, .int (iI (i + 1))), (7, .int (iI (X_ix kn kc (ct (X_av n c1))))), (5, .long (ct c1)), (4, .int (iI (bI (so c1 = 95 ∧ (d1 3 0 < 8 ∧ d1 4 0 < 4 ∧ ¬ X_hl d1 q1 (d1 3 0 - 1)))))), (3, .int (iI (bI (so c1 = 6 ∧ d1 3 0 < 8)))), (0, .ref 496), (1, .ref a)]) rfl (pc' := 166) rfl ?_
                            refine T_p xr_73_166 xn_73 (pc' := 2) (ls' := [(2, .int (iI (i + 1))), (7, .int (iI (X_ix kn kc (ct (X_av n c1))))), (5, .long (ct c1)), (4, .int (iI (bI (so c1 = 95 ∧ (d1 3 0 < 8 ∧ d1 4 0 < 4 ∧ ¬ X_hl d1 q1 (d1 3 0 - 1)))))), (3, .int (iI (bI (so c1 = 6 ∧ d1 3 0 < 8)))), (0, .ref 496), (1, .ref a)]) (st' := []) rfl ?_
                            have h1624 := (hf1615.1 497 (by omega)).trans (hl1603)
                            have h1625 := (hf1615.1 496 (by omega)).trans (hp1602)
                            refine T_sub (ls := [(2, .int (iI (i + 1))), (0, .ref 496), (1, .ref a)]) ⟨rfl, rfl, rfl, trivial⟩ rfl rfl ?_
                            exact ih1467 S1611 (i + 1) (X_av n (X_av n c1)) (X_aH d1 (X_ix kn kc (ct (X_av n c1)))) (X_ug q1 (d1 3 0) 0) h1625 h1624 hw1614.1 hw1614.2.1 hw1614.2.2.1 hw1614.2.2.2.1 hw1614.2.2.2.2.1 hw1614.2.2.2.2.2.1 hw1614.2.2.2.2.2.2.1 hw1614.2.2.2.2.2.2.2 (hF1470.tr ((((X_Fr.rf).tr (X_Fr.mono ⟨h1554.1, h1554.2⟩ (fun q hq => (by omega)))).tr (X_Fr.mono ⟨hf1604.1, hf1604.2⟩ (fun q hq => (by omega)))).tr (X_Fr.mono ⟨hf1615.1, hf1615.2⟩ (fun q hq => (by omega))))) (by omega) hr1616 (by omega) (by
                                  rw [← hR, sp_el_s (i := i) (by omega)]
                                  (repeat (first | rw [if_pos (by assumption)] | rw [if_neg (by assumption)]))
                                  all_goals rfl) (by omega)
                          · skip
                            have c1608 : ¬ (¬ (X_ix kn kc (ct (X_av n c1))) = (-1)) := c1608
                            exact (show False by first | contradiction | omega).elim
                        · skip
                          rw [h1588]
                          show X_T sc 73 (143, [(5, .long (ct c1)), (4, .int (iI (bI (so c1 = 95 ∧ (d1 3 0 < 8 ∧ d1 4 0 < 4 ∧ ¬ X_hl d1 q1 (d1 3 0 - 1)))))), (3, .int (iI (bI (so c1 = 6 ∧ d1 3 0 < 8)))), (2, .int (iI i)), (0, .ref 496), (1, .ref a)], [.int (iI (-1))], S1600) _
                          refine T_p xr_73_143 xn_73 (pc' := 147) (ls' := [(5, .long (ct c1)), (4, .int (iI (bI (so c1 = 95 ∧ (d1 3 0 < 8 ∧ d1 4 0 < 4 ∧ ¬ X_hl d1 q1 (d1 3 0 - 1)))))), (3, .int (iI (bI (so c1 = 6 ∧ d1 3 0 < 8)))), (2, .int (iI i)), (0, .ref 496), (1, .ref a)]) (st' := [.int (iI (-1))]) rfl ?_
                          refine T_p xr_73_147 xn_73 (pc' := 149) (ls' := [(7, .int (iI (-1))), (5, .long (ct c1)), (4, .int (iI (bI (so c1 = 95 ∧ (d1 3 0 < 8 ∧ d1 4 0 < 4 ∧ ¬ X_hl d1 q1 (d1 3 0 - 1)))))), (3, .int (iI (bI (so c1 = 6 ∧ d1 3 0 < 8)))), (2, .int (iI i)), (0, .ref 496), (1, .ref a)]) (st' := []) rfl ?_
                          refine T_p xr_73_149 xn_73 (pc' := 151) (ls' := [(7, .int (iI (-1))), (5, .long (ct c1)), (4, .int (iI (bI (so c1 = 95 ∧ (d1 3 0 < 8 ∧ d1 4 0 < 4 ∧ ¬ X_hl d1 q1 (d1 3 0 - 1)))))), (3, .int (iI (bI (so c1 = 6 ∧ d1 3 0 < 8)))), (2, .int (iI i)), (0, .ref 496), (1, .ref a)]) (st' := [.int (iI (-1))]) rfl ?_
                          refine T_p xr_73_151 xn_73 (pc' := 152) (ls' := [(7, .int (iI (-1))), (5, .long (ct c1)), (4, .int (iI (bI (so c1 = 95 ∧ (d1 3 0 < 8 ∧ d1 4 0 < 4 ∧ ¬ X_hl d1 q1 (d1 3 0 - 1)))))), (3, .int (iI (bI (so c1 = 6 ∧ d1 3 0 < 8)))), (2, .int (iI i)), (0, .ref 496), (1, .ref a)]) (st' := [.int (iI (-1)), .int (iI (-1))]) rfl ?_
                          refine T_zicmp_nef xr_73_152 (t := 157) (pc' := 155) rfl rfl (by decide) ?_
                          refine T_p xr_73_155 xn_73 (pc' := 156) (ls' := [(7, .int (iI (-1))), (5, .long (ct c1)), (4, .int (iI (bI (so c1 = 95 ∧ (d1 3 0 < 8 ∧ d1 4 0 < 4 ∧ ¬ X_hl d1 q1 (d1 3 0 - 1)))))), (3, .int (iI (bI (so c1 = 6 ∧ d1 3 0 < 8)))), (2, .int (iI i)), (0, .ref 496), (1, .ref a)]) (st' := [.int (iI 0)]) rfl ?_
                          refine T_iret xr_73_156 xf_73.2.2 (by decide) ?_
                          refine hQ _ _ ?_
                          have h1626 := (hf1604.1 a (by omega)).trans ((h1554.1 a (by omega)).trans (hw0))
                          have h1627 := (hf1604.1 (a + 1) (by omega)).trans ((h1554.1 (a + 1) (by omega)).trans (hw1))
                          have h1628 := (hf1604.1 (a + 2) (by omega)).trans ((h1554.1 (a + 2) (by omega)).trans (hw2))
                          have h1629 := (hf1604.1 (a + 3) (by omega)).trans ((h1554.1 (a + 3) (by omega)).trans (hw3))
                          have h1630 := (hf1604.1 (a + 4) (by omega)).trans ((h1554.1 (a + 4) (by omega)).trans (hw4))
                          have h1631 := (hf1604.1 (a + 5) (by omega)).trans ((h1554.1 (a + 5) (by omega)).trans (hw5))
                          have h1632 := (hf1604.1 (a + 6) (by omega)).trans ((h1554.1 (a + 6) (by omega)).trans (hw6))
                          have h1633 := (hf1604.1 (a + 7) (by omega)).trans ((h1554.1 (a + 7) (by omega)).trans (hw7))
                          refine Or.inr ⟨rfl, ?_, ⟨_, _, by omega, hp1602⟩, ⟨(X_av n c1), d1, q1, hl1603, by omega, ⟨h1626, h1627, h1628, h1629, h1630, h1631, h1632, h1633⟩, hr1⟩, (((X_Fr.rf).tr (X_Fr.mono ⟨hF1470.1, hF1470.2⟩ (fun q hq => (by omega)))).tr (X_Fr.mono ⟨h1554.1, h1554.2⟩ (fun q hq => (by omega)))).tr (X_Fr.mono ⟨hf1604.1, hf1604.2⟩ (fun q hq => (by omega)))⟩
                          rw [← hR]
                          first
                            | (rw [sp_el_s (i := i) (by omega)]
                               (repeat (first | rw [if_pos (by assumption)] | rw [if_neg (by assumption)]))
                               all_goals first | rfl | ((repeat' split) <;> first | rfl | (exfalso; omega)))
                            | (rw [show (9 - i).toNat = 0 by omega]; rfl)
                    · skip
                      have c1557 : (so c1 = 6 ∧ d1 3 0 < 8) := c1557
                      exact (show False by first | contradiction | omega).elim
                  · skip
                    have c1544 : ¬ (so c1 = 95 ∧ (d1 3 0 < 8 ∧ d1 4 0 < 4 ∧ ¬ X_hl d1 q1 (d1 3 0 - 1))) := c1544
                    refine T_p xr_73_96 xn_73 (pc' := 169) (ls' := [(4, .int (iI (bI (so c1 = 95 ∧ (d1 3 0 < 8 ∧ d1 4 0 < 4 ∧ ¬ X_hl d1 q1 (d1 3 0 - 1)))))), (3, .int (iI (bI (so c1 = 6 ∧ d1 3 0 < 8)))), (2, .int (iI i)), (0, .ref 496), (1, .ref a)]) (st' := []) rfl ?_
                    refine T_p xr_73_169 xn_73 (pc' := 170) (ls' := [(4, .int (iI (bI (so c1 = 95 ∧ (d1 3 0 < 8 ∧ d1 4 0 < 4 ∧ ¬ X_hl d1 q1 (d1 3 0 - 1)))))), (3, .int (iI (bI (so c1 = 6 ∧ d1 3 0 < 8)))), (2, .int (iI i)), (0, .ref 496), (1, .ref a)]) (st' := [.ref 496]) rfl ?_
                    refine T_cv (S := S1471) (q := 496) xr_73_170 xf_63.1 xf_63.2.1 xn_63 (as := []) (r := []) rfl hp1 (Nat.le_of_ble_eq_true rfl) (Nat.le_of_ble_eq_true rfl) (pc' := 173) rfl (ls' := [(0, .ref 496)]) rfl ?_
                    refine T_mono (c_refuse sc S1471 B fl fp at_ n c1 so pl ct hp1 ⟨hx1, h1494, h1495, h1496⟩ (by omega) hso) (fun v1634 S1635 h1636 => ?_)
                    obtain ⟨h1637, ⟨fl1638, fp1639, hn1640, hp1641⟩, hf1642⟩ := h1636
                    rw [h1637]
                    show X_T sc 73 (173, [(4, .int (iI (bI (so c1 = 95 ∧ (d1 3 0 < 8 ∧ d1 4 0 < 4 ∧ ¬ X_hl d1 q1 (d1 3 0 - 1)))))), (3, .int (iI (bI (so c1 = 6 ∧ d1 3 0 < 8)))), (2, .int (iI i)), (0, .ref 496), (1, .ref a)], [], S1635) _
                    refine T_p xr_73_173 xn_73 (pc' := 174) (ls' := [(4, .int (iI (bI (so c1 = 95 ∧ (d1 3 0 < 8 ∧ d1 4 0 < 4 ∧ ¬ X_hl d1 q1 (d1 3 0 - 1)))))), (3, .int (iI (bI (so c1 = 6 ∧ d1 3 0 < 8)))), (2, .int (iI i)), (0, .ref 496), (1, .ref a)]) (st' := [.int (iI 0)]) rfl ?_
                    refine T_iret xr_73_174 xf_73.2.2 (by decide) ?_
                    refine hQ _ _ ?_
                    have h1643 := (hf1642.1 497 (by omega)).trans (hx1)
                    have h1644 := (hf1642.1 a (by omega)).trans (hw0)
                    have h1645 := (hf1642.1 (a + 1) (by omega)).trans (hw1)
                    have h1646 := (hf1642.1 (a + 2) (by omega)).trans (hw2)
                    have h1647 := (hf1642.1 (a + 3) (by omega)).trans (hw3)
                    have h1648 := (hf1642.1 (a + 4) (by omega)).trans (hw4)
                    have h1649 := (hf1642.1 (a + 5) (by omega)).trans (hw5)
                    have h1650 := (hf1642.1 (a + 6) (by omega)).trans (hw6)
                    have h1651 := (hf1642.1 (a + 7) (by omega)).trans (hw7)
                    refine Or.inr ⟨rfl, ?_, ⟨_, _, by omega, hp1641⟩, ⟨c1, d1, q1, h1643, by omega, ⟨h1644, h1645, h1646, h1647, h1648, h1649, h1650, h1651⟩, hr1⟩, ((X_Fr.rf).tr (X_Fr.mono ⟨hF1470.1, hF1470.2⟩ (fun q hq => (by omega)))).tr (X_Fr.mono ⟨hf1642.1, hf1642.2⟩ (fun q hq => (by omega)))⟩
                    rw [← hR]
                    first
                      | (rw [sp_el_s (i := i) (by omega)]
                         (repeat (first | rw [if_pos (by assumption)] | rw [if_neg (by assumption)]))
                         all_goals first | rfl | ((repeat' split) <;> first | rfl | (exfalso; omega)))
                      | (rw [show (9 - i).toNat = 0 by omega]; rfl)
              refine T_p xr_73_61 xn_73 (pc' := 62) (ls' := [(3, .int (iI (bI (so c1 = 6 ∧ d1 3 0 < 8)))), (2, .int (iI i)), (0, .ref 496), (1, .ref a)]) (st' := [.ref 496]) rfl ?_
              refine T_get xr_73_62 hp1 rfl (v := .ref 497) rfl (pc' := 65) rfl ?_
              refine T_cv (S := S1471) (q := 497) xr_73_65 xf_44.1 xf_44.2.1 xn_44 (as := []) (r := []) rfl hx1 (Nat.le_of_ble_eq_true rfl) (Nat.le_of_ble_eq_true rfl) (pc' := 68) rfl (ls' := [(0, .ref 497)]) rfl ?_
              refine T_mono (c_sort sc S1471 at_ n c1 so pl ct ⟨hx1, h1494, h1495, h1496⟩ (by omega)) (fun v1653 S1654 h1652 => ?_)
              obtain ⟨h1655, h1656⟩ := h1652
              rw [h1655, h1656]
              show X_T sc 73 (68, [(3, .int (iI (bI (so c1 = 6 ∧ d1 3 0 < 8)))), (2, .int (iI i)), (0, .ref 496), (1, .ref a)], [.int (iI (so c1))], S1471) _
              have hs1657 := hso c1 (by omega) (by omega)
              refine T_p xr_73_68 xn_73 (pc' := 70) (ls' := [(3, .int (iI (bI (so c1 = 6 ∧ d1 3 0 < 8)))), (2, .int (iI i)), (0, .ref 496), (1, .ref a)]) (st' := [.int (iI 95), .int (iI (so c1))]) rfl ?_
              refine T_zicmp_ne xr_73_70 (t := 84) (pc' := 73) rfl rfl (fun c1658 => ?_) (fun c1658 => ?_)
              · skip
                have c1658 : ¬ (so c1) = 95 := c1658
                refine T_p xr_73_84 xn_73 (pc' := 85) (ls' := [(3, .int (iI (bI (so c1 = 6 ∧ d1 3 0 < 8)))), (2, .int (iI i)), (0, .ref 496), (1, .ref a)]) (st' := [.int (iI 0)]) rfl ?_
                refine T_ie (y := iI (bI (so c1 = 95 ∧ (d1 3 0 < 8 ∧ d1 4 0 < 4 ∧ ¬ X_hl d1 q1 (d1 3 0 - 1))))) (by rw [bI_f (by rintro ⟨h1, h2⟩; first | omega | contradiction)]) ?_
                exact J1512
              · skip
                have c1658 : ¬ (¬ (so c1) = 95) := c1658
                refine T_p xr_73_73 xn_73 (pc' := 74) (ls' := [(3, .int (iI (bI (so c1 = 6 ∧ d1 3 0 < 8)))), (2, .int (iI i)), (0, .ref 496), (1, .ref a)]) (st' := [.ref a]) rfl ?_
                refine T_cv (S := S1471) (q := a) xr_73_74 xf_92.1 xf_92.2.1 xn_92 (as := []) (r := []) rfl hw0 (Nat.le_of_ble_eq_true rfl) (Nat.le_of_ble_eq_true rfl) (pc' := 77) rfl (ls' := [(0, .ref a)]) rfl ?_
                refine T_mono (c_mayTakeHole sc S1471 a d1 q1 ⟨hw0, hw1, hw2, hw3, hw4, hw5, hw6, hw7⟩ hr1) (fun v1660 S1661 h1659 => ?_)
                obtain ⟨h1662, h1663⟩ := h1659
                rw [h1662, h1663]
                show X_T sc 73 (77, [(3, .int (iI (bI (so c1 = 6 ∧ d1 3 0 < 8)))), (2, .int (iI i)), (0, .ref 496), (1, .ref a)], [.int (iI (bI (d1 3 0 < 8 ∧ d1 4 0 < 4 ∧ ¬ X_hl d1 q1 (d1 3 0 - 1))))], S1471) _
                refine T_bif_eq xr_73_77 (t := 84) (pc' := 80) rfl rfl (fun c1664 => ?_) (fun c1664 => ?_)
                · skip
                  have c1664 : ¬ (d1 3 0 < 8 ∧ d1 4 0 < 4 ∧ ¬ X_hl d1 q1 (d1 3 0 - 1)) := c1664
                  refine T_p xr_73_84 xn_73 (pc' := 85) (ls' := [(3, .int (iI (bI (so c1 = 6 ∧ d1 3 0 < 8)))), (2, .int (iI i)), (0, .ref 496), (1, .ref a)]) (st' := [.int (iI 0)]) rfl ?_
                  refine T_ie (y := iI (bI (so c1 = 95 ∧ (d1 3 0 < 8 ∧ d1 4 0 < 4 ∧ ¬ X_hl d1 q1 (d1 3 0 - 1))))) (by rw [bI_f (by rintro ⟨h1, h2⟩; first | omega | contradiction)]) ?_
                  exact J1512
                · skip
                  have c1664 : (d1 3 0 < 8 ∧ d1 4 0 < 4 ∧ ¬ X_hl d1 q1 (d1 3 0 - 1)) := c1664
                  refine T_p xr_73_80 xn_73 (pc' := 81) (ls' := [(3, .int (iI (bI (so c1 = 6 ∧ d1 3 0 < 8)))), (2, .int (iI i)), (0, .ref 496), (1, .ref a)]) (st' := [.int (iI 1)]) rfl ?_
                  refine T_p xr_73_81 xn_73 (pc' := 85) (ls' := [(3, .int (iI (bI (so c1 = 6 ∧ d1 3 0 < 8)))), (2, .int (iI i)), (0, .ref 496), (1, .ref a)]) (st' := [.int (iI 1)]) rfl ?_
                  refine T_ie (y := iI (bI (so c1 = 95 ∧ (d1 3 0 < 8 ∧ d1 4 0 < 4 ∧ ¬ X_hl d1 q1 (d1 3 0 - 1))))) (by rw [bI_t (by exact ⟨by omega, by assumption⟩)]) ?_
                  exact J1512
            refine T_p xr_73_34 xn_73 (pc' := 35) (ls' := [(2, .int (iI i)), (0, .ref 496), (1, .ref a)]) (st' := [.ref 496]) rfl ?_
            refine T_get xr_73_35 hp1 rfl (v := .ref 497) rfl (pc' := 38) rfl ?_
            refine T_cv (S := S1471) (q := 497) xr_73_38 xf_44.1 xf_44.2.1 xn_44 (as := []) (r := []) rfl hx1 (Nat.le_of_ble_eq_true rfl) (Nat.le_of_ble_eq_true rfl) (pc' := 41) rfl (ls' := [(0, .ref 497)]) rfl ?_
            refine T_mono (c_sort sc S1471 at_ n c1 so pl ct ⟨hx1, h1494, h1495, h1496⟩ (by omega)) (fun v1666 S1667 h1665 => ?_)
            obtain ⟨h1668, h1669⟩ := h1665
            rw [h1668, h1669]
            show X_T sc 73 (41, [(2, .int (iI i)), (0, .ref 496), (1, .ref a)], [.int (iI (so c1))], S1471) _
            have hs1670 := hso c1 (by omega) (by omega)
            refine T_p xr_73_41 xn_73 (pc' := 43) (ls' := [(2, .int (iI i)), (0, .ref 496), (1, .ref a)]) (st' := [.int (iI 6), .int (iI (so c1))]) rfl ?_
            refine T_zicmp_ne xr_73_43 (t := 59) (pc' := 46) rfl rfl (fun c1671 => ?_) (fun c1671 => ?_)
            · skip
              have c1671 : ¬ (so c1) = 6 := c1671
              refine T_p xr_73_59 xn_73 (pc' := 60) (ls' := [(2, .int (iI i)), (0, .ref 496), (1, .ref a)]) (st' := [.int (iI 0)]) rfl ?_
              refine T_ie (y := iI (bI (so c1 = 6 ∧ d1 3 0 < 8))) (by rw [bI_f (by rintro ⟨h1, h2⟩; omega)]) ?_
              exact J1511
            · skip
              have c1671 : ¬ (¬ (so c1) = 6) := c1671
              refine T_p xr_73_46 xn_73 (pc' := 47) (ls' := [(2, .int (iI i)), (0, .ref 496), (1, .ref a)]) (st' := [.ref a]) rfl ?_
              refine T_get xr_73_47 hw0 rfl (v := .int (iI (d1 3 0))) rfl (pc' := 50) rfl ?_
              refine T_p xr_73_50 xn_73 (pc' := 52) (ls' := [(2, .int (iI i)), (0, .ref 496), (1, .ref a)]) (st' := [.int (iI 8), .int (iI (d1 3 0))]) rfl ?_
              refine T_zicmp_ge xr_73_52 (t := 59) (pc' := 55) rfl rfl (fun c1672 => ?_) (fun c1672 => ?_)
              · skip
                have c1672 : 8 ≤ (d1 3 0) := c1672
                refine T_p xr_73_59 xn_73 (pc' := 60) (ls' := [(2, .int (iI i)), (0, .ref 496), (1, .ref a)]) (st' := [.int (iI 0)]) rfl ?_
                refine T_ie (y := iI (bI (so c1 = 6 ∧ d1 3 0 < 8))) (by rw [bI_f (by rintro ⟨h1, h2⟩; omega)]) ?_
                exact J1511
              · skip
                have c1672 : ¬ (8 ≤ (d1 3 0)) := c1672
                refine T_p xr_73_55 xn_73 (pc' := 56) (ls' := [(2, .int (iI i)), (0, .ref 496), (1, .ref a)]) (st' := [.int (iI 1)]) rfl ?_
                refine T_p xr_73_56 xn_73 (pc' := 60) (ls' := [(2, .int (iI i)), (0, .ref 496), (1, .ref a)]) (st' := [.int (iI 1)]) rfl ?_
                refine T_ie (y := iI (bI (so c1 = 6 ∧ d1 3 0 < 8))) (by rw [bI_t (by exact ⟨by omega, by omega⟩)]) ?_
                exact J1511
          · skip
            have c1510 : ¬ (¬ (so c1) = 59) := c1510
            refine T_p xr_73_32 xn_73 (pc' := 33) (ls' := [(2, .int (iI i)), (0, .ref 496), (1, .ref a)]) (st' := [.int (iI 1)]) rfl ?_
            refine T_iret xr_73_33 xf_73.2.2 (by decide) ?_
            refine hQ _ _ ?_
            refine Or.inl ⟨rfl, c1, d1, q1, ?_, hp1, hx1, by omega, ⟨hw0, hw1, hw2, hw3, hw4, hw5, hw6, hw7⟩, hr1, (X_Fr.rf).tr (X_Fr.mono ⟨hF1470.1, hF1470.2⟩ (fun q hq => (by omega)))⟩
            rw [← hR, sp_el_s (i := i) (by omega)]
            (repeat (first | rw [if_pos (by assumption)] | rw [if_neg (by assumption)]))
            all_goals first | rfl | ((repeat' split) <;> first | rfl | (exfalso; omega))
  exact L1466 ((9 : Int) + 1).toNat S 0 cur d q hp hx.1 hw.1 hw.2.1 hw.2.2.1 hw.2.2.2.1 hw.2.2.2.2.1 hw.2.2.2.2.2.1 hw.2.2.2.2.2.2.1 hw.2.2.2.2.2.2.2 ((X_Fr.rf)) (by omega) hr (by omega) rfl (by omega)
