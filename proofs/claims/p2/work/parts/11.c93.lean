theorem xr_77_0 : X_row 77 0 = some (0, (.iconst 0, 1), (0, 0, 0)) := by decide +kernel
theorem xr_77_1 : X_row 77 1 = some (1, (.istore_n 2, 1), (0, 0, 0)) := by decide +kernel
theorem xr_77_2 : X_row 77 2 = some (2, (.iload_n 2, 1), (0, 0, 0)) := by decide +kernel
theorem xr_77_3 : X_row 77 3 = some (3, (.bipush 8, 2), (0, 0, 0)) := by decide +kernel
theorem xr_77_5 : X_row 77 5 = some (5, (.if_icmp .gt 164, 3), (0, 0, 0)) := by decide +kernel
theorem xr_77_8 : X_row 77 8 = some (8, (.aload_n 0, 1), (0, 0, 0)) := by decide +kernel
theorem xr_77_9 : X_row 77 9 = some (9, (.getfield 23, 3), (4, 0, 18)) := by decide +kernel
theorem xr_77_12 : X_row 77 12 = some (12, (.invokevirtual 39, 3), (48, 6, 0)) := by decide +kernel
theorem xr_77_15 : X_row 77 15 = some (15, (.bipush 61, 2), (0, 0, 0)) := by decide +kernel
theorem xr_77_17 : X_row 77 17 = some (17, (.if_icmp .eq 15, 3), (0, 0, 0)) := by decide +kernel
theorem xr_77_20 : X_row 77 20 = some (20, (.aload_n 0, 1), (0, 0, 0)) := by decide +kernel
theorem xr_77_21 : X_row 77 21 = some (21, (.getfield 23, 3), (4, 0, 18)) := by decide +kernel
theorem xr_77_24 : X_row 77 24 = some (24, (.invokevirtual 39, 3), (48, 6, 0)) := by decide +kernel
theorem xr_77_27 : X_row 77 27 = some (27, (.bipush 59, 2), (0, 0, 0)) := by decide +kernel
theorem xr_77_29 : X_row 77 29 = some (29, (.if_icmp .ne 5, 3), (0, 0, 0)) := by decide +kernel
theorem xr_77_32 : X_row 77 32 = some (32, (.iconst 1, 1), (0, 0, 0)) := by decide +kernel
theorem xr_77_33 : X_row 77 33 = some (33, (.ireturn, 1), (0, 0, 0)) := by decide +kernel
theorem xr_77_34 : X_row 77 34 = some (34, (.aload_n 0, 1), (0, 0, 0)) := by decide +kernel
theorem xr_77_35 : X_row 77 35 = some (35, (.getfield 23, 3), (4, 0, 18)) := by decide +kernel
theorem xr_77_38 : X_row 77 38 = some (38, (.invokevirtual 39, 3), (48, 6, 0)) := by decide +kernel
theorem xr_77_41 : X_row 77 41 = some (41, (.bipush 6, 2), (0, 0, 0)) := by decide +kernel
theorem xr_77_43 : X_row 77 43 = some (43, (.if_icmp .ne 16, 3), (0, 0, 0)) := by decide +kernel
theorem xr_77_46 : X_row 77 46 = some (46, (.aload_n 1, 1), (0, 0, 0)) := by decide +kernel
theorem xr_77_47 : X_row 77 47 = some (47, (.getfield 164, 3), (8, 3, 5)) := by decide +kernel
theorem xr_77_50 : X_row 77 50 = some (50, (.bipush 8, 2), (0, 0, 0)) := by decide +kernel
theorem xr_77_52 : X_row 77 52 = some (52, (.if_icmp .ge 7, 3), (0, 0, 0)) := by decide +kernel
theorem xr_77_55 : X_row 77 55 = some (55, (.iconst 1, 1), (0, 0, 0)) := by decide +kernel
theorem xr_77_56 : X_row 77 56 = some (56, (.goto 4, 3), (0, 0, 0)) := by decide +kernel
theorem xr_77_59 : X_row 77 59 = some (59, (.iconst 0, 1), (0, 0, 0)) := by decide +kernel
theorem xr_77_60 : X_row 77 60 = some (60, (.istore_n 3, 1), (0, 0, 0)) := by decide +kernel
theorem xr_77_61 : X_row 77 61 = some (61, (.aload_n 0, 1), (0, 0, 0)) := by decide +kernel
theorem xr_77_62 : X_row 77 62 = some (62, (.getfield 23, 3), (4, 0, 18)) := by decide +kernel
theorem xr_77_65 : X_row 77 65 = some (65, (.invokevirtual 39, 3), (48, 6, 0)) := by decide +kernel
theorem xr_77_68 : X_row 77 68 = some (68, (.bipush 95, 2), (0, 0, 0)) := by decide +kernel
theorem xr_77_70 : X_row 77 70 = some (70, (.if_icmp .ne 14, 3), (0, 0, 0)) := by decide +kernel
theorem xr_77_73 : X_row 77 73 = some (73, (.aload_n 1, 1), (0, 0, 0)) := by decide +kernel
theorem xr_77_74 : X_row 77 74 = some (74, (.invokevirtual 174, 3), (97, 54, 0)) := by decide +kernel
theorem xr_77_77 : X_row 77 77 = some (77, (.ifCond .eq 7, 3), (0, 0, 0)) := by decide +kernel
theorem xr_77_80 : X_row 77 80 = some (80, (.iconst 1, 1), (0, 0, 0)) := by decide +kernel
theorem xr_77_81 : X_row 77 81 = some (81, (.goto 4, 3), (0, 0, 0)) := by decide +kernel
theorem xr_77_84 : X_row 77 84 = some (84, (.iconst 0, 1), (0, 0, 0)) := by decide +kernel
theorem xr_77_85 : X_row 77 85 = some (85, (.istore 4, 2), (0, 0, 0)) := by decide +kernel
theorem xr_77_87 : X_row 77 87 = some (87, (.iload_n 3, 1), (0, 0, 0)) := by decide +kernel
theorem xr_77_88 : X_row 77 88 = some (88, (.ifCond .ne 11, 3), (0, 0, 0)) := by decide +kernel
theorem xr_77_91 : X_row 77 91 = some (91, (.iload 4, 2), (0, 0, 0)) := by decide +kernel
theorem xr_77_93 : X_row 77 93 = some (93, (.ifCond .ne 6, 3), (0, 0, 0)) := by decide +kernel
theorem xr_77_96 : X_row 77 96 = some (96, (.goto 73, 3), (0, 0, 0)) := by decide +kernel
theorem xr_77_99 : X_row 77 99 = some (99, (.aload_n 0, 1), (0, 0, 0)) := by decide +kernel
theorem xr_77_100 : X_row 77 100 = some (100, (.getfield 23, 3), (4, 0, 18)) := by decide +kernel
theorem xr_77_103 : X_row 77 103 = some (103, (.invokevirtual 86, 3), (50, 20, 0)) := by decide +kernel
theorem xr_77_106 : X_row 77 106 = some (106, (.lstore 5, 2), (0, 0, 0)) := by decide +kernel
theorem xr_77_108 : X_row 77 108 = some (108, (.aload_n 0, 1), (0, 0, 0)) := by decide +kernel
theorem xr_77_109 : X_row 77 109 = some (109, (.getfield 23, 3), (4, 0, 18)) := by decide +kernel
theorem xr_77_112 : X_row 77 112 = some (112, (.invokevirtual 80, 3), (52, 18, 0)) := by decide +kernel
theorem xr_77_115 : X_row 77 115 = some (115, (.iload_n 3, 1), (0, 0, 0)) := by decide +kernel
theorem xr_77_116 : X_row 77 116 = some (116, (.ifCond .eq 12, 3), (0, 0, 0)) := by decide +kernel
theorem xr_77_119 : X_row 77 119 = some (119, (.aload_n 1, 1), (0, 0, 0)) := by decide +kernel
theorem xr_77_120 : X_row 77 120 = some (120, (.lload 5, 2), (0, 0, 0)) := by decide +kernel
theorem xr_77_122 : X_row 77 122 = some (122, (.invokevirtual 177, 3), (96, 56, 0)) := by decide +kernel
theorem xr_77_125 : X_row 77 125 = some (125, (.goto 38, 3), (0, 0, 0)) := by decide +kernel
theorem xr_77_128 : X_row 77 128 = some (128, (.aload_n 0, 1), (0, 0, 0)) := by decide +kernel
theorem xr_77_129 : X_row 77 129 = some (129, (.getfield 23, 3), (4, 0, 18)) := by decide +kernel
theorem xr_77_132 : X_row 77 132 = some (132, (.invokevirtual 39, 3), (48, 6, 0)) := by decide +kernel
theorem xr_77_135 : X_row 77 135 = some (135, (.iconst 2, 1), (0, 0, 0)) := by decide +kernel
theorem xr_77_136 : X_row 77 136 = some (136, (.if_icmp .ne 10, 3), (0, 0, 0)) := by decide +kernel
theorem xr_77_139 : X_row 77 139 = some (139, (.aload_n 0, 1), (0, 0, 0)) := by decide +kernel
theorem xr_77_140 : X_row 77 140 = some (140, (.invokevirtual 120, 3), (73, 42, 0)) := by decide +kernel
theorem xr_77_143 : X_row 77 143 = some (143, (.goto 4, 3), (0, 0, 0)) := by decide +kernel
theorem xr_77_146 : X_row 77 146 = some (146, (.iconst 0, 1), (0, 0, 0)) := by decide +kernel
theorem xr_77_147 : X_row 77 147 = some (147, (.istore 7, 2), (0, 0, 0)) := by decide +kernel
theorem xr_77_149 : X_row 77 149 = some (149, (.iload 7, 2), (0, 0, 0)) := by decide +kernel
theorem xr_77_151 : X_row 77 151 = some (151, (.iconst (-1), 1), (0, 0, 0)) := by decide +kernel
theorem xr_77_152 : X_row 77 152 = some (152, (.if_icmp .ne 5, 3), (0, 0, 0)) := by decide +kernel
theorem xr_77_155 : X_row 77 155 = some (155, (.iconst 0, 1), (0, 0, 0)) := by decide +kernel
theorem xr_77_156 : X_row 77 156 = some (156, (.ireturn, 1), (0, 0, 0)) := by decide +kernel
theorem xr_77_157 : X_row 77 157 = some (157, (.aload_n 1, 1), (0, 0, 0)) := by decide +kernel
theorem xr_77_158 : X_row 77 158 = some (158, (.iload 7, 2), (0, 0, 0)) := by decide +kernel
theorem xr_77_160 : X_row 77 160 = some (160, (.invokevirtual 180, 3), (98, 58, 0)) := by decide +kernel
theorem xr_77_163 : X_row 77 163 = some (163, (.iinc 2 1, 3), (0, 0, 0)) := by decide +kernel
theorem xr_77_166 : X_row 77 166 = some (166, (.goto (-164), 3), (0, 0, 0)) := by decide +kernel
theorem xr_77_169 : X_row 77 169 = some (169, (.aload_n 0, 1), (0, 0, 0)) := by decide +kernel
theorem xr_77_170 : X_row 77 170 = some (170, (.invokevirtual 67, 3), (67, 12, 0)) := by decide +kernel
theorem xr_77_173 : X_row 77 173 = some (173, (.iconst 0, 1), (0, 0, 0)) := by decide +kernel
theorem xr_77_174 : X_row 77 174 = some (174, (.ireturn, 1), (0, 0, 0)) := by decide +kernel
theorem xn_77 : X_nL 77 = 8 := by decide +kernel
theorem xf_77 : X_na 77 = 1 ∧ X_ci 77 = 4 ∧ X_rt 77 = (some .boolean) := by decide +kernel
def X_aP (d : Nat → Int → Int) : Nat → Int → Int := X_wu d 3 (fun _ => d 3 0 + 1)
def X_aH (d : Nat → Int → Int) (k : Int) : Nat → Int → Int := X_wu (X_wu (X_wu (X_wu d 8 (X_ug (d 8) (d 3 0) (d 4 0))) 9 (X_ug (d 9) (d 4 0) k)) 3 (fun _ => d 3 0 + 1)) 4 (fun _ => d 4 0 + 1)
theorem X_wr_P {d : Nat → Int → Int} (h : X_wr d) (h3 : d 3 0 < 8) : X_wr (X_aP d) := X_wr_3 h (by have := h.2.2.2.1; omega)
theorem X_wr_H {d : Nat → Int → Int} {k : Int} (h : X_wr d) (h3 : d 3 0 < 8) (h4 : d 4 0 < 4) : X_wr (X_aH d k) := X_wr_4 (X_wr_3 (X_wr_9 (X_wr_8 h)) (by have := h.2.2.2.1; omega)) (by have := h.2.2.2.2.1; omega)
/-- a word's elements up to the = or ; behind them -/
noncomputable def sp_el (n : Int) (so : Int → Int) (ct : Int → Int64) (kn : Int → Int64) (kc : Int) : Nat → Int → (Nat → Int → Int) → (Int → Int64) → Option (Int × (Nat → Int → Int) × (Int → Int64))
  | 0, _, _, _ => none
  | k + 1, c, d, q => if so c = 61 then some (c, d, q) else if so c = 59 then some (c, d, q) else
    if so c = 6 ∧ d 3 0 < 8 then sp_el n so ct kn kc k (X_av n c) (X_aP d) (X_ug q (d 3 0) (ct c)) else
    @ite _ (so c = 95 ∧ (d 3 0 < 8 ∧ d 4 0 < 4 ∧ ¬ X_hl d q (d 3 0 - 1))) (Classical.propDecidable _)
      (if so (X_av n c) = 2 then (if X_ix kn kc (ct (X_av n c)) = -1 then none else sp_el n so ct kn kc k (X_av n (X_av n c)) (X_aH d (X_ix kn kc (ct (X_av n c)))) (X_ug q (d 3 0) 0)) else sp_el n so ct kn kc k (X_av n c) (X_aH d 0) (X_ug q (d 3 0) 0)) none
theorem sp_el_s {n : Int} {so : Int → Int} {ct : Int → Int64} {kn : Int → Int64} {kc i c : Int} {d : Nat → Int → Int} {q : Int → Int64} (h : 0 ≤ i ∧ i ≤ 8) : sp_el n so ct kn kc (9 - i).toNat c d q = if so c = 61 then some (c, d, q) else if so c = 59 then some (c, d, q) else
    if so c = 6 ∧ d 3 0 < 8 then sp_el n so ct kn kc (9 - (i + 1)).toNat (X_av n c) (X_aP d) (X_ug q (d 3 0) (ct c)) else
    @ite _ (so c = 95 ∧ (d 3 0 < 8 ∧ d 4 0 < 4 ∧ ¬ X_hl d q (d 3 0 - 1))) (Classical.propDecidable _)
      (if so (X_av n c) = 2 then (if X_ix kn kc (ct (X_av n c)) = -1 then none else sp_el n so ct kn kc (9 - (i + 1)).toNat (X_av n (X_av n c)) (X_aH d (X_ix kn kc (ct (X_av n c)))) (X_ug q (d 3 0) 0)) else sp_el n so ct kn kc (9 - (i + 1)).toNat (X_av n c) (X_aH d 0) (X_ug q (d 3 0) 0)) none := by
  rw [show (9 - i).toNat = (9 - (i + 1)).toNat + 1 by omega]
  rfl
theorem c_parseElements (sc : X_Sc) (S : X_S) (B : Nat) (fl fp at_ n cur : Int) (so pl : Int → Int) (ct : Int → Int64) (rc kc wc : Int) (rn : Int → Int64) (lo : Int → Int) (kn : Int → Int64) (ab : Int → Int) (a : Nat) (d : Nat → Int → Int) (q : Int → Int64) (hB : 4 ≤ B ∧ B + 246 ≤ 496) (ha : B + 6 ≤ a ∧ a + 7 < B + 246) (hp : C_pa S B fl fp) (hx : C_lx S at_ n cur so pl ct) (hcu : 0 ≤ cur ∧ cur < n ∧ n ≤ 2001) (hso : ∀ i, 0 ≤ i → i < n → 0 ≤ so i ∧ so i ≤ 255) (hb : C_bk S B rc kc wc rn lo kn ab) (hw : C_wd S a d q) (hr : X_wr d) : X_T sc 77 (0, [(0, .ref 496), (1, .ref a)], [], S) (fun v S' => (v = some (.int (iI 1)) ∧ ∃ c2 d2 q2, sp_el n so ct kn kc 9 cur d q = some (c2, d2, q2) ∧ C_pa S' B fl fp ∧ S'.1 497 = .inr (3, [.ref 2, .int (iI at_), .int (iI n), .ref 498, .ref 499, .ref 500, .int (iI (c2))]) ∧ (0 ≤ c2 ∧ c2 < n) ∧ C_wd S' a d2 q2 ∧ X_wr d2 ∧ X_Fr (fun q => q = 496 ∨ q = 497 ∨ (a ≤ q ∧ q ≤ a + 7)) S S') ∨ (v = some (.int (iI 0)) ∧ sp_el n so ct kn kc 9 cur d q = none ∧ (∃ fl' fp', (¬ fl' = 0 ∧ 0 ≤ fl' ∧ fl' ≤ 5) ∧ C_pa S' B fl' fp') ∧ (∃ c2 d2 q2, S'.1 497 = .inr (3, [.ref 2, .int (iI at_), .int (iI n), .ref 498, .ref 499, .ref 500, .int (iI (c2))]) ∧ (0 ≤ c2 ∧ c2 < n) ∧ C_wd S' a d2 q2 ∧ X_wr d2) ∧ X_Fr (fun q => q = 496 ∨ q = 497 ∨ (a ≤ q ∧ q ≤ a + 7)) S S')) := by
  obtain ⟨hb0, hb1, hb2, hb3, hb4, ⟨f, hb5, hf⟩, ⟨hrc, hrcb⟩, ⟨hkc, hkcb⟩, ⟨hwc, hwcb⟩⟩ := id hb
  obtain ⟨⟨hr0, hr0b⟩, ⟨hr1, hr1b⟩, ⟨hr2, hr2b⟩, ⟨hr3, hr3b⟩, ⟨hr4, hr4b⟩, ⟨hr5, hr5b⟩, ⟨hr6, hr6b⟩, ⟨hr7, hr7b⟩⟩ := id hr
  refine X_QI (fun Q hQ => ?_)
  refine T_p xr_77_0 xn_77 (pc' := 1) (ls' := [(0, .ref 496), (1, .ref a)]) (st' := [.int (iI 0)]) rfl ?_
  refine T_p xr_77_1 xn_77 (pc' := 2) (ls' := [(2, .int (iI 0)), (0, .ref 496), (1, .ref a)]) (st' := []) rfl ?_
  have L1567 : ∀ (m1569 : Nat) (S1572 : X_S) (i : Int) (c1 : Int) (d1 : Nat → Int → Int) (q1 : Int → Int64) (hp1 : S1572.1 496 = .inr (4, [.ref 497, .ref B, .int (iI fl), .int (iI fp)])) (hx1 : S1572.1 497 = .inr (3, [.ref 2, .int (iI at_), .int (iI n), .ref 498, .ref 499, .ref 500, .int (iI c1)])) (hw0 : S1572.1 a = .inr (8, [.int (iI (d1 0 0)), .int (iI (d1 1 0)), .int (iI (d1 2 0)), .int (iI (d1 3 0)), .int (iI (d1 4 0)), .int (iI (d1 5 0)), .int (iI (d1 6 0)), .int (iI (d1 7 0)), .ref (a + 1), .ref (a + 2), .ref (a + 3), .ref (a + 4), .ref (a + 5), .ref (a + 6), .ref (a + 7)])) (hw1 : S1572.1 (a + 1) = .inl (.long, 8, .inr (.inl fun k : Nat => q1 (k : Int)))) (hw2 : S1572.1 (a + 2) = .inl (.int, 8, .inl fun k : Nat => iI ((d1 8) (k : Int)))) (hw3 : S1572.1 (a + 3) = .inl (.int, 4, .inl fun k : Nat => iI ((d1 9) (k : Int)))) (hw4 : S1572.1 (a + 4) = .inl (.int, 4, .inl fun k : Nat => iI ((d1 10) (k : Int)))) (hw5 : S1572.1 (a + 5) = .inl (.int, 4, .inl fun k : Nat => iI ((d1 11) (k : Int)))) (hw6 : S1572.1 (a + 6) = .inl (.int, 30, .inl fun k : Nat => iI ((d1 12) (k : Int)))) (hw7 : S1572.1 (a + 7) = .inl (.int, 30, .inl fun k : Nat => iI ((d1 13) (k : Int)))) (hF1571 : X_Fr (fun q => q = 496 ∨ q = 497 ∨ (a ≤ q ∧ q ≤ a + 7)) S S1572) (hi : 0 ≤ i ∧ i ≤ 9) (hr1 : X_wr d1) (hc1 : 0 ≤ c1 ∧ c1 < n) (hR : sp_el n so ct kn kc (9 - i).toNat c1 d1 q1 = sp_el n so ct kn kc 9 cur d q) (hm1570 : 9 - i < m1569), X_T sc 77 (2, [(2, .int (iI i)), (0, .ref 496), (1, .ref a)], [], S1572) Q := by
    intro m1569
    induction m1569 with
    | zero =>
      intro S1572 i c1 d1 q1 hp1 hx1 hw0 hw1 hw2 hw3 hw4 hw5 hw6 hw7 hF1571 hi hr1 hc1 hR hm1570
      exact (show False by omega).elim
    | succ m1569 ih1568 =>
      intro S1572 i c1 d1 q1 hp1 hx1 hw0 hw1 hw2 hw3 hw4 hw5 hw6 hw7 hF1571 hi hr1 hc1 hR hm1570
      obtain ⟨⟨_, _⟩, ⟨_, _⟩, ⟨_, _⟩, ⟨_, _⟩, ⟨_, _⟩, ⟨_, _⟩, ⟨_, _⟩, ⟨_, _⟩⟩ := id hr1
      refine T_p xr_77_2 xn_77 (pc' := 3) (ls' := [(2, .int (iI i)), (0, .ref 496), (1, .ref a)]) (st' := [.int (iI i)]) rfl ?_
      refine T_p xr_77_3 xn_77 (pc' := 5) (ls' := [(2, .int (iI i)), (0, .ref 496), (1, .ref a)]) (st' := [.int (iI 8), .int (iI i)]) rfl ?_
      refine T_zicmp_gt xr_77_5 (t := 169) (pc' := 8) rfl rfl (fun c1573 => ?_) (fun c1573 => ?_)
      · skip
        have c1573 : 8 < i := c1573
        refine T_p xr_77_169 xn_77 (pc' := 170) (ls' := [(2, .int (iI i)), (0, .ref 496), (1, .ref a)]) (st' := [.ref 496]) rfl ?_
        refine T_cv (S := S1572) (q := 496) xr_77_170 xf_67.1 xf_67.2.1 xn_67 (as := []) (r := []) rfl hp1 (Nat.le_of_ble_eq_true rfl) (Nat.le_of_ble_eq_true rfl) (pc' := 173) rfl (ls' := [(0, .ref 496)]) rfl ?_
        have h1583 := (hF1571.1 498 (by omega)).trans (hx.2.1)
        have h1584 := (hF1571.1 499 (by omega)).trans (hx.2.2.1)
        have h1585 := (hF1571.1 500 (by omega)).trans (hx.2.2.2)
        refine T_mono (c_refuse sc S1572 B fl fp at_ n c1 so pl ct hp1 ⟨hx1, h1583, h1584, h1585⟩ (by omega) hso) (fun v1574 S1575 h1576 => ?_)
        obtain ⟨h1577, ⟨fl1578, fp1579, hn1580, hp1581⟩, hf1582⟩ := h1576
        rw [h1577]
        show X_T sc 77 (173, [(2, .int (iI i)), (0, .ref 496), (1, .ref a)], [], S1575) _
        refine T_p xr_77_173 xn_77 (pc' := 174) (ls' := [(2, .int (iI i)), (0, .ref 496), (1, .ref a)]) (st' := [.int (iI 0)]) rfl ?_
        refine T_iret xr_77_174 xf_77.2.2 (by decide) ?_
        refine hQ _ _ ?_
        have h1586 := (hf1582.1 497 (by omega)).trans (hx1)
        have h1587 := (hf1582.1 a (by omega)).trans (hw0)
        have h1588 := (hf1582.1 (a + 1) (by omega)).trans (hw1)
        have h1589 := (hf1582.1 (a + 2) (by omega)).trans (hw2)
        have h1590 := (hf1582.1 (a + 3) (by omega)).trans (hw3)
        have h1591 := (hf1582.1 (a + 4) (by omega)).trans (hw4)
        have h1592 := (hf1582.1 (a + 5) (by omega)).trans (hw5)
        have h1593 := (hf1582.1 (a + 6) (by omega)).trans (hw6)
        have h1594 := (hf1582.1 (a + 7) (by omega)).trans (hw7)
        refine Or.inr ⟨rfl, ?_, ⟨_, _, by omega, hp1581⟩, ⟨c1, d1, q1, h1586, by omega, ⟨h1587, h1588, h1589, h1590, h1591, h1592, h1593, h1594⟩, hr1⟩, ((X_Fr.rf).tr (X_Fr.mono ⟨hF1571.1, hF1571.2⟩ (fun q hq => (by omega)))).tr (X_Fr.mono ⟨hf1582.1, hf1582.2⟩ (fun q hq => (by omega)))⟩
        rw [← hR]
        first
          | (rw [sp_el_s (i := i) (by omega)]
             (repeat (first | rw [if_pos (by assumption)] | rw [if_neg (by assumption)]))
             all_goals first | rfl | ((repeat' split) <;> first | rfl | (exfalso; omega)))
          | (rw [show (9 - i).toNat = 0 by omega]; rfl)
      · skip
        have c1573 : ¬ (8 < i) := c1573
        refine T_p xr_77_8 xn_77 (pc' := 9) (ls' := [(2, .int (iI i)), (0, .ref 496), (1, .ref a)]) (st' := [.ref 496]) rfl ?_
        refine T_get xr_77_9 hp1 rfl (v := .ref 497) rfl (pc' := 12) rfl ?_
        refine T_cv (S := S1572) (q := 497) xr_77_12 xf_48.1 xf_48.2.1 xn_48 (as := []) (r := []) rfl hx1 (Nat.le_of_ble_eq_true rfl) (Nat.le_of_ble_eq_true rfl) (pc' := 15) rfl (ls' := [(0, .ref 497)]) rfl ?_
        have h1595 := (hF1571.1 498 (by omega)).trans (hx.2.1)
        have h1596 := (hF1571.1 499 (by omega)).trans (hx.2.2.1)
        have h1597 := (hF1571.1 500 (by omega)).trans (hx.2.2.2)
        refine T_mono (c_sort sc S1572 at_ n c1 so pl ct ⟨hx1, h1595, h1596, h1597⟩ (by omega)) (fun v1599 S1600 h1598 => ?_)
        obtain ⟨h1601, h1602⟩ := h1598
        rw [h1601, h1602]
        show X_T sc 77 (15, [(2, .int (iI i)), (0, .ref 496), (1, .ref a)], [.int (iI (so c1))], S1572) _
        have hs1603 := hso c1 (by omega) (by omega)
        refine T_p xr_77_15 xn_77 (pc' := 17) (ls' := [(2, .int (iI i)), (0, .ref 496), (1, .ref a)]) (st' := [.int (iI 61), .int (iI (so c1))]) rfl ?_
        refine T_zicmp_eq xr_77_17 (t := 32) (pc' := 20) rfl rfl (fun c1604 => ?_) (fun c1604 => ?_)
        · skip
          have c1604 : (so c1) = 61 := c1604
          refine T_p xr_77_32 xn_77 (pc' := 33) (ls' := [(2, .int (iI i)), (0, .ref 496), (1, .ref a)]) (st' := [.int (iI 1)]) rfl ?_
          refine T_iret xr_77_33 xf_77.2.2 (by decide) ?_
          refine hQ _ _ ?_
          refine Or.inl ⟨rfl, c1, d1, q1, ?_, hp1, hx1, by omega, ⟨hw0, hw1, hw2, hw3, hw4, hw5, hw6, hw7⟩, hr1, (X_Fr.rf).tr (X_Fr.mono ⟨hF1571.1, hF1571.2⟩ (fun q hq => (by omega)))⟩
          rw [← hR, sp_el_s (i := i) (by omega)]
          (repeat (first | rw [if_pos (by assumption)] | rw [if_neg (by assumption)]))
          all_goals first | rfl | ((repeat' split) <;> first | rfl | (exfalso; omega))
        · skip
          have c1604 : ¬ ((so c1) = 61) := c1604
          refine T_p xr_77_20 xn_77 (pc' := 21) (ls' := [(2, .int (iI i)), (0, .ref 496), (1, .ref a)]) (st' := [.ref 496]) rfl ?_
          refine T_get xr_77_21 hp1 rfl (v := .ref 497) rfl (pc' := 24) rfl ?_
          refine T_cv (S := S1572) (q := 497) xr_77_24 xf_48.1 xf_48.2.1 xn_48 (as := []) (r := []) rfl hx1 (Nat.le_of_ble_eq_true rfl) (Nat.le_of_ble_eq_true rfl) (pc' := 27) rfl (ls' := [(0, .ref 497)]) rfl ?_
          refine T_mono (c_sort sc S1572 at_ n c1 so pl ct ⟨hx1, h1595, h1596, h1597⟩ (by omega)) (fun v1606 S1607 h1605 => ?_)
          obtain ⟨h1608, h1609⟩ := h1605
          rw [h1608, h1609]
          show X_T sc 77 (27, [(2, .int (iI i)), (0, .ref 496), (1, .ref a)], [.int (iI (so c1))], S1572) _
          have hs1610 := hso c1 (by omega) (by omega)
          refine T_p xr_77_27 xn_77 (pc' := 29) (ls' := [(2, .int (iI i)), (0, .ref 496), (1, .ref a)]) (st' := [.int (iI 59), .int (iI (so c1))]) rfl ?_
          refine T_zicmp_ne xr_77_29 (t := 34) (pc' := 32) rfl rfl (fun c1611 => ?_) (fun c1611 => ?_)
          · skip
            have c1611 : ¬ (so c1) = 59 := c1611
            have J1612 : X_T sc 77 (60, [(2, .int (iI i)), (0, .ref 496), (1, .ref a)], [.int (iI (bI (so c1 = 6 ∧ d1 3 0 < 8)))], S1572) Q := by
              refine T_p xr_77_60 xn_77 (pc' := 61) (ls' := [(3, .int (iI (bI (so c1 = 6 ∧ d1 3 0 < 8)))), (2, .int (iI i)), (0, .ref 496), (1, .ref a)]) (st' := []) rfl ?_
              have J1613 : X_T sc 77 (85, [(3, .int (iI (bI (so c1 = 6 ∧ d1 3 0 < 8)))), (2, .int (iI i)), (0, .ref 496), (1, .ref a)], [.int (iI (bI (so c1 = 95 ∧ (d1 3 0 < 8 ∧ d1 4 0 < 4 ∧ ¬ X_hl d1 q1 (d1 3 0 - 1)))))], S1572) Q := by
                refine T_p xr_77_85 xn_77 (pc' := 87) (ls' := [(4, .int (iI (bI (so c1 = 95 ∧ (d1 3 0 < 8 ∧ d1 4 0 < 4 ∧ ¬ X_hl d1 q1 (d1 3 0 - 1)))))), (3, .int (iI (bI (so c1 = 6 ∧ d1 3 0 < 8)))), (2, .int (iI i)), (0, .ref 496), (1, .ref a)]) (st' := []) rfl ?_
                refine T_p xr_77_87 xn_77 (pc' := 88) (ls' := [(4, .int (iI (bI (so c1 = 95 ∧ (d1 3 0 < 8 ∧ d1 4 0 < 4 ∧ ¬ X_hl d1 q1 (d1 3 0 - 1)))))), (3, .int (iI (bI (so c1 = 6 ∧ d1 3 0 < 8)))), (2, .int (iI i)), (0, .ref 496), (1, .ref a)]) (st' := [.int (iI (bI (so c1 = 6 ∧ d1 3 0 < 8)))]) rfl ?_
                refine T_bif_ne xr_77_88 (t := 99) (pc' := 91) rfl rfl (fun c1614 => ?_) (fun c1614 => ?_)
                · skip
                  have c1614 : (so c1 = 6 ∧ d1 3 0 < 8) := c1614
                  refine T_p xr_77_99 xn_77 (pc' := 100) (ls' := [(4, .int (iI (bI (so c1 = 95 ∧ (d1 3 0 < 8 ∧ d1 4 0 < 4 ∧ ¬ X_hl d1 q1 (d1 3 0 - 1)))))), (3, .int (iI (bI (so c1 = 6 ∧ d1 3 0 < 8)))), (2, .int (iI i)), (0, .ref 496), (1, .ref a)]) (st' := [.ref 496]) rfl ?_
                  refine T_get xr_77_100 hp1 rfl (v := .ref 497) rfl (pc' := 103) rfl ?_
                  refine T_cv (S := S1572) (q := 497) xr_77_103 xf_50.1 xf_50.2.1 xn_50 (as := []) (r := []) rfl hx1 (Nat.le_of_ble_eq_true rfl) (Nat.le_of_ble_eq_true rfl) (pc' := 106) rfl (ls' := [(0, .ref 497)]) rfl ?_
                  refine T_mono (c_content sc S1572 at_ n c1 so pl ct ⟨hx1, h1595, h1596, h1597⟩ (by omega)) (fun v1616 S1617 h1615 => ?_)
                  obtain ⟨h1618, h1619⟩ := h1615
                  rw [h1618, h1619]
                  show X_T sc 77 (106, [(4, .int (iI (bI (so c1 = 95 ∧ (d1 3 0 < 8 ∧ d1 4 0 < 4 ∧ ¬ X_hl d1 q1 (d1 3 0 - 1)))))), (3, .int (iI (bI (so c1 = 6 ∧ d1 3 0 < 8)))), (2, .int (iI i)), (0, .ref 496), (1, .ref a)], [.long (ct c1)], S1572) _
                  refine T_p xr_77_106 xn_77 (pc' := 108) (ls' := [(5, .long (ct c1)), (4, .int (iI (bI (so c1 = 95 ∧ (d1 3 0 < 8 ∧ d1 4 0 < 4 ∧ ¬ X_hl d1 q1 (d1 3 0 - 1)))))), (3, .int (iI (bI (so c1 = 6 ∧ d1 3 0 < 8)))), (2, .int (iI i)), (0, .ref 496), (1, .ref a)]) (st' := []) rfl ?_
                  refine T_p xr_77_108 xn_77 (pc' := 109) (ls' := [(5, .long (ct c1)), (4, .int (iI (bI (so c1 = 95 ∧ (d1 3 0 < 8 ∧ d1 4 0 < 4 ∧ ¬ X_hl d1 q1 (d1 3 0 - 1)))))), (3, .int (iI (bI (so c1 = 6 ∧ d1 3 0 < 8)))), (2, .int (iI i)), (0, .ref 496), (1, .ref a)]) (st' := [.ref 496]) rfl ?_
                  refine T_get xr_77_109 hp1 rfl (v := .ref 497) rfl (pc' := 112) rfl ?_
                  refine T_cv (S := S1572) (q := 497) xr_77_112 xf_52.1 xf_52.2.1 xn_52 (as := []) (r := []) rfl hx1 (Nat.le_of_ble_eq_true rfl) (Nat.le_of_ble_eq_true rfl) (pc' := 115) rfl (ls' := [(0, .ref 497)]) rfl ?_
                  refine T_mono (c_advance sc S1572 at_ n c1 so pl ct ⟨hx1, h1595, h1596, h1597⟩ (by omega)) (fun v1621 S1622 h1620 => ?_)
                  obtain ⟨h1623, h1625, h1624⟩ := h1620
                  rw [h1623]
                  show X_T sc 77 (115, [(5, .long (ct c1)), (4, .int (iI (bI (so c1 = 95 ∧ (d1 3 0 < 8 ∧ d1 4 0 < 4 ∧ ¬ X_hl d1 q1 (d1 3 0 - 1)))))), (3, .int (iI (bI (so c1 = 6 ∧ d1 3 0 < 8)))), (2, .int (iI i)), (0, .ref 496), (1, .ref a)], [], S1622) _
                  have hv1626 := X_av_r (n := n) (c := c1) (by omega)
                  refine T_p xr_77_115 xn_77 (pc' := 116) (ls' := [(5, .long (ct c1)), (4, .int (iI (bI (so c1 = 95 ∧ (d1 3 0 < 8 ∧ d1 4 0 < 4 ∧ ¬ X_hl d1 q1 (d1 3 0 - 1)))))), (3, .int (iI (bI (so c1 = 6 ∧ d1 3 0 < 8)))), (2, .int (iI i)), (0, .ref 496), (1, .ref a)]) (st' := [.int (iI (bI (so c1 = 6 ∧ d1 3 0 < 8)))]) rfl ?_
                  refine T_bif_eq xr_77_116 (t := 128) (pc' := 119) rfl rfl (fun c1627 => ?_) (fun c1627 => ?_)
                  · skip
                    have c1627 : ¬ (so c1 = 6 ∧ d1 3 0 < 8) := c1627
                    exact (show False by first | contradiction | omega).elim
                  · skip
                    have c1627 : (so c1 = 6 ∧ d1 3 0 < 8) := c1627
                    refine T_p xr_77_119 xn_77 (pc' := 120) (ls' := [(5, .long (ct c1)), (4, .int (iI (bI (so c1 = 95 ∧ (d1 3 0 < 8 ∧ d1 4 0 < 4 ∧ ¬ X_hl d1 q1 (d1 3 0 - 1)))))), (3, .int (iI (bI (so c1 = 6 ∧ d1 3 0 < 8)))), (2, .int (iI i)), (0, .ref 496), (1, .ref a)]) (st' := [.ref a]) rfl ?_
                    refine T_p xr_77_120 xn_77 (pc' := 122) (ls' := [(5, .long (ct c1)), (4, .int (iI (bI (so c1 = 95 ∧ (d1 3 0 < 8 ∧ d1 4 0 < 4 ∧ ¬ X_hl d1 q1 (d1 3 0 - 1)))))), (3, .int (iI (bI (so c1 = 6 ∧ d1 3 0 < 8)))), (2, .int (iI i)), (0, .ref 496), (1, .ref a)]) (st' := [.long (ct c1), .ref a]) rfl ?_
                    have h1628 := (h1624.1 a (by omega)).trans (hw0)
                    refine T_cv (S := S1622) (q := a) xr_77_122 xf_96.1 xf_96.2.1 xn_96 (as := [.long (ct c1)]) (r := []) rfl h1628 (Nat.le_of_ble_eq_true rfl) (Nat.le_of_ble_eq_true rfl) (pc' := 125) rfl (ls' := [(0, .ref a), (1, .long (ct c1))]) rfl ?_
                    have hr1635 : X_wr (X_aP d1) := X_wr_P hr1 (by omega)
                    have h1636 := (h1624.1 (a + 1) (by omega)).trans (hw1)
                    have h1637 := (h1624.1 (a + 2) (by omega)).trans (hw2)
                    have h1638 := (h1624.1 (a + 3) (by omega)).trans (hw3)
                    have h1639 := (h1624.1 (a + 4) (by omega)).trans (hw4)
                    have h1640 := (h1624.1 (a + 5) (by omega)).trans (hw5)
                    have h1641 := (h1624.1 (a + 6) (by omega)).trans (hw6)
                    have h1642 := (h1624.1 (a + 7) (by omega)).trans (hw7)
                    refine T_mono (c_addPart sc S1622 a d1 q1 (ct c1) ⟨h1628, h1636, h1637, h1638, h1639, h1640, h1641, h1642⟩ hr1 (by omega)) (fun v1629 S1630 h1631 => ?_)
                    obtain ⟨h1632, hw1633, hf1634⟩ := h1631
                    rw [h1632]
                    have hw1633 : C_wd S1630 a (X_aP d1) (X_ug q1 (d1 3 0) (ct c1)) := hw1633
                    show X_T sc 77 (125, [(5, .long (ct c1)), (4, .int (iI (bI (so c1 = 95 ∧ (d1 3 0 < 8 ∧ d1 4 0 < 4 ∧ ¬ X_hl d1 q1 (d1 3 0 - 1)))))), (3, .int (iI (bI (so c1 = 6 ∧ d1 3 0 < 8)))), (2, .int (iI i)), (0, .ref 496), (1, .ref a)], [], S1630) _
                    refine T_p xr_77_125 xn_77 (pc' := 163) (ls' := [(5, .long (ct c1)), (4, .int (iI (bI (so c1 = 95 ∧ (d1 3 0 < 8 ∧ d1 4 0 < 4 ∧ ¬ X_hl d1 q1 (d1 3 0 - 1)))))), (3, .int (iI (bI (so c1 = 6 ∧ d1 3 0 < 8)))), (2, .int (iI i)), (0, .ref 496), (1, .ref a)]) (st' := []) rfl ?_
                    refine T_ziinc xr_77_163 xn_77 (a := i) (z := i + 1) rfl (Nat.le_of_ble_eq_true rfl) (by omega) (ls' := [(2, .int (iI (i + 1))), (5, .long (ct c1)), (4, .int (iI (bI (so c1 = 95 ∧ (d1 3 0 < 8 ∧ d1 4 0 < 4 ∧ ¬ X_hl d1 q1 (d1 3 0 - 1)))))), (3, .int (iI (bI (so c1 = 6 ∧ d1 3 0 < 8)))), (0, .ref 496), (1, .ref a)]) rfl (pc' := 166) rfl ?_
                    refine T_p xr_77_166 xn_77 (pc' := 2) (ls' := [(2, .int (iI (i + 1))), (5, .long (ct c1)), (4, .int (iI (bI (so c1 = 95 ∧ (d1 3 0 < 8 ∧ d1 4 0 < 4 ∧ ¬ X_hl d1 q1 (d1 3 0 - 1)))))), (3, .int (iI (bI (so c1 = 6 ∧ d1 3 0 < 8)))), (0, .ref 496), (1, .ref a)]) (st' := []) rfl ?_
                    have h1643 := (hf1634.1 497 (by omega)).trans (h1625)
                    have h1644 := (hf1634.1 496 (by omega)).trans ((h1624.1 496 (by omega)).trans (hp1))
                    refine T_sub (ls := [(2, .int (iI (i + 1))), (0, .ref 496), (1, .ref a)]) ⟨rfl, rfl, rfl, trivial⟩ rfl rfl ?_
                    exact ih1568 S1630 (i + 1) (X_av n c1) (X_aP d1) (X_ug q1 (d1 3 0) (ct c1)) h1644 h1643 hw1633.1 hw1633.2.1 hw1633.2.2.1 hw1633.2.2.2.1 hw1633.2.2.2.2.1 hw1633.2.2.2.2.2.1 hw1633.2.2.2.2.2.2.1 hw1633.2.2.2.2.2.2.2 (hF1571.tr (((X_Fr.rf).tr (X_Fr.mono ⟨h1624.1, h1624.2⟩ (fun q hq => (by omega)))).tr (X_Fr.mono ⟨hf1634.1, hf1634.2⟩ (fun q hq => (by omega))))) (by omega) hr1635 (by omega) (by
                          rw [← hR, sp_el_s (i := i) (by omega)]
                          (repeat (first | rw [if_pos (by assumption)] | rw [if_neg (by assumption)]))
                          all_goals rfl) (by omega)
                · skip
                  have c1614 : ¬ (so c1 = 6 ∧ d1 3 0 < 8) := c1614
                  refine T_p xr_77_91 xn_77 (pc' := 93) (ls' := [(4, .int (iI (bI (so c1 = 95 ∧ (d1 3 0 < 8 ∧ d1 4 0 < 4 ∧ ¬ X_hl d1 q1 (d1 3 0 - 1)))))), (3, .int (iI (bI (so c1 = 6 ∧ d1 3 0 < 8)))), (2, .int (iI i)), (0, .ref 496), (1, .ref a)]) (st' := [.int (iI (bI (so c1 = 95 ∧ (d1 3 0 < 8 ∧ d1 4 0 < 4 ∧ ¬ X_hl d1 q1 (d1 3 0 - 1)))))]) rfl ?_
                  refine T_bif_ne xr_77_93 (t := 99) (pc' := 96) rfl rfl (fun c1645 => ?_) (fun c1645 => ?_)
                  · skip
                    have c1645 : (so c1 = 95 ∧ (d1 3 0 < 8 ∧ d1 4 0 < 4 ∧ ¬ X_hl d1 q1 (d1 3 0 - 1))) := c1645
                    refine T_p xr_77_99 xn_77 (pc' := 100) (ls' := [(4, .int (iI (bI (so c1 = 95 ∧ (d1 3 0 < 8 ∧ d1 4 0 < 4 ∧ ¬ X_hl d1 q1 (d1 3 0 - 1)))))), (3, .int (iI (bI (so c1 = 6 ∧ d1 3 0 < 8)))), (2, .int (iI i)), (0, .ref 496), (1, .ref a)]) (st' := [.ref 496]) rfl ?_
                    refine T_get xr_77_100 hp1 rfl (v := .ref 497) rfl (pc' := 103) rfl ?_
                    refine T_cv (S := S1572) (q := 497) xr_77_103 xf_50.1 xf_50.2.1 xn_50 (as := []) (r := []) rfl hx1 (Nat.le_of_ble_eq_true rfl) (Nat.le_of_ble_eq_true rfl) (pc' := 106) rfl (ls' := [(0, .ref 497)]) rfl ?_
                    refine T_mono (c_content sc S1572 at_ n c1 so pl ct ⟨hx1, h1595, h1596, h1597⟩ (by omega)) (fun v1647 S1648 h1646 => ?_)
                    obtain ⟨h1649, h1650⟩ := h1646
                    rw [h1649, h1650]
                    show X_T sc 77 (106, [(4, .int (iI (bI (so c1 = 95 ∧ (d1 3 0 < 8 ∧ d1 4 0 < 4 ∧ ¬ X_hl d1 q1 (d1 3 0 - 1)))))), (3, .int (iI (bI (so c1 = 6 ∧ d1 3 0 < 8)))), (2, .int (iI i)), (0, .ref 496), (1, .ref a)], [.long (ct c1)], S1572) _
                    refine T_p xr_77_106 xn_77 (pc' := 108) (ls' := [(5, .long (ct c1)), (4, .int (iI (bI (so c1 = 95 ∧ (d1 3 0 < 8 ∧ d1 4 0 < 4 ∧ ¬ X_hl d1 q1 (d1 3 0 - 1)))))), (3, .int (iI (bI (so c1 = 6 ∧ d1 3 0 < 8)))), (2, .int (iI i)), (0, .ref 496), (1, .ref a)]) (st' := []) rfl ?_
                    refine T_p xr_77_108 xn_77 (pc' := 109) (ls' := [(5, .long (ct c1)), (4, .int (iI (bI (so c1 = 95 ∧ (d1 3 0 < 8 ∧ d1 4 0 < 4 ∧ ¬ X_hl d1 q1 (d1 3 0 - 1)))))), (3, .int (iI (bI (so c1 = 6 ∧ d1 3 0 < 8)))), (2, .int (iI i)), (0, .ref 496), (1, .ref a)]) (st' := [.ref 496]) rfl ?_
                    refine T_get xr_77_109 hp1 rfl (v := .ref 497) rfl (pc' := 112) rfl ?_
                    refine T_cv (S := S1572) (q := 497) xr_77_112 xf_52.1 xf_52.2.1 xn_52 (as := []) (r := []) rfl hx1 (Nat.le_of_ble_eq_true rfl) (Nat.le_of_ble_eq_true rfl) (pc' := 115) rfl (ls' := [(0, .ref 497)]) rfl ?_
                    refine T_mono (c_advance sc S1572 at_ n c1 so pl ct ⟨hx1, h1595, h1596, h1597⟩ (by omega)) (fun v1652 S1653 h1651 => ?_)
                    obtain ⟨h1654, h1656, h1655⟩ := h1651
                    rw [h1654]
                    show X_T sc 77 (115, [(5, .long (ct c1)), (4, .int (iI (bI (so c1 = 95 ∧ (d1 3 0 < 8 ∧ d1 4 0 < 4 ∧ ¬ X_hl d1 q1 (d1 3 0 - 1)))))), (3, .int (iI (bI (so c1 = 6 ∧ d1 3 0 < 8)))), (2, .int (iI i)), (0, .ref 496), (1, .ref a)], [], S1653) _
                    have hv1657 := X_av_r (n := n) (c := c1) (by omega)
                    refine T_p xr_77_115 xn_77 (pc' := 116) (ls' := [(5, .long (ct c1)), (4, .int (iI (bI (so c1 = 95 ∧ (d1 3 0 < 8 ∧ d1 4 0 < 4 ∧ ¬ X_hl d1 q1 (d1 3 0 - 1)))))), (3, .int (iI (bI (so c1 = 6 ∧ d1 3 0 < 8)))), (2, .int (iI i)), (0, .ref 496), (1, .ref a)]) (st' := [.int (iI (bI (so c1 = 6 ∧ d1 3 0 < 8)))]) rfl ?_
                    refine T_bif_eq xr_77_116 (t := 128) (pc' := 119) rfl rfl (fun c1658 => ?_) (fun c1658 => ?_)
                    · skip
                      have c1658 : ¬ (so c1 = 6 ∧ d1 3 0 < 8) := c1658
                      refine T_p xr_77_128 xn_77 (pc' := 129) (ls' := [(5, .long (ct c1)), (4, .int (iI (bI (so c1 = 95 ∧ (d1 3 0 < 8 ∧ d1 4 0 < 4 ∧ ¬ X_hl d1 q1 (d1 3 0 - 1)))))), (3, .int (iI (bI (so c1 = 6 ∧ d1 3 0 < 8)))), (2, .int (iI i)), (0, .ref 496), (1, .ref a)]) (st' := [.ref 496]) rfl ?_
                      have h1659 := (h1655.1 496 (by omega)).trans (hp1)
                      refine T_get xr_77_129 h1659 rfl (v := .ref 497) rfl (pc' := 132) rfl ?_
                      refine T_cv (S := S1653) (q := 497) xr_77_132 xf_48.1 xf_48.2.1 xn_48 (as := []) (r := []) rfl h1656 (Nat.le_of_ble_eq_true rfl) (Nat.le_of_ble_eq_true rfl) (pc' := 135) rfl (ls' := [(0, .ref 497)]) rfl ?_
                      have h1660 := (h1655.1 498 (by omega)).trans (h1595)
                      have h1661 := (h1655.1 499 (by omega)).trans (h1596)
                      have h1662 := (h1655.1 500 (by omega)).trans (h1597)
                      refine T_mono (c_sort sc S1653 at_ n (X_av n c1) so pl ct ⟨h1656, h1660, h1661, h1662⟩ (by omega)) (fun v1664 S1665 h1663 => ?_)
                      obtain ⟨h1666, h1667⟩ := h1663
                      rw [h1666, h1667]
                      show X_T sc 77 (135, [(5, .long (ct c1)), (4, .int (iI (bI (so c1 = 95 ∧ (d1 3 0 < 8 ∧ d1 4 0 < 4 ∧ ¬ X_hl d1 q1 (d1 3 0 - 1)))))), (3, .int (iI (bI (so c1 = 6 ∧ d1 3 0 < 8)))), (2, .int (iI i)), (0, .ref 496), (1, .ref a)], [.int (iI (so (X_av n c1)))], S1653) _
                      have hs1668 := hso (X_av n c1) (by omega) (by omega)
                      refine T_p xr_77_135 xn_77 (pc' := 136) (ls' := [(5, .long (ct c1)), (4, .int (iI (bI (so c1 = 95 ∧ (d1 3 0 < 8 ∧ d1 4 0 < 4 ∧ ¬ X_hl d1 q1 (d1 3 0 - 1)))))), (3, .int (iI (bI (so c1 = 6 ∧ d1 3 0 < 8)))), (2, .int (iI i)), (0, .ref 496), (1, .ref a)]) (st' := [.int (iI 2), .int (iI (so (X_av n c1)))]) rfl ?_
                      refine T_zicmp_ne xr_77_136 (t := 146) (pc' := 139) rfl rfl (fun c1669 => ?_) (fun c1669 => ?_)
                      · skip
                        have c1669 : ¬ (so (X_av n c1)) = 2 := c1669
                        refine T_p xr_77_146 xn_77 (pc' := 147) (ls' := [(5, .long (ct c1)), (4, .int (iI (bI (so c1 = 95 ∧ (d1 3 0 < 8 ∧ d1 4 0 < 4 ∧ ¬ X_hl d1 q1 (d1 3 0 - 1)))))), (3, .int (iI (bI (so c1 = 6 ∧ d1 3 0 < 8)))), (2, .int (iI i)), (0, .ref 496), (1, .ref a)]) (st' := [.int (iI 0)]) rfl ?_
                        refine T_p xr_77_147 xn_77 (pc' := 149) (ls' := [(7, .int (iI 0)), (5, .long (ct c1)), (4, .int (iI (bI (so c1 = 95 ∧ (d1 3 0 < 8 ∧ d1 4 0 < 4 ∧ ¬ X_hl d1 q1 (d1 3 0 - 1)))))), (3, .int (iI (bI (so c1 = 6 ∧ d1 3 0 < 8)))), (2, .int (iI i)), (0, .ref 496), (1, .ref a)]) (st' := []) rfl ?_
                        refine T_p xr_77_149 xn_77 (pc' := 151) (ls' := [(7, .int (iI 0)), (5, .long (ct c1)), (4, .int (iI (bI (so c1 = 95 ∧ (d1 3 0 < 8 ∧ d1 4 0 < 4 ∧ ¬ X_hl d1 q1 (d1 3 0 - 1)))))), (3, .int (iI (bI (so c1 = 6 ∧ d1 3 0 < 8)))), (2, .int (iI i)), (0, .ref 496), (1, .ref a)]) (st' := [.int (iI 0)]) rfl ?_
                        refine T_p xr_77_151 xn_77 (pc' := 152) (ls' := [(7, .int (iI 0)), (5, .long (ct c1)), (4, .int (iI (bI (so c1 = 95 ∧ (d1 3 0 < 8 ∧ d1 4 0 < 4 ∧ ¬ X_hl d1 q1 (d1 3 0 - 1)))))), (3, .int (iI (bI (so c1 = 6 ∧ d1 3 0 < 8)))), (2, .int (iI i)), (0, .ref 496), (1, .ref a)]) (st' := [.int (iI (-1)), .int (iI 0)]) rfl ?_
                        refine T_zicmp_net xr_77_152 (t := 157) rfl (by decide) ?_
                        refine T_p xr_77_157 xn_77 (pc' := 158) (ls' := [(7, .int (iI 0)), (5, .long (ct c1)), (4, .int (iI (bI (so c1 = 95 ∧ (d1 3 0 < 8 ∧ d1 4 0 < 4 ∧ ¬ X_hl d1 q1 (d1 3 0 - 1)))))), (3, .int (iI (bI (so c1 = 6 ∧ d1 3 0 < 8)))), (2, .int (iI i)), (0, .ref 496), (1, .ref a)]) (st' := [.ref a]) rfl ?_
                        refine T_p xr_77_158 xn_77 (pc' := 160) (ls' := [(7, .int (iI 0)), (5, .long (ct c1)), (4, .int (iI (bI (so c1 = 95 ∧ (d1 3 0 < 8 ∧ d1 4 0 < 4 ∧ ¬ X_hl d1 q1 (d1 3 0 - 1)))))), (3, .int (iI (bI (so c1 = 6 ∧ d1 3 0 < 8)))), (2, .int (iI i)), (0, .ref 496), (1, .ref a)]) (st' := [.int (iI 0), .ref a]) rfl ?_
                        have h1670 := (h1655.1 a (by omega)).trans (hw0)
                        refine T_cv (S := S1653) (q := a) xr_77_160 xf_98.1 xf_98.2.1 xn_98 (as := [.int (iI 0)]) (r := []) rfl h1670 (Nat.le_of_ble_eq_true rfl) (Nat.le_of_ble_eq_true rfl) (pc' := 163) rfl (ls' := [(0, .ref a), (1, .int (iI 0))]) rfl ?_
                        have hr1677 : X_wr (X_aH d1 0) := X_wr_H hr1 (by omega) (by omega)
                        have h1678 := (h1655.1 (a + 1) (by omega)).trans (hw1)
                        have h1679 := (h1655.1 (a + 2) (by omega)).trans (hw2)
                        have h1680 := (h1655.1 (a + 3) (by omega)).trans (hw3)
                        have h1681 := (h1655.1 (a + 4) (by omega)).trans (hw4)
                        have h1682 := (h1655.1 (a + 5) (by omega)).trans (hw5)
                        have h1683 := (h1655.1 (a + 6) (by omega)).trans (hw6)
                        have h1684 := (h1655.1 (a + 7) (by omega)).trans (hw7)
                        refine T_mono (c_addHole sc S1653 a d1 q1 0 ⟨h1670, h1678, h1679, h1680, h1681, h1682, h1683, h1684⟩ hr1 (by omega) (by omega)) (fun v1671 S1672 h1673 => ?_)
                        obtain ⟨h1674, hw1675, hf1676⟩ := h1673
                        rw [h1674]
                        have hw1675 : C_wd S1672 a (X_aH d1 0) (X_ug q1 (d1 3 0) 0) := hw1675
                        show X_T sc 77 (163, [(7, .int (iI 0)), (5, .long (ct c1)), (4, .int (iI (bI (so c1 = 95 ∧ (d1 3 0 < 8 ∧ d1 4 0 < 4 ∧ ¬ X_hl d1 q1 (d1 3 0 - 1)))))), (3, .int (iI (bI (so c1 = 6 ∧ d1 3 0 < 8)))), (2, .int (iI i)), (0, .ref 496), (1, .ref a)], [], S1672) _
                        refine T_ziinc xr_77_163 xn_77 (a := i) (z := i + 1) rfl (Nat.le_of_ble_eq_true rfl) (by omega) (ls' := [(2, .int (iI (i + 1))), (7, .int (iI 0)), (5, .long (ct c1)), (4, .int (iI (bI (so c1 = 95 ∧ (d1 3 0 < 8 ∧ d1 4 0 < 4 ∧ ¬ X_hl d1 q1 (d1 3 0 - 1)))))), (3, .int (iI (bI (so c1 = 6 ∧ d1 3 0 < 8)))), (0, .ref 496), (1, .ref a)]) rfl (pc' := 166) rfl ?_
                        refine T_p xr_77_166 xn_77 (pc' := 2) (ls' := [(2, .int (iI (i + 1))), (7, .int (iI 0)), (5, .long (ct c1)), (4, .int (iI (bI (so c1 = 95 ∧ (d1 3 0 < 8 ∧ d1 4 0 < 4 ∧ ¬ X_hl d1 q1 (d1 3 0 - 1)))))), (3, .int (iI (bI (so c1 = 6 ∧ d1 3 0 < 8)))), (0, .ref 496), (1, .ref a)]) (st' := []) rfl ?_
                        have h1685 := (hf1676.1 497 (by omega)).trans (h1656)
                        have h1686 := (hf1676.1 496 (by omega)).trans (h1659)
                        refine T_sub (ls := [(2, .int (iI (i + 1))), (0, .ref 496), (1, .ref a)]) ⟨rfl, rfl, rfl, trivial⟩ rfl rfl ?_
                        exact ih1568 S1672 (i + 1) (X_av n c1) (X_aH d1 0) (X_ug q1 (d1 3 0) 0) h1686 h1685 hw1675.1 hw1675.2.1 hw1675.2.2.1 hw1675.2.2.2.1 hw1675.2.2.2.2.1 hw1675.2.2.2.2.2.1 hw1675.2.2.2.2.2.2.1 hw1675.2.2.2.2.2.2.2 (hF1571.tr (((X_Fr.rf).tr (X_Fr.mono ⟨h1655.1, h1655.2⟩ (fun q hq => (by omega)))).tr (X_Fr.mono ⟨hf1676.1, hf1676.2⟩ (fun q hq => (by omega))))) (by omega) hr1677 (by omega) (by
                              rw [← hR, sp_el_s (i := i) (by omega)]
                              (repeat (first | rw [if_pos (by assumption)] | rw [if_neg (by assumption)]))
                              all_goals rfl) (by omega)
                      · skip
                        have c1669 : ¬ (¬ (so (X_av n c1)) = 2) := c1669
                        refine T_p xr_77_139 xn_77 (pc' := 140) (ls' := [(5, .long (ct c1)), (4, .int (iI (bI (so c1 = 95 ∧ (d1 3 0 < 8 ∧ d1 4 0 < 4 ∧ ¬ X_hl d1 q1 (d1 3 0 - 1)))))), (3, .int (iI (bI (so c1 = 6 ∧ d1 3 0 < 8)))), (2, .int (iI i)), (0, .ref 496), (1, .ref a)]) (st' := [.ref 496]) rfl ?_
                        refine T_cv (S := S1653) (q := 496) xr_77_140 xf_73.1 xf_73.2.1 xn_73 (as := []) (r := []) rfl h1659 (Nat.le_of_ble_eq_true rfl) (Nat.le_of_ble_eq_true rfl) (pc' := 143) rfl (ls' := [(0, .ref 496)]) rfl ?_
                        have h1687 := (h1655.1 B (by omega)).trans ((hF1571.1 B (by omega)).trans (hb0))
                        have h1688 := (h1655.1 (B + 3) (by omega)).trans ((hF1571.1 (B + 3) (by omega)).trans (hb3))
                        have h1694 := (h1655.1 (B + 1) (by omega)).trans ((hF1571.1 (B + 1) (by omega)).trans (hb1))
                        have h1695 := (h1655.1 (B + 2) (by omega)).trans ((hF1571.1 (B + 2) (by omega)).trans (hb2))
                        have h1696 := (h1655.1 (B + 4) (by omega)).trans ((hF1571.1 (B + 4) (by omega)).trans (hb4))
                        have h1697 := (h1655.1 (B + 5) (by omega)).trans ((hF1571.1 (B + 5) (by omega)).trans (hb5))
                        have hb1698 : C_bk S1653 B rc kc wc rn lo kn ab := ⟨h1687, h1694, h1695, h1688, h1696, ⟨f, h1697, hf⟩, ⟨by omega, by omega⟩, ⟨by omega, by omega⟩, ⟨by omega, by omega⟩⟩
                        refine T_mono (c_passKind sc S1653 B fl fp at_ n (X_av n c1) so pl ct rc kc wc rn lo kn ab h1659 ⟨h1656, h1660, h1661, h1662⟩ (by omega) hso hB hb1698) (fun v1700 S1701 h1702 => ?_)
                        rcases h1702 with ⟨h1689, h1690, h1691, h1692, hp1703, hl1704, hf1705⟩ | ⟨h1689, h1693, ⟨fl1706, fp1707, hn1708, hp1703⟩, hl1704, hf1705⟩
                        · skip
                          rw [h1689]
                          have hv1699 := X_av_r (n := n) (c := (X_av n c1)) (by omega)
                          show X_T sc 77 (143, [(5, .long (ct c1)), (4, .int (iI (bI (so c1 = 95 ∧ (d1 3 0 < 8 ∧ d1 4 0 < 4 ∧ ¬ X_hl d1 q1 (d1 3 0 - 1)))))), (3, .int (iI (bI (so c1 = 6 ∧ d1 3 0 < 8)))), (2, .int (iI i)), (0, .ref 496), (1, .ref a)], [.int (iI (X_ix kn kc (ct (X_av n c1))))], S1701) _
                          refine T_p xr_77_143 xn_77 (pc' := 147) (ls' := [(5, .long (ct c1)), (4, .int (iI (bI (so c1 = 95 ∧ (d1 3 0 < 8 ∧ d1 4 0 < 4 ∧ ¬ X_hl d1 q1 (d1 3 0 - 1)))))), (3, .int (iI (bI (so c1 = 6 ∧ d1 3 0 < 8)))), (2, .int (iI i)), (0, .ref 496), (1, .ref a)]) (st' := [.int (iI (X_ix kn kc (ct (X_av n c1))))]) rfl ?_
                          refine T_p xr_77_147 xn_77 (pc' := 149) (ls' := [(7, .int (iI (X_ix kn kc (ct (X_av n c1))))), (5, .long (ct c1)), (4, .int (iI (bI (so c1 = 95 ∧ (d1 3 0 < 8 ∧ d1 4 0 < 4 ∧ ¬ X_hl d1 q1 (d1 3 0 - 1)))))), (3, .int (iI (bI (so c1 = 6 ∧ d1 3 0 < 8)))), (2, .int (iI i)), (0, .ref 496), (1, .ref a)]) (st' := []) rfl ?_
                          refine T_p xr_77_149 xn_77 (pc' := 151) (ls' := [(7, .int (iI (X_ix kn kc (ct (X_av n c1))))), (5, .long (ct c1)), (4, .int (iI (bI (so c1 = 95 ∧ (d1 3 0 < 8 ∧ d1 4 0 < 4 ∧ ¬ X_hl d1 q1 (d1 3 0 - 1)))))), (3, .int (iI (bI (so c1 = 6 ∧ d1 3 0 < 8)))), (2, .int (iI i)), (0, .ref 496), (1, .ref a)]) (st' := [.int (iI (X_ix kn kc (ct (X_av n c1))))]) rfl ?_
                          refine T_p xr_77_151 xn_77 (pc' := 152) (ls' := [(7, .int (iI (X_ix kn kc (ct (X_av n c1))))), (5, .long (ct c1)), (4, .int (iI (bI (so c1 = 95 ∧ (d1 3 0 < 8 ∧ d1 4 0 < 4 ∧ ¬ X_hl d1 q1 (d1 3 0 - 1)))))), (3, .int (iI (bI (so c1 = 6 ∧ d1 3 0 < 8)))), (2, .int (iI i)), (0, .ref 496), (1, .ref a)]) (st' := [.int (iI (-1)), .int (iI (X_ix kn kc (ct (X_av n c1))))]) rfl ?_
                          refine T_zicmp_ne xr_77_152 (t := 157) (pc' := 155) rfl rfl (fun c1709 => ?_) (fun c1709 => ?_)
                          · skip
                            have c1709 : ¬ (X_ix kn kc (ct (X_av n c1))) = (-1) := c1709
                            refine T_p xr_77_157 xn_77 (pc' := 158) (ls' := [(7, .int (iI (X_ix kn kc (ct (X_av n c1))))), (5, .long (ct c1)), (4, .int (iI (bI (so c1 = 95 ∧ (d1 3 0 < 8 ∧ d1 4 0 < 4 ∧ ¬ X_hl d1 q1 (d1 3 0 - 1)))))), (3, .int (iI (bI (so c1 = 6 ∧ d1 3 0 < 8)))), (2, .int (iI i)), (0, .ref 496), (1, .ref a)]) (st' := [.ref a]) rfl ?_
                            refine T_p xr_77_158 xn_77 (pc' := 160) (ls' := [(7, .int (iI (X_ix kn kc (ct (X_av n c1))))), (5, .long (ct c1)), (4, .int (iI (bI (so c1 = 95 ∧ (d1 3 0 < 8 ∧ d1 4 0 < 4 ∧ ¬ X_hl d1 q1 (d1 3 0 - 1)))))), (3, .int (iI (bI (so c1 = 6 ∧ d1 3 0 < 8)))), (2, .int (iI i)), (0, .ref 496), (1, .ref a)]) (st' := [.int (iI (X_ix kn kc (ct (X_av n c1)))), .ref a]) rfl ?_
                            have h1710 := (hf1705.1 a (by omega)).trans ((h1655.1 a (by omega)).trans (hw0))
                            refine T_cv (S := S1701) (q := a) xr_77_160 xf_98.1 xf_98.2.1 xn_98 (as := [.int (iI (X_ix kn kc (ct (X_av n c1))))]) (r := []) rfl h1710 (Nat.le_of_ble_eq_true rfl) (Nat.le_of_ble_eq_true rfl) (pc' := 163) rfl (ls' := [(0, .ref a), (1, .int (iI (X_ix kn kc (ct (X_av n c1)))))]) rfl ?_
                            have hr1717 : X_wr (X_aH d1 (X_ix kn kc (ct (X_av n c1)))) := X_wr_H hr1 (by omega) (by omega)
                            have h1718 := (hf1705.1 (a + 1) (by omega)).trans ((h1655.1 (a + 1) (by omega)).trans (hw1))
                            have h1719 := (hf1705.1 (a + 2) (by omega)).trans ((h1655.1 (a + 2) (by omega)).trans (hw2))
                            have h1720 := (hf1705.1 (a + 3) (by omega)).trans ((h1655.1 (a + 3) (by omega)).trans (hw3))
                            have h1721 := (hf1705.1 (a + 4) (by omega)).trans ((h1655.1 (a + 4) (by omega)).trans (hw4))
                            have h1722 := (hf1705.1 (a + 5) (by omega)).trans ((h1655.1 (a + 5) (by omega)).trans (hw5))
                            have h1723 := (hf1705.1 (a + 6) (by omega)).trans ((h1655.1 (a + 6) (by omega)).trans (hw6))
                            have h1724 := (hf1705.1 (a + 7) (by omega)).trans ((h1655.1 (a + 7) (by omega)).trans (hw7))
                            refine T_mono (c_addHole sc S1701 a d1 q1 (X_ix kn kc (ct (X_av n c1))) ⟨h1710, h1718, h1719, h1720, h1721, h1722, h1723, h1724⟩ hr1 (by omega) (by omega)) (fun v1711 S1712 h1713 => ?_)
                            obtain ⟨h1714, hw1715, hf1716⟩ := h1713
                            rw [h1714]
                            have hw1715 : C_wd S1712 a (X_aH d1 (X_ix kn kc (ct (X_av n c1)))) (X_ug q1 (d1 3 0) 0) := hw1715
                            show X_T sc 77 (163, [(7, .int (iI (X_ix kn kc (ct (X_av n c1))))), (5, .long (ct c1)), (4, .int (iI (bI (so c1 = 95 ∧ (d1 3 0 < 8 ∧ d1 4 0 < 4 ∧ ¬ X_hl d1 q1 (d1 3 0 - 1)))))), (3, .int (iI (bI (so c1 = 6 ∧ d1 3 0 < 8)))), (2, .int (iI i)), (0, .ref 496), (1, .ref a)], [], S1712) _
                            refine T_ziinc xr_77_163 xn_77 (a := i) (z := i + 1) rfl (Nat.le_of_ble_eq_true rfl) (by omega) (ls' := [(2, .int (iI (i + 1))), (7, .int (iI (X_ix kn kc (ct (X_av n c1))))), (5, .long (ct c1)), (4, .int (iI (bI (so c1 = 95 ∧ (d1 3 0 < 8 ∧ d1 4 0 < 4 ∧ ¬ X_hl d1 q1 (d1 3 0 - 1)))))), (3, .int (iI (bI (so c1 = 6 ∧ d1 3 0 < 8)))), (0, .ref 496), (1, .ref a)]) rfl (pc' := 166) rfl ?_
                            refine T_p xr_77_166 xn_77 (pc' := 2) (ls' := [(2, .int (iI (i + 1))), (7, .int (iI (X_ix kn kc (ct (X_av n c1))))), (5, .long (ct c1)), (4, .int (iI (bI (so c1 = 95 ∧ (d1 3 0 < 8 ∧ d1 4 0 < 4 ∧ ¬ X_hl d1 q1 (d1 3 0 - 1)))))), (3, .int (iI (bI (so c1 = 6 ∧ d1 3 0 < 8)))), (0, .ref 496), (1, .ref a)]) (st' := []) rfl ?_
                            have h1725 := (hf1716.1 497 (by omega)).trans (hl1704)
                            have h1726 := (hf1716.1 496 (by omega)).trans (hp1703)
                            refine T_sub (ls := [(2, .int (iI (i + 1))), (0, .ref 496), (1, .ref a)]) ⟨rfl, rfl, rfl, trivial⟩ rfl rfl ?_
                            exact ih1568 S1712 (i + 1) (X_av n (X_av n c1)) (X_aH d1 (X_ix kn kc (ct (X_av n c1)))) (X_ug q1 (d1 3 0) 0) h1726 h1725 hw1715.1 hw1715.2.1 hw1715.2.2.1 hw1715.2.2.2.1 hw1715.2.2.2.2.1 hw1715.2.2.2.2.2.1 hw1715.2.2.2.2.2.2.1 hw1715.2.2.2.2.2.2.2 (hF1571.tr ((((X_Fr.rf).tr (X_Fr.mono ⟨h1655.1, h1655.2⟩ (fun q hq => (by omega)))).tr (X_Fr.mono ⟨hf1705.1, hf1705.2⟩ (fun q hq => (by omega)))).tr (X_Fr.mono ⟨hf1716.1, hf1716.2⟩ (fun q hq => (by omega))))) (by omega) hr1717 (by omega) (by
                                  rw [← hR, sp_el_s (i := i) (by omega)]
                                  (repeat (first | rw [if_pos (by assumption)] | rw [if_neg (by assumption)]))
                                  all_goals rfl) (by omega)
                          · skip
                            have c1709 : ¬ (¬ (X_ix kn kc (ct (X_av n c1))) = (-1)) := c1709
                            exact (show False by first | contradiction | omega).elim
                        · skip
                          rw [h1689]
                          show X_T sc 77 (143, [(5, .long (ct c1)), (4, .int (iI (bI (so c1 = 95 ∧ (d1 3 0 < 8 ∧ d1 4 0 < 4 ∧ ¬ X_hl d1 q1 (d1 3 0 - 1)))))), (3, .int (iI (bI (so c1 = 6 ∧ d1 3 0 < 8)))), (2, .int (iI i)), (0, .ref 496), (1, .ref a)], [.int (iI (-1))], S1701) _
                          refine T_p xr_77_143 xn_77 (pc' := 147) (ls' := [(5, .long (ct c1)), (4, .int (iI (bI (so c1 = 95 ∧ (d1 3 0 < 8 ∧ d1 4 0 < 4 ∧ ¬ X_hl d1 q1 (d1 3 0 - 1)))))), (3, .int (iI (bI (so c1 = 6 ∧ d1 3 0 < 8)))), (2, .int (iI i)), (0, .ref 496), (1, .ref a)]) (st' := [.int (iI (-1))]) rfl ?_
                          refine T_p xr_77_147 xn_77 (pc' := 149) (ls' := [(7, .int (iI (-1))), (5, .long (ct c1)), (4, .int (iI (bI (so c1 = 95 ∧ (d1 3 0 < 8 ∧ d1 4 0 < 4 ∧ ¬ X_hl d1 q1 (d1 3 0 - 1)))))), (3, .int (iI (bI (so c1 = 6 ∧ d1 3 0 < 8)))), (2, .int (iI i)), (0, .ref 496), (1, .ref a)]) (st' := []) rfl ?_
                          refine T_p xr_77_149 xn_77 (pc' := 151) (ls' := [(7, .int (iI (-1))), (5, .long (ct c1)), (4, .int (iI (bI (so c1 = 95 ∧ (d1 3 0 < 8 ∧ d1 4 0 < 4 ∧ ¬ X_hl d1 q1 (d1 3 0 - 1)))))), (3, .int (iI (bI (so c1 = 6 ∧ d1 3 0 < 8)))), (2, .int (iI i)), (0, .ref 496), (1, .ref a)]) (st' := [.int (iI (-1))]) rfl ?_
                          refine T_p xr_77_151 xn_77 (pc' := 152) (ls' := [(7, .int (iI (-1))), (5, .long (ct c1)), (4, .int (iI (bI (so c1 = 95 ∧ (d1 3 0 < 8 ∧ d1 4 0 < 4 ∧ ¬ X_hl d1 q1 (d1 3 0 - 1)))))), (3, .int (iI (bI (so c1 = 6 ∧ d1 3 0 < 8)))), (2, .int (iI i)), (0, .ref 496), (1, .ref a)]) (st' := [.int (iI (-1)), .int (iI (-1))]) rfl ?_
                          refine T_zicmp_nef xr_77_152 (t := 157) (pc' := 155) rfl rfl (by decide) ?_
                          refine T_p xr_77_155 xn_77 (pc' := 156) (ls' := [(7, .int (iI (-1))), (5, .long (ct c1)), (4, .int (iI (bI (so c1 = 95 ∧ (d1 3 0 < 8 ∧ d1 4 0 < 4 ∧ ¬ X_hl d1 q1 (d1 3 0 - 1)))))), (3, .int (iI (bI (so c1 = 6 ∧ d1 3 0 < 8)))), (2, .int (iI i)), (0, .ref 496), (1, .ref a)]) (st' := [.int (iI 0)]) rfl ?_
                          refine T_iret xr_77_156 xf_77.2.2 (by decide) ?_
                          refine hQ _ _ ?_
                          have h1727 := (hf1705.1 a (by omega)).trans ((h1655.1 a (by omega)).trans (hw0))
                          have h1728 := (hf1705.1 (a + 1) (by omega)).trans ((h1655.1 (a + 1) (by omega)).trans (hw1))
                          have h1729 := (hf1705.1 (a + 2) (by omega)).trans ((h1655.1 (a + 2) (by omega)).trans (hw2))
                          have h1730 := (hf1705.1 (a + 3) (by omega)).trans ((h1655.1 (a + 3) (by omega)).trans (hw3))
                          have h1731 := (hf1705.1 (a + 4) (by omega)).trans ((h1655.1 (a + 4) (by omega)).trans (hw4))
                          have h1732 := (hf1705.1 (a + 5) (by omega)).trans ((h1655.1 (a + 5) (by omega)).trans (hw5))
                          have h1733 := (hf1705.1 (a + 6) (by omega)).trans ((h1655.1 (a + 6) (by omega)).trans (hw6))
                          have h1734 := (hf1705.1 (a + 7) (by omega)).trans ((h1655.1 (a + 7) (by omega)).trans (hw7))
                          refine Or.inr ⟨rfl, ?_, ⟨_, _, by omega, hp1703⟩, ⟨(X_av n c1), d1, q1, hl1704, by omega, ⟨h1727, h1728, h1729, h1730, h1731, h1732, h1733, h1734⟩, hr1⟩, (((X_Fr.rf).tr (X_Fr.mono ⟨hF1571.1, hF1571.2⟩ (fun q hq => (by omega)))).tr (X_Fr.mono ⟨h1655.1, h1655.2⟩ (fun q hq => (by omega)))).tr (X_Fr.mono ⟨hf1705.1, hf1705.2⟩ (fun q hq => (by omega)))⟩
                          rw [← hR]
                          first
                            | (rw [sp_el_s (i := i) (by omega)]
                               (repeat (first | rw [if_pos (by assumption)] | rw [if_neg (by assumption)]))
                               all_goals first | rfl | ((repeat' split) <;> first | rfl | (exfalso; omega)))
                            | (rw [show (9 - i).toNat = 0 by omega]; rfl)
                    · skip
                      have c1658 : (so c1 = 6 ∧ d1 3 0 < 8) := c1658
                      exact (show False by first | contradiction | omega).elim
                  · skip
                    have c1645 : ¬ (so c1 = 95 ∧ (d1 3 0 < 8 ∧ d1 4 0 < 4 ∧ ¬ X_hl d1 q1 (d1 3 0 - 1))) := c1645
                    refine T_p xr_77_96 xn_77 (pc' := 169) (ls' := [(4, .int (iI (bI (so c1 = 95 ∧ (d1 3 0 < 8 ∧ d1 4 0 < 4 ∧ ¬ X_hl d1 q1 (d1 3 0 - 1)))))), (3, .int (iI (bI (so c1 = 6 ∧ d1 3 0 < 8)))), (2, .int (iI i)), (0, .ref 496), (1, .ref a)]) (st' := []) rfl ?_
                    refine T_p xr_77_169 xn_77 (pc' := 170) (ls' := [(4, .int (iI (bI (so c1 = 95 ∧ (d1 3 0 < 8 ∧ d1 4 0 < 4 ∧ ¬ X_hl d1 q1 (d1 3 0 - 1)))))), (3, .int (iI (bI (so c1 = 6 ∧ d1 3 0 < 8)))), (2, .int (iI i)), (0, .ref 496), (1, .ref a)]) (st' := [.ref 496]) rfl ?_
                    refine T_cv (S := S1572) (q := 496) xr_77_170 xf_67.1 xf_67.2.1 xn_67 (as := []) (r := []) rfl hp1 (Nat.le_of_ble_eq_true rfl) (Nat.le_of_ble_eq_true rfl) (pc' := 173) rfl (ls' := [(0, .ref 496)]) rfl ?_
                    refine T_mono (c_refuse sc S1572 B fl fp at_ n c1 so pl ct hp1 ⟨hx1, h1595, h1596, h1597⟩ (by omega) hso) (fun v1735 S1736 h1737 => ?_)
                    obtain ⟨h1738, ⟨fl1739, fp1740, hn1741, hp1742⟩, hf1743⟩ := h1737
                    rw [h1738]
                    show X_T sc 77 (173, [(4, .int (iI (bI (so c1 = 95 ∧ (d1 3 0 < 8 ∧ d1 4 0 < 4 ∧ ¬ X_hl d1 q1 (d1 3 0 - 1)))))), (3, .int (iI (bI (so c1 = 6 ∧ d1 3 0 < 8)))), (2, .int (iI i)), (0, .ref 496), (1, .ref a)], [], S1736) _
                    refine T_p xr_77_173 xn_77 (pc' := 174) (ls' := [(4, .int (iI (bI (so c1 = 95 ∧ (d1 3 0 < 8 ∧ d1 4 0 < 4 ∧ ¬ X_hl d1 q1 (d1 3 0 - 1)))))), (3, .int (iI (bI (so c1 = 6 ∧ d1 3 0 < 8)))), (2, .int (iI i)), (0, .ref 496), (1, .ref a)]) (st' := [.int (iI 0)]) rfl ?_
                    refine T_iret xr_77_174 xf_77.2.2 (by decide) ?_
                    refine hQ _ _ ?_
                    have h1744 := (hf1743.1 497 (by omega)).trans (hx1)
                    have h1745 := (hf1743.1 a (by omega)).trans (hw0)
                    have h1746 := (hf1743.1 (a + 1) (by omega)).trans (hw1)
                    have h1747 := (hf1743.1 (a + 2) (by omega)).trans (hw2)
                    have h1748 := (hf1743.1 (a + 3) (by omega)).trans (hw3)
                    have h1749 := (hf1743.1 (a + 4) (by omega)).trans (hw4)
                    have h1750 := (hf1743.1 (a + 5) (by omega)).trans (hw5)
                    have h1751 := (hf1743.1 (a + 6) (by omega)).trans (hw6)
                    have h1752 := (hf1743.1 (a + 7) (by omega)).trans (hw7)
                    refine Or.inr ⟨rfl, ?_, ⟨_, _, by omega, hp1742⟩, ⟨c1, d1, q1, h1744, by omega, ⟨h1745, h1746, h1747, h1748, h1749, h1750, h1751, h1752⟩, hr1⟩, ((X_Fr.rf).tr (X_Fr.mono ⟨hF1571.1, hF1571.2⟩ (fun q hq => (by omega)))).tr (X_Fr.mono ⟨hf1743.1, hf1743.2⟩ (fun q hq => (by omega)))⟩
                    rw [← hR]
                    first
                      | (rw [sp_el_s (i := i) (by omega)]
                         (repeat (first | rw [if_pos (by assumption)] | rw [if_neg (by assumption)]))
                         all_goals first | rfl | ((repeat' split) <;> first | rfl | (exfalso; omega)))
                      | (rw [show (9 - i).toNat = 0 by omega]; rfl)
              refine T_p xr_77_61 xn_77 (pc' := 62) (ls' := [(3, .int (iI (bI (so c1 = 6 ∧ d1 3 0 < 8)))), (2, .int (iI i)), (0, .ref 496), (1, .ref a)]) (st' := [.ref 496]) rfl ?_
              refine T_get xr_77_62 hp1 rfl (v := .ref 497) rfl (pc' := 65) rfl ?_
              refine T_cv (S := S1572) (q := 497) xr_77_65 xf_48.1 xf_48.2.1 xn_48 (as := []) (r := []) rfl hx1 (Nat.le_of_ble_eq_true rfl) (Nat.le_of_ble_eq_true rfl) (pc' := 68) rfl (ls' := [(0, .ref 497)]) rfl ?_
              refine T_mono (c_sort sc S1572 at_ n c1 so pl ct ⟨hx1, h1595, h1596, h1597⟩ (by omega)) (fun v1754 S1755 h1753 => ?_)
              obtain ⟨h1756, h1757⟩ := h1753
              rw [h1756, h1757]
              show X_T sc 77 (68, [(3, .int (iI (bI (so c1 = 6 ∧ d1 3 0 < 8)))), (2, .int (iI i)), (0, .ref 496), (1, .ref a)], [.int (iI (so c1))], S1572) _
              have hs1758 := hso c1 (by omega) (by omega)
              refine T_p xr_77_68 xn_77 (pc' := 70) (ls' := [(3, .int (iI (bI (so c1 = 6 ∧ d1 3 0 < 8)))), (2, .int (iI i)), (0, .ref 496), (1, .ref a)]) (st' := [.int (iI 95), .int (iI (so c1))]) rfl ?_
              refine T_zicmp_ne xr_77_70 (t := 84) (pc' := 73) rfl rfl (fun c1759 => ?_) (fun c1759 => ?_)
              · skip
                have c1759 : ¬ (so c1) = 95 := c1759
                refine T_p xr_77_84 xn_77 (pc' := 85) (ls' := [(3, .int (iI (bI (so c1 = 6 ∧ d1 3 0 < 8)))), (2, .int (iI i)), (0, .ref 496), (1, .ref a)]) (st' := [.int (iI 0)]) rfl ?_
                refine T_ie (y := iI (bI (so c1 = 95 ∧ (d1 3 0 < 8 ∧ d1 4 0 < 4 ∧ ¬ X_hl d1 q1 (d1 3 0 - 1))))) (by rw [bI_f (by rintro ⟨h1, h2⟩; first | omega | contradiction)]) ?_
                exact J1613
              · skip
                have c1759 : ¬ (¬ (so c1) = 95) := c1759
                refine T_p xr_77_73 xn_77 (pc' := 74) (ls' := [(3, .int (iI (bI (so c1 = 6 ∧ d1 3 0 < 8)))), (2, .int (iI i)), (0, .ref 496), (1, .ref a)]) (st' := [.ref a]) rfl ?_
                refine T_cv (S := S1572) (q := a) xr_77_74 xf_97.1 xf_97.2.1 xn_97 (as := []) (r := []) rfl hw0 (Nat.le_of_ble_eq_true rfl) (Nat.le_of_ble_eq_true rfl) (pc' := 77) rfl (ls' := [(0, .ref a)]) rfl ?_
                refine T_mono (c_mayTakeHole sc S1572 a d1 q1 ⟨hw0, hw1, hw2, hw3, hw4, hw5, hw6, hw7⟩ hr1) (fun v1761 S1762 h1760 => ?_)
                obtain ⟨h1763, h1764⟩ := h1760
                rw [h1763, h1764]
                show X_T sc 77 (77, [(3, .int (iI (bI (so c1 = 6 ∧ d1 3 0 < 8)))), (2, .int (iI i)), (0, .ref 496), (1, .ref a)], [.int (iI (bI (d1 3 0 < 8 ∧ d1 4 0 < 4 ∧ ¬ X_hl d1 q1 (d1 3 0 - 1))))], S1572) _
                refine T_bif_eq xr_77_77 (t := 84) (pc' := 80) rfl rfl (fun c1765 => ?_) (fun c1765 => ?_)
                · skip
                  have c1765 : ¬ (d1 3 0 < 8 ∧ d1 4 0 < 4 ∧ ¬ X_hl d1 q1 (d1 3 0 - 1)) := c1765
                  refine T_p xr_77_84 xn_77 (pc' := 85) (ls' := [(3, .int (iI (bI (so c1 = 6 ∧ d1 3 0 < 8)))), (2, .int (iI i)), (0, .ref 496), (1, .ref a)]) (st' := [.int (iI 0)]) rfl ?_
                  refine T_ie (y := iI (bI (so c1 = 95 ∧ (d1 3 0 < 8 ∧ d1 4 0 < 4 ∧ ¬ X_hl d1 q1 (d1 3 0 - 1))))) (by rw [bI_f (by rintro ⟨h1, h2⟩; first | omega | contradiction)]) ?_
                  exact J1613
                · skip
                  have c1765 : (d1 3 0 < 8 ∧ d1 4 0 < 4 ∧ ¬ X_hl d1 q1 (d1 3 0 - 1)) := c1765
                  refine T_p xr_77_80 xn_77 (pc' := 81) (ls' := [(3, .int (iI (bI (so c1 = 6 ∧ d1 3 0 < 8)))), (2, .int (iI i)), (0, .ref 496), (1, .ref a)]) (st' := [.int (iI 1)]) rfl ?_
                  refine T_p xr_77_81 xn_77 (pc' := 85) (ls' := [(3, .int (iI (bI (so c1 = 6 ∧ d1 3 0 < 8)))), (2, .int (iI i)), (0, .ref 496), (1, .ref a)]) (st' := [.int (iI 1)]) rfl ?_
                  refine T_ie (y := iI (bI (so c1 = 95 ∧ (d1 3 0 < 8 ∧ d1 4 0 < 4 ∧ ¬ X_hl d1 q1 (d1 3 0 - 1))))) (by rw [bI_t (by exact ⟨by omega, by assumption⟩)]) ?_
                  exact J1613
            refine T_p xr_77_34 xn_77 (pc' := 35) (ls' := [(2, .int (iI i)), (0, .ref 496), (1, .ref a)]) (st' := [.ref 496]) rfl ?_
            refine T_get xr_77_35 hp1 rfl (v := .ref 497) rfl (pc' := 38) rfl ?_
            refine T_cv (S := S1572) (q := 497) xr_77_38 xf_48.1 xf_48.2.1 xn_48 (as := []) (r := []) rfl hx1 (Nat.le_of_ble_eq_true rfl) (Nat.le_of_ble_eq_true rfl) (pc' := 41) rfl (ls' := [(0, .ref 497)]) rfl ?_
            refine T_mono (c_sort sc S1572 at_ n c1 so pl ct ⟨hx1, h1595, h1596, h1597⟩ (by omega)) (fun v1767 S1768 h1766 => ?_)
            obtain ⟨h1769, h1770⟩ := h1766
            rw [h1769, h1770]
            show X_T sc 77 (41, [(2, .int (iI i)), (0, .ref 496), (1, .ref a)], [.int (iI (so c1))], S1572) _
            have hs1771 := hso c1 (by omega) (by omega)
            refine T_p xr_77_41 xn_77 (pc' := 43) (ls' := [(2, .int (iI i)), (0, .ref 496), (1, .ref a)]) (st' := [.int (iI 6), .int (iI (so c1))]) rfl ?_
            refine T_zicmp_ne xr_77_43 (t := 59) (pc' := 46) rfl rfl (fun c1772 => ?_) (fun c1772 => ?_)
            · skip
              have c1772 : ¬ (so c1) = 6 := c1772
              refine T_p xr_77_59 xn_77 (pc' := 60) (ls' := [(2, .int (iI i)), (0, .ref 496), (1, .ref a)]) (st' := [.int (iI 0)]) rfl ?_
              refine T_ie (y := iI (bI (so c1 = 6 ∧ d1 3 0 < 8))) (by rw [bI_f (by rintro ⟨h1, h2⟩; omega)]) ?_
              exact J1612
            · skip
              have c1772 : ¬ (¬ (so c1) = 6) := c1772
              refine T_p xr_77_46 xn_77 (pc' := 47) (ls' := [(2, .int (iI i)), (0, .ref 496), (1, .ref a)]) (st' := [.ref a]) rfl ?_
              refine T_get xr_77_47 hw0 rfl (v := .int (iI (d1 3 0))) rfl (pc' := 50) rfl ?_
              refine T_p xr_77_50 xn_77 (pc' := 52) (ls' := [(2, .int (iI i)), (0, .ref 496), (1, .ref a)]) (st' := [.int (iI 8), .int (iI (d1 3 0))]) rfl ?_
              refine T_zicmp_ge xr_77_52 (t := 59) (pc' := 55) rfl rfl (fun c1773 => ?_) (fun c1773 => ?_)
              · skip
                have c1773 : 8 ≤ (d1 3 0) := c1773
                refine T_p xr_77_59 xn_77 (pc' := 60) (ls' := [(2, .int (iI i)), (0, .ref 496), (1, .ref a)]) (st' := [.int (iI 0)]) rfl ?_
                refine T_ie (y := iI (bI (so c1 = 6 ∧ d1 3 0 < 8))) (by rw [bI_f (by rintro ⟨h1, h2⟩; omega)]) ?_
                exact J1612
              · skip
                have c1773 : ¬ (8 ≤ (d1 3 0)) := c1773
                refine T_p xr_77_55 xn_77 (pc' := 56) (ls' := [(2, .int (iI i)), (0, .ref 496), (1, .ref a)]) (st' := [.int (iI 1)]) rfl ?_
                refine T_p xr_77_56 xn_77 (pc' := 60) (ls' := [(2, .int (iI i)), (0, .ref 496), (1, .ref a)]) (st' := [.int (iI 1)]) rfl ?_
                refine T_ie (y := iI (bI (so c1 = 6 ∧ d1 3 0 < 8))) (by rw [bI_t (by exact ⟨by omega, by omega⟩)]) ?_
                exact J1612
          · skip
            have c1611 : ¬ (¬ (so c1) = 59) := c1611
            refine T_p xr_77_32 xn_77 (pc' := 33) (ls' := [(2, .int (iI i)), (0, .ref 496), (1, .ref a)]) (st' := [.int (iI 1)]) rfl ?_
            refine T_iret xr_77_33 xf_77.2.2 (by decide) ?_
            refine hQ _ _ ?_
            refine Or.inl ⟨rfl, c1, d1, q1, ?_, hp1, hx1, by omega, ⟨hw0, hw1, hw2, hw3, hw4, hw5, hw6, hw7⟩, hr1, (X_Fr.rf).tr (X_Fr.mono ⟨hF1571.1, hF1571.2⟩ (fun q hq => (by omega)))⟩
            rw [← hR, sp_el_s (i := i) (by omega)]
            (repeat (first | rw [if_pos (by assumption)] | rw [if_neg (by assumption)]))
            all_goals first | rfl | ((repeat' split) <;> first | rfl | (exfalso; omega))
  exact L1567 ((9 : Int) + 1).toNat S 0 cur d q hp hx.1 hw.1 hw.2.1 hw.2.2.1 hw.2.2.2.1 hw.2.2.2.2.1 hw.2.2.2.2.2.1 hw.2.2.2.2.2.2.1 hw.2.2.2.2.2.2.2 ((X_Fr.rf)) (by omega) hr (by omega) rfl (by omega)
