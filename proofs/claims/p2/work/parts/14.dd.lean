theorem xr_22_0 : X_row 22 0 = some (0, (.aload_n 0, 1), (0, 0, 0)) := by decide +kernel
theorem xr_22_1 : X_row 22 1 = some (1, (.aload_n 1, 1), (0, 0, 0)) := by decide +kernel
theorem xr_22_2 : X_row 22 2 = some (2, (.putfield 32, 3), (1, 0, 22)) := by decide +kernel
theorem xr_22_5 : X_row 22 5 = some (5, (.aload_n 0, 1), (0, 0, 0)) := by decide +kernel
theorem xr_22_6 : X_row 22 6 = some (6, (.iconst 0, 1), (0, 0, 0)) := by decide +kernel
theorem xr_22_7 : X_row 22 7 = some (7, (.putfield 9, 3), (1, 2, 26)) := by decide +kernel
theorem xr_22_10 : X_row 22 10 = some (10, (.return_, 1), (0, 0, 0)) := by decide +kernel
theorem xr_87_0 : X_row 87 0 = some (0, (.iconst 0, 1), (0, 0, 0)) := by decide +kernel
theorem xr_87_1 : X_row 87 1 = some (1, (.istore_n 2, 1), (0, 0, 0)) := by decide +kernel
theorem xr_87_2 : X_row 87 2 = some (2, (.iconst 0, 1), (0, 0, 0)) := by decide +kernel
theorem xr_87_3 : X_row 87 3 = some (3, (.istore_n 3, 1), (0, 0, 0)) := by decide +kernel
theorem xr_87_4 : X_row 87 4 = some (4, (.iconst 0, 1), (0, 0, 0)) := by decide +kernel
theorem xr_87_5 : X_row 87 5 = some (5, (.istore 4, 2), (0, 0, 0)) := by decide +kernel
theorem xr_87_7 : X_row 87 7 = some (7, (.iload 4, 2), (0, 0, 0)) := by decide +kernel
theorem xr_87_9 : X_row 87 9 = some (9, (.aload_n 1, 1), (0, 0, 0)) := by decide +kernel
theorem xr_87_10 : X_row 87 10 = some (10, (.getfield 22, 3), (7, 1, 1)) := by decide +kernel
theorem xr_87_13 : X_row 87 13 = some (13, (.if_icmp .ge 144, 3), (0, 0, 0)) := by decide +kernel
theorem xr_87_16 : X_row 87 16 = some (16, (.aload_n 1, 1), (0, 0, 0)) := by decide +kernel
theorem xr_87_17 : X_row 87 17 = some (17, (.iload 4, 2), (0, 0, 0)) := by decide +kernel
theorem xr_87_19 : X_row 87 19 = some (19, (.invokevirtual 27, 3), (93, 0, 0)) := by decide +kernel
theorem xr_87_22 : X_row 87 22 = some (22, (.istore 5, 2), (0, 0, 0)) := by decide +kernel
theorem xr_87_24 : X_row 87 24 = some (24, (.iload 5, 2), (0, 0, 0)) := by decide +kernel
theorem xr_87_26 : X_row 87 26 = some (26, (.bipush 40, 2), (0, 0, 0)) := by decide +kernel
theorem xr_87_28 : X_row 87 28 = some (28, (.if_icmp .eq 10, 3), (0, 0, 0)) := by decide +kernel
theorem xr_87_31 : X_row 87 31 = some (31, (.iload 5, 2), (0, 0, 0)) := by decide +kernel
theorem xr_87_33 : X_row 87 33 = some (33, (.bipush 41, 2), (0, 0, 0)) := by decide +kernel
theorem xr_87_35 : X_row 87 35 = some (35, (.if_icmp .ne 7, 3), (0, 0, 0)) := by decide +kernel
theorem xr_87_38 : X_row 87 38 = some (38, (.iconst 1, 1), (0, 0, 0)) := by decide +kernel
theorem xr_87_39 : X_row 87 39 = some (39, (.goto 4, 3), (0, 0, 0)) := by decide +kernel
theorem xr_87_42 : X_row 87 42 = some (42, (.iconst 0, 1), (0, 0, 0)) := by decide +kernel
theorem xr_87_43 : X_row 87 43 = some (43, (.istore 6, 2), (0, 0, 0)) := by decide +kernel
theorem xr_87_45 : X_row 87 45 = some (45, (.iload 5, 2), (0, 0, 0)) := by decide +kernel
theorem xr_87_47 : X_row 87 47 = some (47, (.invokestatic 31, 3), (133, 3, 0)) := by decide +kernel
theorem xr_87_50 : X_row 87 50 = some (50, (.ifCond .eq 8, 3), (0, 0, 0)) := by decide +kernel
theorem xr_87_53 : X_row 87 53 = some (53, (.iconst 0, 1), (0, 0, 0)) := by decide +kernel
theorem xr_87_54 : X_row 87 54 = some (54, (.istore_n 3, 1), (0, 0, 0)) := by decide +kernel
theorem xr_87_55 : X_row 87 55 = some (55, (.goto 96, 3), (0, 0, 0)) := by decide +kernel
theorem xr_87_58 : X_row 87 58 = some (58, (.iload 5, 2), (0, 0, 0)) := by decide +kernel
theorem xr_87_60 : X_row 87 60 = some (60, (.bipush 33, 2), (0, 0, 0)) := by decide +kernel
theorem xr_87_62 : X_row 87 62 = some (62, (.if_icmp .lt 10, 3), (0, 0, 0)) := by decide +kernel
theorem xr_87_65 : X_row 87 65 = some (65, (.iload 5, 2), (0, 0, 0)) := by decide +kernel
theorem xr_87_67 : X_row 87 67 = some (67, (.bipush 126, 2), (0, 0, 0)) := by decide +kernel
theorem xr_87_69 : X_row 87 69 = some (69, (.if_icmp .le 5, 3), (0, 0, 0)) := by decide +kernel
theorem xr_87_72 : X_row 87 72 = some (72, (.iconst 0, 1), (0, 0, 0)) := by decide +kernel
theorem xr_87_73 : X_row 87 73 = some (73, (.ireturn, 1), (0, 0, 0)) := by decide +kernel
theorem xr_87_74 : X_row 87 74 = some (74, (.iload_n 3, 1), (0, 0, 0)) := by decide +kernel
theorem xr_87_75 : X_row 87 75 = some (75, (.ifCond .le 45, 3), (0, 0, 0)) := by decide +kernel
theorem xr_87_78 : X_row 87 78 = some (78, (.iload 6, 2), (0, 0, 0)) := by decide +kernel
theorem xr_87_80 : X_row 87 80 = some (80, (.ifCond .ne 40, 3), (0, 0, 0)) := by decide +kernel
theorem xr_87_83 : X_row 87 83 = some (83, (.iload_n 3, 1), (0, 0, 0)) := by decide +kernel
theorem xr_87_84 : X_row 87 84 = some (84, (.bipush 8, 2), (0, 0, 0)) := by decide +kernel
theorem xr_87_86 : X_row 87 86 = some (86, (.if_icmp .ne 5, 3), (0, 0, 0)) := by decide +kernel
theorem xr_87_89 : X_row 87 89 = some (89, (.iconst 0, 1), (0, 0, 0)) := by decide +kernel
theorem xr_87_90 : X_row 87 90 = some (90, (.ireturn, 1), (0, 0, 0)) := by decide +kernel
theorem xr_87_91 : X_row 87 91 = some (91, (.aload_n 0, 1), (0, 0, 0)) := by decide +kernel
theorem xr_87_92 : X_row 87 92 = some (92, (.getfield 19, 3), (6, 2, 6)) := by decide +kernel
theorem xr_87_95 : X_row 87 95 = some (95, (.iload_n 2, 1), (0, 0, 0)) := by decide +kernel
theorem xr_87_96 : X_row 87 96 = some (96, (.iconst 1, 1), (0, 0, 0)) := by decide +kernel
theorem xr_87_97 : X_row 87 97 = some (97, (.isub, 1), (0, 0, 0)) := by decide +kernel
theorem xr_87_98 : X_row 87 98 = some (98, (.aload_n 0, 1), (0, 0, 0)) := by decide +kernel
theorem xr_87_99 : X_row 87 99 = some (99, (.getfield 19, 3), (6, 2, 6)) := by decide +kernel
theorem xr_87_102 : X_row 87 102 = some (102, (.iload_n 2, 1), (0, 0, 0)) := by decide +kernel
theorem xr_87_103 : X_row 87 103 = some (103, (.iconst 1, 1), (0, 0, 0)) := by decide +kernel
theorem xr_87_104 : X_row 87 104 = some (104, (.isub, 1), (0, 0, 0)) := by decide +kernel
theorem xr_87_105 : X_row 87 105 = some (105, (.laload, 1), (0, 0, 0)) := by decide +kernel
theorem xr_87_106 : X_row 87 106 = some (106, (.bipush 8, 2), (0, 0, 0)) := by decide +kernel
theorem xr_87_108 : X_row 87 108 = some (108, (.lshl, 1), (0, 0, 0)) := by decide +kernel
theorem xr_87_109 : X_row 87 109 = some (109, (.iload 5, 2), (0, 0, 0)) := by decide +kernel
theorem xr_87_111 : X_row 87 111 = some (111, (.i2l, 1), (0, 0, 0)) := by decide +kernel
theorem xr_87_112 : X_row 87 112 = some (112, (.lor, 1), (0, 0, 0)) := by decide +kernel
theorem xr_87_113 : X_row 87 113 = some (113, (.lastore, 1), (0, 0, 0)) := by decide +kernel
theorem xr_87_114 : X_row 87 114 = some (114, (.iinc 3 1, 3), (0, 0, 0)) := by decide +kernel
theorem xr_87_117 : X_row 87 117 = some (117, (.goto 34, 3), (0, 0, 0)) := by decide +kernel
theorem xr_87_120 : X_row 87 120 = some (120, (.iload_n 2, 1), (0, 0, 0)) := by decide +kernel
theorem xr_87_121 : X_row 87 121 = some (121, (.bipush 30, 2), (0, 0, 0)) := by decide +kernel
theorem xr_87_123 : X_row 87 123 = some (123, (.if_icmp .ne 5, 3), (0, 0, 0)) := by decide +kernel
theorem xr_87_126 : X_row 87 126 = some (126, (.iconst 0, 1), (0, 0, 0)) := by decide +kernel
theorem xr_87_127 : X_row 87 127 = some (127, (.ireturn, 1), (0, 0, 0)) := by decide +kernel
theorem xr_87_128 : X_row 87 128 = some (128, (.aload_n 0, 1), (0, 0, 0)) := by decide +kernel
theorem xr_87_129 : X_row 87 129 = some (129, (.getfield 19, 3), (6, 2, 6)) := by decide +kernel
theorem xr_87_132 : X_row 87 132 = some (132, (.iload_n 2, 1), (0, 0, 0)) := by decide +kernel
theorem xr_87_133 : X_row 87 133 = some (133, (.iload 5, 2), (0, 0, 0)) := by decide +kernel
theorem xr_87_135 : X_row 87 135 = some (135, (.i2l, 1), (0, 0, 0)) := by decide +kernel
theorem xr_87_136 : X_row 87 136 = some (136, (.lastore, 1), (0, 0, 0)) := by decide +kernel
theorem xr_87_137 : X_row 87 137 = some (137, (.iinc 2 1, 3), (0, 0, 0)) := by decide +kernel
theorem xr_87_140 : X_row 87 140 = some (140, (.iload 6, 2), (0, 0, 0)) := by decide +kernel
theorem xr_87_142 : X_row 87 142 = some (142, (.ifCond .eq 7, 3), (0, 0, 0)) := by decide +kernel
theorem xr_87_145 : X_row 87 145 = some (145, (.iconst 0, 1), (0, 0, 0)) := by decide +kernel
theorem xr_87_146 : X_row 87 146 = some (146, (.goto 4, 3), (0, 0, 0)) := by decide +kernel
theorem xr_87_149 : X_row 87 149 = some (149, (.iconst 1, 1), (0, 0, 0)) := by decide +kernel
theorem xr_87_150 : X_row 87 150 = some (150, (.istore_n 3, 1), (0, 0, 0)) := by decide +kernel
theorem xr_87_151 : X_row 87 151 = some (151, (.iinc 4 1, 3), (0, 0, 0)) := by decide +kernel
theorem xr_87_154 : X_row 87 154 = some (154, (.goto (-147), 3), (0, 0, 0)) := by decide +kernel
theorem xr_87_157 : X_row 87 157 = some (157, (.aload_n 0, 1), (0, 0, 0)) := by decide +kernel
theorem xr_87_158 : X_row 87 158 = some (158, (.getfield 19, 3), (6, 2, 6)) := by decide +kernel
theorem xr_87_161 : X_row 87 161 = some (161, (.iconst 0, 1), (0, 0, 0)) := by decide +kernel
theorem xr_87_162 : X_row 87 162 = some (162, (.aload_n 0, 1), (0, 0, 0)) := by decide +kernel
theorem xr_87_163 : X_row 87 163 = some (163, (.getfield 15, 3), (6, 1, 4)) := by decide +kernel
theorem xr_87_166 : X_row 87 166 = some (166, (.iconst 0, 1), (0, 0, 0)) := by decide +kernel
theorem xr_87_167 : X_row 87 167 = some (167, (.iload_n 2, 1), (0, 0, 0)) := by decide +kernel
theorem xr_87_168 : X_row 87 168 = some (168, (.invokestatic 35, 3), (9998, 826, 0)) := by decide +kernel
theorem xr_87_171 : X_row 87 171 = some (171, (.aload_n 0, 1), (0, 0, 0)) := by decide +kernel
theorem xr_87_172 : X_row 87 172 = some (172, (.iload_n 2, 1), (0, 0, 0)) := by decide +kernel
theorem xr_87_173 : X_row 87 173 = some (173, (.putfield 9, 3), (6, 0, 2)) := by decide +kernel
theorem xr_87_176 : X_row 87 176 = some (176, (.iconst 1, 1), (0, 0, 0)) := by decide +kernel
theorem xr_87_177 : X_row 87 177 = some (177, (.ireturn, 1), (0, 0, 0)) := by decide +kernel
theorem xr_130_0 : X_row 130 0 = some (0, (.aload_n 0, 1), (0, 0, 0)) := by decide +kernel
theorem xr_130_1 : X_row 130 1 = some (1, (.getfield 54, 3), (10, 6, 60)) := by decide +kernel
theorem xr_130_4 : X_row 130 4 = some (4, (.aload_n 0, 1), (0, 0, 0)) := by decide +kernel
theorem xr_130_5 : X_row 130 5 = some (5, (.getfield 19, 3), (10, 1, 50)) := by decide +kernel
theorem xr_130_8 : X_row 130 8 = some (8, (.invokevirtual 210, 3), (22, 22, 0)) := by decide +kernel
theorem xr_130_11 : X_row 130 11 = some (11, (.aload_n 0, 1), (0, 0, 0)) := by decide +kernel
theorem xr_130_12 : X_row 130 12 = some (12, (.getfield 45, 3), (10, 5, 58)) := by decide +kernel
theorem xr_130_15 : X_row 130 15 = some (15, (.invokevirtual 214, 3), (83, 24, 0)) := by decide +kernel
theorem xr_130_18 : X_row 130 18 = some (18, (.aload_n 0, 1), (0, 0, 0)) := by decide +kernel
theorem xr_130_19 : X_row 130 19 = some (19, (.getfield 72, 3), (10, 8, 64)) := by decide +kernel
theorem xr_130_22 : X_row 130 22 = some (22, (.invokevirtual 172, 3), (105, 26, 0)) := by decide +kernel
theorem xr_130_25 : X_row 130 25 = some (25, (.return_, 1), (0, 0, 0)) := by decide +kernel
theorem xn_22 : X_nL 22 = 2 := by decide +kernel
theorem xf_22 : X_na 22 = 1 ∧ X_ci 22 = 1 ∧ X_rt 22 = none := by decide +kernel
theorem xn_87 : X_nL 87 = 7 := by decide +kernel
theorem xf_87 : X_na 87 = 1 ∧ X_ci 87 = 6 ∧ X_rt 87 = (some .boolean) := by decide +kernel
theorem xn_130 : X_nL 130 = 1 := by decide +kernel
theorem xf_130 : X_na 130 = 0 ∧ X_ci 130 = 10 ∧ X_rt 130 = none := by decide +kernel
theorem c_readFrom (sc : X_Sc) (S : X_S) (ot : Int → Int64) (dr : Int → Int64) (tn : Int) (len : Int) (tb : Int → Int) (hO2 : S.1 2 = .inr (7, [.ref 3, .int (iI len)])) (hO501 : S.1 501 = .inr (6, [.int (iI tn), .ref 502, .ref 503])) (hA502 : S.1 502 = .inl (.long, 30, .inr (.inl fun k : Nat => ot (k : Int)))) (hA503 : S.1 503 = .inl (.long, 30, .inr (.inl fun k : Nat => dr (k : Int)))) (hA3 : S.1 3 = .inl (.byte, 2000, .inl fun k : Nat => iI (tb (k : Int)))) (hl : 0 ≤ len ∧ len ≤ 2000) : X_T sc 87 (0, [(0, .ref 501), (1, .ref 2)], [], S) (fun v S' => (∃ (dr1 : Int → Int64), v = some (.int (iI 0)) ∧ X_sn tb len len.toNat = none ∧ S'.1 503 = .inl (.long, 30, .inr (.inl fun k : Nat => dr1 (k : Int))) ∧ X_Fr (fun q => q = 503) S S') ∨ (∃ (n1 : Int) (z1 : Int) (t1 : Int → Int64) (ot1 : Int → Int64) (dr1 : Int → Int64), v = some (.int (iI 1)) ∧ X_sn tb len len.toNat = some (n1, z1, t1) ∧ (0 ≤ n1 ∧ n1 ≤ 30) ∧ ((∀ i, 0 ≤ i → i < n1 → ot1 i = t1 i)) ∧ S'.1 501 = .inr (6, [.int (iI n1), .ref 502, .ref 503]) ∧ S'.1 502 = .inl (.long, 30, .inr (.inl fun k : Nat => ot1 (k : Int))) ∧ S'.1 503 = .inl (.long, 30, .inr (.inl fun k : Nat => dr1 (k : Int))) ∧ (X_Fr (fun q => 501 ≤ q ∧ q ≤ 503) S S'))) := by
  refine X_QI (fun Q hQ => ?_)
  refine T_p xr_87_0 xn_87 (pc' := 1) (ls' := [(0, .ref 501), (1, .ref 2)]) (st' := [.int (iI 0)]) rfl ?_
  refine T_p xr_87_1 xn_87 (pc' := 2) (ls' := [(2, .int (iI 0)), (0, .ref 501), (1, .ref 2)]) (st' := []) rfl ?_
  refine T_p xr_87_2 xn_87 (pc' := 3) (ls' := [(2, .int (iI 0)), (0, .ref 501), (1, .ref 2)]) (st' := [.int (iI 0)]) rfl ?_
  refine T_p xr_87_3 xn_87 (pc' := 4) (ls' := [(3, .int (iI 0)), (2, .int (iI 0)), (0, .ref 501), (1, .ref 2)]) (st' := []) rfl ?_
  refine T_p xr_87_4 xn_87 (pc' := 5) (ls' := [(3, .int (iI 0)), (2, .int (iI 0)), (0, .ref 501), (1, .ref 2)]) (st' := [.int (iI 0)]) rfl ?_
  refine T_p xr_87_5 xn_87 (pc' := 7) (ls' := [(4, .int (iI 0)), (3, .int (iI 0)), (2, .int (iI 0)), (0, .ref 501), (1, .ref 2)]) (st' := []) rfl ?_
  have L2167 : ∀ (m2169 : Nat) (S2172 : X_S) (k : Int) (n : Int) (z : Int) (t : Int → Int64) (dr1 : Int → Int64) (hdr1 : S2172.1 503 = .inl (.long, 30, .inr (.inl fun k : Nat => dr1 (k : Int)))) (hF2171 : X_Fr (fun q => q = 503) S S2172) (hk : (0 ≤ k ∧ k ≤ len) ∧ 0 ≤ n ∧ n ≤ 30) (hS : X_sn tb len k.toNat = some (n, z, t)) (hd : ∀ i, 0 ≤ i → i < n → dr1 i = t i) (hz : (0 ≤ z ∧ z ≤ 8) ∧ (0 < z → 1 ≤ n)) (hm2170 : len - k < m2169), X_T sc 87 (7, [(4, .int (iI k)), (3, .int (iI z)), (2, .int (iI n)), (0, .ref 501), (1, .ref 2)], [], S2172) Q := by
    intro m2169
    induction m2169 with
    | zero =>
      intro S2172 k n z t dr1 hdr1 hF2171 hk hS hd hz hm2170
      exact (show False by omega).elim
    | succ m2169 ih2168 =>
      intro S2172 k n z t dr1 hdr1 hF2171 hk hS hd hz hm2170
      refine T_p xr_87_7 xn_87 (pc' := 9) (ls' := [(4, .int (iI k)), (3, .int (iI z)), (2, .int (iI n)), (0, .ref 501), (1, .ref 2)]) (st' := [.int (iI k)]) rfl ?_
      refine T_p xr_87_9 xn_87 (pc' := 10) (ls' := [(4, .int (iI k)), (3, .int (iI z)), (2, .int (iI n)), (0, .ref 501), (1, .ref 2)]) (st' := [.ref 2, .int (iI k)]) rfl ?_
      have h2173 := (hF2171.1 2 (by omega)).trans (hO2)
      refine T_get xr_87_10 h2173 rfl (v := .int (iI len)) rfl (pc' := 13) rfl ?_
      refine T_zicmp_ge xr_87_13 (t := 157) (pc' := 16) rfl rfl (fun c2174 => ?_) (fun c2174 => ?_)
      · skip
        have c2174 : len ≤ k := c2174
        refine T_p xr_87_157 xn_87 (pc' := 158) (ls' := [(4, .int (iI k)), (3, .int (iI z)), (2, .int (iI n)), (0, .ref 501), (1, .ref 2)]) (st' := [.ref 501]) rfl ?_
        have h2175 := (hF2171.1 501 (by omega)).trans (hO501)
        refine T_get xr_87_158 h2175 rfl (v := .ref 503) rfl (pc' := 161) rfl ?_
        refine T_p xr_87_161 xn_87 (pc' := 162) (ls' := [(4, .int (iI k)), (3, .int (iI z)), (2, .int (iI n)), (0, .ref 501), (1, .ref 2)]) (st' := [.int (iI 0), .ref 503]) rfl ?_
        refine T_p xr_87_162 xn_87 (pc' := 163) (ls' := [(4, .int (iI k)), (3, .int (iI z)), (2, .int (iI n)), (0, .ref 501), (1, .ref 2)]) (st' := [.ref 501, .int (iI 0), .ref 503]) rfl ?_
        refine T_get xr_87_163 h2175 rfl (v := .ref 502) rfl (pc' := 166) rfl ?_
        refine T_p xr_87_166 xn_87 (pc' := 167) (ls' := [(4, .int (iI k)), (3, .int (iI z)), (2, .int (iI n)), (0, .ref 501), (1, .ref 2)]) (st' := [.int (iI 0), .ref 502, .int (iI 0), .ref 503]) rfl ?_
        refine T_p xr_87_167 xn_87 (pc' := 168) (ls' := [(4, .int (iI k)), (3, .int (iI z)), (2, .int (iI n)), (0, .ref 501), (1, .ref 2)]) (st' := [.int (iI n), .int (iI 0), .ref 502, .int (iI 0), .ref 503]) rfl ?_
        have h2176 := (hF2171.1 502 (by omega)).trans (hA502)
        refine T_cpy xr_87_168 hdr1 h2176 (z := n) (by omega) (by omega) (Nat.le_of_ble_eq_true rfl) (pc' := 171) rfl (fun S2177 h2178 n2179 e2180 => ?_)
        refine T_p xr_87_171 xn_87 (pc' := 172) (ls' := [(4, .int (iI k)), (3, .int (iI z)), (2, .int (iI n)), (0, .ref 501), (1, .ref 2)]) (st' := [.ref 501]) rfl ?_
        refine T_p xr_87_172 xn_87 (pc' := 173) (ls' := [(4, .int (iI k)), (3, .int (iI z)), (2, .int (iI n)), (0, .ref 501), (1, .ref 2)]) (st' := [.int (iI n), .ref 501]) rfl ?_
        have h2181 := (n2179 501 (by decide)).trans (h2175)
        refine T_put xr_87_173 h2181 rfl (Nat.le_of_ble_eq_true rfl) rfl (fs' := [.int (iI n), .ref 502, .ref 503]) rfl (pc' := 176) rfl (fun S2182 h2183 n2184 e2185 => ?_)
        refine T_p xr_87_176 xn_87 (pc' := 177) (ls' := [(4, .int (iI k)), (3, .int (iI z)), (2, .int (iI n)), (0, .ref 501), (1, .ref 2)]) (st' := [.int (iI 1)]) rfl ?_
        refine T_iret xr_87_177 xf_87.2.2 (by decide) ?_
        refine hQ _ _ ?_
        have h2186 := (n2184 502 (by decide)).trans (h2178)
        have h2187 := (n2184 503 (by decide)).trans ((n2179 503 (by decide)).trans (hdr1))
        exact Or.inr ⟨n, z, t, (X_cpy dr1 ot n), dr1, rfl, (by rw [show len.toNat = k.toNat by omega]; exact hS), (by omega), (fun i h1 h2 => by unfold X_cpy; rw [if_pos h2]; exact hd i h1 h2), h2183, h2186, h2187, (((X_Fr.rf).tr (X_Fr.mono ⟨hF2171.1, hF2171.2⟩ (fun q hq => (by omega)))).tr (X_Fr.of n2179 e2180 (by omega))).tr (X_Fr.of n2184 e2185 (by omega))⟩
      · skip
        have c2174 : ¬ (len ≤ k) := c2174
        refine T_p xr_87_16 xn_87 (pc' := 17) (ls' := [(4, .int (iI k)), (3, .int (iI z)), (2, .int (iI n)), (0, .ref 501), (1, .ref 2)]) (st' := [.ref 2]) rfl ?_
        refine T_p xr_87_17 xn_87 (pc' := 19) (ls' := [(4, .int (iI k)), (3, .int (iI z)), (2, .int (iI n)), (0, .ref 501), (1, .ref 2)]) (st' := [.int (iI k), .ref 2]) rfl ?_
        refine T_cv (S := S2172) (q := 2) xr_87_19 xf_93.1 xf_93.2.1 xn_93 (as := [.int (iI k)]) (r := []) rfl h2173 (Nat.le_of_ble_eq_true rfl) (Nat.le_of_ble_eq_true rfl) (pc' := 22) rfl (ls' := [(0, .ref 2), (1, .int (iI k))]) rfl ?_
        have h2188 := (hF2171.1 3 (by omega)).trans (hA3)
        refine T_mono (c_byteAt sc S2172 len k tb h2173 h2188 (by omega) (by omega)) (fun v2190 S2191 h2189 => ?_)
        obtain ⟨h2192, h2193⟩ := h2189
        rw [h2192, h2193]
        show X_T sc 87 (22, [(4, .int (iI k)), (3, .int (iI z)), (2, .int (iI n)), (0, .ref 501), (1, .ref 2)], [.int (iI (X_at tb len k))], S2172) _
        have hcr := X_at_in (tb := tb) (len := len) (p := k) (by omega)
        have hgo := X_sn_s (show 0 ≤ k by omega) hS
        refine T_p xr_87_22 xn_87 (pc' := 24) (ls' := [(5, .int (iI (X_at tb len k))), (4, .int (iI k)), (3, .int (iI z)), (2, .int (iI n)), (0, .ref 501), (1, .ref 2)]) (st' := []) rfl ?_
        have J2194 : X_T sc 87 (43, [(5, .int (iI (X_at tb len k))), (4, .int (iI k)), (3, .int (iI z)), (2, .int (iI n)), (0, .ref 501), (1, .ref 2)], [.int (iI (bI ((X_at tb len k) = 40 ∨ (X_at tb len k) = 41)))], S2172) Q := by
          refine T_p xr_87_43 xn_87 (pc' := 45) (ls' := [(6, .int (iI (bI ((X_at tb len k) = 40 ∨ (X_at tb len k) = 41)))), (5, .int (iI (X_at tb len k))), (4, .int (iI k)), (3, .int (iI z)), (2, .int (iI n)), (0, .ref 501), (1, .ref 2)]) (st' := []) rfl ?_
          refine T_p xr_87_45 xn_87 (pc' := 47) (ls' := [(6, .int (iI (bI ((X_at tb len k) = 40 ∨ (X_at tb len k) = 41)))), (5, .int (iI (X_at tb len k))), (4, .int (iI k)), (3, .int (iI z)), (2, .int (iI n)), (0, .ref 501), (1, .ref 2)]) (st' := [.int (iI (X_at tb len k))]) rfl ?_
          refine T_cs xr_87_47 (by decide) xf_133.1 xn_133 (as := [.int (iI (X_at tb len k))]) (r := []) rfl (Nat.le_of_ble_eq_true rfl) (Nat.le_of_ble_eq_true rfl) (pc' := 50) rfl (ls' := [(0, .int (iI (X_at tb len k)))]) rfl ?_
          refine T_mono (c_isBlank sc S2172 (X_at tb len k) (by omega)) (fun v2196 S2197 h2195 => ?_)
          obtain ⟨h2198, h2199⟩ := h2195
          rw [h2198, h2199]
          show X_T sc 87 (50, [(6, .int (iI (bI ((X_at tb len k) = 40 ∨ (X_at tb len k) = 41)))), (5, .int (iI (X_at tb len k))), (4, .int (iI k)), (3, .int (iI z)), (2, .int (iI n)), (0, .ref 501), (1, .ref 2)], [.int (iI (bI (X_isBl (X_at tb len k))))], S2172) _
          refine T_bif_eq xr_87_50 (t := 58) (pc' := 53) rfl rfl (fun c2200 => ?_) (fun c2200 => ?_)
          · skip
            have c2200 : ¬ (X_isBl (X_at tb len k)) := c2200
            have hnb : ¬ X_isBl (X_at tb len k) := by assumption
            refine T_p xr_87_58 xn_87 (pc' := 60) (ls' := [(6, .int (iI (bI ((X_at tb len k) = 40 ∨ (X_at tb len k) = 41)))), (5, .int (iI (X_at tb len k))), (4, .int (iI k)), (3, .int (iI z)), (2, .int (iI n)), (0, .ref 501), (1, .ref 2)]) (st' := [.int (iI (X_at tb len k))]) rfl ?_
            refine T_p xr_87_60 xn_87 (pc' := 62) (ls' := [(6, .int (iI (bI ((X_at tb len k) = 40 ∨ (X_at tb len k) = 41)))), (5, .int (iI (X_at tb len k))), (4, .int (iI k)), (3, .int (iI z)), (2, .int (iI n)), (0, .ref 501), (1, .ref 2)]) (st' := [.int (iI 33), .int (iI (X_at tb len k))]) rfl ?_
            refine T_zicmp_lt xr_87_62 (t := 72) (pc' := 65) rfl rfl (fun c2201 => ?_) (fun c2201 => ?_)
            · skip
              have c2201 : (X_at tb len k) < 33 := c2201
              refine T_p xr_87_72 xn_87 (pc' := 73) (ls' := [(6, .int (iI (bI ((X_at tb len k) = 40 ∨ (X_at tb len k) = 41)))), (5, .int (iI (X_at tb len k))), (4, .int (iI k)), (3, .int (iI z)), (2, .int (iI n)), (0, .ref 501), (1, .ref 2)]) (st' := [.int (iI 0)]) rfl ?_
              refine T_iret xr_87_73 xf_87.2.2 (by decide) ?_
              refine hQ _ _ ?_
              rw [X_sn1_x hnb (by omega)] at hgo
              exact Or.inl ⟨dr1, rfl, (X_sn_x (by omega) (by omega) hgo), hdr1, (X_Fr.rf).tr (X_Fr.mono ⟨hF2171.1, hF2171.2⟩ (fun q hq => (by omega)))⟩
            · skip
              have c2201 : ¬ ((X_at tb len k) < 33) := c2201
              refine T_p xr_87_65 xn_87 (pc' := 67) (ls' := [(6, .int (iI (bI ((X_at tb len k) = 40 ∨ (X_at tb len k) = 41)))), (5, .int (iI (X_at tb len k))), (4, .int (iI k)), (3, .int (iI z)), (2, .int (iI n)), (0, .ref 501), (1, .ref 2)]) (st' := [.int (iI (X_at tb len k))]) rfl ?_
              refine T_p xr_87_67 xn_87 (pc' := 69) (ls' := [(6, .int (iI (bI ((X_at tb len k) = 40 ∨ (X_at tb len k) = 41)))), (5, .int (iI (X_at tb len k))), (4, .int (iI k)), (3, .int (iI z)), (2, .int (iI n)), (0, .ref 501), (1, .ref 2)]) (st' := [.int (iI 126), .int (iI (X_at tb len k))]) rfl ?_
              refine T_zicmp_le xr_87_69 (t := 74) (pc' := 72) rfl rfl (fun c2202 => ?_) (fun c2202 => ?_)
              · skip
                have c2202 : (X_at tb len k) ≤ 126 := c2202
                refine T_p xr_87_74 xn_87 (pc' := 75) (ls' := [(6, .int (iI (bI ((X_at tb len k) = 40 ∨ (X_at tb len k) = 41)))), (5, .int (iI (X_at tb len k))), (4, .int (iI k)), (3, .int (iI z)), (2, .int (iI n)), (0, .ref 501), (1, .ref 2)]) (st' := [.int (iI z)]) rfl ?_
                refine T_zif_le xr_87_75 (t := 120) (pc' := 78) rfl rfl (fun c2203 => ?_) (fun c2203 => ?_)
                · skip
                  have c2203 : z ≤ 0 := c2203
                  have hnx : ¬ ((X_at tb len k) < 33 ∨ 126 < (X_at tb len k)) := by omega
                  rw [X_sn1_n hnb hnx (by omega)] at hgo
                  refine T_p xr_87_120 xn_87 (pc' := 121) (ls' := [(6, .int (iI (bI ((X_at tb len k) = 40 ∨ (X_at tb len k) = 41)))), (5, .int (iI (X_at tb len k))), (4, .int (iI k)), (3, .int (iI z)), (2, .int (iI n)), (0, .ref 501), (1, .ref 2)]) (st' := [.int (iI n)]) rfl ?_
                  refine T_p xr_87_121 xn_87 (pc' := 123) (ls' := [(6, .int (iI (bI ((X_at tb len k) = 40 ∨ (X_at tb len k) = 41)))), (5, .int (iI (X_at tb len k))), (4, .int (iI k)), (3, .int (iI z)), (2, .int (iI n)), (0, .ref 501), (1, .ref 2)]) (st' := [.int (iI 30), .int (iI n)]) rfl ?_
                  refine T_zicmp_ne xr_87_123 (t := 128) (pc' := 126) rfl rfl (fun c2204 => ?_) (fun c2204 => ?_)
                  · skip
                    have c2204 : ¬ n = 30 := c2204
                    refine T_p xr_87_128 xn_87 (pc' := 129) (ls' := [(6, .int (iI (bI ((X_at tb len k) = 40 ∨ (X_at tb len k) = 41)))), (5, .int (iI (X_at tb len k))), (4, .int (iI k)), (3, .int (iI z)), (2, .int (iI n)), (0, .ref 501), (1, .ref 2)]) (st' := [.ref 501]) rfl ?_
                    have h2205 := (hF2171.1 501 (by omega)).trans (hO501)
                    refine T_get xr_87_129 h2205 rfl (v := .ref 503) rfl (pc' := 132) rfl ?_
                    refine T_p xr_87_132 xn_87 (pc' := 133) (ls' := [(6, .int (iI (bI ((X_at tb len k) = 40 ∨ (X_at tb len k) = 41)))), (5, .int (iI (X_at tb len k))), (4, .int (iI k)), (3, .int (iI z)), (2, .int (iI n)), (0, .ref 501), (1, .ref 2)]) (st' := [.int (iI n), .ref 503]) rfl ?_
                    refine T_p xr_87_133 xn_87 (pc' := 135) (ls' := [(6, .int (iI (bI ((X_at tb len k) = 40 ∨ (X_at tb len k) = 41)))), (5, .int (iI (X_at tb len k))), (4, .int (iI k)), (3, .int (iI z)), (2, .int (iI n)), (0, .ref 501), (1, .ref 2)]) (st' := [.int (iI (X_at tb len k)), .int (iI n), .ref 503]) rfl ?_
                    refine T_p xr_87_135 xn_87 (pc' := 136) (ls' := [(6, .int (iI (bI ((X_at tb len k) = 40 ∨ (X_at tb len k) = 41)))), (5, .int (iI (X_at tb len k))), (4, .int (iI k)), (3, .int (iI z)), (2, .int (iI n)), (0, .ref 501), (1, .ref 2)]) (st' := [.long ((iI (X_at tb len k)).toInt64), .int (iI n), .ref 503]) rfl ?_
                    refine T_zlast xr_87_136 hdr1 (pc' := 137) rfl (fun S2206 h2207 n2208 e2209 => ?_)
                    refine T_ziinc xr_87_137 xn_87 (a := n) (z := n + 1) rfl (Nat.le_of_ble_eq_true rfl) (by omega) (ls' := [(2, .int (iI (n + 1))), (6, .int (iI (bI ((X_at tb len k) = 40 ∨ (X_at tb len k) = 41)))), (5, .int (iI (X_at tb len k))), (4, .int (iI k)), (3, .int (iI z)), (0, .ref 501), (1, .ref 2)]) rfl (pc' := 140) rfl ?_
                    refine T_p xr_87_140 xn_87 (pc' := 142) (ls' := [(2, .int (iI (n + 1))), (6, .int (iI (bI ((X_at tb len k) = 40 ∨ (X_at tb len k) = 41)))), (5, .int (iI (X_at tb len k))), (4, .int (iI k)), (3, .int (iI z)), (0, .ref 501), (1, .ref 2)]) (st' := [.int (iI (bI ((X_at tb len k) = 40 ∨ (X_at tb len k) = 41)))]) rfl ?_
                    refine T_bif_eq xr_87_142 (t := 149) (pc' := 145) rfl rfl (fun c2210 => ?_) (fun c2210 => ?_)
                    · skip
                      have c2210 : ¬ ((X_at tb len k) = 40 ∨ (X_at tb len k) = 41) := c2210
                      refine T_p xr_87_149 xn_87 (pc' := 150) (ls' := [(2, .int (iI (n + 1))), (6, .int (iI (bI ((X_at tb len k) = 40 ∨ (X_at tb len k) = 41)))), (5, .int (iI (X_at tb len k))), (4, .int (iI k)), (3, .int (iI z)), (0, .ref 501), (1, .ref 2)]) (st' := [.int (iI 1)]) rfl ?_
                      refine T_p xr_87_150 xn_87 (pc' := 151) (ls' := [(3, .int (iI 1)), (2, .int (iI (n + 1))), (6, .int (iI (bI ((X_at tb len k) = 40 ∨ (X_at tb len k) = 41)))), (5, .int (iI (X_at tb len k))), (4, .int (iI k)), (0, .ref 501), (1, .ref 2)]) (st' := []) rfl ?_
                      refine T_ziinc xr_87_151 xn_87 (a := k) (z := k + 1) rfl (Nat.le_of_ble_eq_true rfl) (by omega) (ls' := [(4, .int (iI (k + 1))), (3, .int (iI 1)), (2, .int (iI (n + 1))), (6, .int (iI (bI ((X_at tb len k) = 40 ∨ (X_at tb len k) = 41)))), (5, .int (iI (X_at tb len k))), (0, .ref 501), (1, .ref 2)]) rfl (pc' := 154) rfl ?_
                      refine T_p xr_87_154 xn_87 (pc' := 7) (ls' := [(4, .int (iI (k + 1))), (3, .int (iI 1)), (2, .int (iI (n + 1))), (6, .int (iI (bI ((X_at tb len k) = 40 ∨ (X_at tb len k) = 41)))), (5, .int (iI (X_at tb len k))), (0, .ref 501), (1, .ref 2)]) (st' := []) rfl ?_
                      refine T_sub (ls := [(4, .int (iI (k + 1))), (3, .int (iI 1)), (2, .int (iI (n + 1))), (0, .ref 501), (1, .ref 2)]) ⟨rfl, rfl, rfl, rfl, rfl, trivial⟩ rfl rfl ?_
                      exact ih2168 S2206 (k + 1) (n + 1) 1 (X_ug t n (iI (X_at tb len k)).toInt64) (X_ug dr1 n ((iI (X_at tb len k)).toInt64)) h2207 (hF2171.tr ((X_Fr.rf).tr (X_Fr.of n2208 e2209 (by omega)))) (by omega) (by rw [hgo, if_neg (by omega)]; first | rw [if_pos (by omega)] | rw [if_neg (by omega)]) (fun i h1 h2 => by
                            by_cases hi : i = n
                            · rw [hi, X_ug_s, X_ug_s]
                            · rw [X_ug_n _ _ hi, X_ug_n _ _ hi]; exact hd i h1 (by omega)) (by omega) (by omega)
                    · skip
                      have c2210 : ((X_at tb len k) = 40 ∨ (X_at tb len k) = 41) := c2210
                      refine T_p xr_87_145 xn_87 (pc' := 146) (ls' := [(2, .int (iI (n + 1))), (6, .int (iI (bI ((X_at tb len k) = 40 ∨ (X_at tb len k) = 41)))), (5, .int (iI (X_at tb len k))), (4, .int (iI k)), (3, .int (iI z)), (0, .ref 501), (1, .ref 2)]) (st' := [.int (iI 0)]) rfl ?_
                      refine T_p xr_87_146 xn_87 (pc' := 150) (ls' := [(2, .int (iI (n + 1))), (6, .int (iI (bI ((X_at tb len k) = 40 ∨ (X_at tb len k) = 41)))), (5, .int (iI (X_at tb len k))), (4, .int (iI k)), (3, .int (iI z)), (0, .ref 501), (1, .ref 2)]) (st' := [.int (iI 0)]) rfl ?_
                      refine T_p xr_87_150 xn_87 (pc' := 151) (ls' := [(3, .int (iI 0)), (2, .int (iI (n + 1))), (6, .int (iI (bI ((X_at tb len k) = 40 ∨ (X_at tb len k) = 41)))), (5, .int (iI (X_at tb len k))), (4, .int (iI k)), (0, .ref 501), (1, .ref 2)]) (st' := []) rfl ?_
                      refine T_ziinc xr_87_151 xn_87 (a := k) (z := k + 1) rfl (Nat.le_of_ble_eq_true rfl) (by omega) (ls' := [(4, .int (iI (k + 1))), (3, .int (iI 0)), (2, .int (iI (n + 1))), (6, .int (iI (bI ((X_at tb len k) = 40 ∨ (X_at tb len k) = 41)))), (5, .int (iI (X_at tb len k))), (0, .ref 501), (1, .ref 2)]) rfl (pc' := 154) rfl ?_
                      refine T_p xr_87_154 xn_87 (pc' := 7) (ls' := [(4, .int (iI (k + 1))), (3, .int (iI 0)), (2, .int (iI (n + 1))), (6, .int (iI (bI ((X_at tb len k) = 40 ∨ (X_at tb len k) = 41)))), (5, .int (iI (X_at tb len k))), (0, .ref 501), (1, .ref 2)]) (st' := []) rfl ?_
                      refine T_sub (ls := [(4, .int (iI (k + 1))), (3, .int (iI 0)), (2, .int (iI (n + 1))), (0, .ref 501), (1, .ref 2)]) ⟨rfl, rfl, rfl, rfl, rfl, trivial⟩ rfl rfl ?_
                      exact ih2168 S2206 (k + 1) (n + 1) 0 (X_ug t n (iI (X_at tb len k)).toInt64) (X_ug dr1 n ((iI (X_at tb len k)).toInt64)) h2207 (hF2171.tr ((X_Fr.rf).tr (X_Fr.of n2208 e2209 (by omega)))) (by omega) (by rw [hgo, if_neg (by omega)]; first | rw [if_pos (by omega)] | rw [if_neg (by omega)]) (fun i h1 h2 => by
                            by_cases hi : i = n
                            · rw [hi, X_ug_s, X_ug_s]
                            · rw [X_ug_n _ _ hi, X_ug_n _ _ hi]; exact hd i h1 (by omega)) (by omega) (by omega)
                  · skip
                    have c2204 : ¬ (¬ n = 30) := c2204
                    refine T_p xr_87_126 xn_87 (pc' := 127) (ls' := [(6, .int (iI (bI ((X_at tb len k) = 40 ∨ (X_at tb len k) = 41)))), (5, .int (iI (X_at tb len k))), (4, .int (iI k)), (3, .int (iI z)), (2, .int (iI n)), (0, .ref 501), (1, .ref 2)]) (st' := [.int (iI 0)]) rfl ?_
                    refine T_iret xr_87_127 xf_87.2.2 (by decide) ?_
                    refine hQ _ _ ?_
                    rw [if_pos (by omega)] at hgo
                    exact Or.inl ⟨dr1, rfl, (X_sn_x (by omega) (by omega) hgo), hdr1, (X_Fr.rf).tr (X_Fr.mono ⟨hF2171.1, hF2171.2⟩ (fun q hq => (by omega)))⟩
                · skip
                  have c2203 : ¬ (z ≤ 0) := c2203
                  refine T_p xr_87_78 xn_87 (pc' := 80) (ls' := [(6, .int (iI (bI ((X_at tb len k) = 40 ∨ (X_at tb len k) = 41)))), (5, .int (iI (X_at tb len k))), (4, .int (iI k)), (3, .int (iI z)), (2, .int (iI n)), (0, .ref 501), (1, .ref 2)]) (st' := [.int (iI (bI ((X_at tb len k) = 40 ∨ (X_at tb len k) = 41)))]) rfl ?_
                  refine T_bif_ne xr_87_80 (t := 120) (pc' := 83) rfl rfl (fun c2211 => ?_) (fun c2211 => ?_)
                  · skip
                    have c2211 : ((X_at tb len k) = 40 ∨ (X_at tb len k) = 41) := c2211
                    have hnx : ¬ ((X_at tb len k) < 33 ∨ 126 < (X_at tb len k)) := by omega
                    rw [X_sn1_n hnb hnx (by omega)] at hgo
                    refine T_p xr_87_120 xn_87 (pc' := 121) (ls' := [(6, .int (iI (bI ((X_at tb len k) = 40 ∨ (X_at tb len k) = 41)))), (5, .int (iI (X_at tb len k))), (4, .int (iI k)), (3, .int (iI z)), (2, .int (iI n)), (0, .ref 501), (1, .ref 2)]) (st' := [.int (iI n)]) rfl ?_
                    refine T_p xr_87_121 xn_87 (pc' := 123) (ls' := [(6, .int (iI (bI ((X_at tb len k) = 40 ∨ (X_at tb len k) = 41)))), (5, .int (iI (X_at tb len k))), (4, .int (iI k)), (3, .int (iI z)), (2, .int (iI n)), (0, .ref 501), (1, .ref 2)]) (st' := [.int (iI 30), .int (iI n)]) rfl ?_
                    refine T_zicmp_ne xr_87_123 (t := 128) (pc' := 126) rfl rfl (fun c2212 => ?_) (fun c2212 => ?_)
                    · skip
                      have c2212 : ¬ n = 30 := c2212
                      refine T_p xr_87_128 xn_87 (pc' := 129) (ls' := [(6, .int (iI (bI ((X_at tb len k) = 40 ∨ (X_at tb len k) = 41)))), (5, .int (iI (X_at tb len k))), (4, .int (iI k)), (3, .int (iI z)), (2, .int (iI n)), (0, .ref 501), (1, .ref 2)]) (st' := [.ref 501]) rfl ?_
                      have h2213 := (hF2171.1 501 (by omega)).trans (hO501)
                      refine T_get xr_87_129 h2213 rfl (v := .ref 503) rfl (pc' := 132) rfl ?_
                      refine T_p xr_87_132 xn_87 (pc' := 133) (ls' := [(6, .int (iI (bI ((X_at tb len k) = 40 ∨ (X_at tb len k) = 41)))), (5, .int (iI (X_at tb len k))), (4, .int (iI k)), (3, .int (iI z)), (2, .int (iI n)), (0, .ref 501), (1, .ref 2)]) (st' := [.int (iI n), .ref 503]) rfl ?_
                      refine T_p xr_87_133 xn_87 (pc' := 135) (ls' := [(6, .int (iI (bI ((X_at tb len k) = 40 ∨ (X_at tb len k) = 41)))), (5, .int (iI (X_at tb len k))), (4, .int (iI k)), (3, .int (iI z)), (2, .int (iI n)), (0, .ref 501), (1, .ref 2)]) (st' := [.int (iI (X_at tb len k)), .int (iI n), .ref 503]) rfl ?_
                      refine T_p xr_87_135 xn_87 (pc' := 136) (ls' := [(6, .int (iI (bI ((X_at tb len k) = 40 ∨ (X_at tb len k) = 41)))), (5, .int (iI (X_at tb len k))), (4, .int (iI k)), (3, .int (iI z)), (2, .int (iI n)), (0, .ref 501), (1, .ref 2)]) (st' := [.long ((iI (X_at tb len k)).toInt64), .int (iI n), .ref 503]) rfl ?_
                      refine T_zlast xr_87_136 hdr1 (pc' := 137) rfl (fun S2214 h2215 n2216 e2217 => ?_)
                      refine T_ziinc xr_87_137 xn_87 (a := n) (z := n + 1) rfl (Nat.le_of_ble_eq_true rfl) (by omega) (ls' := [(2, .int (iI (n + 1))), (6, .int (iI (bI ((X_at tb len k) = 40 ∨ (X_at tb len k) = 41)))), (5, .int (iI (X_at tb len k))), (4, .int (iI k)), (3, .int (iI z)), (0, .ref 501), (1, .ref 2)]) rfl (pc' := 140) rfl ?_
                      refine T_p xr_87_140 xn_87 (pc' := 142) (ls' := [(2, .int (iI (n + 1))), (6, .int (iI (bI ((X_at tb len k) = 40 ∨ (X_at tb len k) = 41)))), (5, .int (iI (X_at tb len k))), (4, .int (iI k)), (3, .int (iI z)), (0, .ref 501), (1, .ref 2)]) (st' := [.int (iI (bI ((X_at tb len k) = 40 ∨ (X_at tb len k) = 41)))]) rfl ?_
                      refine T_bif_eq xr_87_142 (t := 149) (pc' := 145) rfl rfl (fun c2218 => ?_) (fun c2218 => ?_)
                      · skip
                        have c2218 : ¬ ((X_at tb len k) = 40 ∨ (X_at tb len k) = 41) := c2218
                        exact (show False by first | contradiction | omega).elim
                      · skip
                        have c2218 : ((X_at tb len k) = 40 ∨ (X_at tb len k) = 41) := c2218
                        refine T_p xr_87_145 xn_87 (pc' := 146) (ls' := [(2, .int (iI (n + 1))), (6, .int (iI (bI ((X_at tb len k) = 40 ∨ (X_at tb len k) = 41)))), (5, .int (iI (X_at tb len k))), (4, .int (iI k)), (3, .int (iI z)), (0, .ref 501), (1, .ref 2)]) (st' := [.int (iI 0)]) rfl ?_
                        refine T_p xr_87_146 xn_87 (pc' := 150) (ls' := [(2, .int (iI (n + 1))), (6, .int (iI (bI ((X_at tb len k) = 40 ∨ (X_at tb len k) = 41)))), (5, .int (iI (X_at tb len k))), (4, .int (iI k)), (3, .int (iI z)), (0, .ref 501), (1, .ref 2)]) (st' := [.int (iI 0)]) rfl ?_
                        refine T_p xr_87_150 xn_87 (pc' := 151) (ls' := [(3, .int (iI 0)), (2, .int (iI (n + 1))), (6, .int (iI (bI ((X_at tb len k) = 40 ∨ (X_at tb len k) = 41)))), (5, .int (iI (X_at tb len k))), (4, .int (iI k)), (0, .ref 501), (1, .ref 2)]) (st' := []) rfl ?_
                        refine T_ziinc xr_87_151 xn_87 (a := k) (z := k + 1) rfl (Nat.le_of_ble_eq_true rfl) (by omega) (ls' := [(4, .int (iI (k + 1))), (3, .int (iI 0)), (2, .int (iI (n + 1))), (6, .int (iI (bI ((X_at tb len k) = 40 ∨ (X_at tb len k) = 41)))), (5, .int (iI (X_at tb len k))), (0, .ref 501), (1, .ref 2)]) rfl (pc' := 154) rfl ?_
                        refine T_p xr_87_154 xn_87 (pc' := 7) (ls' := [(4, .int (iI (k + 1))), (3, .int (iI 0)), (2, .int (iI (n + 1))), (6, .int (iI (bI ((X_at tb len k) = 40 ∨ (X_at tb len k) = 41)))), (5, .int (iI (X_at tb len k))), (0, .ref 501), (1, .ref 2)]) (st' := []) rfl ?_
                        refine T_sub (ls := [(4, .int (iI (k + 1))), (3, .int (iI 0)), (2, .int (iI (n + 1))), (0, .ref 501), (1, .ref 2)]) ⟨rfl, rfl, rfl, rfl, rfl, trivial⟩ rfl rfl ?_
                        exact ih2168 S2214 (k + 1) (n + 1) 0 (X_ug t n (iI (X_at tb len k)).toInt64) (X_ug dr1 n ((iI (X_at tb len k)).toInt64)) h2215 (hF2171.tr ((X_Fr.rf).tr (X_Fr.of n2216 e2217 (by omega)))) (by omega) (by rw [hgo, if_neg (by omega)]; first | rw [if_pos (by omega)] | rw [if_neg (by omega)]) (fun i h1 h2 => by
                              by_cases hi : i = n
                              · rw [hi, X_ug_s, X_ug_s]
                              · rw [X_ug_n _ _ hi, X_ug_n _ _ hi]; exact hd i h1 (by omega)) (by omega) (by omega)
                    · skip
                      have c2212 : ¬ (¬ n = 30) := c2212
                      refine T_p xr_87_126 xn_87 (pc' := 127) (ls' := [(6, .int (iI (bI ((X_at tb len k) = 40 ∨ (X_at tb len k) = 41)))), (5, .int (iI (X_at tb len k))), (4, .int (iI k)), (3, .int (iI z)), (2, .int (iI n)), (0, .ref 501), (1, .ref 2)]) (st' := [.int (iI 0)]) rfl ?_
                      refine T_iret xr_87_127 xf_87.2.2 (by decide) ?_
                      refine hQ _ _ ?_
                      rw [if_pos (by omega)] at hgo
                      exact Or.inl ⟨dr1, rfl, (X_sn_x (by omega) (by omega) hgo), hdr1, (X_Fr.rf).tr (X_Fr.mono ⟨hF2171.1, hF2171.2⟩ (fun q hq => (by omega)))⟩
                  · skip
                    have c2211 : ¬ ((X_at tb len k) = 40 ∨ (X_at tb len k) = 41) := c2211
                    have hnx : ¬ ((X_at tb len k) < 33 ∨ 126 < (X_at tb len k)) := by omega
                    rw [X_sn1_m hnb hnx (by omega)] at hgo
                    refine T_p xr_87_83 xn_87 (pc' := 84) (ls' := [(6, .int (iI (bI ((X_at tb len k) = 40 ∨ (X_at tb len k) = 41)))), (5, .int (iI (X_at tb len k))), (4, .int (iI k)), (3, .int (iI z)), (2, .int (iI n)), (0, .ref 501), (1, .ref 2)]) (st' := [.int (iI z)]) rfl ?_
                    refine T_p xr_87_84 xn_87 (pc' := 86) (ls' := [(6, .int (iI (bI ((X_at tb len k) = 40 ∨ (X_at tb len k) = 41)))), (5, .int (iI (X_at tb len k))), (4, .int (iI k)), (3, .int (iI z)), (2, .int (iI n)), (0, .ref 501), (1, .ref 2)]) (st' := [.int (iI 8), .int (iI z)]) rfl ?_
                    refine T_zicmp_ne xr_87_86 (t := 91) (pc' := 89) rfl rfl (fun c2219 => ?_) (fun c2219 => ?_)
                    · skip
                      have c2219 : ¬ z = 8 := c2219
                      refine T_p xr_87_91 xn_87 (pc' := 92) (ls' := [(6, .int (iI (bI ((X_at tb len k) = 40 ∨ (X_at tb len k) = 41)))), (5, .int (iI (X_at tb len k))), (4, .int (iI k)), (3, .int (iI z)), (2, .int (iI n)), (0, .ref 501), (1, .ref 2)]) (st' := [.ref 501]) rfl ?_
                      have h2220 := (hF2171.1 501 (by omega)).trans (hO501)
                      refine T_get xr_87_92 h2220 rfl (v := .ref 503) rfl (pc' := 95) rfl ?_
                      refine T_p xr_87_95 xn_87 (pc' := 96) (ls' := [(6, .int (iI (bI ((X_at tb len k) = 40 ∨ (X_at tb len k) = 41)))), (5, .int (iI (X_at tb len k))), (4, .int (iI k)), (3, .int (iI z)), (2, .int (iI n)), (0, .ref 501), (1, .ref 2)]) (st' := [.int (iI n), .ref 503]) rfl ?_
                      refine T_p xr_87_96 xn_87 (pc' := 97) (ls' := [(6, .int (iI (bI ((X_at tb len k) = 40 ∨ (X_at tb len k) = 41)))), (5, .int (iI (X_at tb len k))), (4, .int (iI k)), (3, .int (iI z)), (2, .int (iI n)), (0, .ref 501), (1, .ref 2)]) (st' := [.int (iI 1), .int (iI n), .ref 503]) rfl ?_
                      refine T_zisub xr_87_97 (z := n - 1) rfl (pc' := 98) rfl ?_
                      refine T_p xr_87_98 xn_87 (pc' := 99) (ls' := [(6, .int (iI (bI ((X_at tb len k) = 40 ∨ (X_at tb len k) = 41)))), (5, .int (iI (X_at tb len k))), (4, .int (iI k)), (3, .int (iI z)), (2, .int (iI n)), (0, .ref 501), (1, .ref 2)]) (st' := [.ref 501, .int (iI (n - 1)), .ref 503]) rfl ?_
                      refine T_get xr_87_99 h2220 rfl (v := .ref 503) rfl (pc' := 102) rfl ?_
                      refine T_p xr_87_102 xn_87 (pc' := 103) (ls' := [(6, .int (iI (bI ((X_at tb len k) = 40 ∨ (X_at tb len k) = 41)))), (5, .int (iI (X_at tb len k))), (4, .int (iI k)), (3, .int (iI z)), (2, .int (iI n)), (0, .ref 501), (1, .ref 2)]) (st' := [.int (iI n), .ref 503, .int (iI (n - 1)), .ref 503]) rfl ?_
                      refine T_p xr_87_103 xn_87 (pc' := 104) (ls' := [(6, .int (iI (bI ((X_at tb len k) = 40 ∨ (X_at tb len k) = 41)))), (5, .int (iI (X_at tb len k))), (4, .int (iI k)), (3, .int (iI z)), (2, .int (iI n)), (0, .ref 501), (1, .ref 2)]) (st' := [.int (iI 1), .int (iI n), .ref 503, .int (iI (n - 1)), .ref 503]) rfl ?_
                      refine T_zisub xr_87_104 (z := n - 1) rfl (pc' := 105) rfl ?_
                      refine T_zlald xr_87_105 hdr1 (pc' := 106) rfl ?_
                      refine T_p xr_87_106 xn_87 (pc' := 108) (ls' := [(6, .int (iI (bI ((X_at tb len k) = 40 ∨ (X_at tb len k) = 41)))), (5, .int (iI (X_at tb len k))), (4, .int (iI k)), (3, .int (iI z)), (2, .int (iI n)), (0, .ref 501), (1, .ref 2)]) (st' := [.int (iI 8), .long (dr1 (n - 1)), .int (iI (n - 1)), .ref 503]) rfl ?_
                      refine T_p xr_87_108 xn_87 (pc' := 109) (ls' := [(6, .int (iI (bI ((X_at tb len k) = 40 ∨ (X_at tb len k) = 41)))), (5, .int (iI (X_at tb len k))), (4, .int (iI k)), (3, .int (iI z)), (2, .int (iI n)), (0, .ref 501), (1, .ref 2)]) (st' := [.long ((dr1 (n - 1)) <<< ((iI 8).toInt64 &&& 63)), .int (iI (n - 1)), .ref 503]) rfl ?_
                      refine T_p xr_87_109 xn_87 (pc' := 111) (ls' := [(6, .int (iI (bI ((X_at tb len k) = 40 ∨ (X_at tb len k) = 41)))), (5, .int (iI (X_at tb len k))), (4, .int (iI k)), (3, .int (iI z)), (2, .int (iI n)), (0, .ref 501), (1, .ref 2)]) (st' := [.int (iI (X_at tb len k)), .long ((dr1 (n - 1)) <<< ((iI 8).toInt64 &&& 63)), .int (iI (n - 1)), .ref 503]) rfl ?_
                      refine T_p xr_87_111 xn_87 (pc' := 112) (ls' := [(6, .int (iI (bI ((X_at tb len k) = 40 ∨ (X_at tb len k) = 41)))), (5, .int (iI (X_at tb len k))), (4, .int (iI k)), (3, .int (iI z)), (2, .int (iI n)), (0, .ref 501), (1, .ref 2)]) (st' := [.long ((iI (X_at tb len k)).toInt64), .long ((dr1 (n - 1)) <<< ((iI 8).toInt64 &&& 63)), .int (iI (n - 1)), .ref 503]) rfl ?_
                      refine T_p xr_87_112 xn_87 (pc' := 113) (ls' := [(6, .int (iI (bI ((X_at tb len k) = 40 ∨ (X_at tb len k) = 41)))), (5, .int (iI (X_at tb len k))), (4, .int (iI k)), (3, .int (iI z)), (2, .int (iI n)), (0, .ref 501), (1, .ref 2)]) (st' := [.long (((dr1 (n - 1)) <<< ((iI 8).toInt64 &&& 63)) ||| ((iI (X_at tb len k)).toInt64)), .int (iI (n - 1)), .ref 503]) rfl ?_
                      refine T_zlast xr_87_113 hdr1 (pc' := 114) rfl (fun S2221 h2222 n2223 e2224 => ?_)
                      refine T_ziinc xr_87_114 xn_87 (a := z) (z := z + 1) rfl (Nat.le_of_ble_eq_true rfl) (by omega) (ls' := [(3, .int (iI (z + 1))), (6, .int (iI (bI ((X_at tb len k) = 40 ∨ (X_at tb len k) = 41)))), (5, .int (iI (X_at tb len k))), (4, .int (iI k)), (2, .int (iI n)), (0, .ref 501), (1, .ref 2)]) rfl (pc' := 117) rfl ?_
                      refine T_p xr_87_117 xn_87 (pc' := 151) (ls' := [(3, .int (iI (z + 1))), (6, .int (iI (bI ((X_at tb len k) = 40 ∨ (X_at tb len k) = 41)))), (5, .int (iI (X_at tb len k))), (4, .int (iI k)), (2, .int (iI n)), (0, .ref 501), (1, .ref 2)]) (st' := []) rfl ?_
                      refine T_ziinc xr_87_151 xn_87 (a := k) (z := k + 1) rfl (Nat.le_of_ble_eq_true rfl) (by omega) (ls' := [(4, .int (iI (k + 1))), (3, .int (iI (z + 1))), (6, .int (iI (bI ((X_at tb len k) = 40 ∨ (X_at tb len k) = 41)))), (5, .int (iI (X_at tb len k))), (2, .int (iI n)), (0, .ref 501), (1, .ref 2)]) rfl (pc' := 154) rfl ?_
                      refine T_p xr_87_154 xn_87 (pc' := 7) (ls' := [(4, .int (iI (k + 1))), (3, .int (iI (z + 1))), (6, .int (iI (bI ((X_at tb len k) = 40 ∨ (X_at tb len k) = 41)))), (5, .int (iI (X_at tb len k))), (2, .int (iI n)), (0, .ref 501), (1, .ref 2)]) (st' := []) rfl ?_
                      refine T_sub (ls := [(4, .int (iI (k + 1))), (3, .int (iI (z + 1))), (2, .int (iI n)), (0, .ref 501), (1, .ref 2)]) ⟨rfl, rfl, rfl, rfl, rfl, trivial⟩ rfl rfl ?_
                      exact ih2168 S2221 (k + 1) n (z + 1) (X_ug t (n - 1) (X_pk1 (t (n - 1)) (X_at tb len k))) (X_ug dr1 (n - 1) (((dr1 (n - 1)) <<< ((iI 8).toInt64 &&& 63)) ||| ((iI (X_at tb len k)).toInt64))) h2222 (hF2171.tr ((X_Fr.rf).tr (X_Fr.of n2223 e2224 (by omega)))) (by omega) (by rw [hgo, if_neg (by omega)]) (fun i h1 h2 => by
                            by_cases hi : i = n - 1
                            · rw [hi, X_ug_s, X_ug_s, hd (n - 1) (by omega) (by omega)]; rfl
                            · rw [X_ug_n _ _ hi, X_ug_n _ _ hi]; exact hd i h1 h2) (by omega) (by omega)
                    · skip
                      have c2219 : ¬ (¬ z = 8) := c2219
                      refine T_p xr_87_89 xn_87 (pc' := 90) (ls' := [(6, .int (iI (bI ((X_at tb len k) = 40 ∨ (X_at tb len k) = 41)))), (5, .int (iI (X_at tb len k))), (4, .int (iI k)), (3, .int (iI z)), (2, .int (iI n)), (0, .ref 501), (1, .ref 2)]) (st' := [.int (iI 0)]) rfl ?_
                      refine T_iret xr_87_90 xf_87.2.2 (by decide) ?_
                      refine hQ _ _ ?_
                      rw [if_pos (by omega)] at hgo
                      exact Or.inl ⟨dr1, rfl, (X_sn_x (by omega) (by omega) hgo), hdr1, (X_Fr.rf).tr (X_Fr.mono ⟨hF2171.1, hF2171.2⟩ (fun q hq => (by omega)))⟩
              · skip
                have c2202 : ¬ ((X_at tb len k) ≤ 126) := c2202
                refine T_p xr_87_72 xn_87 (pc' := 73) (ls' := [(6, .int (iI (bI ((X_at tb len k) = 40 ∨ (X_at tb len k) = 41)))), (5, .int (iI (X_at tb len k))), (4, .int (iI k)), (3, .int (iI z)), (2, .int (iI n)), (0, .ref 501), (1, .ref 2)]) (st' := [.int (iI 0)]) rfl ?_
                refine T_iret xr_87_73 xf_87.2.2 (by decide) ?_
                refine hQ _ _ ?_
                rw [X_sn1_x hnb (by omega)] at hgo
                exact Or.inl ⟨dr1, rfl, (X_sn_x (by omega) (by omega) hgo), hdr1, (X_Fr.rf).tr (X_Fr.mono ⟨hF2171.1, hF2171.2⟩ (fun q hq => (by omega)))⟩
          · skip
            have c2200 : (X_isBl (X_at tb len k)) := c2200
            rw [X_sn1_b (by assumption)] at hgo
            refine T_p xr_87_53 xn_87 (pc' := 54) (ls' := [(6, .int (iI (bI ((X_at tb len k) = 40 ∨ (X_at tb len k) = 41)))), (5, .int (iI (X_at tb len k))), (4, .int (iI k)), (3, .int (iI z)), (2, .int (iI n)), (0, .ref 501), (1, .ref 2)]) (st' := [.int (iI 0)]) rfl ?_
            refine T_p xr_87_54 xn_87 (pc' := 55) (ls' := [(3, .int (iI 0)), (6, .int (iI (bI ((X_at tb len k) = 40 ∨ (X_at tb len k) = 41)))), (5, .int (iI (X_at tb len k))), (4, .int (iI k)), (2, .int (iI n)), (0, .ref 501), (1, .ref 2)]) (st' := []) rfl ?_
            refine T_p xr_87_55 xn_87 (pc' := 151) (ls' := [(3, .int (iI 0)), (6, .int (iI (bI ((X_at tb len k) = 40 ∨ (X_at tb len k) = 41)))), (5, .int (iI (X_at tb len k))), (4, .int (iI k)), (2, .int (iI n)), (0, .ref 501), (1, .ref 2)]) (st' := []) rfl ?_
            refine T_ziinc xr_87_151 xn_87 (a := k) (z := k + 1) rfl (Nat.le_of_ble_eq_true rfl) (by omega) (ls' := [(4, .int (iI (k + 1))), (3, .int (iI 0)), (6, .int (iI (bI ((X_at tb len k) = 40 ∨ (X_at tb len k) = 41)))), (5, .int (iI (X_at tb len k))), (2, .int (iI n)), (0, .ref 501), (1, .ref 2)]) rfl (pc' := 154) rfl ?_
            refine T_p xr_87_154 xn_87 (pc' := 7) (ls' := [(4, .int (iI (k + 1))), (3, .int (iI 0)), (6, .int (iI (bI ((X_at tb len k) = 40 ∨ (X_at tb len k) = 41)))), (5, .int (iI (X_at tb len k))), (2, .int (iI n)), (0, .ref 501), (1, .ref 2)]) (st' := []) rfl ?_
            refine T_sub (ls := [(4, .int (iI (k + 1))), (3, .int (iI 0)), (2, .int (iI n)), (0, .ref 501), (1, .ref 2)]) ⟨rfl, rfl, rfl, rfl, rfl, trivial⟩ rfl rfl ?_
            exact ih2168 S2172 (k + 1) n 0 t dr1 hdr1 (hF2171.tr (X_Fr.rf)) (by omega) hgo hd (by omega) (by omega)
        refine T_p xr_87_24 xn_87 (pc' := 26) (ls' := [(5, .int (iI (X_at tb len k))), (4, .int (iI k)), (3, .int (iI z)), (2, .int (iI n)), (0, .ref 501), (1, .ref 2)]) (st' := [.int (iI (X_at tb len k))]) rfl ?_
        refine T_p xr_87_26 xn_87 (pc' := 28) (ls' := [(5, .int (iI (X_at tb len k))), (4, .int (iI k)), (3, .int (iI z)), (2, .int (iI n)), (0, .ref 501), (1, .ref 2)]) (st' := [.int (iI 40), .int (iI (X_at tb len k))]) rfl ?_
        refine T_zicmp_eq xr_87_28 (t := 38) (pc' := 31) rfl rfl (fun c2225 => ?_) (fun c2225 => ?_)
        · skip
          have c2225 : (X_at tb len k) = 40 := c2225
          refine T_p xr_87_38 xn_87 (pc' := 39) (ls' := [(5, .int (iI (X_at tb len k))), (4, .int (iI k)), (3, .int (iI z)), (2, .int (iI n)), (0, .ref 501), (1, .ref 2)]) (st' := [.int (iI 1)]) rfl ?_
          refine T_p xr_87_39 xn_87 (pc' := 43) (ls' := [(5, .int (iI (X_at tb len k))), (4, .int (iI k)), (3, .int (iI z)), (2, .int (iI n)), (0, .ref 501), (1, .ref 2)]) (st' := [.int (iI 1)]) rfl ?_
          refine T_ie (y := iI (bI ((X_at tb len k) = 40 ∨ (X_at tb len k) = 41))) (by rw [bI_t (by first | exact Or.inl (by assumption) | exact Or.inr (by omega) | omega)]) ?_
          exact J2194
        · skip
          have c2225 : ¬ ((X_at tb len k) = 40) := c2225
          refine T_p xr_87_31 xn_87 (pc' := 33) (ls' := [(5, .int (iI (X_at tb len k))), (4, .int (iI k)), (3, .int (iI z)), (2, .int (iI n)), (0, .ref 501), (1, .ref 2)]) (st' := [.int (iI (X_at tb len k))]) rfl ?_
          refine T_p xr_87_33 xn_87 (pc' := 35) (ls' := [(5, .int (iI (X_at tb len k))), (4, .int (iI k)), (3, .int (iI z)), (2, .int (iI n)), (0, .ref 501), (1, .ref 2)]) (st' := [.int (iI 41), .int (iI (X_at tb len k))]) rfl ?_
          refine T_zicmp_ne xr_87_35 (t := 42) (pc' := 38) rfl rfl (fun c2226 => ?_) (fun c2226 => ?_)
          · skip
            have c2226 : ¬ (X_at tb len k) = 41 := c2226
            refine T_p xr_87_42 xn_87 (pc' := 43) (ls' := [(5, .int (iI (X_at tb len k))), (4, .int (iI k)), (3, .int (iI z)), (2, .int (iI n)), (0, .ref 501), (1, .ref 2)]) (st' := [.int (iI 0)]) rfl ?_
            refine T_ie (y := iI (bI ((X_at tb len k) = 40 ∨ (X_at tb len k) = 41))) (by rw [bI_f (by omega)]) ?_
            exact J2194
          · skip
            have c2226 : ¬ (¬ (X_at tb len k) = 41) := c2226
            refine T_p xr_87_38 xn_87 (pc' := 39) (ls' := [(5, .int (iI (X_at tb len k))), (4, .int (iI k)), (3, .int (iI z)), (2, .int (iI n)), (0, .ref 501), (1, .ref 2)]) (st' := [.int (iI 1)]) rfl ?_
            refine T_p xr_87_39 xn_87 (pc' := 43) (ls' := [(5, .int (iI (X_at tb len k))), (4, .int (iI k)), (3, .int (iI z)), (2, .int (iI n)), (0, .ref 501), (1, .ref 2)]) (st' := [.int (iI 1)]) rfl ?_
            refine T_ie (y := iI (bI ((X_at tb len k) = 40 ∨ (X_at tb len k) = 41))) (by rw [bI_t (by first | exact Or.inl (by assumption) | exact Or.inr (by omega) | omega)]) ?_
            exact J2194
  exact L2167 (len + 1).toNat S 0 0 0 (fun _ => 0) dr hA503 ((X_Fr.rf)) (by omega) rfl (fun i h1 h2 => absurd h2 (by omega)) (by omega) (by omega)
theorem c_dropReading (sc : X_Sc) (S : X_S) (B : Nat) (B2 : Nat) (B3 : Nat) (fl : Int) (nc : Int) (rs : Int) (re : Int) (hgt : Int) (hO1 : S.1 1 = .inr (10, [.ref 2, .ref B, .ref B2, .ref 496, .ref 501, .ref 504, .ref 511, .ref 517, .ref 527])) (hO511 : S.1 511 = .inr (1, [.ref B3, .ref 501, .int (iI fl), .ref 512, .ref 513, .ref 514, .ref 515, .ref 516])) (hO504 : S.1 504 = .inr (5, [.int (iI nc), .ref 505, .ref 506, .ref 507, .ref 508, .ref 509, .ref 510])) (hO527 : S.1 527 = .inr (9, [.ref 501, .ref 504, .int (iI rs), .int (iI re), .ref 528, .ref 529, .int (iI hgt)])) : X_T sc 130 (0, [(0, .ref 1)], [], S) (fun v S' => v = none ∧ S'.1 511 = .inr (1, [.ref B, .ref 501, .int (iI 0), .ref 512, .ref 513, .ref 514, .ref 515, .ref 516]) ∧ S'.1 504 = .inr (5, [.int (iI 0), .ref 505, .ref 506, .ref 507, .ref 508, .ref 509, .ref 510]) ∧ S'.1 527 = .inr (9, [.ref 501, .ref 504, .int (iI 0), .int (iI (-1)), .ref 528, .ref 529, .int (iI hgt)]) ∧ (X_Fr (fun q => q = 511 ∨ q = 504 ∨ q = 527) S S')) := by
  refine X_QI (fun Q hQ => ?_)
  refine T_p xr_130_0 xn_130 (pc' := 1) (ls' := [(0, .ref 1)]) (st' := [.ref 1]) rfl ?_
  refine T_get xr_130_1 hO1 rfl (v := .ref 511) rfl (pc' := 4) rfl ?_
  refine T_p xr_130_4 xn_130 (pc' := 5) (ls' := [(0, .ref 1)]) (st' := [.ref 1, .ref 511]) rfl ?_
  refine T_get xr_130_5 hO1 rfl (v := .ref B) rfl (pc' := 8) rfl ?_
  refine T_cv (S := S) (q := 511) xr_130_8 xf_22.1 xf_22.2.1 xn_22 (as := [.ref B]) (r := []) rfl hO511 (Nat.le_of_ble_eq_true rfl) (Nat.le_of_ble_eq_true rfl) (pc' := 11) rfl (ls' := [(0, .ref 511), (1, .ref B)]) rfl ?_
  refine T_p xr_22_0 xn_22 (pc' := 1) (ls' := [(0, .ref 511), (1, .ref B)]) (st' := [.ref 511]) rfl ?_
  refine T_p xr_22_1 xn_22 (pc' := 2) (ls' := [(0, .ref 511), (1, .ref B)]) (st' := [.ref B, .ref 511]) rfl ?_
  refine T_put xr_22_2 hO511 rfl (Nat.le_of_ble_eq_true rfl) rfl (fs' := [.ref B, .ref 501, .int (iI fl), .ref 512, .ref 513, .ref 514, .ref 515, .ref 516]) rfl (pc' := 5) rfl (fun S2227 h2228 n2229 e2230 => ?_)
  refine T_p xr_22_5 xn_22 (pc' := 6) (ls' := [(0, .ref 511), (1, .ref B)]) (st' := [.ref 511]) rfl ?_
  refine T_p xr_22_6 xn_22 (pc' := 7) (ls' := [(0, .ref 511), (1, .ref B)]) (st' := [.int (iI 0), .ref 511]) rfl ?_
  refine T_put xr_22_7 h2228 rfl (Nat.le_of_ble_eq_true rfl) rfl (fs' := [.ref B, .ref 501, .int (iI 0), .ref 512, .ref 513, .ref 514, .ref 515, .ref 516]) rfl (pc' := 10) rfl (fun S2231 h2232 n2233 e2234 => ?_)
  refine T_vret xr_22_10 xf_22.2.2 ?_
  show X_T sc 130 (11, [(0, .ref 1)], [], S2231) _
  refine T_p xr_130_11 xn_130 (pc' := 12) (ls' := [(0, .ref 1)]) (st' := [.ref 1]) rfl ?_
  have h2235 := (n2233 1 (by decide)).trans ((n2229 1 (by decide)).trans (hO1))
  refine T_get xr_130_12 h2235 rfl (v := .ref 504) rfl (pc' := 15) rfl ?_
  have h2236 := (n2233 504 (by decide)).trans ((n2229 504 (by decide)).trans (hO504))
  refine T_cv (S := S2231) (q := 504) xr_130_15 xf_83.1 xf_83.2.1 xn_83 (as := []) (r := []) rfl h2236 (Nat.le_of_ble_eq_true rfl) (Nat.le_of_ble_eq_true rfl) (pc' := 18) rfl (ls' := [(0, .ref 504)]) rfl ?_
  refine T_p xr_83_0 xn_83 (pc' := 1) (ls' := [(0, .ref 504)]) (st' := [.ref 504]) rfl ?_
  refine T_p xr_83_1 xn_83 (pc' := 2) (ls' := [(0, .ref 504)]) (st' := [.int (iI 0), .ref 504]) rfl ?_
  refine T_put xr_83_2 h2236 rfl (Nat.le_of_ble_eq_true rfl) rfl (fs' := [.int (iI 0), .ref 505, .ref 506, .ref 507, .ref 508, .ref 509, .ref 510]) rfl (pc' := 5) rfl (fun S2237 h2238 n2239 e2240 => ?_)
  refine T_vret xr_83_5 xf_83.2.2 ?_
  show X_T sc 130 (18, [(0, .ref 1)], [], S2237) _
  refine T_p xr_130_18 xn_130 (pc' := 19) (ls' := [(0, .ref 1)]) (st' := [.ref 1]) rfl ?_
  have h2241 := (n2239 1 (by decide)).trans (h2235)
  refine T_get xr_130_19 h2241 rfl (v := .ref 527) rfl (pc' := 22) rfl ?_
  have h2242 := (n2239 527 (by decide)).trans ((n2233 527 (by decide)).trans ((n2229 527 (by decide)).trans (hO527)))
  refine T_cv (S := S2237) (q := 527) xr_130_22 xf_105.1 xf_105.2.1 xn_105 (as := []) (r := []) rfl h2242 (Nat.le_of_ble_eq_true rfl) (Nat.le_of_ble_eq_true rfl) (pc' := 25) rfl (ls' := [(0, .ref 527)]) rfl ?_
  refine T_mono (c_forget sc S2237 rs re hgt h2242) (fun v2243 S2244 h2245 => ?_)
  rcases h2245 with ⟨hv2246, ho2247, hf2248⟩
  rw [hv2246]
  show X_T sc 130 (25, [(0, .ref 1)], [], S2244) _
  refine T_vret xr_130_25 xf_130.2.2 ?_
  refine hQ _ _ ?_
  have h2249 := (hf2248.1 511 (by omega)).trans ((n2239 511 (by decide)).trans (h2232))
  have h2250 := (hf2248.1 504 (by omega)).trans (h2238)
  exact ⟨rfl, h2249, h2250, ho2247, ((((X_Fr.rf).tr (X_Fr.of n2229 e2230 (by omega))).tr (X_Fr.of n2233 e2234 (by omega))).tr (X_Fr.of n2239 e2240 (by omega))).tr (X_Fr.mono ⟨hf2248.1, hf2248.2⟩ (fun q hq => (by omega)))⟩
