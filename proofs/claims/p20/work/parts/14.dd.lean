theorem xr_18_0 : X_row 18 0 = some (0, (.aload_n 0, 1), (0, 0, 0)) := by decide +kernel
theorem xr_18_1 : X_row 18 1 = some (1, (.aload_n 1, 1), (0, 0, 0)) := by decide +kernel
theorem xr_18_2 : X_row 18 2 = some (2, (.putfield 32, 3), (1, 0, 22)) := by decide +kernel
theorem xr_18_5 : X_row 18 5 = some (5, (.aload_n 0, 1), (0, 0, 0)) := by decide +kernel
theorem xr_18_6 : X_row 18 6 = some (6, (.iconst 0, 1), (0, 0, 0)) := by decide +kernel
theorem xr_18_7 : X_row 18 7 = some (7, (.putfield 9, 3), (1, 2, 26)) := by decide +kernel
theorem xr_18_10 : X_row 18 10 = some (10, (.return_, 1), (0, 0, 0)) := by decide +kernel
theorem xr_82_0 : X_row 82 0 = some (0, (.iconst 0, 1), (0, 0, 0)) := by decide +kernel
theorem xr_82_1 : X_row 82 1 = some (1, (.istore_n 2, 1), (0, 0, 0)) := by decide +kernel
theorem xr_82_2 : X_row 82 2 = some (2, (.iconst 0, 1), (0, 0, 0)) := by decide +kernel
theorem xr_82_3 : X_row 82 3 = some (3, (.istore_n 3, 1), (0, 0, 0)) := by decide +kernel
theorem xr_82_4 : X_row 82 4 = some (4, (.iconst 0, 1), (0, 0, 0)) := by decide +kernel
theorem xr_82_5 : X_row 82 5 = some (5, (.istore 4, 2), (0, 0, 0)) := by decide +kernel
theorem xr_82_7 : X_row 82 7 = some (7, (.iload 4, 2), (0, 0, 0)) := by decide +kernel
theorem xr_82_9 : X_row 82 9 = some (9, (.aload_n 1, 1), (0, 0, 0)) := by decide +kernel
theorem xr_82_10 : X_row 82 10 = some (10, (.getfield 22, 3), (7, 1, 1)) := by decide +kernel
theorem xr_82_13 : X_row 82 13 = some (13, (.if_icmp .ge 144, 3), (0, 0, 0)) := by decide +kernel
theorem xr_82_16 : X_row 82 16 = some (16, (.aload_n 1, 1), (0, 0, 0)) := by decide +kernel
theorem xr_82_17 : X_row 82 17 = some (17, (.iload 4, 2), (0, 0, 0)) := by decide +kernel
theorem xr_82_19 : X_row 82 19 = some (19, (.invokevirtual 27, 3), (88, 0, 0)) := by decide +kernel
theorem xr_82_22 : X_row 82 22 = some (22, (.istore 5, 2), (0, 0, 0)) := by decide +kernel
theorem xr_82_24 : X_row 82 24 = some (24, (.iload 5, 2), (0, 0, 0)) := by decide +kernel
theorem xr_82_26 : X_row 82 26 = some (26, (.bipush 40, 2), (0, 0, 0)) := by decide +kernel
theorem xr_82_28 : X_row 82 28 = some (28, (.if_icmp .eq 10, 3), (0, 0, 0)) := by decide +kernel
theorem xr_82_31 : X_row 82 31 = some (31, (.iload 5, 2), (0, 0, 0)) := by decide +kernel
theorem xr_82_33 : X_row 82 33 = some (33, (.bipush 41, 2), (0, 0, 0)) := by decide +kernel
theorem xr_82_35 : X_row 82 35 = some (35, (.if_icmp .ne 7, 3), (0, 0, 0)) := by decide +kernel
theorem xr_82_38 : X_row 82 38 = some (38, (.iconst 1, 1), (0, 0, 0)) := by decide +kernel
theorem xr_82_39 : X_row 82 39 = some (39, (.goto 4, 3), (0, 0, 0)) := by decide +kernel
theorem xr_82_42 : X_row 82 42 = some (42, (.iconst 0, 1), (0, 0, 0)) := by decide +kernel
theorem xr_82_43 : X_row 82 43 = some (43, (.istore 6, 2), (0, 0, 0)) := by decide +kernel
theorem xr_82_45 : X_row 82 45 = some (45, (.iload 5, 2), (0, 0, 0)) := by decide +kernel
theorem xr_82_47 : X_row 82 47 = some (47, (.invokestatic 31, 3), (114, 3, 0)) := by decide +kernel
theorem xr_82_50 : X_row 82 50 = some (50, (.ifCond .eq 8, 3), (0, 0, 0)) := by decide +kernel
theorem xr_82_53 : X_row 82 53 = some (53, (.iconst 0, 1), (0, 0, 0)) := by decide +kernel
theorem xr_82_54 : X_row 82 54 = some (54, (.istore_n 3, 1), (0, 0, 0)) := by decide +kernel
theorem xr_82_55 : X_row 82 55 = some (55, (.goto 96, 3), (0, 0, 0)) := by decide +kernel
theorem xr_82_58 : X_row 82 58 = some (58, (.iload 5, 2), (0, 0, 0)) := by decide +kernel
theorem xr_82_60 : X_row 82 60 = some (60, (.bipush 33, 2), (0, 0, 0)) := by decide +kernel
theorem xr_82_62 : X_row 82 62 = some (62, (.if_icmp .lt 10, 3), (0, 0, 0)) := by decide +kernel
theorem xr_82_65 : X_row 82 65 = some (65, (.iload 5, 2), (0, 0, 0)) := by decide +kernel
theorem xr_82_67 : X_row 82 67 = some (67, (.bipush 126, 2), (0, 0, 0)) := by decide +kernel
theorem xr_82_69 : X_row 82 69 = some (69, (.if_icmp .le 5, 3), (0, 0, 0)) := by decide +kernel
theorem xr_82_72 : X_row 82 72 = some (72, (.iconst 0, 1), (0, 0, 0)) := by decide +kernel
theorem xr_82_73 : X_row 82 73 = some (73, (.ireturn, 1), (0, 0, 0)) := by decide +kernel
theorem xr_82_74 : X_row 82 74 = some (74, (.iload_n 3, 1), (0, 0, 0)) := by decide +kernel
theorem xr_82_75 : X_row 82 75 = some (75, (.ifCond .le 45, 3), (0, 0, 0)) := by decide +kernel
theorem xr_82_78 : X_row 82 78 = some (78, (.iload 6, 2), (0, 0, 0)) := by decide +kernel
theorem xr_82_80 : X_row 82 80 = some (80, (.ifCond .ne 40, 3), (0, 0, 0)) := by decide +kernel
theorem xr_82_83 : X_row 82 83 = some (83, (.iload_n 3, 1), (0, 0, 0)) := by decide +kernel
theorem xr_82_84 : X_row 82 84 = some (84, (.bipush 8, 2), (0, 0, 0)) := by decide +kernel
theorem xr_82_86 : X_row 82 86 = some (86, (.if_icmp .ne 5, 3), (0, 0, 0)) := by decide +kernel
theorem xr_82_89 : X_row 82 89 = some (89, (.iconst 0, 1), (0, 0, 0)) := by decide +kernel
theorem xr_82_90 : X_row 82 90 = some (90, (.ireturn, 1), (0, 0, 0)) := by decide +kernel
theorem xr_82_91 : X_row 82 91 = some (91, (.aload_n 0, 1), (0, 0, 0)) := by decide +kernel
theorem xr_82_92 : X_row 82 92 = some (92, (.getfield 19, 3), (6, 2, 6)) := by decide +kernel
theorem xr_82_95 : X_row 82 95 = some (95, (.iload_n 2, 1), (0, 0, 0)) := by decide +kernel
theorem xr_82_96 : X_row 82 96 = some (96, (.iconst 1, 1), (0, 0, 0)) := by decide +kernel
theorem xr_82_97 : X_row 82 97 = some (97, (.isub, 1), (0, 0, 0)) := by decide +kernel
theorem xr_82_98 : X_row 82 98 = some (98, (.aload_n 0, 1), (0, 0, 0)) := by decide +kernel
theorem xr_82_99 : X_row 82 99 = some (99, (.getfield 19, 3), (6, 2, 6)) := by decide +kernel
theorem xr_82_102 : X_row 82 102 = some (102, (.iload_n 2, 1), (0, 0, 0)) := by decide +kernel
theorem xr_82_103 : X_row 82 103 = some (103, (.iconst 1, 1), (0, 0, 0)) := by decide +kernel
theorem xr_82_104 : X_row 82 104 = some (104, (.isub, 1), (0, 0, 0)) := by decide +kernel
theorem xr_82_105 : X_row 82 105 = some (105, (.laload, 1), (0, 0, 0)) := by decide +kernel
theorem xr_82_106 : X_row 82 106 = some (106, (.bipush 8, 2), (0, 0, 0)) := by decide +kernel
theorem xr_82_108 : X_row 82 108 = some (108, (.lshl, 1), (0, 0, 0)) := by decide +kernel
theorem xr_82_109 : X_row 82 109 = some (109, (.iload 5, 2), (0, 0, 0)) := by decide +kernel
theorem xr_82_111 : X_row 82 111 = some (111, (.i2l, 1), (0, 0, 0)) := by decide +kernel
theorem xr_82_112 : X_row 82 112 = some (112, (.lor, 1), (0, 0, 0)) := by decide +kernel
theorem xr_82_113 : X_row 82 113 = some (113, (.lastore, 1), (0, 0, 0)) := by decide +kernel
theorem xr_82_114 : X_row 82 114 = some (114, (.iinc 3 1, 3), (0, 0, 0)) := by decide +kernel
theorem xr_82_117 : X_row 82 117 = some (117, (.goto 34, 3), (0, 0, 0)) := by decide +kernel
theorem xr_82_120 : X_row 82 120 = some (120, (.iload_n 2, 1), (0, 0, 0)) := by decide +kernel
theorem xr_82_121 : X_row 82 121 = some (121, (.bipush 30, 2), (0, 0, 0)) := by decide +kernel
theorem xr_82_123 : X_row 82 123 = some (123, (.if_icmp .ne 5, 3), (0, 0, 0)) := by decide +kernel
theorem xr_82_126 : X_row 82 126 = some (126, (.iconst 0, 1), (0, 0, 0)) := by decide +kernel
theorem xr_82_127 : X_row 82 127 = some (127, (.ireturn, 1), (0, 0, 0)) := by decide +kernel
theorem xr_82_128 : X_row 82 128 = some (128, (.aload_n 0, 1), (0, 0, 0)) := by decide +kernel
theorem xr_82_129 : X_row 82 129 = some (129, (.getfield 19, 3), (6, 2, 6)) := by decide +kernel
theorem xr_82_132 : X_row 82 132 = some (132, (.iload_n 2, 1), (0, 0, 0)) := by decide +kernel
theorem xr_82_133 : X_row 82 133 = some (133, (.iload 5, 2), (0, 0, 0)) := by decide +kernel
theorem xr_82_135 : X_row 82 135 = some (135, (.i2l, 1), (0, 0, 0)) := by decide +kernel
theorem xr_82_136 : X_row 82 136 = some (136, (.lastore, 1), (0, 0, 0)) := by decide +kernel
theorem xr_82_137 : X_row 82 137 = some (137, (.iinc 2 1, 3), (0, 0, 0)) := by decide +kernel
theorem xr_82_140 : X_row 82 140 = some (140, (.iload 6, 2), (0, 0, 0)) := by decide +kernel
theorem xr_82_142 : X_row 82 142 = some (142, (.ifCond .eq 7, 3), (0, 0, 0)) := by decide +kernel
theorem xr_82_145 : X_row 82 145 = some (145, (.iconst 0, 1), (0, 0, 0)) := by decide +kernel
theorem xr_82_146 : X_row 82 146 = some (146, (.goto 4, 3), (0, 0, 0)) := by decide +kernel
theorem xr_82_149 : X_row 82 149 = some (149, (.iconst 1, 1), (0, 0, 0)) := by decide +kernel
theorem xr_82_150 : X_row 82 150 = some (150, (.istore_n 3, 1), (0, 0, 0)) := by decide +kernel
theorem xr_82_151 : X_row 82 151 = some (151, (.iinc 4 1, 3), (0, 0, 0)) := by decide +kernel
theorem xr_82_154 : X_row 82 154 = some (154, (.goto (-147), 3), (0, 0, 0)) := by decide +kernel
theorem xr_82_157 : X_row 82 157 = some (157, (.aload_n 0, 1), (0, 0, 0)) := by decide +kernel
theorem xr_82_158 : X_row 82 158 = some (158, (.getfield 19, 3), (6, 2, 6)) := by decide +kernel
theorem xr_82_161 : X_row 82 161 = some (161, (.iconst 0, 1), (0, 0, 0)) := by decide +kernel
theorem xr_82_162 : X_row 82 162 = some (162, (.aload_n 0, 1), (0, 0, 0)) := by decide +kernel
theorem xr_82_163 : X_row 82 163 = some (163, (.getfield 15, 3), (6, 1, 4)) := by decide +kernel
theorem xr_82_166 : X_row 82 166 = some (166, (.iconst 0, 1), (0, 0, 0)) := by decide +kernel
theorem xr_82_167 : X_row 82 167 = some (167, (.iload_n 2, 1), (0, 0, 0)) := by decide +kernel
theorem xr_82_168 : X_row 82 168 = some (168, (.invokestatic 35, 3), (9998, 717, 0)) := by decide +kernel
theorem xr_82_171 : X_row 82 171 = some (171, (.aload_n 0, 1), (0, 0, 0)) := by decide +kernel
theorem xr_82_172 : X_row 82 172 = some (172, (.iload_n 2, 1), (0, 0, 0)) := by decide +kernel
theorem xr_82_173 : X_row 82 173 = some (173, (.putfield 9, 3), (6, 0, 2)) := by decide +kernel
theorem xr_82_176 : X_row 82 176 = some (176, (.iconst 1, 1), (0, 0, 0)) := by decide +kernel
theorem xr_82_177 : X_row 82 177 = some (177, (.ireturn, 1), (0, 0, 0)) := by decide +kernel
theorem xr_111_0 : X_row 111 0 = some (0, (.aload_n 0, 1), (0, 0, 0)) := by decide +kernel
theorem xr_111_1 : X_row 111 1 = some (1, (.getfield 54, 3), (10, 6, 48)) := by decide +kernel
theorem xr_111_4 : X_row 111 4 = some (4, (.aload_n 0, 1), (0, 0, 0)) := by decide +kernel
theorem xr_111_5 : X_row 111 5 = some (5, (.getfield 19, 3), (10, 1, 38)) := by decide +kernel
theorem xr_111_8 : X_row 111 8 = some (8, (.invokevirtual 210, 3), (18, 20, 0)) := by decide +kernel
theorem xr_111_11 : X_row 111 11 = some (11, (.aload_n 0, 1), (0, 0, 0)) := by decide +kernel
theorem xr_111_12 : X_row 111 12 = some (12, (.getfield 45, 3), (10, 5, 46)) := by decide +kernel
theorem xr_111_15 : X_row 111 15 = some (15, (.invokevirtual 214, 3), (79, 22, 0)) := by decide +kernel
theorem xr_111_18 : X_row 111 18 = some (18, (.aload_n 0, 1), (0, 0, 0)) := by decide +kernel
theorem xr_111_19 : X_row 111 19 = some (19, (.getfield 72, 3), (10, 8, 52)) := by decide +kernel
theorem xr_111_22 : X_row 111 22 = some (22, (.invokevirtual 172, 3), (99, 24, 0)) := by decide +kernel
theorem xr_111_25 : X_row 111 25 = some (25, (.return_, 1), (0, 0, 0)) := by decide +kernel
theorem xn_18 : X_nL 18 = 2 := by decide +kernel
theorem xf_18 : X_na 18 = 1 ∧ X_ci 18 = 1 ∧ X_rt 18 = none := by decide +kernel
theorem xn_82 : X_nL 82 = 7 := by decide +kernel
theorem xf_82 : X_na 82 = 1 ∧ X_ci 82 = 6 ∧ X_rt 82 = (some .boolean) := by decide +kernel
theorem xn_111 : X_nL 111 = 1 := by decide +kernel
theorem xf_111 : X_na 111 = 0 ∧ X_ci 111 = 10 ∧ X_rt 111 = none := by decide +kernel
theorem c_readFrom (sc : X_Sc) (S : X_S) (ot : Int → Int64) (dr : Int → Int64) (tn : Int) (len : Int) (tb : Int → Int) (hO2 : S.1 2 = .inr (7, [.ref 3, .int (iI len)])) (hO501 : S.1 501 = .inr (6, [.int (iI tn), .ref 502, .ref 503])) (hA502 : S.1 502 = .inl (.long, 30, .inr (.inl fun k : Nat => ot (k : Int)))) (hA503 : S.1 503 = .inl (.long, 30, .inr (.inl fun k : Nat => dr (k : Int)))) (hA3 : S.1 3 = .inl (.byte, 2000, .inl fun k : Nat => iI (tb (k : Int)))) (hl : 0 ≤ len ∧ len ≤ 2000) : X_T sc 82 (0, [(0, .ref 501), (1, .ref 2)], [], S) (fun v S' => (∃ (dr1 : Int → Int64), v = some (.int (iI 0)) ∧ X_sn tb len len.toNat = none ∧ S'.1 503 = .inl (.long, 30, .inr (.inl fun k : Nat => dr1 (k : Int))) ∧ X_Fr (fun q => q = 503) S S') ∨ (∃ (n1 : Int) (z1 : Int) (t1 : Int → Int64) (ot1 : Int → Int64) (dr1 : Int → Int64), v = some (.int (iI 1)) ∧ X_sn tb len len.toNat = some (n1, z1, t1) ∧ (0 ≤ n1 ∧ n1 ≤ 30) ∧ ((∀ i, 0 ≤ i → i < n1 → ot1 i = t1 i)) ∧ S'.1 501 = .inr (6, [.int (iI n1), .ref 502, .ref 503]) ∧ S'.1 502 = .inl (.long, 30, .inr (.inl fun k : Nat => ot1 (k : Int))) ∧ S'.1 503 = .inl (.long, 30, .inr (.inl fun k : Nat => dr1 (k : Int))) ∧ (X_Fr (fun q => 501 ≤ q ∧ q ≤ 503) S S'))) := by
  refine X_QI (fun Q hQ => ?_)
  refine T_p xr_82_0 xn_82 (pc' := 1) (ls' := [(0, .ref 501), (1, .ref 2)]) (st' := [.int (iI 0)]) rfl ?_
  refine T_p xr_82_1 xn_82 (pc' := 2) (ls' := [(2, .int (iI 0)), (0, .ref 501), (1, .ref 2)]) (st' := []) rfl ?_
  refine T_p xr_82_2 xn_82 (pc' := 3) (ls' := [(2, .int (iI 0)), (0, .ref 501), (1, .ref 2)]) (st' := [.int (iI 0)]) rfl ?_
  refine T_p xr_82_3 xn_82 (pc' := 4) (ls' := [(3, .int (iI 0)), (2, .int (iI 0)), (0, .ref 501), (1, .ref 2)]) (st' := []) rfl ?_
  refine T_p xr_82_4 xn_82 (pc' := 5) (ls' := [(3, .int (iI 0)), (2, .int (iI 0)), (0, .ref 501), (1, .ref 2)]) (st' := [.int (iI 0)]) rfl ?_
  refine T_p xr_82_5 xn_82 (pc' := 7) (ls' := [(4, .int (iI 0)), (3, .int (iI 0)), (2, .int (iI 0)), (0, .ref 501), (1, .ref 2)]) (st' := []) rfl ?_
  have L1782 : ∀ (m1784 : Nat) (S1787 : X_S) (k : Int) (n : Int) (z : Int) (t : Int → Int64) (dr1 : Int → Int64) (hdr1 : S1787.1 503 = .inl (.long, 30, .inr (.inl fun k : Nat => dr1 (k : Int)))) (hF1786 : X_Fr (fun q => q = 503) S S1787) (hk : (0 ≤ k ∧ k ≤ len) ∧ 0 ≤ n ∧ n ≤ 30) (hS : X_sn tb len k.toNat = some (n, z, t)) (hd : ∀ i, 0 ≤ i → i < n → dr1 i = t i) (hz : (0 ≤ z ∧ z ≤ 8) ∧ (0 < z → 1 ≤ n)) (hm1785 : len - k < m1784), X_T sc 82 (7, [(4, .int (iI k)), (3, .int (iI z)), (2, .int (iI n)), (0, .ref 501), (1, .ref 2)], [], S1787) Q := by
    intro m1784
    induction m1784 with
    | zero =>
      intro S1787 k n z t dr1 hdr1 hF1786 hk hS hd hz hm1785
      exact (show False by omega).elim
    | succ m1784 ih1783 =>
      intro S1787 k n z t dr1 hdr1 hF1786 hk hS hd hz hm1785
      refine T_p xr_82_7 xn_82 (pc' := 9) (ls' := [(4, .int (iI k)), (3, .int (iI z)), (2, .int (iI n)), (0, .ref 501), (1, .ref 2)]) (st' := [.int (iI k)]) rfl ?_
      refine T_p xr_82_9 xn_82 (pc' := 10) (ls' := [(4, .int (iI k)), (3, .int (iI z)), (2, .int (iI n)), (0, .ref 501), (1, .ref 2)]) (st' := [.ref 2, .int (iI k)]) rfl ?_
      have h1788 := (hF1786.1 2 (by omega)).trans (hO2)
      refine T_get xr_82_10 h1788 rfl (v := .int (iI len)) rfl (pc' := 13) rfl ?_
      refine T_zicmp_ge xr_82_13 (t := 157) (pc' := 16) rfl rfl (fun c1789 => ?_) (fun c1789 => ?_)
      · skip
        have c1789 : len ≤ k := c1789
        refine T_p xr_82_157 xn_82 (pc' := 158) (ls' := [(4, .int (iI k)), (3, .int (iI z)), (2, .int (iI n)), (0, .ref 501), (1, .ref 2)]) (st' := [.ref 501]) rfl ?_
        have h1790 := (hF1786.1 501 (by omega)).trans (hO501)
        refine T_get xr_82_158 h1790 rfl (v := .ref 503) rfl (pc' := 161) rfl ?_
        refine T_p xr_82_161 xn_82 (pc' := 162) (ls' := [(4, .int (iI k)), (3, .int (iI z)), (2, .int (iI n)), (0, .ref 501), (1, .ref 2)]) (st' := [.int (iI 0), .ref 503]) rfl ?_
        refine T_p xr_82_162 xn_82 (pc' := 163) (ls' := [(4, .int (iI k)), (3, .int (iI z)), (2, .int (iI n)), (0, .ref 501), (1, .ref 2)]) (st' := [.ref 501, .int (iI 0), .ref 503]) rfl ?_
        refine T_get xr_82_163 h1790 rfl (v := .ref 502) rfl (pc' := 166) rfl ?_
        refine T_p xr_82_166 xn_82 (pc' := 167) (ls' := [(4, .int (iI k)), (3, .int (iI z)), (2, .int (iI n)), (0, .ref 501), (1, .ref 2)]) (st' := [.int (iI 0), .ref 502, .int (iI 0), .ref 503]) rfl ?_
        refine T_p xr_82_167 xn_82 (pc' := 168) (ls' := [(4, .int (iI k)), (3, .int (iI z)), (2, .int (iI n)), (0, .ref 501), (1, .ref 2)]) (st' := [.int (iI n), .int (iI 0), .ref 502, .int (iI 0), .ref 503]) rfl ?_
        have h1791 := (hF1786.1 502 (by omega)).trans (hA502)
        refine T_cpy xr_82_168 hdr1 h1791 (z := n) (by omega) (by omega) (Nat.le_of_ble_eq_true rfl) (pc' := 171) rfl (fun S1792 h1793 n1794 e1795 => ?_)
        refine T_p xr_82_171 xn_82 (pc' := 172) (ls' := [(4, .int (iI k)), (3, .int (iI z)), (2, .int (iI n)), (0, .ref 501), (1, .ref 2)]) (st' := [.ref 501]) rfl ?_
        refine T_p xr_82_172 xn_82 (pc' := 173) (ls' := [(4, .int (iI k)), (3, .int (iI z)), (2, .int (iI n)), (0, .ref 501), (1, .ref 2)]) (st' := [.int (iI n), .ref 501]) rfl ?_
        have h1796 := (n1794 501 (by decide)).trans (h1790)
        refine T_put xr_82_173 h1796 rfl (Nat.le_of_ble_eq_true rfl) rfl (fs' := [.int (iI n), .ref 502, .ref 503]) rfl (pc' := 176) rfl (fun S1797 h1798 n1799 e1800 => ?_)
        refine T_p xr_82_176 xn_82 (pc' := 177) (ls' := [(4, .int (iI k)), (3, .int (iI z)), (2, .int (iI n)), (0, .ref 501), (1, .ref 2)]) (st' := [.int (iI 1)]) rfl ?_
        refine T_iret xr_82_177 xf_82.2.2 (by decide) ?_
        refine hQ _ _ ?_
        have h1801 := (n1799 502 (by decide)).trans (h1793)
        have h1802 := (n1799 503 (by decide)).trans ((n1794 503 (by decide)).trans (hdr1))
        exact Or.inr ⟨n, z, t, (X_cpy dr1 ot n), dr1, rfl, (by rw [show len.toNat = k.toNat by omega]; exact hS), (by omega), (fun i h1 h2 => by unfold X_cpy; rw [if_pos h2]; exact hd i h1 h2), h1798, h1801, h1802, (((X_Fr.rf).tr (X_Fr.mono ⟨hF1786.1, hF1786.2⟩ (fun q hq => (by omega)))).tr (X_Fr.of n1794 e1795 (by omega))).tr (X_Fr.of n1799 e1800 (by omega))⟩
      · skip
        have c1789 : ¬ (len ≤ k) := c1789
        refine T_p xr_82_16 xn_82 (pc' := 17) (ls' := [(4, .int (iI k)), (3, .int (iI z)), (2, .int (iI n)), (0, .ref 501), (1, .ref 2)]) (st' := [.ref 2]) rfl ?_
        refine T_p xr_82_17 xn_82 (pc' := 19) (ls' := [(4, .int (iI k)), (3, .int (iI z)), (2, .int (iI n)), (0, .ref 501), (1, .ref 2)]) (st' := [.int (iI k), .ref 2]) rfl ?_
        refine T_cv (S := S1787) (q := 2) xr_82_19 xf_88.1 xf_88.2.1 xn_88 (as := [.int (iI k)]) (r := []) rfl h1788 (Nat.le_of_ble_eq_true rfl) (Nat.le_of_ble_eq_true rfl) (pc' := 22) rfl (ls' := [(0, .ref 2), (1, .int (iI k))]) rfl ?_
        have h1803 := (hF1786.1 3 (by omega)).trans (hA3)
        refine T_mono (c_byteAt sc S1787 len k tb h1788 h1803 (by omega) (by omega)) (fun v1805 S1806 h1804 => ?_)
        obtain ⟨h1807, h1808⟩ := h1804
        rw [h1807, h1808]
        show X_T sc 82 (22, [(4, .int (iI k)), (3, .int (iI z)), (2, .int (iI n)), (0, .ref 501), (1, .ref 2)], [.int (iI (X_at tb len k))], S1787) _
        have hcr := X_at_in (tb := tb) (len := len) (p := k) (by omega)
        have hgo := X_sn_s (show 0 ≤ k by omega) hS
        refine T_p xr_82_22 xn_82 (pc' := 24) (ls' := [(5, .int (iI (X_at tb len k))), (4, .int (iI k)), (3, .int (iI z)), (2, .int (iI n)), (0, .ref 501), (1, .ref 2)]) (st' := []) rfl ?_
        have J1809 : X_T sc 82 (43, [(5, .int (iI (X_at tb len k))), (4, .int (iI k)), (3, .int (iI z)), (2, .int (iI n)), (0, .ref 501), (1, .ref 2)], [.int (iI (bI ((X_at tb len k) = 40 ∨ (X_at tb len k) = 41)))], S1787) Q := by
          refine T_p xr_82_43 xn_82 (pc' := 45) (ls' := [(6, .int (iI (bI ((X_at tb len k) = 40 ∨ (X_at tb len k) = 41)))), (5, .int (iI (X_at tb len k))), (4, .int (iI k)), (3, .int (iI z)), (2, .int (iI n)), (0, .ref 501), (1, .ref 2)]) (st' := []) rfl ?_
          refine T_p xr_82_45 xn_82 (pc' := 47) (ls' := [(6, .int (iI (bI ((X_at tb len k) = 40 ∨ (X_at tb len k) = 41)))), (5, .int (iI (X_at tb len k))), (4, .int (iI k)), (3, .int (iI z)), (2, .int (iI n)), (0, .ref 501), (1, .ref 2)]) (st' := [.int (iI (X_at tb len k))]) rfl ?_
          refine T_cs xr_82_47 (by decide) xf_114.1 xn_114 (as := [.int (iI (X_at tb len k))]) (r := []) rfl (Nat.le_of_ble_eq_true rfl) (Nat.le_of_ble_eq_true rfl) (pc' := 50) rfl (ls' := [(0, .int (iI (X_at tb len k)))]) rfl ?_
          refine T_mono (c_isBlank sc S1787 (X_at tb len k) (by omega)) (fun v1811 S1812 h1810 => ?_)
          obtain ⟨h1813, h1814⟩ := h1810
          rw [h1813, h1814]
          show X_T sc 82 (50, [(6, .int (iI (bI ((X_at tb len k) = 40 ∨ (X_at tb len k) = 41)))), (5, .int (iI (X_at tb len k))), (4, .int (iI k)), (3, .int (iI z)), (2, .int (iI n)), (0, .ref 501), (1, .ref 2)], [.int (iI (bI (X_isBl (X_at tb len k))))], S1787) _
          refine T_bif_eq xr_82_50 (t := 58) (pc' := 53) rfl rfl (fun c1815 => ?_) (fun c1815 => ?_)
          · skip
            have c1815 : ¬ (X_isBl (X_at tb len k)) := c1815
            have hnb : ¬ X_isBl (X_at tb len k) := by assumption
            refine T_p xr_82_58 xn_82 (pc' := 60) (ls' := [(6, .int (iI (bI ((X_at tb len k) = 40 ∨ (X_at tb len k) = 41)))), (5, .int (iI (X_at tb len k))), (4, .int (iI k)), (3, .int (iI z)), (2, .int (iI n)), (0, .ref 501), (1, .ref 2)]) (st' := [.int (iI (X_at tb len k))]) rfl ?_
            refine T_p xr_82_60 xn_82 (pc' := 62) (ls' := [(6, .int (iI (bI ((X_at tb len k) = 40 ∨ (X_at tb len k) = 41)))), (5, .int (iI (X_at tb len k))), (4, .int (iI k)), (3, .int (iI z)), (2, .int (iI n)), (0, .ref 501), (1, .ref 2)]) (st' := [.int (iI 33), .int (iI (X_at tb len k))]) rfl ?_
            refine T_zicmp_lt xr_82_62 (t := 72) (pc' := 65) rfl rfl (fun c1816 => ?_) (fun c1816 => ?_)
            · skip
              have c1816 : (X_at tb len k) < 33 := c1816
              refine T_p xr_82_72 xn_82 (pc' := 73) (ls' := [(6, .int (iI (bI ((X_at tb len k) = 40 ∨ (X_at tb len k) = 41)))), (5, .int (iI (X_at tb len k))), (4, .int (iI k)), (3, .int (iI z)), (2, .int (iI n)), (0, .ref 501), (1, .ref 2)]) (st' := [.int (iI 0)]) rfl ?_
              refine T_iret xr_82_73 xf_82.2.2 (by decide) ?_
              refine hQ _ _ ?_
              rw [X_sn1_x hnb (by omega)] at hgo
              exact Or.inl ⟨dr1, rfl, (X_sn_x (by omega) (by omega) hgo), hdr1, (X_Fr.rf).tr (X_Fr.mono ⟨hF1786.1, hF1786.2⟩ (fun q hq => (by omega)))⟩
            · skip
              have c1816 : ¬ ((X_at tb len k) < 33) := c1816
              refine T_p xr_82_65 xn_82 (pc' := 67) (ls' := [(6, .int (iI (bI ((X_at tb len k) = 40 ∨ (X_at tb len k) = 41)))), (5, .int (iI (X_at tb len k))), (4, .int (iI k)), (3, .int (iI z)), (2, .int (iI n)), (0, .ref 501), (1, .ref 2)]) (st' := [.int (iI (X_at tb len k))]) rfl ?_
              refine T_p xr_82_67 xn_82 (pc' := 69) (ls' := [(6, .int (iI (bI ((X_at tb len k) = 40 ∨ (X_at tb len k) = 41)))), (5, .int (iI (X_at tb len k))), (4, .int (iI k)), (3, .int (iI z)), (2, .int (iI n)), (0, .ref 501), (1, .ref 2)]) (st' := [.int (iI 126), .int (iI (X_at tb len k))]) rfl ?_
              refine T_zicmp_le xr_82_69 (t := 74) (pc' := 72) rfl rfl (fun c1817 => ?_) (fun c1817 => ?_)
              · skip
                have c1817 : (X_at tb len k) ≤ 126 := c1817
                refine T_p xr_82_74 xn_82 (pc' := 75) (ls' := [(6, .int (iI (bI ((X_at tb len k) = 40 ∨ (X_at tb len k) = 41)))), (5, .int (iI (X_at tb len k))), (4, .int (iI k)), (3, .int (iI z)), (2, .int (iI n)), (0, .ref 501), (1, .ref 2)]) (st' := [.int (iI z)]) rfl ?_
                refine T_zif_le xr_82_75 (t := 120) (pc' := 78) rfl rfl (fun c1818 => ?_) (fun c1818 => ?_)
                · skip
                  have c1818 : z ≤ 0 := c1818
                  have hnx : ¬ ((X_at tb len k) < 33 ∨ 126 < (X_at tb len k)) := by omega
                  rw [X_sn1_n hnb hnx (by omega)] at hgo
                  refine T_p xr_82_120 xn_82 (pc' := 121) (ls' := [(6, .int (iI (bI ((X_at tb len k) = 40 ∨ (X_at tb len k) = 41)))), (5, .int (iI (X_at tb len k))), (4, .int (iI k)), (3, .int (iI z)), (2, .int (iI n)), (0, .ref 501), (1, .ref 2)]) (st' := [.int (iI n)]) rfl ?_
                  refine T_p xr_82_121 xn_82 (pc' := 123) (ls' := [(6, .int (iI (bI ((X_at tb len k) = 40 ∨ (X_at tb len k) = 41)))), (5, .int (iI (X_at tb len k))), (4, .int (iI k)), (3, .int (iI z)), (2, .int (iI n)), (0, .ref 501), (1, .ref 2)]) (st' := [.int (iI 30), .int (iI n)]) rfl ?_
                  refine T_zicmp_ne xr_82_123 (t := 128) (pc' := 126) rfl rfl (fun c1819 => ?_) (fun c1819 => ?_)
                  · skip
                    have c1819 : ¬ n = 30 := c1819
                    refine T_p xr_82_128 xn_82 (pc' := 129) (ls' := [(6, .int (iI (bI ((X_at tb len k) = 40 ∨ (X_at tb len k) = 41)))), (5, .int (iI (X_at tb len k))), (4, .int (iI k)), (3, .int (iI z)), (2, .int (iI n)), (0, .ref 501), (1, .ref 2)]) (st' := [.ref 501]) rfl ?_
                    have h1820 := (hF1786.1 501 (by omega)).trans (hO501)
                    refine T_get xr_82_129 h1820 rfl (v := .ref 503) rfl (pc' := 132) rfl ?_
                    refine T_p xr_82_132 xn_82 (pc' := 133) (ls' := [(6, .int (iI (bI ((X_at tb len k) = 40 ∨ (X_at tb len k) = 41)))), (5, .int (iI (X_at tb len k))), (4, .int (iI k)), (3, .int (iI z)), (2, .int (iI n)), (0, .ref 501), (1, .ref 2)]) (st' := [.int (iI n), .ref 503]) rfl ?_
                    refine T_p xr_82_133 xn_82 (pc' := 135) (ls' := [(6, .int (iI (bI ((X_at tb len k) = 40 ∨ (X_at tb len k) = 41)))), (5, .int (iI (X_at tb len k))), (4, .int (iI k)), (3, .int (iI z)), (2, .int (iI n)), (0, .ref 501), (1, .ref 2)]) (st' := [.int (iI (X_at tb len k)), .int (iI n), .ref 503]) rfl ?_
                    refine T_p xr_82_135 xn_82 (pc' := 136) (ls' := [(6, .int (iI (bI ((X_at tb len k) = 40 ∨ (X_at tb len k) = 41)))), (5, .int (iI (X_at tb len k))), (4, .int (iI k)), (3, .int (iI z)), (2, .int (iI n)), (0, .ref 501), (1, .ref 2)]) (st' := [.long ((iI (X_at tb len k)).toInt64), .int (iI n), .ref 503]) rfl ?_
                    refine T_zlast xr_82_136 hdr1 (pc' := 137) rfl (fun S1821 h1822 n1823 e1824 => ?_)
                    refine T_ziinc xr_82_137 xn_82 (a := n) (z := n + 1) rfl (Nat.le_of_ble_eq_true rfl) (by omega) (ls' := [(2, .int (iI (n + 1))), (6, .int (iI (bI ((X_at tb len k) = 40 ∨ (X_at tb len k) = 41)))), (5, .int (iI (X_at tb len k))), (4, .int (iI k)), (3, .int (iI z)), (0, .ref 501), (1, .ref 2)]) rfl (pc' := 140) rfl ?_
                    refine T_p xr_82_140 xn_82 (pc' := 142) (ls' := [(2, .int (iI (n + 1))), (6, .int (iI (bI ((X_at tb len k) = 40 ∨ (X_at tb len k) = 41)))), (5, .int (iI (X_at tb len k))), (4, .int (iI k)), (3, .int (iI z)), (0, .ref 501), (1, .ref 2)]) (st' := [.int (iI (bI ((X_at tb len k) = 40 ∨ (X_at tb len k) = 41)))]) rfl ?_
                    refine T_bif_eq xr_82_142 (t := 149) (pc' := 145) rfl rfl (fun c1825 => ?_) (fun c1825 => ?_)
                    · skip
                      have c1825 : ¬ ((X_at tb len k) = 40 ∨ (X_at tb len k) = 41) := c1825
                      refine T_p xr_82_149 xn_82 (pc' := 150) (ls' := [(2, .int (iI (n + 1))), (6, .int (iI (bI ((X_at tb len k) = 40 ∨ (X_at tb len k) = 41)))), (5, .int (iI (X_at tb len k))), (4, .int (iI k)), (3, .int (iI z)), (0, .ref 501), (1, .ref 2)]) (st' := [.int (iI 1)]) rfl ?_
                      refine T_p xr_82_150 xn_82 (pc' := 151) (ls' := [(3, .int (iI 1)), (2, .int (iI (n + 1))), (6, .int (iI (bI ((X_at tb len k) = 40 ∨ (X_at tb len k) = 41)))), (5, .int (iI (X_at tb len k))), (4, .int (iI k)), (0, .ref 501), (1, .ref 2)]) (st' := []) rfl ?_
                      refine T_ziinc xr_82_151 xn_82 (a := k) (z := k + 1) rfl (Nat.le_of_ble_eq_true rfl) (by omega) (ls' := [(4, .int (iI (k + 1))), (3, .int (iI 1)), (2, .int (iI (n + 1))), (6, .int (iI (bI ((X_at tb len k) = 40 ∨ (X_at tb len k) = 41)))), (5, .int (iI (X_at tb len k))), (0, .ref 501), (1, .ref 2)]) rfl (pc' := 154) rfl ?_
                      refine T_p xr_82_154 xn_82 (pc' := 7) (ls' := [(4, .int (iI (k + 1))), (3, .int (iI 1)), (2, .int (iI (n + 1))), (6, .int (iI (bI ((X_at tb len k) = 40 ∨ (X_at tb len k) = 41)))), (5, .int (iI (X_at tb len k))), (0, .ref 501), (1, .ref 2)]) (st' := []) rfl ?_
                      refine T_sub (ls := [(4, .int (iI (k + 1))), (3, .int (iI 1)), (2, .int (iI (n + 1))), (0, .ref 501), (1, .ref 2)]) ⟨rfl, rfl, rfl, rfl, rfl, trivial⟩ rfl rfl ?_
                      exact ih1783 S1821 (k + 1) (n + 1) 1 (X_ug t n (iI (X_at tb len k)).toInt64) (X_ug dr1 n ((iI (X_at tb len k)).toInt64)) h1822 (hF1786.tr ((X_Fr.rf).tr (X_Fr.of n1823 e1824 (by omega)))) (by omega) (by rw [hgo, if_neg (by omega)]; first | rw [if_pos (by omega)] | rw [if_neg (by omega)]) (fun i h1 h2 => by
                            by_cases hi : i = n
                            · rw [hi, X_ug_s, X_ug_s]
                            · rw [X_ug_n _ _ hi, X_ug_n _ _ hi]; exact hd i h1 (by omega)) (by omega) (by omega)
                    · skip
                      have c1825 : ((X_at tb len k) = 40 ∨ (X_at tb len k) = 41) := c1825
                      refine T_p xr_82_145 xn_82 (pc' := 146) (ls' := [(2, .int (iI (n + 1))), (6, .int (iI (bI ((X_at tb len k) = 40 ∨ (X_at tb len k) = 41)))), (5, .int (iI (X_at tb len k))), (4, .int (iI k)), (3, .int (iI z)), (0, .ref 501), (1, .ref 2)]) (st' := [.int (iI 0)]) rfl ?_
                      refine T_p xr_82_146 xn_82 (pc' := 150) (ls' := [(2, .int (iI (n + 1))), (6, .int (iI (bI ((X_at tb len k) = 40 ∨ (X_at tb len k) = 41)))), (5, .int (iI (X_at tb len k))), (4, .int (iI k)), (3, .int (iI z)), (0, .ref 501), (1, .ref 2)]) (st' := [.int (iI 0)]) rfl ?_
                      refine T_p xr_82_150 xn_82 (pc' := 151) (ls' := [(3, .int (iI 0)), (2, .int (iI (n + 1))), (6, .int (iI (bI ((X_at tb len k) = 40 ∨ (X_at tb len k) = 41)))), (5, .int (iI (X_at tb len k))), (4, .int (iI k)), (0, .ref 501), (1, .ref 2)]) (st' := []) rfl ?_
                      refine T_ziinc xr_82_151 xn_82 (a := k) (z := k + 1) rfl (Nat.le_of_ble_eq_true rfl) (by omega) (ls' := [(4, .int (iI (k + 1))), (3, .int (iI 0)), (2, .int (iI (n + 1))), (6, .int (iI (bI ((X_at tb len k) = 40 ∨ (X_at tb len k) = 41)))), (5, .int (iI (X_at tb len k))), (0, .ref 501), (1, .ref 2)]) rfl (pc' := 154) rfl ?_
                      refine T_p xr_82_154 xn_82 (pc' := 7) (ls' := [(4, .int (iI (k + 1))), (3, .int (iI 0)), (2, .int (iI (n + 1))), (6, .int (iI (bI ((X_at tb len k) = 40 ∨ (X_at tb len k) = 41)))), (5, .int (iI (X_at tb len k))), (0, .ref 501), (1, .ref 2)]) (st' := []) rfl ?_
                      refine T_sub (ls := [(4, .int (iI (k + 1))), (3, .int (iI 0)), (2, .int (iI (n + 1))), (0, .ref 501), (1, .ref 2)]) ⟨rfl, rfl, rfl, rfl, rfl, trivial⟩ rfl rfl ?_
                      exact ih1783 S1821 (k + 1) (n + 1) 0 (X_ug t n (iI (X_at tb len k)).toInt64) (X_ug dr1 n ((iI (X_at tb len k)).toInt64)) h1822 (hF1786.tr ((X_Fr.rf).tr (X_Fr.of n1823 e1824 (by omega)))) (by omega) (by rw [hgo, if_neg (by omega)]; first | rw [if_pos (by omega)] | rw [if_neg (by omega)]) (fun i h1 h2 => by
                            by_cases hi : i = n
                            · rw [hi, X_ug_s, X_ug_s]
                            · rw [X_ug_n _ _ hi, X_ug_n _ _ hi]; exact hd i h1 (by omega)) (by omega) (by omega)
                  · skip
                    have c1819 : ¬ (¬ n = 30) := c1819
                    refine T_p xr_82_126 xn_82 (pc' := 127) (ls' := [(6, .int (iI (bI ((X_at tb len k) = 40 ∨ (X_at tb len k) = 41)))), (5, .int (iI (X_at tb len k))), (4, .int (iI k)), (3, .int (iI z)), (2, .int (iI n)), (0, .ref 501), (1, .ref 2)]) (st' := [.int (iI 0)]) rfl ?_
                    refine T_iret xr_82_127 xf_82.2.2 (by decide) ?_
                    refine hQ _ _ ?_
                    rw [if_pos (by omega)] at hgo
                    exact Or.inl ⟨dr1, rfl, (X_sn_x (by omega) (by omega) hgo), hdr1, (X_Fr.rf).tr (X_Fr.mono ⟨hF1786.1, hF1786.2⟩ (fun q hq => (by omega)))⟩
                · skip
                  have c1818 : ¬ (z ≤ 0) := c1818
                  refine T_p xr_82_78 xn_82 (pc' := 80) (ls' := [(6, .int (iI (bI ((X_at tb len k) = 40 ∨ (X_at tb len k) = 41)))), (5, .int (iI (X_at tb len k))), (4, .int (iI k)), (3, .int (iI z)), (2, .int (iI n)), (0, .ref 501), (1, .ref 2)]) (st' := [.int (iI (bI ((X_at tb len k) = 40 ∨ (X_at tb len k) = 41)))]) rfl ?_
                  refine T_bif_ne xr_82_80 (t := 120) (pc' := 83) rfl rfl (fun c1826 => ?_) (fun c1826 => ?_)
                  · skip
                    have c1826 : ((X_at tb len k) = 40 ∨ (X_at tb len k) = 41) := c1826
                    have hnx : ¬ ((X_at tb len k) < 33 ∨ 126 < (X_at tb len k)) := by omega
                    rw [X_sn1_n hnb hnx (by omega)] at hgo
                    refine T_p xr_82_120 xn_82 (pc' := 121) (ls' := [(6, .int (iI (bI ((X_at tb len k) = 40 ∨ (X_at tb len k) = 41)))), (5, .int (iI (X_at tb len k))), (4, .int (iI k)), (3, .int (iI z)), (2, .int (iI n)), (0, .ref 501), (1, .ref 2)]) (st' := [.int (iI n)]) rfl ?_
                    refine T_p xr_82_121 xn_82 (pc' := 123) (ls' := [(6, .int (iI (bI ((X_at tb len k) = 40 ∨ (X_at tb len k) = 41)))), (5, .int (iI (X_at tb len k))), (4, .int (iI k)), (3, .int (iI z)), (2, .int (iI n)), (0, .ref 501), (1, .ref 2)]) (st' := [.int (iI 30), .int (iI n)]) rfl ?_
                    refine T_zicmp_ne xr_82_123 (t := 128) (pc' := 126) rfl rfl (fun c1827 => ?_) (fun c1827 => ?_)
                    · skip
                      have c1827 : ¬ n = 30 := c1827
                      refine T_p xr_82_128 xn_82 (pc' := 129) (ls' := [(6, .int (iI (bI ((X_at tb len k) = 40 ∨ (X_at tb len k) = 41)))), (5, .int (iI (X_at tb len k))), (4, .int (iI k)), (3, .int (iI z)), (2, .int (iI n)), (0, .ref 501), (1, .ref 2)]) (st' := [.ref 501]) rfl ?_
                      have h1828 := (hF1786.1 501 (by omega)).trans (hO501)
                      refine T_get xr_82_129 h1828 rfl (v := .ref 503) rfl (pc' := 132) rfl ?_
                      refine T_p xr_82_132 xn_82 (pc' := 133) (ls' := [(6, .int (iI (bI ((X_at tb len k) = 40 ∨ (X_at tb len k) = 41)))), (5, .int (iI (X_at tb len k))), (4, .int (iI k)), (3, .int (iI z)), (2, .int (iI n)), (0, .ref 501), (1, .ref 2)]) (st' := [.int (iI n), .ref 503]) rfl ?_
                      refine T_p xr_82_133 xn_82 (pc' := 135) (ls' := [(6, .int (iI (bI ((X_at tb len k) = 40 ∨ (X_at tb len k) = 41)))), (5, .int (iI (X_at tb len k))), (4, .int (iI k)), (3, .int (iI z)), (2, .int (iI n)), (0, .ref 501), (1, .ref 2)]) (st' := [.int (iI (X_at tb len k)), .int (iI n), .ref 503]) rfl ?_
                      refine T_p xr_82_135 xn_82 (pc' := 136) (ls' := [(6, .int (iI (bI ((X_at tb len k) = 40 ∨ (X_at tb len k) = 41)))), (5, .int (iI (X_at tb len k))), (4, .int (iI k)), (3, .int (iI z)), (2, .int (iI n)), (0, .ref 501), (1, .ref 2)]) (st' := [.long ((iI (X_at tb len k)).toInt64), .int (iI n), .ref 503]) rfl ?_
                      refine T_zlast xr_82_136 hdr1 (pc' := 137) rfl (fun S1829 h1830 n1831 e1832 => ?_)
                      refine T_ziinc xr_82_137 xn_82 (a := n) (z := n + 1) rfl (Nat.le_of_ble_eq_true rfl) (by omega) (ls' := [(2, .int (iI (n + 1))), (6, .int (iI (bI ((X_at tb len k) = 40 ∨ (X_at tb len k) = 41)))), (5, .int (iI (X_at tb len k))), (4, .int (iI k)), (3, .int (iI z)), (0, .ref 501), (1, .ref 2)]) rfl (pc' := 140) rfl ?_
                      refine T_p xr_82_140 xn_82 (pc' := 142) (ls' := [(2, .int (iI (n + 1))), (6, .int (iI (bI ((X_at tb len k) = 40 ∨ (X_at tb len k) = 41)))), (5, .int (iI (X_at tb len k))), (4, .int (iI k)), (3, .int (iI z)), (0, .ref 501), (1, .ref 2)]) (st' := [.int (iI (bI ((X_at tb len k) = 40 ∨ (X_at tb len k) = 41)))]) rfl ?_
                      refine T_bif_eq xr_82_142 (t := 149) (pc' := 145) rfl rfl (fun c1833 => ?_) (fun c1833 => ?_)
                      · skip
                        have c1833 : ¬ ((X_at tb len k) = 40 ∨ (X_at tb len k) = 41) := c1833
                        exact (show False by first | contradiction | omega).elim
                      · skip
                        have c1833 : ((X_at tb len k) = 40 ∨ (X_at tb len k) = 41) := c1833
                        refine T_p xr_82_145 xn_82 (pc' := 146) (ls' := [(2, .int (iI (n + 1))), (6, .int (iI (bI ((X_at tb len k) = 40 ∨ (X_at tb len k) = 41)))), (5, .int (iI (X_at tb len k))), (4, .int (iI k)), (3, .int (iI z)), (0, .ref 501), (1, .ref 2)]) (st' := [.int (iI 0)]) rfl ?_
                        refine T_p xr_82_146 xn_82 (pc' := 150) (ls' := [(2, .int (iI (n + 1))), (6, .int (iI (bI ((X_at tb len k) = 40 ∨ (X_at tb len k) = 41)))), (5, .int (iI (X_at tb len k))), (4, .int (iI k)), (3, .int (iI z)), (0, .ref 501), (1, .ref 2)]) (st' := [.int (iI 0)]) rfl ?_
                        refine T_p xr_82_150 xn_82 (pc' := 151) (ls' := [(3, .int (iI 0)), (2, .int (iI (n + 1))), (6, .int (iI (bI ((X_at tb len k) = 40 ∨ (X_at tb len k) = 41)))), (5, .int (iI (X_at tb len k))), (4, .int (iI k)), (0, .ref 501), (1, .ref 2)]) (st' := []) rfl ?_
                        refine T_ziinc xr_82_151 xn_82 (a := k) (z := k + 1) rfl (Nat.le_of_ble_eq_true rfl) (by omega) (ls' := [(4, .int (iI (k + 1))), (3, .int (iI 0)), (2, .int (iI (n + 1))), (6, .int (iI (bI ((X_at tb len k) = 40 ∨ (X_at tb len k) = 41)))), (5, .int (iI (X_at tb len k))), (0, .ref 501), (1, .ref 2)]) rfl (pc' := 154) rfl ?_
                        refine T_p xr_82_154 xn_82 (pc' := 7) (ls' := [(4, .int (iI (k + 1))), (3, .int (iI 0)), (2, .int (iI (n + 1))), (6, .int (iI (bI ((X_at tb len k) = 40 ∨ (X_at tb len k) = 41)))), (5, .int (iI (X_at tb len k))), (0, .ref 501), (1, .ref 2)]) (st' := []) rfl ?_
                        refine T_sub (ls := [(4, .int (iI (k + 1))), (3, .int (iI 0)), (2, .int (iI (n + 1))), (0, .ref 501), (1, .ref 2)]) ⟨rfl, rfl, rfl, rfl, rfl, trivial⟩ rfl rfl ?_
                        exact ih1783 S1829 (k + 1) (n + 1) 0 (X_ug t n (iI (X_at tb len k)).toInt64) (X_ug dr1 n ((iI (X_at tb len k)).toInt64)) h1830 (hF1786.tr ((X_Fr.rf).tr (X_Fr.of n1831 e1832 (by omega)))) (by omega) (by rw [hgo, if_neg (by omega)]; first | rw [if_pos (by omega)] | rw [if_neg (by omega)]) (fun i h1 h2 => by
                              by_cases hi : i = n
                              · rw [hi, X_ug_s, X_ug_s]
                              · rw [X_ug_n _ _ hi, X_ug_n _ _ hi]; exact hd i h1 (by omega)) (by omega) (by omega)
                    · skip
                      have c1827 : ¬ (¬ n = 30) := c1827
                      refine T_p xr_82_126 xn_82 (pc' := 127) (ls' := [(6, .int (iI (bI ((X_at tb len k) = 40 ∨ (X_at tb len k) = 41)))), (5, .int (iI (X_at tb len k))), (4, .int (iI k)), (3, .int (iI z)), (2, .int (iI n)), (0, .ref 501), (1, .ref 2)]) (st' := [.int (iI 0)]) rfl ?_
                      refine T_iret xr_82_127 xf_82.2.2 (by decide) ?_
                      refine hQ _ _ ?_
                      rw [if_pos (by omega)] at hgo
                      exact Or.inl ⟨dr1, rfl, (X_sn_x (by omega) (by omega) hgo), hdr1, (X_Fr.rf).tr (X_Fr.mono ⟨hF1786.1, hF1786.2⟩ (fun q hq => (by omega)))⟩
                  · skip
                    have c1826 : ¬ ((X_at tb len k) = 40 ∨ (X_at tb len k) = 41) := c1826
                    have hnx : ¬ ((X_at tb len k) < 33 ∨ 126 < (X_at tb len k)) := by omega
                    rw [X_sn1_m hnb hnx (by omega)] at hgo
                    refine T_p xr_82_83 xn_82 (pc' := 84) (ls' := [(6, .int (iI (bI ((X_at tb len k) = 40 ∨ (X_at tb len k) = 41)))), (5, .int (iI (X_at tb len k))), (4, .int (iI k)), (3, .int (iI z)), (2, .int (iI n)), (0, .ref 501), (1, .ref 2)]) (st' := [.int (iI z)]) rfl ?_
                    refine T_p xr_82_84 xn_82 (pc' := 86) (ls' := [(6, .int (iI (bI ((X_at tb len k) = 40 ∨ (X_at tb len k) = 41)))), (5, .int (iI (X_at tb len k))), (4, .int (iI k)), (3, .int (iI z)), (2, .int (iI n)), (0, .ref 501), (1, .ref 2)]) (st' := [.int (iI 8), .int (iI z)]) rfl ?_
                    refine T_zicmp_ne xr_82_86 (t := 91) (pc' := 89) rfl rfl (fun c1834 => ?_) (fun c1834 => ?_)
                    · skip
                      have c1834 : ¬ z = 8 := c1834
                      refine T_p xr_82_91 xn_82 (pc' := 92) (ls' := [(6, .int (iI (bI ((X_at tb len k) = 40 ∨ (X_at tb len k) = 41)))), (5, .int (iI (X_at tb len k))), (4, .int (iI k)), (3, .int (iI z)), (2, .int (iI n)), (0, .ref 501), (1, .ref 2)]) (st' := [.ref 501]) rfl ?_
                      have h1835 := (hF1786.1 501 (by omega)).trans (hO501)
                      refine T_get xr_82_92 h1835 rfl (v := .ref 503) rfl (pc' := 95) rfl ?_
                      refine T_p xr_82_95 xn_82 (pc' := 96) (ls' := [(6, .int (iI (bI ((X_at tb len k) = 40 ∨ (X_at tb len k) = 41)))), (5, .int (iI (X_at tb len k))), (4, .int (iI k)), (3, .int (iI z)), (2, .int (iI n)), (0, .ref 501), (1, .ref 2)]) (st' := [.int (iI n), .ref 503]) rfl ?_
                      refine T_p xr_82_96 xn_82 (pc' := 97) (ls' := [(6, .int (iI (bI ((X_at tb len k) = 40 ∨ (X_at tb len k) = 41)))), (5, .int (iI (X_at tb len k))), (4, .int (iI k)), (3, .int (iI z)), (2, .int (iI n)), (0, .ref 501), (1, .ref 2)]) (st' := [.int (iI 1), .int (iI n), .ref 503]) rfl ?_
                      refine T_zisub xr_82_97 (z := n - 1) rfl (pc' := 98) rfl ?_
                      refine T_p xr_82_98 xn_82 (pc' := 99) (ls' := [(6, .int (iI (bI ((X_at tb len k) = 40 ∨ (X_at tb len k) = 41)))), (5, .int (iI (X_at tb len k))), (4, .int (iI k)), (3, .int (iI z)), (2, .int (iI n)), (0, .ref 501), (1, .ref 2)]) (st' := [.ref 501, .int (iI (n - 1)), .ref 503]) rfl ?_
                      refine T_get xr_82_99 h1835 rfl (v := .ref 503) rfl (pc' := 102) rfl ?_
                      refine T_p xr_82_102 xn_82 (pc' := 103) (ls' := [(6, .int (iI (bI ((X_at tb len k) = 40 ∨ (X_at tb len k) = 41)))), (5, .int (iI (X_at tb len k))), (4, .int (iI k)), (3, .int (iI z)), (2, .int (iI n)), (0, .ref 501), (1, .ref 2)]) (st' := [.int (iI n), .ref 503, .int (iI (n - 1)), .ref 503]) rfl ?_
                      refine T_p xr_82_103 xn_82 (pc' := 104) (ls' := [(6, .int (iI (bI ((X_at tb len k) = 40 ∨ (X_at tb len k) = 41)))), (5, .int (iI (X_at tb len k))), (4, .int (iI k)), (3, .int (iI z)), (2, .int (iI n)), (0, .ref 501), (1, .ref 2)]) (st' := [.int (iI 1), .int (iI n), .ref 503, .int (iI (n - 1)), .ref 503]) rfl ?_
                      refine T_zisub xr_82_104 (z := n - 1) rfl (pc' := 105) rfl ?_
                      refine T_zlald xr_82_105 hdr1 (pc' := 106) rfl ?_
                      refine T_p xr_82_106 xn_82 (pc' := 108) (ls' := [(6, .int (iI (bI ((X_at tb len k) = 40 ∨ (X_at tb len k) = 41)))), (5, .int (iI (X_at tb len k))), (4, .int (iI k)), (3, .int (iI z)), (2, .int (iI n)), (0, .ref 501), (1, .ref 2)]) (st' := [.int (iI 8), .long (dr1 (n - 1)), .int (iI (n - 1)), .ref 503]) rfl ?_
                      refine T_p xr_82_108 xn_82 (pc' := 109) (ls' := [(6, .int (iI (bI ((X_at tb len k) = 40 ∨ (X_at tb len k) = 41)))), (5, .int (iI (X_at tb len k))), (4, .int (iI k)), (3, .int (iI z)), (2, .int (iI n)), (0, .ref 501), (1, .ref 2)]) (st' := [.long ((dr1 (n - 1)) <<< ((iI 8).toInt64 &&& 63)), .int (iI (n - 1)), .ref 503]) rfl ?_
                      refine T_p xr_82_109 xn_82 (pc' := 111) (ls' := [(6, .int (iI (bI ((X_at tb len k) = 40 ∨ (X_at tb len k) = 41)))), (5, .int (iI (X_at tb len k))), (4, .int (iI k)), (3, .int (iI z)), (2, .int (iI n)), (0, .ref 501), (1, .ref 2)]) (st' := [.int (iI (X_at tb len k)), .long ((dr1 (n - 1)) <<< ((iI 8).toInt64 &&& 63)), .int (iI (n - 1)), .ref 503]) rfl ?_
                      refine T_p xr_82_111 xn_82 (pc' := 112) (ls' := [(6, .int (iI (bI ((X_at tb len k) = 40 ∨ (X_at tb len k) = 41)))), (5, .int (iI (X_at tb len k))), (4, .int (iI k)), (3, .int (iI z)), (2, .int (iI n)), (0, .ref 501), (1, .ref 2)]) (st' := [.long ((iI (X_at tb len k)).toInt64), .long ((dr1 (n - 1)) <<< ((iI 8).toInt64 &&& 63)), .int (iI (n - 1)), .ref 503]) rfl ?_
                      refine T_p xr_82_112 xn_82 (pc' := 113) (ls' := [(6, .int (iI (bI ((X_at tb len k) = 40 ∨ (X_at tb len k) = 41)))), (5, .int (iI (X_at tb len k))), (4, .int (iI k)), (3, .int (iI z)), (2, .int (iI n)), (0, .ref 501), (1, .ref 2)]) (st' := [.long (((dr1 (n - 1)) <<< ((iI 8).toInt64 &&& 63)) ||| ((iI (X_at tb len k)).toInt64)), .int (iI (n - 1)), .ref 503]) rfl ?_
                      refine T_zlast xr_82_113 hdr1 (pc' := 114) rfl (fun S1836 h1837 n1838 e1839 => ?_)
                      refine T_ziinc xr_82_114 xn_82 (a := z) (z := z + 1) rfl (Nat.le_of_ble_eq_true rfl) (by omega) (ls' := [(3, .int (iI (z + 1))), (6, .int (iI (bI ((X_at tb len k) = 40 ∨ (X_at tb len k) = 41)))), (5, .int (iI (X_at tb len k))), (4, .int (iI k)), (2, .int (iI n)), (0, .ref 501), (1, .ref 2)]) rfl (pc' := 117) rfl ?_
                      refine T_p xr_82_117 xn_82 (pc' := 151) (ls' := [(3, .int (iI (z + 1))), (6, .int (iI (bI ((X_at tb len k) = 40 ∨ (X_at tb len k) = 41)))), (5, .int (iI (X_at tb len k))), (4, .int (iI k)), (2, .int (iI n)), (0, .ref 501), (1, .ref 2)]) (st' := []) rfl ?_
                      refine T_ziinc xr_82_151 xn_82 (a := k) (z := k + 1) rfl (Nat.le_of_ble_eq_true rfl) (by omega) (ls' := [(4, .int (iI (k + 1))), (3, .int (iI (z + 1))), (6, .int (iI (bI ((X_at tb len k) = 40 ∨ (X_at tb len k) = 41)))), (5, .int (iI (X_at tb len k))), (2, .int (iI n)), (0, .ref 501), (1, .ref 2)]) rfl (pc' := 154) rfl ?_
                      refine T_p xr_82_154 xn_82 (pc' := 7) (ls' := [(4, .int (iI (k + 1))), (3, .int (iI (z + 1))), (6, .int (iI (bI ((X_at tb len k) = 40 ∨ (X_at tb len k) = 41)))), (5, .int (iI (X_at tb len k))), (2, .int (iI n)), (0, .ref 501), (1, .ref 2)]) (st' := []) rfl ?_
                      refine T_sub (ls := [(4, .int (iI (k + 1))), (3, .int (iI (z + 1))), (2, .int (iI n)), (0, .ref 501), (1, .ref 2)]) ⟨rfl, rfl, rfl, rfl, rfl, trivial⟩ rfl rfl ?_
                      exact ih1783 S1836 (k + 1) n (z + 1) (X_ug t (n - 1) (X_pk1 (t (n - 1)) (X_at tb len k))) (X_ug dr1 (n - 1) (((dr1 (n - 1)) <<< ((iI 8).toInt64 &&& 63)) ||| ((iI (X_at tb len k)).toInt64))) h1837 (hF1786.tr ((X_Fr.rf).tr (X_Fr.of n1838 e1839 (by omega)))) (by omega) (by rw [hgo, if_neg (by omega)]) (fun i h1 h2 => by
                            by_cases hi : i = n - 1
                            · rw [hi, X_ug_s, X_ug_s, hd (n - 1) (by omega) (by omega)]; rfl
                            · rw [X_ug_n _ _ hi, X_ug_n _ _ hi]; exact hd i h1 h2) (by omega) (by omega)
                    · skip
                      have c1834 : ¬ (¬ z = 8) := c1834
                      refine T_p xr_82_89 xn_82 (pc' := 90) (ls' := [(6, .int (iI (bI ((X_at tb len k) = 40 ∨ (X_at tb len k) = 41)))), (5, .int (iI (X_at tb len k))), (4, .int (iI k)), (3, .int (iI z)), (2, .int (iI n)), (0, .ref 501), (1, .ref 2)]) (st' := [.int (iI 0)]) rfl ?_
                      refine T_iret xr_82_90 xf_82.2.2 (by decide) ?_
                      refine hQ _ _ ?_
                      rw [if_pos (by omega)] at hgo
                      exact Or.inl ⟨dr1, rfl, (X_sn_x (by omega) (by omega) hgo), hdr1, (X_Fr.rf).tr (X_Fr.mono ⟨hF1786.1, hF1786.2⟩ (fun q hq => (by omega)))⟩
              · skip
                have c1817 : ¬ ((X_at tb len k) ≤ 126) := c1817
                refine T_p xr_82_72 xn_82 (pc' := 73) (ls' := [(6, .int (iI (bI ((X_at tb len k) = 40 ∨ (X_at tb len k) = 41)))), (5, .int (iI (X_at tb len k))), (4, .int (iI k)), (3, .int (iI z)), (2, .int (iI n)), (0, .ref 501), (1, .ref 2)]) (st' := [.int (iI 0)]) rfl ?_
                refine T_iret xr_82_73 xf_82.2.2 (by decide) ?_
                refine hQ _ _ ?_
                rw [X_sn1_x hnb (by omega)] at hgo
                exact Or.inl ⟨dr1, rfl, (X_sn_x (by omega) (by omega) hgo), hdr1, (X_Fr.rf).tr (X_Fr.mono ⟨hF1786.1, hF1786.2⟩ (fun q hq => (by omega)))⟩
          · skip
            have c1815 : (X_isBl (X_at tb len k)) := c1815
            rw [X_sn1_b (by assumption)] at hgo
            refine T_p xr_82_53 xn_82 (pc' := 54) (ls' := [(6, .int (iI (bI ((X_at tb len k) = 40 ∨ (X_at tb len k) = 41)))), (5, .int (iI (X_at tb len k))), (4, .int (iI k)), (3, .int (iI z)), (2, .int (iI n)), (0, .ref 501), (1, .ref 2)]) (st' := [.int (iI 0)]) rfl ?_
            refine T_p xr_82_54 xn_82 (pc' := 55) (ls' := [(3, .int (iI 0)), (6, .int (iI (bI ((X_at tb len k) = 40 ∨ (X_at tb len k) = 41)))), (5, .int (iI (X_at tb len k))), (4, .int (iI k)), (2, .int (iI n)), (0, .ref 501), (1, .ref 2)]) (st' := []) rfl ?_
            refine T_p xr_82_55 xn_82 (pc' := 151) (ls' := [(3, .int (iI 0)), (6, .int (iI (bI ((X_at tb len k) = 40 ∨ (X_at tb len k) = 41)))), (5, .int (iI (X_at tb len k))), (4, .int (iI k)), (2, .int (iI n)), (0, .ref 501), (1, .ref 2)]) (st' := []) rfl ?_
            refine T_ziinc xr_82_151 xn_82 (a := k) (z := k + 1) rfl (Nat.le_of_ble_eq_true rfl) (by omega) (ls' := [(4, .int (iI (k + 1))), (3, .int (iI 0)), (6, .int (iI (bI ((X_at tb len k) = 40 ∨ (X_at tb len k) = 41)))), (5, .int (iI (X_at tb len k))), (2, .int (iI n)), (0, .ref 501), (1, .ref 2)]) rfl (pc' := 154) rfl ?_
            refine T_p xr_82_154 xn_82 (pc' := 7) (ls' := [(4, .int (iI (k + 1))), (3, .int (iI 0)), (6, .int (iI (bI ((X_at tb len k) = 40 ∨ (X_at tb len k) = 41)))), (5, .int (iI (X_at tb len k))), (2, .int (iI n)), (0, .ref 501), (1, .ref 2)]) (st' := []) rfl ?_
            refine T_sub (ls := [(4, .int (iI (k + 1))), (3, .int (iI 0)), (2, .int (iI n)), (0, .ref 501), (1, .ref 2)]) ⟨rfl, rfl, rfl, rfl, rfl, trivial⟩ rfl rfl ?_
            exact ih1783 S1787 (k + 1) n 0 t dr1 hdr1 (hF1786.tr (X_Fr.rf)) (by omega) hgo hd (by omega) (by omega)
        refine T_p xr_82_24 xn_82 (pc' := 26) (ls' := [(5, .int (iI (X_at tb len k))), (4, .int (iI k)), (3, .int (iI z)), (2, .int (iI n)), (0, .ref 501), (1, .ref 2)]) (st' := [.int (iI (X_at tb len k))]) rfl ?_
        refine T_p xr_82_26 xn_82 (pc' := 28) (ls' := [(5, .int (iI (X_at tb len k))), (4, .int (iI k)), (3, .int (iI z)), (2, .int (iI n)), (0, .ref 501), (1, .ref 2)]) (st' := [.int (iI 40), .int (iI (X_at tb len k))]) rfl ?_
        refine T_zicmp_eq xr_82_28 (t := 38) (pc' := 31) rfl rfl (fun c1840 => ?_) (fun c1840 => ?_)
        · skip
          have c1840 : (X_at tb len k) = 40 := c1840
          refine T_p xr_82_38 xn_82 (pc' := 39) (ls' := [(5, .int (iI (X_at tb len k))), (4, .int (iI k)), (3, .int (iI z)), (2, .int (iI n)), (0, .ref 501), (1, .ref 2)]) (st' := [.int (iI 1)]) rfl ?_
          refine T_p xr_82_39 xn_82 (pc' := 43) (ls' := [(5, .int (iI (X_at tb len k))), (4, .int (iI k)), (3, .int (iI z)), (2, .int (iI n)), (0, .ref 501), (1, .ref 2)]) (st' := [.int (iI 1)]) rfl ?_
          refine T_ie (y := iI (bI ((X_at tb len k) = 40 ∨ (X_at tb len k) = 41))) (by rw [bI_t (by first | exact Or.inl (by assumption) | exact Or.inr (by omega) | omega)]) ?_
          exact J1809
        · skip
          have c1840 : ¬ ((X_at tb len k) = 40) := c1840
          refine T_p xr_82_31 xn_82 (pc' := 33) (ls' := [(5, .int (iI (X_at tb len k))), (4, .int (iI k)), (3, .int (iI z)), (2, .int (iI n)), (0, .ref 501), (1, .ref 2)]) (st' := [.int (iI (X_at tb len k))]) rfl ?_
          refine T_p xr_82_33 xn_82 (pc' := 35) (ls' := [(5, .int (iI (X_at tb len k))), (4, .int (iI k)), (3, .int (iI z)), (2, .int (iI n)), (0, .ref 501), (1, .ref 2)]) (st' := [.int (iI 41), .int (iI (X_at tb len k))]) rfl ?_
          refine T_zicmp_ne xr_82_35 (t := 42) (pc' := 38) rfl rfl (fun c1841 => ?_) (fun c1841 => ?_)
          · skip
            have c1841 : ¬ (X_at tb len k) = 41 := c1841
            refine T_p xr_82_42 xn_82 (pc' := 43) (ls' := [(5, .int (iI (X_at tb len k))), (4, .int (iI k)), (3, .int (iI z)), (2, .int (iI n)), (0, .ref 501), (1, .ref 2)]) (st' := [.int (iI 0)]) rfl ?_
            refine T_ie (y := iI (bI ((X_at tb len k) = 40 ∨ (X_at tb len k) = 41))) (by rw [bI_f (by omega)]) ?_
            exact J1809
          · skip
            have c1841 : ¬ (¬ (X_at tb len k) = 41) := c1841
            refine T_p xr_82_38 xn_82 (pc' := 39) (ls' := [(5, .int (iI (X_at tb len k))), (4, .int (iI k)), (3, .int (iI z)), (2, .int (iI n)), (0, .ref 501), (1, .ref 2)]) (st' := [.int (iI 1)]) rfl ?_
            refine T_p xr_82_39 xn_82 (pc' := 43) (ls' := [(5, .int (iI (X_at tb len k))), (4, .int (iI k)), (3, .int (iI z)), (2, .int (iI n)), (0, .ref 501), (1, .ref 2)]) (st' := [.int (iI 1)]) rfl ?_
            refine T_ie (y := iI (bI ((X_at tb len k) = 40 ∨ (X_at tb len k) = 41))) (by rw [bI_t (by first | exact Or.inl (by assumption) | exact Or.inr (by omega) | omega)]) ?_
            exact J1809
  exact L1782 (len + 1).toNat S 0 0 0 (fun _ => 0) dr hA503 ((X_Fr.rf)) (by omega) rfl (fun i h1 h2 => absurd h2 (by omega)) (by omega) (by omega)
theorem c_dropReading (sc : X_Sc) (S : X_S) (B : Nat) (B2 : Nat) (B3 : Nat) (fl : Int) (nc : Int) (rs : Int) (re : Int) (hgt : Int) (hO1 : S.1 1 = .inr (10, [.ref 2, .ref B, .ref B2, .ref 496, .ref 501, .ref 504, .ref 511, .ref 517, .ref 527])) (hO511 : S.1 511 = .inr (1, [.ref B3, .ref 501, .int (iI fl), .ref 512, .ref 513, .ref 514, .ref 515, .ref 516])) (hO504 : S.1 504 = .inr (5, [.int (iI nc), .ref 505, .ref 506, .ref 507, .ref 508, .ref 509, .ref 510])) (hO527 : S.1 527 = .inr (9, [.ref 501, .ref 504, .int (iI rs), .int (iI re), .ref 528, .ref 529, .int (iI hgt)])) : X_T sc 111 (0, [(0, .ref 1)], [], S) (fun v S' => v = none ∧ S'.1 511 = .inr (1, [.ref B, .ref 501, .int (iI 0), .ref 512, .ref 513, .ref 514, .ref 515, .ref 516]) ∧ S'.1 504 = .inr (5, [.int (iI 0), .ref 505, .ref 506, .ref 507, .ref 508, .ref 509, .ref 510]) ∧ S'.1 527 = .inr (9, [.ref 501, .ref 504, .int (iI 0), .int (iI (-1)), .ref 528, .ref 529, .int (iI hgt)]) ∧ (X_Fr (fun q => q = 511 ∨ q = 504 ∨ q = 527) S S')) := by
  refine X_QI (fun Q hQ => ?_)
  refine T_p xr_111_0 xn_111 (pc' := 1) (ls' := [(0, .ref 1)]) (st' := [.ref 1]) rfl ?_
  refine T_get xr_111_1 hO1 rfl (v := .ref 511) rfl (pc' := 4) rfl ?_
  refine T_p xr_111_4 xn_111 (pc' := 5) (ls' := [(0, .ref 1)]) (st' := [.ref 1, .ref 511]) rfl ?_
  refine T_get xr_111_5 hO1 rfl (v := .ref B) rfl (pc' := 8) rfl ?_
  refine T_cv (S := S) (q := 511) xr_111_8 xf_18.1 xf_18.2.1 xn_18 (as := [.ref B]) (r := []) rfl hO511 (Nat.le_of_ble_eq_true rfl) (Nat.le_of_ble_eq_true rfl) (pc' := 11) rfl (ls' := [(0, .ref 511), (1, .ref B)]) rfl ?_
  refine T_p xr_18_0 xn_18 (pc' := 1) (ls' := [(0, .ref 511), (1, .ref B)]) (st' := [.ref 511]) rfl ?_
  refine T_p xr_18_1 xn_18 (pc' := 2) (ls' := [(0, .ref 511), (1, .ref B)]) (st' := [.ref B, .ref 511]) rfl ?_
  refine T_put xr_18_2 hO511 rfl (Nat.le_of_ble_eq_true rfl) rfl (fs' := [.ref B, .ref 501, .int (iI fl), .ref 512, .ref 513, .ref 514, .ref 515, .ref 516]) rfl (pc' := 5) rfl (fun S1842 h1843 n1844 e1845 => ?_)
  refine T_p xr_18_5 xn_18 (pc' := 6) (ls' := [(0, .ref 511), (1, .ref B)]) (st' := [.ref 511]) rfl ?_
  refine T_p xr_18_6 xn_18 (pc' := 7) (ls' := [(0, .ref 511), (1, .ref B)]) (st' := [.int (iI 0), .ref 511]) rfl ?_
  refine T_put xr_18_7 h1843 rfl (Nat.le_of_ble_eq_true rfl) rfl (fs' := [.ref B, .ref 501, .int (iI 0), .ref 512, .ref 513, .ref 514, .ref 515, .ref 516]) rfl (pc' := 10) rfl (fun S1846 h1847 n1848 e1849 => ?_)
  refine T_vret xr_18_10 xf_18.2.2 ?_
  show X_T sc 111 (11, [(0, .ref 1)], [], S1846) _
  refine T_p xr_111_11 xn_111 (pc' := 12) (ls' := [(0, .ref 1)]) (st' := [.ref 1]) rfl ?_
  have h1850 := (n1848 1 (by decide)).trans ((n1844 1 (by decide)).trans (hO1))
  refine T_get xr_111_12 h1850 rfl (v := .ref 504) rfl (pc' := 15) rfl ?_
  have h1851 := (n1848 504 (by decide)).trans ((n1844 504 (by decide)).trans (hO504))
  refine T_cv (S := S1846) (q := 504) xr_111_15 xf_79.1 xf_79.2.1 xn_79 (as := []) (r := []) rfl h1851 (Nat.le_of_ble_eq_true rfl) (Nat.le_of_ble_eq_true rfl) (pc' := 18) rfl (ls' := [(0, .ref 504)]) rfl ?_
  refine T_p xr_79_0 xn_79 (pc' := 1) (ls' := [(0, .ref 504)]) (st' := [.ref 504]) rfl ?_
  refine T_p xr_79_1 xn_79 (pc' := 2) (ls' := [(0, .ref 504)]) (st' := [.int (iI 0), .ref 504]) rfl ?_
  refine T_put xr_79_2 h1851 rfl (Nat.le_of_ble_eq_true rfl) rfl (fs' := [.int (iI 0), .ref 505, .ref 506, .ref 507, .ref 508, .ref 509, .ref 510]) rfl (pc' := 5) rfl (fun S1852 h1853 n1854 e1855 => ?_)
  refine T_vret xr_79_5 xf_79.2.2 ?_
  show X_T sc 111 (18, [(0, .ref 1)], [], S1852) _
  refine T_p xr_111_18 xn_111 (pc' := 19) (ls' := [(0, .ref 1)]) (st' := [.ref 1]) rfl ?_
  have h1856 := (n1854 1 (by decide)).trans (h1850)
  refine T_get xr_111_19 h1856 rfl (v := .ref 527) rfl (pc' := 22) rfl ?_
  have h1857 := (n1854 527 (by decide)).trans ((n1848 527 (by decide)).trans ((n1844 527 (by decide)).trans (hO527)))
  refine T_cv (S := S1852) (q := 527) xr_111_22 xf_99.1 xf_99.2.1 xn_99 (as := []) (r := []) rfl h1857 (Nat.le_of_ble_eq_true rfl) (Nat.le_of_ble_eq_true rfl) (pc' := 25) rfl (ls' := [(0, .ref 527)]) rfl ?_
  refine T_mono (c_forget sc S1852 rs re hgt h1857) (fun v1858 S1859 h1860 => ?_)
  rcases h1860 with ⟨hv1861, ho1862, hf1863⟩
  rw [hv1861]
  show X_T sc 111 (25, [(0, .ref 1)], [], S1859) _
  refine T_vret xr_111_25 xf_111.2.2 ?_
  refine hQ _ _ ?_
  have h1864 := (hf1863.1 511 (by omega)).trans ((n1854 511 (by decide)).trans (h1847))
  have h1865 := (hf1863.1 504 (by omega)).trans (h1853)
  exact ⟨rfl, h1864, h1865, ho1862, ((((X_Fr.rf).tr (X_Fr.of n1844 e1845 (by omega))).tr (X_Fr.of n1848 e1849 (by omega))).tr (X_Fr.of n1854 e1855 (by omega))).tr (X_Fr.mono ⟨hf1863.1, hf1863.2⟩ (fun q hq => (by omega)))⟩
