theorem xr_79_0 : X_row 79 0 = some (0, (.aload_n 0, 1), (0, 0, 0)) := by decide +kernel
theorem xr_79_1 : X_row 79 1 = some (1, (.getfield 23, 3), (4, 0, 18)) := by decide +kernel
theorem xr_79_4 : X_row 79 4 = some (4, (.invokevirtual 73, 3), (49, 14, 0)) := by decide +kernel
theorem xr_79_7 : X_row 79 7 = some (7, (.istore_n 3, 1), (0, 0, 0)) := by decide +kernel
theorem xr_79_8 : X_row 79 8 = some (8, (.aload_n 0, 1), (0, 0, 0)) := by decide +kernel
theorem xr_79_9 : X_row 79 9 = some (9, (.invokevirtual 190, 3), (80, 66, 0)) := by decide +kernel
theorem xr_79_12 : X_row 79 12 = some (12, (.ifCond .eq 7, 3), (0, 0, 0)) := by decide +kernel
theorem xr_79_15 : X_row 79 15 = some (15, (.iconst 4, 1), (0, 0, 0)) := by decide +kernel
theorem xr_79_16 : X_row 79 16 = some (16, (.goto 10, 3), (0, 0, 0)) := by decide +kernel
theorem xr_79_19 : X_row 79 19 = some (19, (.aload_n 0, 1), (0, 0, 0)) := by decide +kernel
theorem xr_79_20 : X_row 79 20 = some (20, (.getfield 23, 3), (4, 0, 18)) := by decide +kernel
theorem xr_79_23 : X_row 79 23 = some (23, (.invokevirtual 39, 3), (48, 6, 0)) := by decide +kernel
theorem xr_79_26 : X_row 79 26 = some (26, (.istore 4, 2), (0, 0, 0)) := by decide +kernel
theorem xr_79_28 : X_row 79 28 = some (28, (.iload 4, 2), (0, 0, 0)) := by decide +kernel
theorem xr_79_30 : X_row 79 30 = some (30, (.bipush 64, 2), (0, 0, 0)) := by decide +kernel
theorem xr_79_32 : X_row 79 32 = some (32, (.if_icmp .ne 27, 3), (0, 0, 0)) := by decide +kernel
theorem xr_79_35 : X_row 79 35 = some (35, (.aload_n 0, 1), (0, 0, 0)) := by decide +kernel
theorem xr_79_36 : X_row 79 36 = some (36, (.getfield 23, 3), (4, 0, 18)) := by decide +kernel
theorem xr_79_39 : X_row 79 39 = some (39, (.invokevirtual 80, 3), (52, 18, 0)) := by decide +kernel
theorem xr_79_42 : X_row 79 42 = some (42, (.aload_n 0, 1), (0, 0, 0)) := by decide +kernel
theorem xr_79_43 : X_row 79 43 = some (43, (.getfield 23, 3), (4, 0, 18)) := by decide +kernel
theorem xr_79_46 : X_row 79 46 = some (46, (.invokevirtual 39, 3), (48, 6, 0)) := by decide +kernel
theorem xr_79_49 : X_row 79 49 = some (49, (.iconst 5, 1), (0, 0, 0)) := by decide +kernel
theorem xr_79_50 : X_row 79 50 = some (50, (.if_icmp .eq 29, 3), (0, 0, 0)) := by decide +kernel
theorem xr_79_53 : X_row 79 53 = some (53, (.aload_n 0, 1), (0, 0, 0)) := by decide +kernel
theorem xr_79_54 : X_row 79 54 = some (54, (.invokevirtual 67, 3), (67, 12, 0)) := by decide +kernel
theorem xr_79_57 : X_row 79 57 = some (57, (.iconst (-1), 1), (0, 0, 0)) := by decide +kernel
theorem xr_79_58 : X_row 79 58 = some (58, (.ireturn, 1), (0, 0, 0)) := by decide +kernel
theorem xr_79_59 : X_row 79 59 = some (59, (.iload 4, 2), (0, 0, 0)) := by decide +kernel
theorem xr_79_61 : X_row 79 61 = some (61, (.iconst 4, 1), (0, 0, 0)) := by decide +kernel
theorem xr_79_62 : X_row 79 62 = some (62, (.if_icmp .eq 17, 3), (0, 0, 0)) := by decide +kernel
theorem xr_79_65 : X_row 79 65 = some (65, (.iload 4, 2), (0, 0, 0)) := by decide +kernel
theorem xr_79_67 : X_row 79 67 = some (67, (.invokestatic 193, 3), (81, 68, 0)) := by decide +kernel
theorem xr_79_70 : X_row 79 70 = some (70, (.ifCond .ne 9, 3), (0, 0, 0)) := by decide +kernel
theorem xr_79_73 : X_row 79 73 = some (73, (.aload_n 0, 1), (0, 0, 0)) := by decide +kernel
theorem xr_79_74 : X_row 79 74 = some (74, (.invokevirtual 67, 3), (67, 12, 0)) := by decide +kernel
theorem xr_79_77 : X_row 79 77 = some (77, (.iconst (-1), 1), (0, 0, 0)) := by decide +kernel
theorem xr_79_78 : X_row 79 78 = some (78, (.ireturn, 1), (0, 0, 0)) := by decide +kernel
theorem xr_79_79 : X_row 79 79 = some (79, (.aload_n 0, 1), (0, 0, 0)) := by decide +kernel
theorem xr_79_80 : X_row 79 80 = some (80, (.getfield 23, 3), (4, 0, 18)) := by decide +kernel
theorem xr_79_83 : X_row 79 83 = some (83, (.invokevirtual 86, 3), (50, 20, 0)) := by decide +kernel
theorem xr_79_86 : X_row 79 86 = some (86, (.l2i, 1), (0, 0, 0)) := by decide +kernel
theorem xr_79_87 : X_row 79 87 = some (87, (.istore 5, 2), (0, 0, 0)) := by decide +kernel
theorem xr_79_89 : X_row 79 89 = some (89, (.iload 4, 2), (0, 0, 0)) := by decide +kernel
theorem xr_79_91 : X_row 79 91 = some (91, (.bipush 64, 2), (0, 0, 0)) := by decide +kernel
theorem xr_79_93 : X_row 79 93 = some (93, (.if_icmp .ne 22, 3), (0, 0, 0)) := by decide +kernel
theorem xr_79_96 : X_row 79 96 = some (96, (.iload 5, 2), (0, 0, 0)) := by decide +kernel
theorem xr_79_98 : X_row 79 98 = some (98, (.iconst 1, 1), (0, 0, 0)) := by decide +kernel
theorem xr_79_99 : X_row 79 99 = some (99, (.if_icmp .lt 12, 3), (0, 0, 0)) := by decide +kernel
theorem xr_79_102 : X_row 79 102 = some (102, (.iload 5, 2), (0, 0, 0)) := by decide +kernel
theorem xr_79_104 : X_row 79 104 = some (104, (.aload_n 1, 1), (0, 0, 0)) := by decide +kernel
theorem xr_79_105 : X_row 79 105 = some (105, (.getfield 161, 3), (8, 4, 7)) := by decide +kernel
theorem xr_79_108 : X_row 79 108 = some (108, (.if_icmp .le 7, 3), (0, 0, 0)) := by decide +kernel
theorem xr_79_111 : X_row 79 111 = some (111, (.iconst 1, 1), (0, 0, 0)) := by decide +kernel
theorem xr_79_112 : X_row 79 112 = some (112, (.goto 4, 3), (0, 0, 0)) := by decide +kernel
theorem xr_79_115 : X_row 79 115 = some (115, (.iconst 0, 1), (0, 0, 0)) := by decide +kernel
theorem xr_79_116 : X_row 79 116 = some (116, (.istore 6, 2), (0, 0, 0)) := by decide +kernel
theorem xr_79_118 : X_row 79 118 = some (118, (.iload 4, 2), (0, 0, 0)) := by decide +kernel
theorem xr_79_120 : X_row 79 120 = some (120, (.invokestatic 193, 3), (81, 68, 0)) := by decide +kernel
theorem xr_79_123 : X_row 79 123 = some (123, (.ifCond .ne 13, 3), (0, 0, 0)) := by decide +kernel
theorem xr_79_126 : X_row 79 126 = some (126, (.iload_n 2, 1), (0, 0, 0)) := by decide +kernel
theorem xr_79_127 : X_row 79 127 = some (127, (.bipush 16, 2), (0, 0, 0)) := by decide +kernel
theorem xr_79_129 : X_row 79 129 = some (129, (.if_icmp .ne 7, 3), (0, 0, 0)) := by decide +kernel
theorem xr_79_132 : X_row 79 132 = some (132, (.iconst 1, 1), (0, 0, 0)) := by decide +kernel
theorem xr_79_133 : X_row 79 133 = some (133, (.goto 4, 3), (0, 0, 0)) := by decide +kernel
theorem xr_79_136 : X_row 79 136 = some (136, (.iconst 0, 1), (0, 0, 0)) := by decide +kernel
theorem xr_79_137 : X_row 79 137 = some (137, (.istore 7, 2), (0, 0, 0)) := by decide +kernel
theorem xr_79_139 : X_row 79 139 = some (139, (.iload 4, 2), (0, 0, 0)) := by decide +kernel
theorem xr_79_141 : X_row 79 141 = some (141, (.invokestatic 193, 3), (81, 68, 0)) := by decide +kernel
theorem xr_79_144 : X_row 79 144 = some (144, (.ifCond .eq 12, 3), (0, 0, 0)) := by decide +kernel
theorem xr_79_147 : X_row 79 147 = some (147, (.iload_n 2, 1), (0, 0, 0)) := by decide +kernel
theorem xr_79_148 : X_row 79 148 = some (148, (.iconst 2, 1), (0, 0, 0)) := by decide +kernel
theorem xr_79_149 : X_row 79 149 = some (149, (.if_icmp .ge 7, 3), (0, 0, 0)) := by decide +kernel
theorem xr_79_152 : X_row 79 152 = some (152, (.iconst 1, 1), (0, 0, 0)) := by decide +kernel
theorem xr_79_153 : X_row 79 153 = some (153, (.goto 4, 3), (0, 0, 0)) := by decide +kernel
theorem xr_79_156 : X_row 79 156 = some (156, (.iconst 0, 1), (0, 0, 0)) := by decide +kernel
theorem xr_79_157 : X_row 79 157 = some (157, (.istore 8, 2), (0, 0, 0)) := by decide +kernel
theorem xr_79_159 : X_row 79 159 = some (159, (.iload 6, 2), (0, 0, 0)) := by decide +kernel
theorem xr_79_161 : X_row 79 161 = some (161, (.ifCond .ne 13, 3), (0, 0, 0)) := by decide +kernel
theorem xr_79_164 : X_row 79 164 = some (164, (.iload 7, 2), (0, 0, 0)) := by decide +kernel
theorem xr_79_166 : X_row 79 166 = some (166, (.ifCond .ne 8, 3), (0, 0, 0)) := by decide +kernel
theorem xr_79_169 : X_row 79 169 = some (169, (.iload 8, 2), (0, 0, 0)) := by decide +kernel
theorem xr_79_171 : X_row 79 171 = some (171, (.ifCond .eq 11, 3), (0, 0, 0)) := by decide +kernel
theorem xr_79_174 : X_row 79 174 = some (174, (.aload_n 0, 1), (0, 0, 0)) := by decide +kernel
theorem xr_79_175 : X_row 79 175 = some (175, (.iconst 5, 1), (0, 0, 0)) := by decide +kernel
theorem xr_79_176 : X_row 79 176 = some (176, (.iload_n 3, 1), (0, 0, 0)) := by decide +kernel
theorem xr_79_177 : X_row 79 177 = some (177, (.invokevirtual 76, 3), (66, 16, 0)) := by decide +kernel
theorem xr_79_180 : X_row 79 180 = some (180, (.iconst (-1), 1), (0, 0, 0)) := by decide +kernel
theorem xr_79_181 : X_row 79 181 = some (181, (.ireturn, 1), (0, 0, 0)) := by decide +kernel
theorem xr_79_182 : X_row 79 182 = some (182, (.aload_n 1, 1), (0, 0, 0)) := by decide +kernel
theorem xr_79_183 : X_row 79 183 = some (183, (.iload 4, 2), (0, 0, 0)) := by decide +kernel
theorem xr_79_185 : X_row 79 185 = some (185, (.iload 5, 2), (0, 0, 0)) := by decide +kernel
theorem xr_79_187 : X_row 79 187 = some (187, (.invokevirtual 196, 3), (99, 70, 0)) := by decide +kernel
theorem xr_79_190 : X_row 79 190 = some (190, (.aload_n 0, 1), (0, 0, 0)) := by decide +kernel
theorem xr_79_191 : X_row 79 191 = some (191, (.getfield 23, 3), (4, 0, 18)) := by decide +kernel
theorem xr_79_194 : X_row 79 194 = some (194, (.invokevirtual 80, 3), (52, 18, 0)) := by decide +kernel
theorem xr_79_197 : X_row 79 197 = some (197, (.iload 4, 2), (0, 0, 0)) := by decide +kernel
theorem xr_79_199 : X_row 79 199 = some (199, (.invokestatic 193, 3), (81, 68, 0)) := by decide +kernel
theorem xr_79_202 : X_row 79 202 = some (202, (.ifCond .eq 9, 3), (0, 0, 0)) := by decide +kernel
theorem xr_79_205 : X_row 79 205 = some (205, (.iload_n 2, 1), (0, 0, 0)) := by decide +kernel
theorem xr_79_206 : X_row 79 206 = some (206, (.iconst 1, 1), (0, 0, 0)) := by decide +kernel
theorem xr_79_207 : X_row 79 207 = some (207, (.isub, 1), (0, 0, 0)) := by decide +kernel
theorem xr_79_208 : X_row 79 208 = some (208, (.goto 6, 3), (0, 0, 0)) := by decide +kernel
theorem xr_79_211 : X_row 79 211 = some (211, (.iload_n 2, 1), (0, 0, 0)) := by decide +kernel
theorem xr_79_212 : X_row 79 212 = some (212, (.iconst 1, 1), (0, 0, 0)) := by decide +kernel
theorem xr_79_213 : X_row 79 213 = some (213, (.iadd, 1), (0, 0, 0)) := by decide +kernel
theorem xr_79_214 : X_row 79 214 = some (214, (.ireturn, 1), (0, 0, 0)) := by decide +kernel
theorem xr_80_0 : X_row 80 0 = some (0, (.aload_n 0, 1), (0, 0, 0)) := by decide +kernel
theorem xr_80_1 : X_row 80 1 = some (1, (.getfield 23, 3), (4, 0, 18)) := by decide +kernel
theorem xr_80_4 : X_row 80 4 = some (4, (.invokevirtual 39, 3), (48, 6, 0)) := by decide +kernel
theorem xr_80_7 : X_row 80 7 = some (7, (.iconst 4, 1), (0, 0, 0)) := by decide +kernel
theorem xr_80_8 : X_row 80 8 = some (8, (.if_icmp .eq 14, 3), (0, 0, 0)) := by decide +kernel
theorem xr_80_11 : X_row 80 11 = some (11, (.aload_n 0, 1), (0, 0, 0)) := by decide +kernel
theorem xr_80_12 : X_row 80 12 = some (12, (.getfield 23, 3), (4, 0, 18)) := by decide +kernel
theorem xr_80_15 : X_row 80 15 = some (15, (.invokevirtual 39, 3), (48, 6, 0)) := by decide +kernel
theorem xr_80_18 : X_row 80 18 = some (18, (.iconst 5, 1), (0, 0, 0)) := by decide +kernel
theorem xr_80_19 : X_row 80 19 = some (19, (.if_icmp .ne 7, 3), (0, 0, 0)) := by decide +kernel
theorem xr_80_22 : X_row 80 22 = some (22, (.iconst 1, 1), (0, 0, 0)) := by decide +kernel
theorem xr_80_23 : X_row 80 23 = some (23, (.goto 4, 3), (0, 0, 0)) := by decide +kernel
theorem xr_80_26 : X_row 80 26 = some (26, (.iconst 0, 1), (0, 0, 0)) := by decide +kernel
theorem xr_80_27 : X_row 80 27 = some (27, (.ireturn, 1), (0, 0, 0)) := by decide +kernel
theorem xr_81_0 : X_row 81 0 = some (0, (.iload_n 0, 1), (0, 0, 0)) := by decide +kernel
theorem xr_81_1 : X_row 81 1 = some (1, (.bipush 43, 2), (0, 0, 0)) := by decide +kernel
theorem xr_81_3 : X_row 81 3 = some (3, (.if_icmp .eq 33, 3), (0, 0, 0)) := by decide +kernel
theorem xr_81_6 : X_row 81 6 = some (6, (.iload_n 0, 1), (0, 0, 0)) := by decide +kernel
theorem xr_81_7 : X_row 81 7 = some (7, (.bipush 45, 2), (0, 0, 0)) := by decide +kernel
theorem xr_81_9 : X_row 81 9 = some (9, (.if_icmp .eq 27, 3), (0, 0, 0)) := by decide +kernel
theorem xr_81_12 : X_row 81 12 = some (12, (.iload_n 0, 1), (0, 0, 0)) := by decide +kernel
theorem xr_81_13 : X_row 81 13 = some (13, (.bipush 42, 2), (0, 0, 0)) := by decide +kernel
theorem xr_81_15 : X_row 81 15 = some (15, (.if_icmp .eq 21, 3), (0, 0, 0)) := by decide +kernel
theorem xr_81_18 : X_row 81 18 = some (18, (.iload_n 0, 1), (0, 0, 0)) := by decide +kernel
theorem xr_81_19 : X_row 81 19 = some (19, (.bipush 47, 2), (0, 0, 0)) := by decide +kernel
theorem xr_81_21 : X_row 81 21 = some (21, (.if_icmp .eq 15, 3), (0, 0, 0)) := by decide +kernel
theorem xr_81_24 : X_row 81 24 = some (24, (.iload_n 0, 1), (0, 0, 0)) := by decide +kernel
theorem xr_81_25 : X_row 81 25 = some (25, (.bipush 37, 2), (0, 0, 0)) := by decide +kernel
theorem xr_81_27 : X_row 81 27 = some (27, (.if_icmp .eq 9, 3), (0, 0, 0)) := by decide +kernel
theorem xr_81_30 : X_row 81 30 = some (30, (.iload_n 0, 1), (0, 0, 0)) := by decide +kernel
theorem xr_81_31 : X_row 81 31 = some (31, (.bipush 60, 2), (0, 0, 0)) := by decide +kernel
theorem xr_81_33 : X_row 81 33 = some (33, (.if_icmp .ne 7, 3), (0, 0, 0)) := by decide +kernel
theorem xr_81_36 : X_row 81 36 = some (36, (.iconst 1, 1), (0, 0, 0)) := by decide +kernel
theorem xr_81_37 : X_row 81 37 = some (37, (.goto 4, 3), (0, 0, 0)) := by decide +kernel
theorem xr_81_40 : X_row 81 40 = some (40, (.iconst 0, 1), (0, 0, 0)) := by decide +kernel
theorem xr_81_41 : X_row 81 41 = some (41, (.ireturn, 1), (0, 0, 0)) := by decide +kernel
theorem xn_79 : X_nL 79 = 9 := by decide +kernel
theorem xf_79 : X_na 79 = 2 ∧ X_ci 79 = 4 ∧ X_rt 79 = (some .int) := by decide +kernel
theorem xn_80 : X_nL 80 = 1 := by decide +kernel
theorem xf_80 : X_na 80 = 0 ∧ X_ci 80 = 4 ∧ X_rt 80 = (some .boolean) := by decide +kernel
theorem xn_81 : X_nL 81 = 1 := by decide +kernel
theorem xf_81 : X_na 81 = 1 ∧ X_ci 81 = 4 ∧ X_rt 81 = (some .boolean) := by decide +kernel
def X_isOp (s : Int) : Prop := s = 43 ∨ s = 45 ∨ s = 42 ∨ s = 47 ∨ s = 37 ∨ s = 60
def X_vl (ct : Int → Int64) (c : Int) : Int := ((ct c : Int64).toInt32).toInt
theorem X_vl_r (ct : Int → Int64) (c : Int) : -2147483648 ≤ X_vl ct c ∧ X_vl ct c ≤ 2147483647 := iI_rng _
def X_aS (d : Nat → Int → Int) (s y : Int) : Nat → Int → Int := X_wu (X_wu (X_wu d 12 (X_ug (d 12) (d 5 0) s)) 13 (X_ug (d 13) (d 5 0) y)) 5 (fun _ => d 5 0 + 1)
theorem X_wr_S {d : Nat → Int → Int} {s y : Int} (h : X_wr d) (h5 : 0 ≤ d 5 0 ∧ d 5 0 < 30) : X_wr (X_aS d s y) := X_wr_5 (X_wr_13 (X_wr_12 h)) (by omega)
/-- a step: its sign, its number; the token behind it is looked at next -/
noncomputable def sp_stF (n : Int) (c s v : Int) (d : Nat → Int → Int) (pile : Int) : Option (Int × (Nat → Int → Int) × Int) :=
  if s = 64 ∧ (v < 1 ∨ d 4 0 < v) then none else
    @ite _ (¬ X_isOp s ∧ pile = 16) (Classical.propDecidable _) none (@ite _ (X_isOp s ∧ pile < 2) (Classical.propDecidable _) none
      (some (X_av n c, X_aS d s v, @ite _ (X_isOp s) (Classical.propDecidable _) (pile - 1) (pile + 1))))
noncomputable def sp_step (n : Int) (so : Int → Int) (ct : Int → Int64) (c : Int) (d : Nat → Int → Int) (pile : Int) : Option (Int × (Nat → Int → Int) × Int) :=
  if so c = 4 ∨ so c = 5 then sp_stF n c 4 (X_vl ct c) d pile else
    if so c = 64 then (if so (X_av n c) = 5 then sp_stF n (X_av n c) (so c) (X_vl ct (X_av n c)) d pile else none) else
      @ite _ (X_isOp (so c)) (Classical.propDecidable _) (sp_stF n c (so c) (X_vl ct c) d pile) none
theorem c_isOperation (sc : X_Sc) (S : X_S) (s : Int) (hs : 0 ≤ s ∧ s ≤ 255) : X_T sc 81 (0, [(0, .int (iI s))], [], S) (fun v S' => v = some (.int (iI (bI (X_isOp s)))) ∧ S' = S) := by
  refine X_QI (fun Q hQ => ?_)
  refine T_p xr_81_0 xn_81 (pc' := 1) (ls' := [(0, .int (iI s))]) (st' := [.int (iI s)]) rfl ?_
  refine T_p xr_81_1 xn_81 (pc' := 3) (ls' := [(0, .int (iI s))]) (st' := [.int (iI 43), .int (iI s)]) rfl ?_
  refine T_zicmp_eq xr_81_3 (t := 36) (pc' := 6) rfl rfl (fun c1774 => ?_) (fun c1774 => ?_)
  · skip
    have c1774 : s = 43 := c1774
    refine T_p xr_81_36 xn_81 (pc' := 37) (ls' := [(0, .int (iI s))]) (st' := [.int (iI 1)]) rfl ?_
    refine T_p xr_81_37 xn_81 (pc' := 41) (ls' := [(0, .int (iI s))]) (st' := [.int (iI 1)]) rfl ?_
    refine T_iret xr_81_41 xf_81.2.2 (by decide) ?_
    refine hQ _ _ ?_
    exact ⟨by rw [bI_t (by unfold X_isOp; omega)], rfl⟩
  · skip
    have c1774 : ¬ (s = 43) := c1774
    refine T_p xr_81_6 xn_81 (pc' := 7) (ls' := [(0, .int (iI s))]) (st' := [.int (iI s)]) rfl ?_
    refine T_p xr_81_7 xn_81 (pc' := 9) (ls' := [(0, .int (iI s))]) (st' := [.int (iI 45), .int (iI s)]) rfl ?_
    refine T_zicmp_eq xr_81_9 (t := 36) (pc' := 12) rfl rfl (fun c1775 => ?_) (fun c1775 => ?_)
    · skip
      have c1775 : s = 45 := c1775
      refine T_p xr_81_36 xn_81 (pc' := 37) (ls' := [(0, .int (iI s))]) (st' := [.int (iI 1)]) rfl ?_
      refine T_p xr_81_37 xn_81 (pc' := 41) (ls' := [(0, .int (iI s))]) (st' := [.int (iI 1)]) rfl ?_
      refine T_iret xr_81_41 xf_81.2.2 (by decide) ?_
      refine hQ _ _ ?_
      exact ⟨by rw [bI_t (by unfold X_isOp; omega)], rfl⟩
    · skip
      have c1775 : ¬ (s = 45) := c1775
      refine T_p xr_81_12 xn_81 (pc' := 13) (ls' := [(0, .int (iI s))]) (st' := [.int (iI s)]) rfl ?_
      refine T_p xr_81_13 xn_81 (pc' := 15) (ls' := [(0, .int (iI s))]) (st' := [.int (iI 42), .int (iI s)]) rfl ?_
      refine T_zicmp_eq xr_81_15 (t := 36) (pc' := 18) rfl rfl (fun c1776 => ?_) (fun c1776 => ?_)
      · skip
        have c1776 : s = 42 := c1776
        refine T_p xr_81_36 xn_81 (pc' := 37) (ls' := [(0, .int (iI s))]) (st' := [.int (iI 1)]) rfl ?_
        refine T_p xr_81_37 xn_81 (pc' := 41) (ls' := [(0, .int (iI s))]) (st' := [.int (iI 1)]) rfl ?_
        refine T_iret xr_81_41 xf_81.2.2 (by decide) ?_
        refine hQ _ _ ?_
        exact ⟨by rw [bI_t (by unfold X_isOp; omega)], rfl⟩
      · skip
        have c1776 : ¬ (s = 42) := c1776
        refine T_p xr_81_18 xn_81 (pc' := 19) (ls' := [(0, .int (iI s))]) (st' := [.int (iI s)]) rfl ?_
        refine T_p xr_81_19 xn_81 (pc' := 21) (ls' := [(0, .int (iI s))]) (st' := [.int (iI 47), .int (iI s)]) rfl ?_
        refine T_zicmp_eq xr_81_21 (t := 36) (pc' := 24) rfl rfl (fun c1777 => ?_) (fun c1777 => ?_)
        · skip
          have c1777 : s = 47 := c1777
          refine T_p xr_81_36 xn_81 (pc' := 37) (ls' := [(0, .int (iI s))]) (st' := [.int (iI 1)]) rfl ?_
          refine T_p xr_81_37 xn_81 (pc' := 41) (ls' := [(0, .int (iI s))]) (st' := [.int (iI 1)]) rfl ?_
          refine T_iret xr_81_41 xf_81.2.2 (by decide) ?_
          refine hQ _ _ ?_
          exact ⟨by rw [bI_t (by unfold X_isOp; omega)], rfl⟩
        · skip
          have c1777 : ¬ (s = 47) := c1777
          refine T_p xr_81_24 xn_81 (pc' := 25) (ls' := [(0, .int (iI s))]) (st' := [.int (iI s)]) rfl ?_
          refine T_p xr_81_25 xn_81 (pc' := 27) (ls' := [(0, .int (iI s))]) (st' := [.int (iI 37), .int (iI s)]) rfl ?_
          refine T_zicmp_eq xr_81_27 (t := 36) (pc' := 30) rfl rfl (fun c1778 => ?_) (fun c1778 => ?_)
          · skip
            have c1778 : s = 37 := c1778
            refine T_p xr_81_36 xn_81 (pc' := 37) (ls' := [(0, .int (iI s))]) (st' := [.int (iI 1)]) rfl ?_
            refine T_p xr_81_37 xn_81 (pc' := 41) (ls' := [(0, .int (iI s))]) (st' := [.int (iI 1)]) rfl ?_
            refine T_iret xr_81_41 xf_81.2.2 (by decide) ?_
            refine hQ _ _ ?_
            exact ⟨by rw [bI_t (by unfold X_isOp; omega)], rfl⟩
          · skip
            have c1778 : ¬ (s = 37) := c1778
            refine T_p xr_81_30 xn_81 (pc' := 31) (ls' := [(0, .int (iI s))]) (st' := [.int (iI s)]) rfl ?_
            refine T_p xr_81_31 xn_81 (pc' := 33) (ls' := [(0, .int (iI s))]) (st' := [.int (iI 60), .int (iI s)]) rfl ?_
            refine T_zicmp_ne xr_81_33 (t := 40) (pc' := 36) rfl rfl (fun c1779 => ?_) (fun c1779 => ?_)
            · skip
              have c1779 : ¬ s = 60 := c1779
              refine T_p xr_81_40 xn_81 (pc' := 41) (ls' := [(0, .int (iI s))]) (st' := [.int (iI 0)]) rfl ?_
              refine T_iret xr_81_41 xf_81.2.2 (by decide) ?_
              refine hQ _ _ ?_
              exact ⟨by rw [bI_f (by unfold X_isOp; omega)], rfl⟩
            · skip
              have c1779 : ¬ (¬ s = 60) := c1779
              refine T_p xr_81_36 xn_81 (pc' := 37) (ls' := [(0, .int (iI s))]) (st' := [.int (iI 1)]) rfl ?_
              refine T_p xr_81_37 xn_81 (pc' := 41) (ls' := [(0, .int (iI s))]) (st' := [.int (iI 1)]) rfl ?_
              refine T_iret xr_81_41 xf_81.2.2 (by decide) ?_
              refine hQ _ _ ?_
              exact ⟨by rw [bI_t (by unfold X_isOp; omega)], rfl⟩
theorem c_isNumber (sc : X_Sc) (S : X_S) (B : Nat) (fl fp at_ n cur : Int) (so pl : Int → Int) (ct : Int → Int64) (hp : C_pa S B fl fp) (hx : C_lx S at_ n cur so pl ct) (hcu : 0 ≤ cur ∧ cur < n ∧ n ≤ 2001) (hso : ∀ i, 0 ≤ i → i < n → 0 ≤ so i ∧ so i ≤ 255) : X_T sc 80 (0, [(0, .ref 496)], [], S) (fun v S' => v = some (.int (iI (bI (so cur = 4 ∨ so cur = 5)))) ∧ S' = S) := by
  refine X_QI (fun Q hQ => ?_)
  refine T_p xr_80_0 xn_80 (pc' := 1) (ls' := [(0, .ref 496)]) (st' := [.ref 496]) rfl ?_
  refine T_get xr_80_1 hp rfl (v := .ref 497) rfl (pc' := 4) rfl ?_
  refine T_cv (S := S) (q := 497) xr_80_4 xf_48.1 xf_48.2.1 xn_48 (as := []) (r := []) rfl hx.1 (Nat.le_of_ble_eq_true rfl) (Nat.le_of_ble_eq_true rfl) (pc' := 7) rfl (ls' := [(0, .ref 497)]) rfl ?_
  refine T_mono (c_sort sc S at_ n cur so pl ct ⟨hx.1, hx.2.1, hx.2.2.1, hx.2.2.2⟩ (by omega)) (fun v1781 S1782 h1780 => ?_)
  obtain ⟨h1783, h1784⟩ := h1780
  rw [h1783, h1784]
  show X_T sc 80 (7, [(0, .ref 496)], [.int (iI (so cur))], S) _
  have hs1785 := hso cur (by omega) (by omega)
  refine T_p xr_80_7 xn_80 (pc' := 8) (ls' := [(0, .ref 496)]) (st' := [.int (iI 4), .int (iI (so cur))]) rfl ?_
  refine T_zicmp_eq xr_80_8 (t := 22) (pc' := 11) rfl rfl (fun c1786 => ?_) (fun c1786 => ?_)
  · skip
    have c1786 : (so cur) = 4 := c1786
    refine T_p xr_80_22 xn_80 (pc' := 23) (ls' := [(0, .ref 496)]) (st' := [.int (iI 1)]) rfl ?_
    refine T_p xr_80_23 xn_80 (pc' := 27) (ls' := [(0, .ref 496)]) (st' := [.int (iI 1)]) rfl ?_
    refine T_iret xr_80_27 xf_80.2.2 (by decide) ?_
    refine hQ _ _ ?_
    exact ⟨by rw [bI_t (by omega)], rfl⟩
  · skip
    have c1786 : ¬ ((so cur) = 4) := c1786
    refine T_p xr_80_11 xn_80 (pc' := 12) (ls' := [(0, .ref 496)]) (st' := [.ref 496]) rfl ?_
    refine T_get xr_80_12 hp rfl (v := .ref 497) rfl (pc' := 15) rfl ?_
    refine T_cv (S := S) (q := 497) xr_80_15 xf_48.1 xf_48.2.1 xn_48 (as := []) (r := []) rfl hx.1 (Nat.le_of_ble_eq_true rfl) (Nat.le_of_ble_eq_true rfl) (pc' := 18) rfl (ls' := [(0, .ref 497)]) rfl ?_
    refine T_mono (c_sort sc S at_ n cur so pl ct ⟨hx.1, hx.2.1, hx.2.2.1, hx.2.2.2⟩ (by omega)) (fun v1788 S1789 h1787 => ?_)
    obtain ⟨h1790, h1791⟩ := h1787
    rw [h1790, h1791]
    show X_T sc 80 (18, [(0, .ref 496)], [.int (iI (so cur))], S) _
    have hs1792 := hso cur (by omega) (by omega)
    refine T_p xr_80_18 xn_80 (pc' := 19) (ls' := [(0, .ref 496)]) (st' := [.int (iI 5), .int (iI (so cur))]) rfl ?_
    refine T_zicmp_ne xr_80_19 (t := 26) (pc' := 22) rfl rfl (fun c1793 => ?_) (fun c1793 => ?_)
    · skip
      have c1793 : ¬ (so cur) = 5 := c1793
      refine T_p xr_80_26 xn_80 (pc' := 27) (ls' := [(0, .ref 496)]) (st' := [.int (iI 0)]) rfl ?_
      refine T_iret xr_80_27 xf_80.2.2 (by decide) ?_
      refine hQ _ _ ?_
      exact ⟨by rw [bI_f (by omega)], rfl⟩
    · skip
      have c1793 : ¬ (¬ (so cur) = 5) := c1793
      refine T_p xr_80_22 xn_80 (pc' := 23) (ls' := [(0, .ref 496)]) (st' := [.int (iI 1)]) rfl ?_
      refine T_p xr_80_23 xn_80 (pc' := 27) (ls' := [(0, .ref 496)]) (st' := [.int (iI 1)]) rfl ?_
      refine T_iret xr_80_27 xf_80.2.2 (by decide) ?_
      refine hQ _ _ ?_
      exact ⟨by rw [bI_t (by omega)], rfl⟩
theorem c_parseStep (sc : X_Sc) (S : X_S) (B : Nat) (fl fp at_ n cur : Int) (so pl : Int → Int) (ct : Int → Int64) (rc kc wc : Int) (rn : Int → Int64) (lo : Int → Int) (kn : Int → Int64) (ab : Int → Int) (a : Nat) (d : Nat → Int → Int) (q : Int → Int64) (pile : Int) (hB : 4 ≤ B ∧ B + 246 ≤ 496) (ha : B + 6 ≤ a ∧ a + 7 < B + 246) (hp : C_pa S B fl fp) (hx : C_lx S at_ n cur so pl ct) (hcu : 0 ≤ cur ∧ cur < n ∧ n ≤ 2001) (hso : ∀ i, 0 ≤ i → i < n → 0 ≤ so i ∧ so i ≤ 255) (hb : C_bk S B rc kc wc rn lo kn ab) (hw : C_wd S a d q) (hr : X_wr d) (hpi : 0 ≤ pile ∧ pile ≤ 16) (h5 : 0 ≤ d 5 0 ∧ d 5 0 < 30) : X_T sc 79 (0, [(0, .ref 496), (1, .ref a), (2, .int (iI pile))], [], S) (fun v S' => (∃ c2 d2 p2, v = some (.int (iI p2)) ∧ sp_step n so ct cur d pile = some (c2, d2, p2) ∧ C_pa S' B fl fp ∧ S'.1 497 = .inr (3, [.ref 2, .int (iI at_), .int (iI n), .ref 498, .ref 499, .ref 500, .int (iI (c2))]) ∧ (0 ≤ c2 ∧ c2 < n) ∧ C_wd S' a d2 q ∧ X_wr d2 ∧ X_Fr (fun q => q = 496 ∨ q = 497 ∨ (a ≤ q ∧ q ≤ a + 7)) S S') ∨ (v = some (.int (iI (-1))) ∧ sp_step n so ct cur d pile = none ∧ (∃ fl' fp', (¬ fl' = 0 ∧ 0 ≤ fl' ∧ fl' ≤ 5) ∧ C_pa S' B fl' fp') ∧ (∃ c2, S'.1 497 = .inr (3, [.ref 2, .int (iI at_), .int (iI n), .ref 498, .ref 499, .ref 500, .int (iI (c2))]) ∧ (0 ≤ c2 ∧ c2 < n)) ∧ C_wd S' a d q ∧ X_Fr (fun q => q = 496 ∨ q = 497 ∨ (a ≤ q ∧ q ≤ a + 7)) S S')) := by
  obtain ⟨hb0, hb1, hb2, hb3, hb4, ⟨f, hb5, hf⟩, ⟨hrc, hrcb⟩, ⟨hkc, hkcb⟩, ⟨hwc, hwcb⟩⟩ := id hb
  obtain ⟨⟨hr0, hr0b⟩, ⟨hr1, hr1b⟩, ⟨hr2, hr2b⟩, ⟨hr3, hr3b⟩, ⟨hr4, hr4b⟩, ⟨hr5, hr5b⟩, ⟨hr6, hr6b⟩, ⟨hr7, hr7b⟩⟩ := id hr
  have hop4 : ¬ (X_isOp 4) := by unfold X_isOp; omega
  refine X_QI (fun Q hQ => ?_)
  refine T_p xr_79_0 xn_79 (pc' := 1) (ls' := [(0, .ref 496), (1, .ref a), (2, .int (iI pile))]) (st' := [.ref 496]) rfl ?_
  refine T_get xr_79_1 hp rfl (v := .ref 497) rfl (pc' := 4) rfl ?_
  refine T_cv (S := S) (q := 497) xr_79_4 xf_49.1 xf_49.2.1 xn_49 (as := []) (r := []) rfl hx.1 (Nat.le_of_ble_eq_true rfl) (Nat.le_of_ble_eq_true rfl) (pc' := 7) rfl (ls' := [(0, .ref 497)]) rfl ?_
  refine T_mono (c_place sc S at_ n cur so pl ct ⟨hx.1, hx.2.1, hx.2.2.1, hx.2.2.2⟩ (by omega)) (fun v1795 S1796 h1794 => ?_)
  obtain ⟨h1797, h1798⟩ := h1794
  rw [h1797, h1798]
  show X_T sc 79 (7, [(0, .ref 496), (1, .ref a), (2, .int (iI pile))], [.int (iI (pl cur))], S) _
  refine T_p xr_79_7 xn_79 (pc' := 8) (ls' := [(3, .int (iI (pl cur))), (0, .ref 496), (1, .ref a), (2, .int (iI pile))]) (st' := []) rfl ?_
  refine T_p xr_79_8 xn_79 (pc' := 9) (ls' := [(3, .int (iI (pl cur))), (0, .ref 496), (1, .ref a), (2, .int (iI pile))]) (st' := [.ref 496]) rfl ?_
  refine T_cv (S := S) (q := 496) xr_79_9 xf_80.1 xf_80.2.1 xn_80 (as := []) (r := []) rfl hp (Nat.le_of_ble_eq_true rfl) (Nat.le_of_ble_eq_true rfl) (pc' := 12) rfl (ls' := [(0, .ref 496)]) rfl ?_
  refine T_mono (c_isNumber sc S B fl fp at_ n cur so pl ct hp ⟨hx.1, hx.2.1, hx.2.2.1, hx.2.2.2⟩ (by omega) hso) (fun v1800 S1801 h1799 => ?_)
  obtain ⟨h1802, h1803⟩ := h1799
  rw [h1802, h1803]
  show X_T sc 79 (12, [(3, .int (iI (pl cur))), (0, .ref 496), (1, .ref a), (2, .int (iI pile))], [.int (iI (bI (so cur = 4 ∨ so cur = 5)))], S) _
  refine T_bif_eq xr_79_12 (t := 19) (pc' := 15) rfl rfl (fun c1804 => ?_) (fun c1804 => ?_)
  · skip
    have c1804 : ¬ (so cur = 4 ∨ so cur = 5) := c1804
    refine T_p xr_79_19 xn_79 (pc' := 20) (ls' := [(3, .int (iI (pl cur))), (0, .ref 496), (1, .ref a), (2, .int (iI pile))]) (st' := [.ref 496]) rfl ?_
    refine T_get xr_79_20 hp rfl (v := .ref 497) rfl (pc' := 23) rfl ?_
    refine T_cv (S := S) (q := 497) xr_79_23 xf_48.1 xf_48.2.1 xn_48 (as := []) (r := []) rfl hx.1 (Nat.le_of_ble_eq_true rfl) (Nat.le_of_ble_eq_true rfl) (pc' := 26) rfl (ls' := [(0, .ref 497)]) rfl ?_
    refine T_mono (c_sort sc S at_ n cur so pl ct ⟨hx.1, hx.2.1, hx.2.2.1, hx.2.2.2⟩ (by omega)) (fun v1806 S1807 h1805 => ?_)
    obtain ⟨h1808, h1809⟩ := h1805
    rw [h1808, h1809]
    show X_T sc 79 (26, [(3, .int (iI (pl cur))), (0, .ref 496), (1, .ref a), (2, .int (iI pile))], [.int (iI (so cur))], S) _
    have hs1810 := hso cur (by omega) (by omega)
    refine T_p xr_79_26 xn_79 (pc' := 28) (ls' := [(4, .int (iI (so cur))), (3, .int (iI (pl cur))), (0, .ref 496), (1, .ref a), (2, .int (iI pile))]) (st' := []) rfl ?_
    refine T_p xr_79_28 xn_79 (pc' := 30) (ls' := [(4, .int (iI (so cur))), (3, .int (iI (pl cur))), (0, .ref 496), (1, .ref a), (2, .int (iI pile))]) (st' := [.int (iI (so cur))]) rfl ?_
    refine T_p xr_79_30 xn_79 (pc' := 32) (ls' := [(4, .int (iI (so cur))), (3, .int (iI (pl cur))), (0, .ref 496), (1, .ref a), (2, .int (iI pile))]) (st' := [.int (iI 64), .int (iI (so cur))]) rfl ?_
    refine T_zicmp_ne xr_79_32 (t := 59) (pc' := 35) rfl rfl (fun c1811 => ?_) (fun c1811 => ?_)
    · skip
      have c1811 : ¬ (so cur) = 64 := c1811
      refine T_p xr_79_59 xn_79 (pc' := 61) (ls' := [(4, .int (iI (so cur))), (3, .int (iI (pl cur))), (0, .ref 496), (1, .ref a), (2, .int (iI pile))]) (st' := [.int (iI (so cur))]) rfl ?_
      refine T_p xr_79_61 xn_79 (pc' := 62) (ls' := [(4, .int (iI (so cur))), (3, .int (iI (pl cur))), (0, .ref 496), (1, .ref a), (2, .int (iI pile))]) (st' := [.int (iI 4), .int (iI (so cur))]) rfl ?_
      refine T_zicmp_eq xr_79_62 (t := 79) (pc' := 65) rfl rfl (fun c1812 => ?_) (fun c1812 => ?_)
      · skip
        have c1812 : (so cur) = 4 := c1812
        refine T_p xr_79_79 xn_79 (pc' := 80) (ls' := [(4, .int (iI (so cur))), (3, .int (iI (pl cur))), (0, .ref 496), (1, .ref a), (2, .int (iI pile))]) (st' := [.ref 496]) rfl ?_
        refine T_get xr_79_80 hp rfl (v := .ref 497) rfl (pc' := 83) rfl ?_
        refine T_cv (S := S) (q := 497) xr_79_83 xf_50.1 xf_50.2.1 xn_50 (as := []) (r := []) rfl hx.1 (Nat.le_of_ble_eq_true rfl) (Nat.le_of_ble_eq_true rfl) (pc' := 86) rfl (ls' := [(0, .ref 497)]) rfl ?_
        refine T_mono (c_content sc S at_ n cur so pl ct ⟨hx.1, hx.2.1, hx.2.2.1, hx.2.2.2⟩ (by omega)) (fun v1814 S1815 h1813 => ?_)
        obtain ⟨h1816, h1817⟩ := h1813
        rw [h1816, h1817]
        show X_T sc 79 (86, [(4, .int (iI (so cur))), (3, .int (iI (pl cur))), (0, .ref 496), (1, .ref a), (2, .int (iI pile))], [.long (ct cur)], S) _
        refine T_zop xr_79_86 (pc' := 87) rfl (z := ((ct cur : Int64).toInt32).toInt) (iI_of _) ?_
        refine T_ie (y := iI (X_vl ct cur)) rfl ?_
        have hv1818 := X_vl_r ct cur
        refine T_p xr_79_87 xn_79 (pc' := 89) (ls' := [(5, .int (iI (X_vl ct cur))), (4, .int (iI (so cur))), (3, .int (iI (pl cur))), (0, .ref 496), (1, .ref a), (2, .int (iI pile))]) (st' := []) rfl ?_
        have J1819 : X_T sc 79 (116, [(5, .int (iI (X_vl ct cur))), (4, .int (iI (so cur))), (3, .int (iI (pl cur))), (0, .ref 496), (1, .ref a), (2, .int (iI pile))], [.int (iI (bI ((so cur) = 64 ∧ (X_vl ct cur < 1 ∨ d 4 0 < X_vl ct cur))))], S) Q := by
          refine T_p xr_79_116 xn_79 (pc' := 118) (ls' := [(6, .int (iI (bI ((so cur) = 64 ∧ (X_vl ct cur < 1 ∨ d 4 0 < X_vl ct cur))))), (5, .int (iI (X_vl ct cur))), (4, .int (iI (so cur))), (3, .int (iI (pl cur))), (0, .ref 496), (1, .ref a), (2, .int (iI pile))]) (st' := []) rfl ?_
          have J1820 : X_T sc 79 (137, [(6, .int (iI (bI ((so cur) = 64 ∧ (X_vl ct cur < 1 ∨ d 4 0 < X_vl ct cur))))), (5, .int (iI (X_vl ct cur))), (4, .int (iI (so cur))), (3, .int (iI (pl cur))), (0, .ref 496), (1, .ref a), (2, .int (iI pile))], [.int (iI (bI (¬ X_isOp (so cur) ∧ pile = 16)))], S) Q := by
            refine T_p xr_79_137 xn_79 (pc' := 139) (ls' := [(7, .int (iI (bI (¬ X_isOp (so cur) ∧ pile = 16)))), (6, .int (iI (bI ((so cur) = 64 ∧ (X_vl ct cur < 1 ∨ d 4 0 < X_vl ct cur))))), (5, .int (iI (X_vl ct cur))), (4, .int (iI (so cur))), (3, .int (iI (pl cur))), (0, .ref 496), (1, .ref a), (2, .int (iI pile))]) (st' := []) rfl ?_
            have J1821 : X_T sc 79 (157, [(7, .int (iI (bI (¬ X_isOp (so cur) ∧ pile = 16)))), (6, .int (iI (bI ((so cur) = 64 ∧ (X_vl ct cur < 1 ∨ d 4 0 < X_vl ct cur))))), (5, .int (iI (X_vl ct cur))), (4, .int (iI (so cur))), (3, .int (iI (pl cur))), (0, .ref 496), (1, .ref a), (2, .int (iI pile))], [.int (iI (bI (X_isOp (so cur) ∧ pile < 2)))], S) Q := by
              refine T_p xr_79_157 xn_79 (pc' := 159) (ls' := [(8, .int (iI (bI (X_isOp (so cur) ∧ pile < 2)))), (7, .int (iI (bI (¬ X_isOp (so cur) ∧ pile = 16)))), (6, .int (iI (bI ((so cur) = 64 ∧ (X_vl ct cur < 1 ∨ d 4 0 < X_vl ct cur))))), (5, .int (iI (X_vl ct cur))), (4, .int (iI (so cur))), (3, .int (iI (pl cur))), (0, .ref 496), (1, .ref a), (2, .int (iI pile))]) (st' := []) rfl ?_
              refine T_p xr_79_159 xn_79 (pc' := 161) (ls' := [(8, .int (iI (bI (X_isOp (so cur) ∧ pile < 2)))), (7, .int (iI (bI (¬ X_isOp (so cur) ∧ pile = 16)))), (6, .int (iI (bI ((so cur) = 64 ∧ (X_vl ct cur < 1 ∨ d 4 0 < X_vl ct cur))))), (5, .int (iI (X_vl ct cur))), (4, .int (iI (so cur))), (3, .int (iI (pl cur))), (0, .ref 496), (1, .ref a), (2, .int (iI pile))]) (st' := [.int (iI (bI ((so cur) = 64 ∧ (X_vl ct cur < 1 ∨ d 4 0 < X_vl ct cur))))]) rfl ?_
              refine T_bif_ne xr_79_161 (t := 174) (pc' := 164) rfl rfl (fun c1822 => ?_) (fun c1822 => ?_)
              · skip
                have c1822 : ((so cur) = 64 ∧ (X_vl ct cur < 1 ∨ d 4 0 < X_vl ct cur)) := c1822
                refine T_p xr_79_174 xn_79 (pc' := 175) (ls' := [(8, .int (iI (bI (X_isOp (so cur) ∧ pile < 2)))), (7, .int (iI (bI (¬ X_isOp (so cur) ∧ pile = 16)))), (6, .int (iI (bI ((so cur) = 64 ∧ (X_vl ct cur < 1 ∨ d 4 0 < X_vl ct cur))))), (5, .int (iI (X_vl ct cur))), (4, .int (iI (so cur))), (3, .int (iI (pl cur))), (0, .ref 496), (1, .ref a), (2, .int (iI pile))]) (st' := [.ref 496]) rfl ?_
                refine T_p xr_79_175 xn_79 (pc' := 176) (ls' := [(8, .int (iI (bI (X_isOp (so cur) ∧ pile < 2)))), (7, .int (iI (bI (¬ X_isOp (so cur) ∧ pile = 16)))), (6, .int (iI (bI ((so cur) = 64 ∧ (X_vl ct cur < 1 ∨ d 4 0 < X_vl ct cur))))), (5, .int (iI (X_vl ct cur))), (4, .int (iI (so cur))), (3, .int (iI (pl cur))), (0, .ref 496), (1, .ref a), (2, .int (iI pile))]) (st' := [.int (iI 5), .ref 496]) rfl ?_
                refine T_p xr_79_176 xn_79 (pc' := 177) (ls' := [(8, .int (iI (bI (X_isOp (so cur) ∧ pile < 2)))), (7, .int (iI (bI (¬ X_isOp (so cur) ∧ pile = 16)))), (6, .int (iI (bI ((so cur) = 64 ∧ (X_vl ct cur < 1 ∨ d 4 0 < X_vl ct cur))))), (5, .int (iI (X_vl ct cur))), (4, .int (iI (so cur))), (3, .int (iI (pl cur))), (0, .ref 496), (1, .ref a), (2, .int (iI pile))]) (st' := [.int (iI (pl cur)), .int (iI 5), .ref 496]) rfl ?_
                refine T_cv (S := S) (q := 496) xr_79_177 xf_66.1 xf_66.2.1 xn_66 (as := [.int (iI 5), .int (iI (pl cur))]) (r := []) rfl hp (Nat.le_of_ble_eq_true rfl) (Nat.le_of_ble_eq_true rfl) (pc' := 180) rfl (ls' := [(0, .ref 496), (1, .int (iI 5)), (2, .int (iI (pl cur)))]) rfl ?_
                refine T_p xr_66_0 xn_66 (pc' := 1) (ls' := [(0, .ref 496), (1, .int (iI 5)), (2, .int (iI (pl cur)))]) (st' := [.ref 496]) rfl ?_
                refine T_p xr_66_1 xn_66 (pc' := 2) (ls' := [(0, .ref 496), (1, .int (iI 5)), (2, .int (iI (pl cur)))]) (st' := [.int (iI 5), .ref 496]) rfl ?_
                refine T_put xr_66_2 hp rfl (Nat.le_of_ble_eq_true rfl) rfl (fs' := [.ref 497, .ref B, .int (iI 5), .int (iI fp)]) rfl (pc' := 5) rfl (fun S1823 h1824 n1825 e1826 => ?_)
                refine T_p xr_66_5 xn_66 (pc' := 6) (ls' := [(0, .ref 496), (1, .int (iI 5)), (2, .int (iI (pl cur)))]) (st' := [.ref 496]) rfl ?_
                refine T_p xr_66_6 xn_66 (pc' := 7) (ls' := [(0, .ref 496), (1, .int (iI 5)), (2, .int (iI (pl cur)))]) (st' := [.int (iI (pl cur)), .ref 496]) rfl ?_
                refine T_put xr_66_7 h1824 rfl (Nat.le_of_ble_eq_true rfl) rfl (fs' := [.ref 497, .ref B, .int (iI 5), .int (iI (pl cur))]) rfl (pc' := 10) rfl (fun S1827 h1828 n1829 e1830 => ?_)
                refine T_vret xr_66_10 xf_66.2.2 ?_
                show X_T sc 79 (180, [(8, .int (iI (bI (X_isOp (so cur) ∧ pile < 2)))), (7, .int (iI (bI (¬ X_isOp (so cur) ∧ pile = 16)))), (6, .int (iI (bI ((so cur) = 64 ∧ (X_vl ct cur < 1 ∨ d 4 0 < X_vl ct cur))))), (5, .int (iI (X_vl ct cur))), (4, .int (iI (so cur))), (3, .int (iI (pl cur))), (0, .ref 496), (1, .ref a), (2, .int (iI pile))], [], S1827) _
                refine T_p xr_79_180 xn_79 (pc' := 181) (ls' := [(8, .int (iI (bI (X_isOp (so cur) ∧ pile < 2)))), (7, .int (iI (bI (¬ X_isOp (so cur) ∧ pile = 16)))), (6, .int (iI (bI ((so cur) = 64 ∧ (X_vl ct cur < 1 ∨ d 4 0 < X_vl ct cur))))), (5, .int (iI (X_vl ct cur))), (4, .int (iI (so cur))), (3, .int (iI (pl cur))), (0, .ref 496), (1, .ref a), (2, .int (iI pile))]) (st' := [.int (iI (-1))]) rfl ?_
                refine T_iret xr_79_181 xf_79.2.2 rfl ?_
                refine hQ _ _ ?_
                have h1831 := (n1829 497 (by decide)).trans ((n1825 497 (by decide)).trans (hx.1))
                have h1832 := (n1829 a (by omega)).trans ((n1825 a (by omega)).trans (hw.1))
                have h1833 := (n1829 (a + 1) (by omega)).trans ((n1825 (a + 1) (by omega)).trans (hw.2.1))
                have h1834 := (n1829 (a + 2) (by omega)).trans ((n1825 (a + 2) (by omega)).trans (hw.2.2.1))
                have h1835 := (n1829 (a + 3) (by omega)).trans ((n1825 (a + 3) (by omega)).trans (hw.2.2.2.1))
                have h1836 := (n1829 (a + 4) (by omega)).trans ((n1825 (a + 4) (by omega)).trans (hw.2.2.2.2.1))
                have h1837 := (n1829 (a + 5) (by omega)).trans ((n1825 (a + 5) (by omega)).trans (hw.2.2.2.2.2.1))
                have h1838 := (n1829 (a + 6) (by omega)).trans ((n1825 (a + 6) (by omega)).trans (hw.2.2.2.2.2.2.1))
                have h1839 := (n1829 (a + 7) (by omega)).trans ((n1825 (a + 7) (by omega)).trans (hw.2.2.2.2.2.2.2))
                refine Or.inr ⟨rfl, ?_, ⟨_, _, by omega, h1828⟩, ⟨cur, h1831, by omega⟩, ⟨h1832, h1833, h1834, h1835, h1836, h1837, h1838, h1839⟩, ((X_Fr.rf).tr (X_Fr.of n1825 e1826 (by omega))).tr (X_Fr.of n1829 e1830 (by omega))⟩
                unfold sp_step sp_stF
                (repeat (first | rw [if_pos (by assumption)] | rw [if_neg (by assumption)]))
                all_goals first | rfl | ((repeat' split) <;> first | rfl | (exfalso; omega))
              · skip
                have c1822 : ¬ ((so cur) = 64 ∧ (X_vl ct cur < 1 ∨ d 4 0 < X_vl ct cur)) := c1822
                refine T_p xr_79_164 xn_79 (pc' := 166) (ls' := [(8, .int (iI (bI (X_isOp (so cur) ∧ pile < 2)))), (7, .int (iI (bI (¬ X_isOp (so cur) ∧ pile = 16)))), (6, .int (iI (bI ((so cur) = 64 ∧ (X_vl ct cur < 1 ∨ d 4 0 < X_vl ct cur))))), (5, .int (iI (X_vl ct cur))), (4, .int (iI (so cur))), (3, .int (iI (pl cur))), (0, .ref 496), (1, .ref a), (2, .int (iI pile))]) (st' := [.int (iI (bI (¬ X_isOp (so cur) ∧ pile = 16)))]) rfl ?_
                refine T_bif_ne xr_79_166 (t := 174) (pc' := 169) rfl rfl (fun c1840 => ?_) (fun c1840 => ?_)
                · skip
                  have c1840 : (¬ X_isOp (so cur) ∧ pile = 16) := c1840
                  refine T_p xr_79_174 xn_79 (pc' := 175) (ls' := [(8, .int (iI (bI (X_isOp (so cur) ∧ pile < 2)))), (7, .int (iI (bI (¬ X_isOp (so cur) ∧ pile = 16)))), (6, .int (iI (bI ((so cur) = 64 ∧ (X_vl ct cur < 1 ∨ d 4 0 < X_vl ct cur))))), (5, .int (iI (X_vl ct cur))), (4, .int (iI (so cur))), (3, .int (iI (pl cur))), (0, .ref 496), (1, .ref a), (2, .int (iI pile))]) (st' := [.ref 496]) rfl ?_
                  refine T_p xr_79_175 xn_79 (pc' := 176) (ls' := [(8, .int (iI (bI (X_isOp (so cur) ∧ pile < 2)))), (7, .int (iI (bI (¬ X_isOp (so cur) ∧ pile = 16)))), (6, .int (iI (bI ((so cur) = 64 ∧ (X_vl ct cur < 1 ∨ d 4 0 < X_vl ct cur))))), (5, .int (iI (X_vl ct cur))), (4, .int (iI (so cur))), (3, .int (iI (pl cur))), (0, .ref 496), (1, .ref a), (2, .int (iI pile))]) (st' := [.int (iI 5), .ref 496]) rfl ?_
                  refine T_p xr_79_176 xn_79 (pc' := 177) (ls' := [(8, .int (iI (bI (X_isOp (so cur) ∧ pile < 2)))), (7, .int (iI (bI (¬ X_isOp (so cur) ∧ pile = 16)))), (6, .int (iI (bI ((so cur) = 64 ∧ (X_vl ct cur < 1 ∨ d 4 0 < X_vl ct cur))))), (5, .int (iI (X_vl ct cur))), (4, .int (iI (so cur))), (3, .int (iI (pl cur))), (0, .ref 496), (1, .ref a), (2, .int (iI pile))]) (st' := [.int (iI (pl cur)), .int (iI 5), .ref 496]) rfl ?_
                  refine T_cv (S := S) (q := 496) xr_79_177 xf_66.1 xf_66.2.1 xn_66 (as := [.int (iI 5), .int (iI (pl cur))]) (r := []) rfl hp (Nat.le_of_ble_eq_true rfl) (Nat.le_of_ble_eq_true rfl) (pc' := 180) rfl (ls' := [(0, .ref 496), (1, .int (iI 5)), (2, .int (iI (pl cur)))]) rfl ?_
                  refine T_p xr_66_0 xn_66 (pc' := 1) (ls' := [(0, .ref 496), (1, .int (iI 5)), (2, .int (iI (pl cur)))]) (st' := [.ref 496]) rfl ?_
                  refine T_p xr_66_1 xn_66 (pc' := 2) (ls' := [(0, .ref 496), (1, .int (iI 5)), (2, .int (iI (pl cur)))]) (st' := [.int (iI 5), .ref 496]) rfl ?_
                  refine T_put xr_66_2 hp rfl (Nat.le_of_ble_eq_true rfl) rfl (fs' := [.ref 497, .ref B, .int (iI 5), .int (iI fp)]) rfl (pc' := 5) rfl (fun S1841 h1842 n1843 e1844 => ?_)
                  refine T_p xr_66_5 xn_66 (pc' := 6) (ls' := [(0, .ref 496), (1, .int (iI 5)), (2, .int (iI (pl cur)))]) (st' := [.ref 496]) rfl ?_
                  refine T_p xr_66_6 xn_66 (pc' := 7) (ls' := [(0, .ref 496), (1, .int (iI 5)), (2, .int (iI (pl cur)))]) (st' := [.int (iI (pl cur)), .ref 496]) rfl ?_
                  refine T_put xr_66_7 h1842 rfl (Nat.le_of_ble_eq_true rfl) rfl (fs' := [.ref 497, .ref B, .int (iI 5), .int (iI (pl cur))]) rfl (pc' := 10) rfl (fun S1845 h1846 n1847 e1848 => ?_)
                  refine T_vret xr_66_10 xf_66.2.2 ?_
                  show X_T sc 79 (180, [(8, .int (iI (bI (X_isOp (so cur) ∧ pile < 2)))), (7, .int (iI (bI (¬ X_isOp (so cur) ∧ pile = 16)))), (6, .int (iI (bI ((so cur) = 64 ∧ (X_vl ct cur < 1 ∨ d 4 0 < X_vl ct cur))))), (5, .int (iI (X_vl ct cur))), (4, .int (iI (so cur))), (3, .int (iI (pl cur))), (0, .ref 496), (1, .ref a), (2, .int (iI pile))], [], S1845) _
                  refine T_p xr_79_180 xn_79 (pc' := 181) (ls' := [(8, .int (iI (bI (X_isOp (so cur) ∧ pile < 2)))), (7, .int (iI (bI (¬ X_isOp (so cur) ∧ pile = 16)))), (6, .int (iI (bI ((so cur) = 64 ∧ (X_vl ct cur < 1 ∨ d 4 0 < X_vl ct cur))))), (5, .int (iI (X_vl ct cur))), (4, .int (iI (so cur))), (3, .int (iI (pl cur))), (0, .ref 496), (1, .ref a), (2, .int (iI pile))]) (st' := [.int (iI (-1))]) rfl ?_
                  refine T_iret xr_79_181 xf_79.2.2 rfl ?_
                  refine hQ _ _ ?_
                  have h1849 := (n1847 497 (by decide)).trans ((n1843 497 (by decide)).trans (hx.1))
                  have h1850 := (n1847 a (by omega)).trans ((n1843 a (by omega)).trans (hw.1))
                  have h1851 := (n1847 (a + 1) (by omega)).trans ((n1843 (a + 1) (by omega)).trans (hw.2.1))
                  have h1852 := (n1847 (a + 2) (by omega)).trans ((n1843 (a + 2) (by omega)).trans (hw.2.2.1))
                  have h1853 := (n1847 (a + 3) (by omega)).trans ((n1843 (a + 3) (by omega)).trans (hw.2.2.2.1))
                  have h1854 := (n1847 (a + 4) (by omega)).trans ((n1843 (a + 4) (by omega)).trans (hw.2.2.2.2.1))
                  have h1855 := (n1847 (a + 5) (by omega)).trans ((n1843 (a + 5) (by omega)).trans (hw.2.2.2.2.2.1))
                  have h1856 := (n1847 (a + 6) (by omega)).trans ((n1843 (a + 6) (by omega)).trans (hw.2.2.2.2.2.2.1))
                  have h1857 := (n1847 (a + 7) (by omega)).trans ((n1843 (a + 7) (by omega)).trans (hw.2.2.2.2.2.2.2))
                  refine Or.inr ⟨rfl, ?_, ⟨_, _, by omega, h1846⟩, ⟨cur, h1849, by omega⟩, ⟨h1850, h1851, h1852, h1853, h1854, h1855, h1856, h1857⟩, ((X_Fr.rf).tr (X_Fr.of n1843 e1844 (by omega))).tr (X_Fr.of n1847 e1848 (by omega))⟩
                  unfold sp_step sp_stF
                  (repeat (first | rw [if_pos (by assumption)] | rw [if_neg (by assumption)]))
                  all_goals first | rfl | ((repeat' split) <;> first | rfl | (exfalso; omega))
                · skip
                  have c1840 : ¬ (¬ X_isOp (so cur) ∧ pile = 16) := c1840
                  refine T_p xr_79_169 xn_79 (pc' := 171) (ls' := [(8, .int (iI (bI (X_isOp (so cur) ∧ pile < 2)))), (7, .int (iI (bI (¬ X_isOp (so cur) ∧ pile = 16)))), (6, .int (iI (bI ((so cur) = 64 ∧ (X_vl ct cur < 1 ∨ d 4 0 < X_vl ct cur))))), (5, .int (iI (X_vl ct cur))), (4, .int (iI (so cur))), (3, .int (iI (pl cur))), (0, .ref 496), (1, .ref a), (2, .int (iI pile))]) (st' := [.int (iI (bI (X_isOp (so cur) ∧ pile < 2)))]) rfl ?_
                  refine T_bif_eq xr_79_171 (t := 182) (pc' := 174) rfl rfl (fun c1858 => ?_) (fun c1858 => ?_)
                  · skip
                    have c1858 : ¬ (X_isOp (so cur) ∧ pile < 2) := c1858
                    refine T_p xr_79_182 xn_79 (pc' := 183) (ls' := [(8, .int (iI (bI (X_isOp (so cur) ∧ pile < 2)))), (7, .int (iI (bI (¬ X_isOp (so cur) ∧ pile = 16)))), (6, .int (iI (bI ((so cur) = 64 ∧ (X_vl ct cur < 1 ∨ d 4 0 < X_vl ct cur))))), (5, .int (iI (X_vl ct cur))), (4, .int (iI (so cur))), (3, .int (iI (pl cur))), (0, .ref 496), (1, .ref a), (2, .int (iI pile))]) (st' := [.ref a]) rfl ?_
                    refine T_p xr_79_183 xn_79 (pc' := 185) (ls' := [(8, .int (iI (bI (X_isOp (so cur) ∧ pile < 2)))), (7, .int (iI (bI (¬ X_isOp (so cur) ∧ pile = 16)))), (6, .int (iI (bI ((so cur) = 64 ∧ (X_vl ct cur < 1 ∨ d 4 0 < X_vl ct cur))))), (5, .int (iI (X_vl ct cur))), (4, .int (iI (so cur))), (3, .int (iI (pl cur))), (0, .ref 496), (1, .ref a), (2, .int (iI pile))]) (st' := [.int (iI (so cur)), .ref a]) rfl ?_
                    refine T_p xr_79_185 xn_79 (pc' := 187) (ls' := [(8, .int (iI (bI (X_isOp (so cur) ∧ pile < 2)))), (7, .int (iI (bI (¬ X_isOp (so cur) ∧ pile = 16)))), (6, .int (iI (bI ((so cur) = 64 ∧ (X_vl ct cur < 1 ∨ d 4 0 < X_vl ct cur))))), (5, .int (iI (X_vl ct cur))), (4, .int (iI (so cur))), (3, .int (iI (pl cur))), (0, .ref 496), (1, .ref a), (2, .int (iI pile))]) (st' := [.int (iI (X_vl ct cur)), .int (iI (so cur)), .ref a]) rfl ?_
                    refine T_cv (S := S) (q := a) xr_79_187 xf_99.1 xf_99.2.1 xn_99 (as := [.int (iI (so cur)), .int (iI (X_vl ct cur))]) (r := []) rfl hw.1 (Nat.le_of_ble_eq_true rfl) (Nat.le_of_ble_eq_true rfl) (pc' := 190) rfl (ls' := [(0, .ref a), (1, .int (iI (so cur))), (2, .int (iI (X_vl ct cur)))]) rfl ?_
                    have hr1865 : X_wr (X_aS d (so cur) (X_vl ct cur)) := X_wr_S hr (by omega)
                    refine T_mono (c_addStep sc S a d q (so cur) (X_vl ct cur) ⟨hw.1, hw.2.1, hw.2.2.1, hw.2.2.2.1, hw.2.2.2.2.1, hw.2.2.2.2.2.1, hw.2.2.2.2.2.2.1, hw.2.2.2.2.2.2.2⟩ hr (by omega)) (fun v1859 S1860 h1861 => ?_)
                    obtain ⟨h1862, hw1863, hf1864⟩ := h1861
                    rw [h1862]
                    have hw1863 : C_wd S1860 a (X_aS d (so cur) (X_vl ct cur)) q := hw1863
                    show X_T sc 79 (190, [(8, .int (iI (bI (X_isOp (so cur) ∧ pile < 2)))), (7, .int (iI (bI (¬ X_isOp (so cur) ∧ pile = 16)))), (6, .int (iI (bI ((so cur) = 64 ∧ (X_vl ct cur < 1 ∨ d 4 0 < X_vl ct cur))))), (5, .int (iI (X_vl ct cur))), (4, .int (iI (so cur))), (3, .int (iI (pl cur))), (0, .ref 496), (1, .ref a), (2, .int (iI pile))], [], S1860) _
                    refine T_p xr_79_190 xn_79 (pc' := 191) (ls' := [(8, .int (iI (bI (X_isOp (so cur) ∧ pile < 2)))), (7, .int (iI (bI (¬ X_isOp (so cur) ∧ pile = 16)))), (6, .int (iI (bI ((so cur) = 64 ∧ (X_vl ct cur < 1 ∨ d 4 0 < X_vl ct cur))))), (5, .int (iI (X_vl ct cur))), (4, .int (iI (so cur))), (3, .int (iI (pl cur))), (0, .ref 496), (1, .ref a), (2, .int (iI pile))]) (st' := [.ref 496]) rfl ?_
                    have h1866 := (hf1864.1 496 (by omega)).trans (hp)
                    refine T_get xr_79_191 h1866 rfl (v := .ref 497) rfl (pc' := 194) rfl ?_
                    have h1867 := (hf1864.1 497 (by omega)).trans (hx.1)
                    refine T_cv (S := S1860) (q := 497) xr_79_194 xf_52.1 xf_52.2.1 xn_52 (as := []) (r := []) rfl h1867 (Nat.le_of_ble_eq_true rfl) (Nat.le_of_ble_eq_true rfl) (pc' := 197) rfl (ls' := [(0, .ref 497)]) rfl ?_
                    have h1868 := (hf1864.1 498 (by omega)).trans (hx.2.1)
                    have h1869 := (hf1864.1 499 (by omega)).trans (hx.2.2.1)
                    have h1870 := (hf1864.1 500 (by omega)).trans (hx.2.2.2)
                    refine T_mono (c_advance sc S1860 at_ n cur so pl ct ⟨h1867, h1868, h1869, h1870⟩ (by omega)) (fun v1872 S1873 h1871 => ?_)
                    obtain ⟨h1874, h1876, h1875⟩ := h1871
                    rw [h1874]
                    show X_T sc 79 (197, [(8, .int (iI (bI (X_isOp (so cur) ∧ pile < 2)))), (7, .int (iI (bI (¬ X_isOp (so cur) ∧ pile = 16)))), (6, .int (iI (bI ((so cur) = 64 ∧ (X_vl ct cur < 1 ∨ d 4 0 < X_vl ct cur))))), (5, .int (iI (X_vl ct cur))), (4, .int (iI (so cur))), (3, .int (iI (pl cur))), (0, .ref 496), (1, .ref a), (2, .int (iI pile))], [], S1873) _
                    have hv1877 := X_av_r (n := n) (c := cur) (by omega)
                    refine T_p xr_79_197 xn_79 (pc' := 199) (ls' := [(8, .int (iI (bI (X_isOp (so cur) ∧ pile < 2)))), (7, .int (iI (bI (¬ X_isOp (so cur) ∧ pile = 16)))), (6, .int (iI (bI ((so cur) = 64 ∧ (X_vl ct cur < 1 ∨ d 4 0 < X_vl ct cur))))), (5, .int (iI (X_vl ct cur))), (4, .int (iI (so cur))), (3, .int (iI (pl cur))), (0, .ref 496), (1, .ref a), (2, .int (iI pile))]) (st' := [.int (iI (so cur))]) rfl ?_
                    refine T_cs xr_79_199 (by decide) xf_81.1 xn_81 (as := [.int (iI (so cur))]) (r := []) rfl (Nat.le_of_ble_eq_true rfl) (Nat.le_of_ble_eq_true rfl) (pc' := 202) rfl (ls' := [(0, .int (iI (so cur)))]) rfl ?_
                    refine T_mono (c_isOperation sc S1873 (so cur) (by omega)) (fun v1879 S1880 h1878 => ?_)
                    obtain ⟨h1881, h1882⟩ := h1878
                    rw [h1881, h1882]
                    show X_T sc 79 (202, [(8, .int (iI (bI (X_isOp (so cur) ∧ pile < 2)))), (7, .int (iI (bI (¬ X_isOp (so cur) ∧ pile = 16)))), (6, .int (iI (bI ((so cur) = 64 ∧ (X_vl ct cur < 1 ∨ d 4 0 < X_vl ct cur))))), (5, .int (iI (X_vl ct cur))), (4, .int (iI (so cur))), (3, .int (iI (pl cur))), (0, .ref 496), (1, .ref a), (2, .int (iI pile))], [.int (iI (bI (X_isOp (so cur))))], S1873) _
                    refine T_bif_eq xr_79_202 (t := 211) (pc' := 205) rfl rfl (fun c1883 => ?_) (fun c1883 => ?_)
                    · skip
                      have c1883 : ¬ (X_isOp (so cur)) := c1883
                      refine T_p xr_79_211 xn_79 (pc' := 212) (ls' := [(8, .int (iI (bI (X_isOp (so cur) ∧ pile < 2)))), (7, .int (iI (bI (¬ X_isOp (so cur) ∧ pile = 16)))), (6, .int (iI (bI ((so cur) = 64 ∧ (X_vl ct cur < 1 ∨ d 4 0 < X_vl ct cur))))), (5, .int (iI (X_vl ct cur))), (4, .int (iI (so cur))), (3, .int (iI (pl cur))), (0, .ref 496), (1, .ref a), (2, .int (iI pile))]) (st' := [.int (iI pile)]) rfl ?_
                      refine T_p xr_79_212 xn_79 (pc' := 213) (ls' := [(8, .int (iI (bI (X_isOp (so cur) ∧ pile < 2)))), (7, .int (iI (bI (¬ X_isOp (so cur) ∧ pile = 16)))), (6, .int (iI (bI ((so cur) = 64 ∧ (X_vl ct cur < 1 ∨ d 4 0 < X_vl ct cur))))), (5, .int (iI (X_vl ct cur))), (4, .int (iI (so cur))), (3, .int (iI (pl cur))), (0, .ref 496), (1, .ref a), (2, .int (iI pile))]) (st' := [.int (iI 1), .int (iI pile)]) rfl ?_
                      refine T_ziadd xr_79_213 (z := pile + 1) rfl (pc' := 214) rfl ?_
                      refine T_iret xr_79_214 xf_79.2.2 rfl ?_
                      refine hQ _ _ ?_
                      have h1884 := (h1875.1 496 (by omega)).trans (h1866)
                      have h1885 := (h1875.1 a (by omega)).trans (hw1863.1)
                      have h1886 := (h1875.1 (a + 1) (by omega)).trans (hw1863.2.1)
                      have h1887 := (h1875.1 (a + 2) (by omega)).trans (hw1863.2.2.1)
                      have h1888 := (h1875.1 (a + 3) (by omega)).trans (hw1863.2.2.2.1)
                      have h1889 := (h1875.1 (a + 4) (by omega)).trans (hw1863.2.2.2.2.1)
                      have h1890 := (h1875.1 (a + 5) (by omega)).trans (hw1863.2.2.2.2.2.1)
                      have h1891 := (h1875.1 (a + 6) (by omega)).trans (hw1863.2.2.2.2.2.2.1)
                      have h1892 := (h1875.1 (a + 7) (by omega)).trans (hw1863.2.2.2.2.2.2.2)
                      refine Or.inl ⟨X_av n cur, X_aS d (so cur) (X_vl ct cur), pile + 1, rfl, ?_, h1884, h1876, by omega, ⟨h1885, h1886, h1887, h1888, h1889, h1890, h1891, h1892⟩, hr1865, ((X_Fr.rf).tr (X_Fr.mono ⟨hf1864.1, hf1864.2⟩ (fun q hq => (by omega)))).tr (X_Fr.mono ⟨h1875.1, h1875.2⟩ (fun q hq => (by omega)))⟩
                      unfold sp_step sp_stF
                      (repeat (first | rw [if_pos (by assumption)] | rw [if_neg (by assumption)]))
                      all_goals first | rfl | ((repeat' split) <;> first | rfl | (exfalso; omega))
                    · skip
                      have c1883 : (X_isOp (so cur)) := c1883
                      refine T_p xr_79_205 xn_79 (pc' := 206) (ls' := [(8, .int (iI (bI (X_isOp (so cur) ∧ pile < 2)))), (7, .int (iI (bI (¬ X_isOp (so cur) ∧ pile = 16)))), (6, .int (iI (bI ((so cur) = 64 ∧ (X_vl ct cur < 1 ∨ d 4 0 < X_vl ct cur))))), (5, .int (iI (X_vl ct cur))), (4, .int (iI (so cur))), (3, .int (iI (pl cur))), (0, .ref 496), (1, .ref a), (2, .int (iI pile))]) (st' := [.int (iI pile)]) rfl ?_
                      refine T_p xr_79_206 xn_79 (pc' := 207) (ls' := [(8, .int (iI (bI (X_isOp (so cur) ∧ pile < 2)))), (7, .int (iI (bI (¬ X_isOp (so cur) ∧ pile = 16)))), (6, .int (iI (bI ((so cur) = 64 ∧ (X_vl ct cur < 1 ∨ d 4 0 < X_vl ct cur))))), (5, .int (iI (X_vl ct cur))), (4, .int (iI (so cur))), (3, .int (iI (pl cur))), (0, .ref 496), (1, .ref a), (2, .int (iI pile))]) (st' := [.int (iI 1), .int (iI pile)]) rfl ?_
                      refine T_zisub xr_79_207 (z := pile - 1) rfl (pc' := 208) rfl ?_
                      refine T_p xr_79_208 xn_79 (pc' := 214) (ls' := [(8, .int (iI (bI (X_isOp (so cur) ∧ pile < 2)))), (7, .int (iI (bI (¬ X_isOp (so cur) ∧ pile = 16)))), (6, .int (iI (bI ((so cur) = 64 ∧ (X_vl ct cur < 1 ∨ d 4 0 < X_vl ct cur))))), (5, .int (iI (X_vl ct cur))), (4, .int (iI (so cur))), (3, .int (iI (pl cur))), (0, .ref 496), (1, .ref a), (2, .int (iI pile))]) (st' := [.int (iI (pile - 1))]) rfl ?_
                      refine T_iret xr_79_214 xf_79.2.2 rfl ?_
                      refine hQ _ _ ?_
                      have h1893 := (h1875.1 496 (by omega)).trans (h1866)
                      have h1894 := (h1875.1 a (by omega)).trans (hw1863.1)
                      have h1895 := (h1875.1 (a + 1) (by omega)).trans (hw1863.2.1)
                      have h1896 := (h1875.1 (a + 2) (by omega)).trans (hw1863.2.2.1)
                      have h1897 := (h1875.1 (a + 3) (by omega)).trans (hw1863.2.2.2.1)
                      have h1898 := (h1875.1 (a + 4) (by omega)).trans (hw1863.2.2.2.2.1)
                      have h1899 := (h1875.1 (a + 5) (by omega)).trans (hw1863.2.2.2.2.2.1)
                      have h1900 := (h1875.1 (a + 6) (by omega)).trans (hw1863.2.2.2.2.2.2.1)
                      have h1901 := (h1875.1 (a + 7) (by omega)).trans (hw1863.2.2.2.2.2.2.2)
                      refine Or.inl ⟨X_av n cur, X_aS d (so cur) (X_vl ct cur), pile - 1, rfl, ?_, h1893, h1876, by omega, ⟨h1894, h1895, h1896, h1897, h1898, h1899, h1900, h1901⟩, hr1865, ((X_Fr.rf).tr (X_Fr.mono ⟨hf1864.1, hf1864.2⟩ (fun q hq => (by omega)))).tr (X_Fr.mono ⟨h1875.1, h1875.2⟩ (fun q hq => (by omega)))⟩
                      unfold sp_step sp_stF
                      (repeat (first | rw [if_pos (by assumption)] | rw [if_neg (by assumption)]))
                      all_goals first | rfl | ((repeat' split) <;> first | rfl | (exfalso; omega))
                  · skip
                    have c1858 : (X_isOp (so cur) ∧ pile < 2) := c1858
                    refine T_p xr_79_174 xn_79 (pc' := 175) (ls' := [(8, .int (iI (bI (X_isOp (so cur) ∧ pile < 2)))), (7, .int (iI (bI (¬ X_isOp (so cur) ∧ pile = 16)))), (6, .int (iI (bI ((so cur) = 64 ∧ (X_vl ct cur < 1 ∨ d 4 0 < X_vl ct cur))))), (5, .int (iI (X_vl ct cur))), (4, .int (iI (so cur))), (3, .int (iI (pl cur))), (0, .ref 496), (1, .ref a), (2, .int (iI pile))]) (st' := [.ref 496]) rfl ?_
                    refine T_p xr_79_175 xn_79 (pc' := 176) (ls' := [(8, .int (iI (bI (X_isOp (so cur) ∧ pile < 2)))), (7, .int (iI (bI (¬ X_isOp (so cur) ∧ pile = 16)))), (6, .int (iI (bI ((so cur) = 64 ∧ (X_vl ct cur < 1 ∨ d 4 0 < X_vl ct cur))))), (5, .int (iI (X_vl ct cur))), (4, .int (iI (so cur))), (3, .int (iI (pl cur))), (0, .ref 496), (1, .ref a), (2, .int (iI pile))]) (st' := [.int (iI 5), .ref 496]) rfl ?_
                    refine T_p xr_79_176 xn_79 (pc' := 177) (ls' := [(8, .int (iI (bI (X_isOp (so cur) ∧ pile < 2)))), (7, .int (iI (bI (¬ X_isOp (so cur) ∧ pile = 16)))), (6, .int (iI (bI ((so cur) = 64 ∧ (X_vl ct cur < 1 ∨ d 4 0 < X_vl ct cur))))), (5, .int (iI (X_vl ct cur))), (4, .int (iI (so cur))), (3, .int (iI (pl cur))), (0, .ref 496), (1, .ref a), (2, .int (iI pile))]) (st' := [.int (iI (pl cur)), .int (iI 5), .ref 496]) rfl ?_
                    refine T_cv (S := S) (q := 496) xr_79_177 xf_66.1 xf_66.2.1 xn_66 (as := [.int (iI 5), .int (iI (pl cur))]) (r := []) rfl hp (Nat.le_of_ble_eq_true rfl) (Nat.le_of_ble_eq_true rfl) (pc' := 180) rfl (ls' := [(0, .ref 496), (1, .int (iI 5)), (2, .int (iI (pl cur)))]) rfl ?_
                    refine T_p xr_66_0 xn_66 (pc' := 1) (ls' := [(0, .ref 496), (1, .int (iI 5)), (2, .int (iI (pl cur)))]) (st' := [.ref 496]) rfl ?_
                    refine T_p xr_66_1 xn_66 (pc' := 2) (ls' := [(0, .ref 496), (1, .int (iI 5)), (2, .int (iI (pl cur)))]) (st' := [.int (iI 5), .ref 496]) rfl ?_
                    refine T_put xr_66_2 hp rfl (Nat.le_of_ble_eq_true rfl) rfl (fs' := [.ref 497, .ref B, .int (iI 5), .int (iI fp)]) rfl (pc' := 5) rfl (fun S1902 h1903 n1904 e1905 => ?_)
                    refine T_p xr_66_5 xn_66 (pc' := 6) (ls' := [(0, .ref 496), (1, .int (iI 5)), (2, .int (iI (pl cur)))]) (st' := [.ref 496]) rfl ?_
                    refine T_p xr_66_6 xn_66 (pc' := 7) (ls' := [(0, .ref 496), (1, .int (iI 5)), (2, .int (iI (pl cur)))]) (st' := [.int (iI (pl cur)), .ref 496]) rfl ?_
                    refine T_put xr_66_7 h1903 rfl (Nat.le_of_ble_eq_true rfl) rfl (fs' := [.ref 497, .ref B, .int (iI 5), .int (iI (pl cur))]) rfl (pc' := 10) rfl (fun S1906 h1907 n1908 e1909 => ?_)
                    refine T_vret xr_66_10 xf_66.2.2 ?_
                    show X_T sc 79 (180, [(8, .int (iI (bI (X_isOp (so cur) ∧ pile < 2)))), (7, .int (iI (bI (¬ X_isOp (so cur) ∧ pile = 16)))), (6, .int (iI (bI ((so cur) = 64 ∧ (X_vl ct cur < 1 ∨ d 4 0 < X_vl ct cur))))), (5, .int (iI (X_vl ct cur))), (4, .int (iI (so cur))), (3, .int (iI (pl cur))), (0, .ref 496), (1, .ref a), (2, .int (iI pile))], [], S1906) _
                    refine T_p xr_79_180 xn_79 (pc' := 181) (ls' := [(8, .int (iI (bI (X_isOp (so cur) ∧ pile < 2)))), (7, .int (iI (bI (¬ X_isOp (so cur) ∧ pile = 16)))), (6, .int (iI (bI ((so cur) = 64 ∧ (X_vl ct cur < 1 ∨ d 4 0 < X_vl ct cur))))), (5, .int (iI (X_vl ct cur))), (4, .int (iI (so cur))), (3, .int (iI (pl cur))), (0, .ref 496), (1, .ref a), (2, .int (iI pile))]) (st' := [.int (iI (-1))]) rfl ?_
                    refine T_iret xr_79_181 xf_79.2.2 rfl ?_
                    refine hQ _ _ ?_
                    have h1910 := (n1908 497 (by decide)).trans ((n1904 497 (by decide)).trans (hx.1))
                    have h1911 := (n1908 a (by omega)).trans ((n1904 a (by omega)).trans (hw.1))
                    have h1912 := (n1908 (a + 1) (by omega)).trans ((n1904 (a + 1) (by omega)).trans (hw.2.1))
                    have h1913 := (n1908 (a + 2) (by omega)).trans ((n1904 (a + 2) (by omega)).trans (hw.2.2.1))
                    have h1914 := (n1908 (a + 3) (by omega)).trans ((n1904 (a + 3) (by omega)).trans (hw.2.2.2.1))
                    have h1915 := (n1908 (a + 4) (by omega)).trans ((n1904 (a + 4) (by omega)).trans (hw.2.2.2.2.1))
                    have h1916 := (n1908 (a + 5) (by omega)).trans ((n1904 (a + 5) (by omega)).trans (hw.2.2.2.2.2.1))
                    have h1917 := (n1908 (a + 6) (by omega)).trans ((n1904 (a + 6) (by omega)).trans (hw.2.2.2.2.2.2.1))
                    have h1918 := (n1908 (a + 7) (by omega)).trans ((n1904 (a + 7) (by omega)).trans (hw.2.2.2.2.2.2.2))
                    refine Or.inr ⟨rfl, ?_, ⟨_, _, by omega, h1907⟩, ⟨cur, h1910, by omega⟩, ⟨h1911, h1912, h1913, h1914, h1915, h1916, h1917, h1918⟩, ((X_Fr.rf).tr (X_Fr.of n1904 e1905 (by omega))).tr (X_Fr.of n1908 e1909 (by omega))⟩
                    unfold sp_step sp_stF
                    (repeat (first | rw [if_pos (by assumption)] | rw [if_neg (by assumption)]))
                    all_goals first | rfl | ((repeat' split) <;> first | rfl | (exfalso; omega))
            refine T_p xr_79_139 xn_79 (pc' := 141) (ls' := [(7, .int (iI (bI (¬ X_isOp (so cur) ∧ pile = 16)))), (6, .int (iI (bI ((so cur) = 64 ∧ (X_vl ct cur < 1 ∨ d 4 0 < X_vl ct cur))))), (5, .int (iI (X_vl ct cur))), (4, .int (iI (so cur))), (3, .int (iI (pl cur))), (0, .ref 496), (1, .ref a), (2, .int (iI pile))]) (st' := [.int (iI (so cur))]) rfl ?_
            refine T_cs xr_79_141 (by decide) xf_81.1 xn_81 (as := [.int (iI (so cur))]) (r := []) rfl (Nat.le_of_ble_eq_true rfl) (Nat.le_of_ble_eq_true rfl) (pc' := 144) rfl (ls' := [(0, .int (iI (so cur)))]) rfl ?_
            refine T_mono (c_isOperation sc S (so cur) (by omega)) (fun v1920 S1921 h1919 => ?_)
            obtain ⟨h1922, h1923⟩ := h1919
            rw [h1922, h1923]
            show X_T sc 79 (144, [(7, .int (iI (bI (¬ X_isOp (so cur) ∧ pile = 16)))), (6, .int (iI (bI ((so cur) = 64 ∧ (X_vl ct cur < 1 ∨ d 4 0 < X_vl ct cur))))), (5, .int (iI (X_vl ct cur))), (4, .int (iI (so cur))), (3, .int (iI (pl cur))), (0, .ref 496), (1, .ref a), (2, .int (iI pile))], [.int (iI (bI (X_isOp (so cur))))], S) _
            refine T_bif_eq xr_79_144 (t := 156) (pc' := 147) rfl rfl (fun c1924 => ?_) (fun c1924 => ?_)
            · skip
              have c1924 : ¬ (X_isOp (so cur)) := c1924
              refine T_p xr_79_156 xn_79 (pc' := 157) (ls' := [(7, .int (iI (bI (¬ X_isOp (so cur) ∧ pile = 16)))), (6, .int (iI (bI ((so cur) = 64 ∧ (X_vl ct cur < 1 ∨ d 4 0 < X_vl ct cur))))), (5, .int (iI (X_vl ct cur))), (4, .int (iI (so cur))), (3, .int (iI (pl cur))), (0, .ref 496), (1, .ref a), (2, .int (iI pile))]) (st' := [.int (iI 0)]) rfl ?_
              refine T_ie (y := iI (bI (X_isOp (so cur) ∧ pile < 2))) (by rw [bI_f (by rintro ⟨h1, h2⟩; first | omega | contradiction)]) ?_
              exact J1821
            · skip
              have c1924 : (X_isOp (so cur)) := c1924
              refine T_p xr_79_147 xn_79 (pc' := 148) (ls' := [(7, .int (iI (bI (¬ X_isOp (so cur) ∧ pile = 16)))), (6, .int (iI (bI ((so cur) = 64 ∧ (X_vl ct cur < 1 ∨ d 4 0 < X_vl ct cur))))), (5, .int (iI (X_vl ct cur))), (4, .int (iI (so cur))), (3, .int (iI (pl cur))), (0, .ref 496), (1, .ref a), (2, .int (iI pile))]) (st' := [.int (iI pile)]) rfl ?_
              refine T_p xr_79_148 xn_79 (pc' := 149) (ls' := [(7, .int (iI (bI (¬ X_isOp (so cur) ∧ pile = 16)))), (6, .int (iI (bI ((so cur) = 64 ∧ (X_vl ct cur < 1 ∨ d 4 0 < X_vl ct cur))))), (5, .int (iI (X_vl ct cur))), (4, .int (iI (so cur))), (3, .int (iI (pl cur))), (0, .ref 496), (1, .ref a), (2, .int (iI pile))]) (st' := [.int (iI 2), .int (iI pile)]) rfl ?_
              refine T_zicmp_ge xr_79_149 (t := 156) (pc' := 152) rfl rfl (fun c1925 => ?_) (fun c1925 => ?_)
              · skip
                have c1925 : 2 ≤ pile := c1925
                refine T_p xr_79_156 xn_79 (pc' := 157) (ls' := [(7, .int (iI (bI (¬ X_isOp (so cur) ∧ pile = 16)))), (6, .int (iI (bI ((so cur) = 64 ∧ (X_vl ct cur < 1 ∨ d 4 0 < X_vl ct cur))))), (5, .int (iI (X_vl ct cur))), (4, .int (iI (so cur))), (3, .int (iI (pl cur))), (0, .ref 496), (1, .ref a), (2, .int (iI pile))]) (st' := [.int (iI 0)]) rfl ?_
                refine T_ie (y := iI (bI (X_isOp (so cur) ∧ pile < 2))) (by rw [bI_f (by rintro ⟨h1, h2⟩; first | omega | contradiction)]) ?_
                exact J1821
              · skip
                have c1925 : ¬ (2 ≤ pile) := c1925
                refine T_p xr_79_152 xn_79 (pc' := 153) (ls' := [(7, .int (iI (bI (¬ X_isOp (so cur) ∧ pile = 16)))), (6, .int (iI (bI ((so cur) = 64 ∧ (X_vl ct cur < 1 ∨ d 4 0 < X_vl ct cur))))), (5, .int (iI (X_vl ct cur))), (4, .int (iI (so cur))), (3, .int (iI (pl cur))), (0, .ref 496), (1, .ref a), (2, .int (iI pile))]) (st' := [.int (iI 1)]) rfl ?_
                refine T_p xr_79_153 xn_79 (pc' := 157) (ls' := [(7, .int (iI (bI (¬ X_isOp (so cur) ∧ pile = 16)))), (6, .int (iI (bI ((so cur) = 64 ∧ (X_vl ct cur < 1 ∨ d 4 0 < X_vl ct cur))))), (5, .int (iI (X_vl ct cur))), (4, .int (iI (so cur))), (3, .int (iI (pl cur))), (0, .ref 496), (1, .ref a), (2, .int (iI pile))]) (st' := [.int (iI 1)]) rfl ?_
                refine T_ie (y := iI (bI (X_isOp (so cur) ∧ pile < 2))) (by rw [bI_t (by exact ⟨by assumption, by omega⟩)]) ?_
                exact J1821
          refine T_p xr_79_118 xn_79 (pc' := 120) (ls' := [(6, .int (iI (bI ((so cur) = 64 ∧ (X_vl ct cur < 1 ∨ d 4 0 < X_vl ct cur))))), (5, .int (iI (X_vl ct cur))), (4, .int (iI (so cur))), (3, .int (iI (pl cur))), (0, .ref 496), (1, .ref a), (2, .int (iI pile))]) (st' := [.int (iI (so cur))]) rfl ?_
          refine T_cs xr_79_120 (by decide) xf_81.1 xn_81 (as := [.int (iI (so cur))]) (r := []) rfl (Nat.le_of_ble_eq_true rfl) (Nat.le_of_ble_eq_true rfl) (pc' := 123) rfl (ls' := [(0, .int (iI (so cur)))]) rfl ?_
          refine T_mono (c_isOperation sc S (so cur) (by omega)) (fun v1927 S1928 h1926 => ?_)
          obtain ⟨h1929, h1930⟩ := h1926
          rw [h1929, h1930]
          show X_T sc 79 (123, [(6, .int (iI (bI ((so cur) = 64 ∧ (X_vl ct cur < 1 ∨ d 4 0 < X_vl ct cur))))), (5, .int (iI (X_vl ct cur))), (4, .int (iI (so cur))), (3, .int (iI (pl cur))), (0, .ref 496), (1, .ref a), (2, .int (iI pile))], [.int (iI (bI (X_isOp (so cur))))], S) _
          refine T_bif_ne xr_79_123 (t := 136) (pc' := 126) rfl rfl (fun c1931 => ?_) (fun c1931 => ?_)
          · skip
            have c1931 : (X_isOp (so cur)) := c1931
            refine T_p xr_79_136 xn_79 (pc' := 137) (ls' := [(6, .int (iI (bI ((so cur) = 64 ∧ (X_vl ct cur < 1 ∨ d 4 0 < X_vl ct cur))))), (5, .int (iI (X_vl ct cur))), (4, .int (iI (so cur))), (3, .int (iI (pl cur))), (0, .ref 496), (1, .ref a), (2, .int (iI pile))]) (st' := [.int (iI 0)]) rfl ?_
            refine T_ie (y := iI (bI (¬ X_isOp (so cur) ∧ pile = 16))) (by rw [bI_f (by rintro ⟨h1, h2⟩; first | omega | contradiction)]) ?_
            exact J1820
          · skip
            have c1931 : ¬ (X_isOp (so cur)) := c1931
            refine T_p xr_79_126 xn_79 (pc' := 127) (ls' := [(6, .int (iI (bI ((so cur) = 64 ∧ (X_vl ct cur < 1 ∨ d 4 0 < X_vl ct cur))))), (5, .int (iI (X_vl ct cur))), (4, .int (iI (so cur))), (3, .int (iI (pl cur))), (0, .ref 496), (1, .ref a), (2, .int (iI pile))]) (st' := [.int (iI pile)]) rfl ?_
            refine T_p xr_79_127 xn_79 (pc' := 129) (ls' := [(6, .int (iI (bI ((so cur) = 64 ∧ (X_vl ct cur < 1 ∨ d 4 0 < X_vl ct cur))))), (5, .int (iI (X_vl ct cur))), (4, .int (iI (so cur))), (3, .int (iI (pl cur))), (0, .ref 496), (1, .ref a), (2, .int (iI pile))]) (st' := [.int (iI 16), .int (iI pile)]) rfl ?_
            refine T_zicmp_ne xr_79_129 (t := 136) (pc' := 132) rfl rfl (fun c1932 => ?_) (fun c1932 => ?_)
            · skip
              have c1932 : ¬ pile = 16 := c1932
              refine T_p xr_79_136 xn_79 (pc' := 137) (ls' := [(6, .int (iI (bI ((so cur) = 64 ∧ (X_vl ct cur < 1 ∨ d 4 0 < X_vl ct cur))))), (5, .int (iI (X_vl ct cur))), (4, .int (iI (so cur))), (3, .int (iI (pl cur))), (0, .ref 496), (1, .ref a), (2, .int (iI pile))]) (st' := [.int (iI 0)]) rfl ?_
              refine T_ie (y := iI (bI (¬ X_isOp (so cur) ∧ pile = 16))) (by rw [bI_f (by rintro ⟨h1, h2⟩; first | omega | contradiction)]) ?_
              exact J1820
            · skip
              have c1932 : ¬ (¬ pile = 16) := c1932
              refine T_p xr_79_132 xn_79 (pc' := 133) (ls' := [(6, .int (iI (bI ((so cur) = 64 ∧ (X_vl ct cur < 1 ∨ d 4 0 < X_vl ct cur))))), (5, .int (iI (X_vl ct cur))), (4, .int (iI (so cur))), (3, .int (iI (pl cur))), (0, .ref 496), (1, .ref a), (2, .int (iI pile))]) (st' := [.int (iI 1)]) rfl ?_
              refine T_p xr_79_133 xn_79 (pc' := 137) (ls' := [(6, .int (iI (bI ((so cur) = 64 ∧ (X_vl ct cur < 1 ∨ d 4 0 < X_vl ct cur))))), (5, .int (iI (X_vl ct cur))), (4, .int (iI (so cur))), (3, .int (iI (pl cur))), (0, .ref 496), (1, .ref a), (2, .int (iI pile))]) (st' := [.int (iI 1)]) rfl ?_
              refine T_ie (y := iI (bI (¬ X_isOp (so cur) ∧ pile = 16))) (by rw [bI_t (by exact ⟨by assumption, by omega⟩)]) ?_
              exact J1820
        refine T_p xr_79_89 xn_79 (pc' := 91) (ls' := [(5, .int (iI (X_vl ct cur))), (4, .int (iI (so cur))), (3, .int (iI (pl cur))), (0, .ref 496), (1, .ref a), (2, .int (iI pile))]) (st' := [.int (iI (so cur))]) rfl ?_
        refine T_p xr_79_91 xn_79 (pc' := 93) (ls' := [(5, .int (iI (X_vl ct cur))), (4, .int (iI (so cur))), (3, .int (iI (pl cur))), (0, .ref 496), (1, .ref a), (2, .int (iI pile))]) (st' := [.int (iI 64), .int (iI (so cur))]) rfl ?_
        refine T_zicmp_ne xr_79_93 (t := 115) (pc' := 96) rfl rfl (fun c1933 => ?_) (fun c1933 => ?_)
        · skip
          have c1933 : ¬ (so cur) = 64 := c1933
          refine T_p xr_79_115 xn_79 (pc' := 116) (ls' := [(5, .int (iI (X_vl ct cur))), (4, .int (iI (so cur))), (3, .int (iI (pl cur))), (0, .ref 496), (1, .ref a), (2, .int (iI pile))]) (st' := [.int (iI 0)]) rfl ?_
          refine T_ie (y := iI (bI ((so cur) = 64 ∧ (X_vl ct cur < 1 ∨ d 4 0 < X_vl ct cur)))) (by rw [bI_f (by rintro ⟨h1, h2⟩; omega)]) ?_
          exact J1819
        · skip
          have c1933 : ¬ (¬ (so cur) = 64) := c1933
          exact (show False by first | contradiction | omega).elim
      · skip
        have c1812 : ¬ ((so cur) = 4) := c1812
        refine T_p xr_79_65 xn_79 (pc' := 67) (ls' := [(4, .int (iI (so cur))), (3, .int (iI (pl cur))), (0, .ref 496), (1, .ref a), (2, .int (iI pile))]) (st' := [.int (iI (so cur))]) rfl ?_
        refine T_cs xr_79_67 (by decide) xf_81.1 xn_81 (as := [.int (iI (so cur))]) (r := []) rfl (Nat.le_of_ble_eq_true rfl) (Nat.le_of_ble_eq_true rfl) (pc' := 70) rfl (ls' := [(0, .int (iI (so cur)))]) rfl ?_
        refine T_mono (c_isOperation sc S (so cur) (by omega)) (fun v1935 S1936 h1934 => ?_)
        obtain ⟨h1937, h1938⟩ := h1934
        rw [h1937, h1938]
        show X_T sc 79 (70, [(4, .int (iI (so cur))), (3, .int (iI (pl cur))), (0, .ref 496), (1, .ref a), (2, .int (iI pile))], [.int (iI (bI (X_isOp (so cur))))], S) _
        refine T_bif_ne xr_79_70 (t := 79) (pc' := 73) rfl rfl (fun c1939 => ?_) (fun c1939 => ?_)
        · skip
          have c1939 : (X_isOp (so cur)) := c1939
          refine T_p xr_79_79 xn_79 (pc' := 80) (ls' := [(4, .int (iI (so cur))), (3, .int (iI (pl cur))), (0, .ref 496), (1, .ref a), (2, .int (iI pile))]) (st' := [.ref 496]) rfl ?_
          refine T_get xr_79_80 hp rfl (v := .ref 497) rfl (pc' := 83) rfl ?_
          refine T_cv (S := S) (q := 497) xr_79_83 xf_50.1 xf_50.2.1 xn_50 (as := []) (r := []) rfl hx.1 (Nat.le_of_ble_eq_true rfl) (Nat.le_of_ble_eq_true rfl) (pc' := 86) rfl (ls' := [(0, .ref 497)]) rfl ?_
          refine T_mono (c_content sc S at_ n cur so pl ct ⟨hx.1, hx.2.1, hx.2.2.1, hx.2.2.2⟩ (by omega)) (fun v1941 S1942 h1940 => ?_)
          obtain ⟨h1943, h1944⟩ := h1940
          rw [h1943, h1944]
          show X_T sc 79 (86, [(4, .int (iI (so cur))), (3, .int (iI (pl cur))), (0, .ref 496), (1, .ref a), (2, .int (iI pile))], [.long (ct cur)], S) _
          refine T_zop xr_79_86 (pc' := 87) rfl (z := ((ct cur : Int64).toInt32).toInt) (iI_of _) ?_
          refine T_ie (y := iI (X_vl ct cur)) rfl ?_
          have hv1945 := X_vl_r ct cur
          refine T_p xr_79_87 xn_79 (pc' := 89) (ls' := [(5, .int (iI (X_vl ct cur))), (4, .int (iI (so cur))), (3, .int (iI (pl cur))), (0, .ref 496), (1, .ref a), (2, .int (iI pile))]) (st' := []) rfl ?_
          have J1946 : X_T sc 79 (116, [(5, .int (iI (X_vl ct cur))), (4, .int (iI (so cur))), (3, .int (iI (pl cur))), (0, .ref 496), (1, .ref a), (2, .int (iI pile))], [.int (iI (bI ((so cur) = 64 ∧ (X_vl ct cur < 1 ∨ d 4 0 < X_vl ct cur))))], S) Q := by
            refine T_p xr_79_116 xn_79 (pc' := 118) (ls' := [(6, .int (iI (bI ((so cur) = 64 ∧ (X_vl ct cur < 1 ∨ d 4 0 < X_vl ct cur))))), (5, .int (iI (X_vl ct cur))), (4, .int (iI (so cur))), (3, .int (iI (pl cur))), (0, .ref 496), (1, .ref a), (2, .int (iI pile))]) (st' := []) rfl ?_
            have J1947 : X_T sc 79 (137, [(6, .int (iI (bI ((so cur) = 64 ∧ (X_vl ct cur < 1 ∨ d 4 0 < X_vl ct cur))))), (5, .int (iI (X_vl ct cur))), (4, .int (iI (so cur))), (3, .int (iI (pl cur))), (0, .ref 496), (1, .ref a), (2, .int (iI pile))], [.int (iI (bI (¬ X_isOp (so cur) ∧ pile = 16)))], S) Q := by
              refine T_p xr_79_137 xn_79 (pc' := 139) (ls' := [(7, .int (iI (bI (¬ X_isOp (so cur) ∧ pile = 16)))), (6, .int (iI (bI ((so cur) = 64 ∧ (X_vl ct cur < 1 ∨ d 4 0 < X_vl ct cur))))), (5, .int (iI (X_vl ct cur))), (4, .int (iI (so cur))), (3, .int (iI (pl cur))), (0, .ref 496), (1, .ref a), (2, .int (iI pile))]) (st' := []) rfl ?_
              have J1948 : X_T sc 79 (157, [(7, .int (iI (bI (¬ X_isOp (so cur) ∧ pile = 16)))), (6, .int (iI (bI ((so cur) = 64 ∧ (X_vl ct cur < 1 ∨ d 4 0 < X_vl ct cur))))), (5, .int (iI (X_vl ct cur))), (4, .int (iI (so cur))), (3, .int (iI (pl cur))), (0, .ref 496), (1, .ref a), (2, .int (iI pile))], [.int (iI (bI (X_isOp (so cur) ∧ pile < 2)))], S) Q := by
                refine T_p xr_79_157 xn_79 (pc' := 159) (ls' := [(8, .int (iI (bI (X_isOp (so cur) ∧ pile < 2)))), (7, .int (iI (bI (¬ X_isOp (so cur) ∧ pile = 16)))), (6, .int (iI (bI ((so cur) = 64 ∧ (X_vl ct cur < 1 ∨ d 4 0 < X_vl ct cur))))), (5, .int (iI (X_vl ct cur))), (4, .int (iI (so cur))), (3, .int (iI (pl cur))), (0, .ref 496), (1, .ref a), (2, .int (iI pile))]) (st' := []) rfl ?_
                refine T_p xr_79_159 xn_79 (pc' := 161) (ls' := [(8, .int (iI (bI (X_isOp (so cur) ∧ pile < 2)))), (7, .int (iI (bI (¬ X_isOp (so cur) ∧ pile = 16)))), (6, .int (iI (bI ((so cur) = 64 ∧ (X_vl ct cur < 1 ∨ d 4 0 < X_vl ct cur))))), (5, .int (iI (X_vl ct cur))), (4, .int (iI (so cur))), (3, .int (iI (pl cur))), (0, .ref 496), (1, .ref a), (2, .int (iI pile))]) (st' := [.int (iI (bI ((so cur) = 64 ∧ (X_vl ct cur < 1 ∨ d 4 0 < X_vl ct cur))))]) rfl ?_
                refine T_bif_ne xr_79_161 (t := 174) (pc' := 164) rfl rfl (fun c1949 => ?_) (fun c1949 => ?_)
                · skip
                  have c1949 : ((so cur) = 64 ∧ (X_vl ct cur < 1 ∨ d 4 0 < X_vl ct cur)) := c1949
                  refine T_p xr_79_174 xn_79 (pc' := 175) (ls' := [(8, .int (iI (bI (X_isOp (so cur) ∧ pile < 2)))), (7, .int (iI (bI (¬ X_isOp (so cur) ∧ pile = 16)))), (6, .int (iI (bI ((so cur) = 64 ∧ (X_vl ct cur < 1 ∨ d 4 0 < X_vl ct cur))))), (5, .int (iI (X_vl ct cur))), (4, .int (iI (so cur))), (3, .int (iI (pl cur))), (0, .ref 496), (1, .ref a), (2, .int (iI pile))]) (st' := [.ref 496]) rfl ?_
                  refine T_p xr_79_175 xn_79 (pc' := 176) (ls' := [(8, .int (iI (bI (X_isOp (so cur) ∧ pile < 2)))), (7, .int (iI (bI (¬ X_isOp (so cur) ∧ pile = 16)))), (6, .int (iI (bI ((so cur) = 64 ∧ (X_vl ct cur < 1 ∨ d 4 0 < X_vl ct cur))))), (5, .int (iI (X_vl ct cur))), (4, .int (iI (so cur))), (3, .int (iI (pl cur))), (0, .ref 496), (1, .ref a), (2, .int (iI pile))]) (st' := [.int (iI 5), .ref 496]) rfl ?_
                  refine T_p xr_79_176 xn_79 (pc' := 177) (ls' := [(8, .int (iI (bI (X_isOp (so cur) ∧ pile < 2)))), (7, .int (iI (bI (¬ X_isOp (so cur) ∧ pile = 16)))), (6, .int (iI (bI ((so cur) = 64 ∧ (X_vl ct cur < 1 ∨ d 4 0 < X_vl ct cur))))), (5, .int (iI (X_vl ct cur))), (4, .int (iI (so cur))), (3, .int (iI (pl cur))), (0, .ref 496), (1, .ref a), (2, .int (iI pile))]) (st' := [.int (iI (pl cur)), .int (iI 5), .ref 496]) rfl ?_
                  refine T_cv (S := S) (q := 496) xr_79_177 xf_66.1 xf_66.2.1 xn_66 (as := [.int (iI 5), .int (iI (pl cur))]) (r := []) rfl hp (Nat.le_of_ble_eq_true rfl) (Nat.le_of_ble_eq_true rfl) (pc' := 180) rfl (ls' := [(0, .ref 496), (1, .int (iI 5)), (2, .int (iI (pl cur)))]) rfl ?_
                  refine T_p xr_66_0 xn_66 (pc' := 1) (ls' := [(0, .ref 496), (1, .int (iI 5)), (2, .int (iI (pl cur)))]) (st' := [.ref 496]) rfl ?_
                  refine T_p xr_66_1 xn_66 (pc' := 2) (ls' := [(0, .ref 496), (1, .int (iI 5)), (2, .int (iI (pl cur)))]) (st' := [.int (iI 5), .ref 496]) rfl ?_
                  refine T_put xr_66_2 hp rfl (Nat.le_of_ble_eq_true rfl) rfl (fs' := [.ref 497, .ref B, .int (iI 5), .int (iI fp)]) rfl (pc' := 5) rfl (fun S1950 h1951 n1952 e1953 => ?_)
                  refine T_p xr_66_5 xn_66 (pc' := 6) (ls' := [(0, .ref 496), (1, .int (iI 5)), (2, .int (iI (pl cur)))]) (st' := [.ref 496]) rfl ?_
                  refine T_p xr_66_6 xn_66 (pc' := 7) (ls' := [(0, .ref 496), (1, .int (iI 5)), (2, .int (iI (pl cur)))]) (st' := [.int (iI (pl cur)), .ref 496]) rfl ?_
                  refine T_put xr_66_7 h1951 rfl (Nat.le_of_ble_eq_true rfl) rfl (fs' := [.ref 497, .ref B, .int (iI 5), .int (iI (pl cur))]) rfl (pc' := 10) rfl (fun S1954 h1955 n1956 e1957 => ?_)
                  refine T_vret xr_66_10 xf_66.2.2 ?_
                  show X_T sc 79 (180, [(8, .int (iI (bI (X_isOp (so cur) ∧ pile < 2)))), (7, .int (iI (bI (¬ X_isOp (so cur) ∧ pile = 16)))), (6, .int (iI (bI ((so cur) = 64 ∧ (X_vl ct cur < 1 ∨ d 4 0 < X_vl ct cur))))), (5, .int (iI (X_vl ct cur))), (4, .int (iI (so cur))), (3, .int (iI (pl cur))), (0, .ref 496), (1, .ref a), (2, .int (iI pile))], [], S1954) _
                  refine T_p xr_79_180 xn_79 (pc' := 181) (ls' := [(8, .int (iI (bI (X_isOp (so cur) ∧ pile < 2)))), (7, .int (iI (bI (¬ X_isOp (so cur) ∧ pile = 16)))), (6, .int (iI (bI ((so cur) = 64 ∧ (X_vl ct cur < 1 ∨ d 4 0 < X_vl ct cur))))), (5, .int (iI (X_vl ct cur))), (4, .int (iI (so cur))), (3, .int (iI (pl cur))), (0, .ref 496), (1, .ref a), (2, .int (iI pile))]) (st' := [.int (iI (-1))]) rfl ?_
                  refine T_iret xr_79_181 xf_79.2.2 rfl ?_
                  refine hQ _ _ ?_
                  have h1958 := (n1956 497 (by decide)).trans ((n1952 497 (by decide)).trans (hx.1))
                  have h1959 := (n1956 a (by omega)).trans ((n1952 a (by omega)).trans (hw.1))
                  have h1960 := (n1956 (a + 1) (by omega)).trans ((n1952 (a + 1) (by omega)).trans (hw.2.1))
                  have h1961 := (n1956 (a + 2) (by omega)).trans ((n1952 (a + 2) (by omega)).trans (hw.2.2.1))
                  have h1962 := (n1956 (a + 3) (by omega)).trans ((n1952 (a + 3) (by omega)).trans (hw.2.2.2.1))
                  have h1963 := (n1956 (a + 4) (by omega)).trans ((n1952 (a + 4) (by omega)).trans (hw.2.2.2.2.1))
                  have h1964 := (n1956 (a + 5) (by omega)).trans ((n1952 (a + 5) (by omega)).trans (hw.2.2.2.2.2.1))
                  have h1965 := (n1956 (a + 6) (by omega)).trans ((n1952 (a + 6) (by omega)).trans (hw.2.2.2.2.2.2.1))
                  have h1966 := (n1956 (a + 7) (by omega)).trans ((n1952 (a + 7) (by omega)).trans (hw.2.2.2.2.2.2.2))
                  refine Or.inr ⟨rfl, ?_, ⟨_, _, by omega, h1955⟩, ⟨cur, h1958, by omega⟩, ⟨h1959, h1960, h1961, h1962, h1963, h1964, h1965, h1966⟩, ((X_Fr.rf).tr (X_Fr.of n1952 e1953 (by omega))).tr (X_Fr.of n1956 e1957 (by omega))⟩
                  unfold sp_step sp_stF
                  (repeat (first | rw [if_pos (by assumption)] | rw [if_neg (by assumption)]))
                  all_goals first | rfl | ((repeat' split) <;> first | rfl | (exfalso; omega))
                · skip
                  have c1949 : ¬ ((so cur) = 64 ∧ (X_vl ct cur < 1 ∨ d 4 0 < X_vl ct cur)) := c1949
                  refine T_p xr_79_164 xn_79 (pc' := 166) (ls' := [(8, .int (iI (bI (X_isOp (so cur) ∧ pile < 2)))), (7, .int (iI (bI (¬ X_isOp (so cur) ∧ pile = 16)))), (6, .int (iI (bI ((so cur) = 64 ∧ (X_vl ct cur < 1 ∨ d 4 0 < X_vl ct cur))))), (5, .int (iI (X_vl ct cur))), (4, .int (iI (so cur))), (3, .int (iI (pl cur))), (0, .ref 496), (1, .ref a), (2, .int (iI pile))]) (st' := [.int (iI (bI (¬ X_isOp (so cur) ∧ pile = 16)))]) rfl ?_
                  refine T_bif_ne xr_79_166 (t := 174) (pc' := 169) rfl rfl (fun c1967 => ?_) (fun c1967 => ?_)
                  · skip
                    have c1967 : (¬ X_isOp (so cur) ∧ pile = 16) := c1967
                    refine T_p xr_79_174 xn_79 (pc' := 175) (ls' := [(8, .int (iI (bI (X_isOp (so cur) ∧ pile < 2)))), (7, .int (iI (bI (¬ X_isOp (so cur) ∧ pile = 16)))), (6, .int (iI (bI ((so cur) = 64 ∧ (X_vl ct cur < 1 ∨ d 4 0 < X_vl ct cur))))), (5, .int (iI (X_vl ct cur))), (4, .int (iI (so cur))), (3, .int (iI (pl cur))), (0, .ref 496), (1, .ref a), (2, .int (iI pile))]) (st' := [.ref 496]) rfl ?_
                    refine T_p xr_79_175 xn_79 (pc' := 176) (ls' := [(8, .int (iI (bI (X_isOp (so cur) ∧ pile < 2)))), (7, .int (iI (bI (¬ X_isOp (so cur) ∧ pile = 16)))), (6, .int (iI (bI ((so cur) = 64 ∧ (X_vl ct cur < 1 ∨ d 4 0 < X_vl ct cur))))), (5, .int (iI (X_vl ct cur))), (4, .int (iI (so cur))), (3, .int (iI (pl cur))), (0, .ref 496), (1, .ref a), (2, .int (iI pile))]) (st' := [.int (iI 5), .ref 496]) rfl ?_
                    refine T_p xr_79_176 xn_79 (pc' := 177) (ls' := [(8, .int (iI (bI (X_isOp (so cur) ∧ pile < 2)))), (7, .int (iI (bI (¬ X_isOp (so cur) ∧ pile = 16)))), (6, .int (iI (bI ((so cur) = 64 ∧ (X_vl ct cur < 1 ∨ d 4 0 < X_vl ct cur))))), (5, .int (iI (X_vl ct cur))), (4, .int (iI (so cur))), (3, .int (iI (pl cur))), (0, .ref 496), (1, .ref a), (2, .int (iI pile))]) (st' := [.int (iI (pl cur)), .int (iI 5), .ref 496]) rfl ?_
                    refine T_cv (S := S) (q := 496) xr_79_177 xf_66.1 xf_66.2.1 xn_66 (as := [.int (iI 5), .int (iI (pl cur))]) (r := []) rfl hp (Nat.le_of_ble_eq_true rfl) (Nat.le_of_ble_eq_true rfl) (pc' := 180) rfl (ls' := [(0, .ref 496), (1, .int (iI 5)), (2, .int (iI (pl cur)))]) rfl ?_
                    refine T_p xr_66_0 xn_66 (pc' := 1) (ls' := [(0, .ref 496), (1, .int (iI 5)), (2, .int (iI (pl cur)))]) (st' := [.ref 496]) rfl ?_
                    refine T_p xr_66_1 xn_66 (pc' := 2) (ls' := [(0, .ref 496), (1, .int (iI 5)), (2, .int (iI (pl cur)))]) (st' := [.int (iI 5), .ref 496]) rfl ?_
                    refine T_put xr_66_2 hp rfl (Nat.le_of_ble_eq_true rfl) rfl (fs' := [.ref 497, .ref B, .int (iI 5), .int (iI fp)]) rfl (pc' := 5) rfl (fun S1968 h1969 n1970 e1971 => ?_)
                    refine T_p xr_66_5 xn_66 (pc' := 6) (ls' := [(0, .ref 496), (1, .int (iI 5)), (2, .int (iI (pl cur)))]) (st' := [.ref 496]) rfl ?_
                    refine T_p xr_66_6 xn_66 (pc' := 7) (ls' := [(0, .ref 496), (1, .int (iI 5)), (2, .int (iI (pl cur)))]) (st' := [.int (iI (pl cur)), .ref 496]) rfl ?_
                    refine T_put xr_66_7 h1969 rfl (Nat.le_of_ble_eq_true rfl) rfl (fs' := [.ref 497, .ref B, .int (iI 5), .int (iI (pl cur))]) rfl (pc' := 10) rfl (fun S1972 h1973 n1974 e1975 => ?_)
                    refine T_vret xr_66_10 xf_66.2.2 ?_
                    show X_T sc 79 (180, [(8, .int (iI (bI (X_isOp (so cur) ∧ pile < 2)))), (7, .int (iI (bI (¬ X_isOp (so cur) ∧ pile = 16)))), (6, .int (iI (bI ((so cur) = 64 ∧ (X_vl ct cur < 1 ∨ d 4 0 < X_vl ct cur))))), (5, .int (iI (X_vl ct cur))), (4, .int (iI (so cur))), (3, .int (iI (pl cur))), (0, .ref 496), (1, .ref a), (2, .int (iI pile))], [], S1972) _
                    refine T_p xr_79_180 xn_79 (pc' := 181) (ls' := [(8, .int (iI (bI (X_isOp (so cur) ∧ pile < 2)))), (7, .int (iI (bI (¬ X_isOp (so cur) ∧ pile = 16)))), (6, .int (iI (bI ((so cur) = 64 ∧ (X_vl ct cur < 1 ∨ d 4 0 < X_vl ct cur))))), (5, .int (iI (X_vl ct cur))), (4, .int (iI (so cur))), (3, .int (iI (pl cur))), (0, .ref 496), (1, .ref a), (2, .int (iI pile))]) (st' := [.int (iI (-1))]) rfl ?_
                    refine T_iret xr_79_181 xf_79.2.2 rfl ?_
                    refine hQ _ _ ?_
                    have h1976 := (n1974 497 (by decide)).trans ((n1970 497 (by decide)).trans (hx.1))
                    have h1977 := (n1974 a (by omega)).trans ((n1970 a (by omega)).trans (hw.1))
                    have h1978 := (n1974 (a + 1) (by omega)).trans ((n1970 (a + 1) (by omega)).trans (hw.2.1))
                    have h1979 := (n1974 (a + 2) (by omega)).trans ((n1970 (a + 2) (by omega)).trans (hw.2.2.1))
                    have h1980 := (n1974 (a + 3) (by omega)).trans ((n1970 (a + 3) (by omega)).trans (hw.2.2.2.1))
                    have h1981 := (n1974 (a + 4) (by omega)).trans ((n1970 (a + 4) (by omega)).trans (hw.2.2.2.2.1))
                    have h1982 := (n1974 (a + 5) (by omega)).trans ((n1970 (a + 5) (by omega)).trans (hw.2.2.2.2.2.1))
                    have h1983 := (n1974 (a + 6) (by omega)).trans ((n1970 (a + 6) (by omega)).trans (hw.2.2.2.2.2.2.1))
                    have h1984 := (n1974 (a + 7) (by omega)).trans ((n1970 (a + 7) (by omega)).trans (hw.2.2.2.2.2.2.2))
                    refine Or.inr ⟨rfl, ?_, ⟨_, _, by omega, h1973⟩, ⟨cur, h1976, by omega⟩, ⟨h1977, h1978, h1979, h1980, h1981, h1982, h1983, h1984⟩, ((X_Fr.rf).tr (X_Fr.of n1970 e1971 (by omega))).tr (X_Fr.of n1974 e1975 (by omega))⟩
                    unfold sp_step sp_stF
                    (repeat (first | rw [if_pos (by assumption)] | rw [if_neg (by assumption)]))
                    all_goals first | rfl | ((repeat' split) <;> first | rfl | (exfalso; omega))
                  · skip
                    have c1967 : ¬ (¬ X_isOp (so cur) ∧ pile = 16) := c1967
                    refine T_p xr_79_169 xn_79 (pc' := 171) (ls' := [(8, .int (iI (bI (X_isOp (so cur) ∧ pile < 2)))), (7, .int (iI (bI (¬ X_isOp (so cur) ∧ pile = 16)))), (6, .int (iI (bI ((so cur) = 64 ∧ (X_vl ct cur < 1 ∨ d 4 0 < X_vl ct cur))))), (5, .int (iI (X_vl ct cur))), (4, .int (iI (so cur))), (3, .int (iI (pl cur))), (0, .ref 496), (1, .ref a), (2, .int (iI pile))]) (st' := [.int (iI (bI (X_isOp (so cur) ∧ pile < 2)))]) rfl ?_
                    refine T_bif_eq xr_79_171 (t := 182) (pc' := 174) rfl rfl (fun c1985 => ?_) (fun c1985 => ?_)
                    · skip
                      have c1985 : ¬ (X_isOp (so cur) ∧ pile < 2) := c1985
                      refine T_p xr_79_182 xn_79 (pc' := 183) (ls' := [(8, .int (iI (bI (X_isOp (so cur) ∧ pile < 2)))), (7, .int (iI (bI (¬ X_isOp (so cur) ∧ pile = 16)))), (6, .int (iI (bI ((so cur) = 64 ∧ (X_vl ct cur < 1 ∨ d 4 0 < X_vl ct cur))))), (5, .int (iI (X_vl ct cur))), (4, .int (iI (so cur))), (3, .int (iI (pl cur))), (0, .ref 496), (1, .ref a), (2, .int (iI pile))]) (st' := [.ref a]) rfl ?_
                      refine T_p xr_79_183 xn_79 (pc' := 185) (ls' := [(8, .int (iI (bI (X_isOp (so cur) ∧ pile < 2)))), (7, .int (iI (bI (¬ X_isOp (so cur) ∧ pile = 16)))), (6, .int (iI (bI ((so cur) = 64 ∧ (X_vl ct cur < 1 ∨ d 4 0 < X_vl ct cur))))), (5, .int (iI (X_vl ct cur))), (4, .int (iI (so cur))), (3, .int (iI (pl cur))), (0, .ref 496), (1, .ref a), (2, .int (iI pile))]) (st' := [.int (iI (so cur)), .ref a]) rfl ?_
                      refine T_p xr_79_185 xn_79 (pc' := 187) (ls' := [(8, .int (iI (bI (X_isOp (so cur) ∧ pile < 2)))), (7, .int (iI (bI (¬ X_isOp (so cur) ∧ pile = 16)))), (6, .int (iI (bI ((so cur) = 64 ∧ (X_vl ct cur < 1 ∨ d 4 0 < X_vl ct cur))))), (5, .int (iI (X_vl ct cur))), (4, .int (iI (so cur))), (3, .int (iI (pl cur))), (0, .ref 496), (1, .ref a), (2, .int (iI pile))]) (st' := [.int (iI (X_vl ct cur)), .int (iI (so cur)), .ref a]) rfl ?_
                      refine T_cv (S := S) (q := a) xr_79_187 xf_99.1 xf_99.2.1 xn_99 (as := [.int (iI (so cur)), .int (iI (X_vl ct cur))]) (r := []) rfl hw.1 (Nat.le_of_ble_eq_true rfl) (Nat.le_of_ble_eq_true rfl) (pc' := 190) rfl (ls' := [(0, .ref a), (1, .int (iI (so cur))), (2, .int (iI (X_vl ct cur)))]) rfl ?_
                      have hr1992 : X_wr (X_aS d (so cur) (X_vl ct cur)) := X_wr_S hr (by omega)
                      refine T_mono (c_addStep sc S a d q (so cur) (X_vl ct cur) ⟨hw.1, hw.2.1, hw.2.2.1, hw.2.2.2.1, hw.2.2.2.2.1, hw.2.2.2.2.2.1, hw.2.2.2.2.2.2.1, hw.2.2.2.2.2.2.2⟩ hr (by omega)) (fun v1986 S1987 h1988 => ?_)
                      obtain ⟨h1989, hw1990, hf1991⟩ := h1988
                      rw [h1989]
                      have hw1990 : C_wd S1987 a (X_aS d (so cur) (X_vl ct cur)) q := hw1990
                      show X_T sc 79 (190, [(8, .int (iI (bI (X_isOp (so cur) ∧ pile < 2)))), (7, .int (iI (bI (¬ X_isOp (so cur) ∧ pile = 16)))), (6, .int (iI (bI ((so cur) = 64 ∧ (X_vl ct cur < 1 ∨ d 4 0 < X_vl ct cur))))), (5, .int (iI (X_vl ct cur))), (4, .int (iI (so cur))), (3, .int (iI (pl cur))), (0, .ref 496), (1, .ref a), (2, .int (iI pile))], [], S1987) _
                      refine T_p xr_79_190 xn_79 (pc' := 191) (ls' := [(8, .int (iI (bI (X_isOp (so cur) ∧ pile < 2)))), (7, .int (iI (bI (¬ X_isOp (so cur) ∧ pile = 16)))), (6, .int (iI (bI ((so cur) = 64 ∧ (X_vl ct cur < 1 ∨ d 4 0 < X_vl ct cur))))), (5, .int (iI (X_vl ct cur))), (4, .int (iI (so cur))), (3, .int (iI (pl cur))), (0, .ref 496), (1, .ref a), (2, .int (iI pile))]) (st' := [.ref 496]) rfl ?_
                      have h1993 := (hf1991.1 496 (by omega)).trans (hp)
                      refine T_get xr_79_191 h1993 rfl (v := .ref 497) rfl (pc' := 194) rfl ?_
                      have h1994 := (hf1991.1 497 (by omega)).trans (hx.1)
                      refine T_cv (S := S1987) (q := 497) xr_79_194 xf_52.1 xf_52.2.1 xn_52 (as := []) (r := []) rfl h1994 (Nat.le_of_ble_eq_true rfl) (Nat.le_of_ble_eq_true rfl) (pc' := 197) rfl (ls' := [(0, .ref 497)]) rfl ?_
                      have h1995 := (hf1991.1 498 (by omega)).trans (hx.2.1)
                      have h1996 := (hf1991.1 499 (by omega)).trans (hx.2.2.1)
                      have h1997 := (hf1991.1 500 (by omega)).trans (hx.2.2.2)
                      refine T_mono (c_advance sc S1987 at_ n cur so pl ct ⟨h1994, h1995, h1996, h1997⟩ (by omega)) (fun v1999 S2000 h1998 => ?_)
                      obtain ⟨h2001, h2003, h2002⟩ := h1998
                      rw [h2001]
                      show X_T sc 79 (197, [(8, .int (iI (bI (X_isOp (so cur) ∧ pile < 2)))), (7, .int (iI (bI (¬ X_isOp (so cur) ∧ pile = 16)))), (6, .int (iI (bI ((so cur) = 64 ∧ (X_vl ct cur < 1 ∨ d 4 0 < X_vl ct cur))))), (5, .int (iI (X_vl ct cur))), (4, .int (iI (so cur))), (3, .int (iI (pl cur))), (0, .ref 496), (1, .ref a), (2, .int (iI pile))], [], S2000) _
                      have hv2004 := X_av_r (n := n) (c := cur) (by omega)
                      refine T_p xr_79_197 xn_79 (pc' := 199) (ls' := [(8, .int (iI (bI (X_isOp (so cur) ∧ pile < 2)))), (7, .int (iI (bI (¬ X_isOp (so cur) ∧ pile = 16)))), (6, .int (iI (bI ((so cur) = 64 ∧ (X_vl ct cur < 1 ∨ d 4 0 < X_vl ct cur))))), (5, .int (iI (X_vl ct cur))), (4, .int (iI (so cur))), (3, .int (iI (pl cur))), (0, .ref 496), (1, .ref a), (2, .int (iI pile))]) (st' := [.int (iI (so cur))]) rfl ?_
                      refine T_cs xr_79_199 (by decide) xf_81.1 xn_81 (as := [.int (iI (so cur))]) (r := []) rfl (Nat.le_of_ble_eq_true rfl) (Nat.le_of_ble_eq_true rfl) (pc' := 202) rfl (ls' := [(0, .int (iI (so cur)))]) rfl ?_
                      refine T_mono (c_isOperation sc S2000 (so cur) (by omega)) (fun v2006 S2007 h2005 => ?_)
                      obtain ⟨h2008, h2009⟩ := h2005
                      rw [h2008, h2009]
                      show X_T sc 79 (202, [(8, .int (iI (bI (X_isOp (so cur) ∧ pile < 2)))), (7, .int (iI (bI (¬ X_isOp (so cur) ∧ pile = 16)))), (6, .int (iI (bI ((so cur) = 64 ∧ (X_vl ct cur < 1 ∨ d 4 0 < X_vl ct cur))))), (5, .int (iI (X_vl ct cur))), (4, .int (iI (so cur))), (3, .int (iI (pl cur))), (0, .ref 496), (1, .ref a), (2, .int (iI pile))], [.int (iI (bI (X_isOp (so cur))))], S2000) _
                      refine T_bif_eq xr_79_202 (t := 211) (pc' := 205) rfl rfl (fun c2010 => ?_) (fun c2010 => ?_)
                      · skip
                        have c2010 : ¬ (X_isOp (so cur)) := c2010
                        exact (show False by first | contradiction | omega).elim
                      · skip
                        have c2010 : (X_isOp (so cur)) := c2010
                        refine T_p xr_79_205 xn_79 (pc' := 206) (ls' := [(8, .int (iI (bI (X_isOp (so cur) ∧ pile < 2)))), (7, .int (iI (bI (¬ X_isOp (so cur) ∧ pile = 16)))), (6, .int (iI (bI ((so cur) = 64 ∧ (X_vl ct cur < 1 ∨ d 4 0 < X_vl ct cur))))), (5, .int (iI (X_vl ct cur))), (4, .int (iI (so cur))), (3, .int (iI (pl cur))), (0, .ref 496), (1, .ref a), (2, .int (iI pile))]) (st' := [.int (iI pile)]) rfl ?_
                        refine T_p xr_79_206 xn_79 (pc' := 207) (ls' := [(8, .int (iI (bI (X_isOp (so cur) ∧ pile < 2)))), (7, .int (iI (bI (¬ X_isOp (so cur) ∧ pile = 16)))), (6, .int (iI (bI ((so cur) = 64 ∧ (X_vl ct cur < 1 ∨ d 4 0 < X_vl ct cur))))), (5, .int (iI (X_vl ct cur))), (4, .int (iI (so cur))), (3, .int (iI (pl cur))), (0, .ref 496), (1, .ref a), (2, .int (iI pile))]) (st' := [.int (iI 1), .int (iI pile)]) rfl ?_
                        refine T_zisub xr_79_207 (z := pile - 1) rfl (pc' := 208) rfl ?_
                        refine T_p xr_79_208 xn_79 (pc' := 214) (ls' := [(8, .int (iI (bI (X_isOp (so cur) ∧ pile < 2)))), (7, .int (iI (bI (¬ X_isOp (so cur) ∧ pile = 16)))), (6, .int (iI (bI ((so cur) = 64 ∧ (X_vl ct cur < 1 ∨ d 4 0 < X_vl ct cur))))), (5, .int (iI (X_vl ct cur))), (4, .int (iI (so cur))), (3, .int (iI (pl cur))), (0, .ref 496), (1, .ref a), (2, .int (iI pile))]) (st' := [.int (iI (pile - 1))]) rfl ?_
                        refine T_iret xr_79_214 xf_79.2.2 rfl ?_
                        refine hQ _ _ ?_
                        have h2011 := (h2002.1 496 (by omega)).trans (h1993)
                        have h2012 := (h2002.1 a (by omega)).trans (hw1990.1)
                        have h2013 := (h2002.1 (a + 1) (by omega)).trans (hw1990.2.1)
                        have h2014 := (h2002.1 (a + 2) (by omega)).trans (hw1990.2.2.1)
                        have h2015 := (h2002.1 (a + 3) (by omega)).trans (hw1990.2.2.2.1)
                        have h2016 := (h2002.1 (a + 4) (by omega)).trans (hw1990.2.2.2.2.1)
                        have h2017 := (h2002.1 (a + 5) (by omega)).trans (hw1990.2.2.2.2.2.1)
                        have h2018 := (h2002.1 (a + 6) (by omega)).trans (hw1990.2.2.2.2.2.2.1)
                        have h2019 := (h2002.1 (a + 7) (by omega)).trans (hw1990.2.2.2.2.2.2.2)
                        refine Or.inl ⟨X_av n cur, X_aS d (so cur) (X_vl ct cur), pile - 1, rfl, ?_, h2011, h2003, by omega, ⟨h2012, h2013, h2014, h2015, h2016, h2017, h2018, h2019⟩, hr1992, ((X_Fr.rf).tr (X_Fr.mono ⟨hf1991.1, hf1991.2⟩ (fun q hq => (by omega)))).tr (X_Fr.mono ⟨h2002.1, h2002.2⟩ (fun q hq => (by omega)))⟩
                        unfold sp_step sp_stF
                        (repeat (first | rw [if_pos (by assumption)] | rw [if_neg (by assumption)]))
                        all_goals first | rfl | ((repeat' split) <;> first | rfl | (exfalso; omega))
                    · skip
                      have c1985 : (X_isOp (so cur) ∧ pile < 2) := c1985
                      refine T_p xr_79_174 xn_79 (pc' := 175) (ls' := [(8, .int (iI (bI (X_isOp (so cur) ∧ pile < 2)))), (7, .int (iI (bI (¬ X_isOp (so cur) ∧ pile = 16)))), (6, .int (iI (bI ((so cur) = 64 ∧ (X_vl ct cur < 1 ∨ d 4 0 < X_vl ct cur))))), (5, .int (iI (X_vl ct cur))), (4, .int (iI (so cur))), (3, .int (iI (pl cur))), (0, .ref 496), (1, .ref a), (2, .int (iI pile))]) (st' := [.ref 496]) rfl ?_
                      refine T_p xr_79_175 xn_79 (pc' := 176) (ls' := [(8, .int (iI (bI (X_isOp (so cur) ∧ pile < 2)))), (7, .int (iI (bI (¬ X_isOp (so cur) ∧ pile = 16)))), (6, .int (iI (bI ((so cur) = 64 ∧ (X_vl ct cur < 1 ∨ d 4 0 < X_vl ct cur))))), (5, .int (iI (X_vl ct cur))), (4, .int (iI (so cur))), (3, .int (iI (pl cur))), (0, .ref 496), (1, .ref a), (2, .int (iI pile))]) (st' := [.int (iI 5), .ref 496]) rfl ?_
                      refine T_p xr_79_176 xn_79 (pc' := 177) (ls' := [(8, .int (iI (bI (X_isOp (so cur) ∧ pile < 2)))), (7, .int (iI (bI (¬ X_isOp (so cur) ∧ pile = 16)))), (6, .int (iI (bI ((so cur) = 64 ∧ (X_vl ct cur < 1 ∨ d 4 0 < X_vl ct cur))))), (5, .int (iI (X_vl ct cur))), (4, .int (iI (so cur))), (3, .int (iI (pl cur))), (0, .ref 496), (1, .ref a), (2, .int (iI pile))]) (st' := [.int (iI (pl cur)), .int (iI 5), .ref 496]) rfl ?_
                      refine T_cv (S := S) (q := 496) xr_79_177 xf_66.1 xf_66.2.1 xn_66 (as := [.int (iI 5), .int (iI (pl cur))]) (r := []) rfl hp (Nat.le_of_ble_eq_true rfl) (Nat.le_of_ble_eq_true rfl) (pc' := 180) rfl (ls' := [(0, .ref 496), (1, .int (iI 5)), (2, .int (iI (pl cur)))]) rfl ?_
                      refine T_p xr_66_0 xn_66 (pc' := 1) (ls' := [(0, .ref 496), (1, .int (iI 5)), (2, .int (iI (pl cur)))]) (st' := [.ref 496]) rfl ?_
                      refine T_p xr_66_1 xn_66 (pc' := 2) (ls' := [(0, .ref 496), (1, .int (iI 5)), (2, .int (iI (pl cur)))]) (st' := [.int (iI 5), .ref 496]) rfl ?_
                      refine T_put xr_66_2 hp rfl (Nat.le_of_ble_eq_true rfl) rfl (fs' := [.ref 497, .ref B, .int (iI 5), .int (iI fp)]) rfl (pc' := 5) rfl (fun S2020 h2021 n2022 e2023 => ?_)
                      refine T_p xr_66_5 xn_66 (pc' := 6) (ls' := [(0, .ref 496), (1, .int (iI 5)), (2, .int (iI (pl cur)))]) (st' := [.ref 496]) rfl ?_
                      refine T_p xr_66_6 xn_66 (pc' := 7) (ls' := [(0, .ref 496), (1, .int (iI 5)), (2, .int (iI (pl cur)))]) (st' := [.int (iI (pl cur)), .ref 496]) rfl ?_
                      refine T_put xr_66_7 h2021 rfl (Nat.le_of_ble_eq_true rfl) rfl (fs' := [.ref 497, .ref B, .int (iI 5), .int (iI (pl cur))]) rfl (pc' := 10) rfl (fun S2024 h2025 n2026 e2027 => ?_)
                      refine T_vret xr_66_10 xf_66.2.2 ?_
                      show X_T sc 79 (180, [(8, .int (iI (bI (X_isOp (so cur) ∧ pile < 2)))), (7, .int (iI (bI (¬ X_isOp (so cur) ∧ pile = 16)))), (6, .int (iI (bI ((so cur) = 64 ∧ (X_vl ct cur < 1 ∨ d 4 0 < X_vl ct cur))))), (5, .int (iI (X_vl ct cur))), (4, .int (iI (so cur))), (3, .int (iI (pl cur))), (0, .ref 496), (1, .ref a), (2, .int (iI pile))], [], S2024) _
                      refine T_p xr_79_180 xn_79 (pc' := 181) (ls' := [(8, .int (iI (bI (X_isOp (so cur) ∧ pile < 2)))), (7, .int (iI (bI (¬ X_isOp (so cur) ∧ pile = 16)))), (6, .int (iI (bI ((so cur) = 64 ∧ (X_vl ct cur < 1 ∨ d 4 0 < X_vl ct cur))))), (5, .int (iI (X_vl ct cur))), (4, .int (iI (so cur))), (3, .int (iI (pl cur))), (0, .ref 496), (1, .ref a), (2, .int (iI pile))]) (st' := [.int (iI (-1))]) rfl ?_
                      refine T_iret xr_79_181 xf_79.2.2 rfl ?_
                      refine hQ _ _ ?_
                      have h2028 := (n2026 497 (by decide)).trans ((n2022 497 (by decide)).trans (hx.1))
                      have h2029 := (n2026 a (by omega)).trans ((n2022 a (by omega)).trans (hw.1))
                      have h2030 := (n2026 (a + 1) (by omega)).trans ((n2022 (a + 1) (by omega)).trans (hw.2.1))
                      have h2031 := (n2026 (a + 2) (by omega)).trans ((n2022 (a + 2) (by omega)).trans (hw.2.2.1))
                      have h2032 := (n2026 (a + 3) (by omega)).trans ((n2022 (a + 3) (by omega)).trans (hw.2.2.2.1))
                      have h2033 := (n2026 (a + 4) (by omega)).trans ((n2022 (a + 4) (by omega)).trans (hw.2.2.2.2.1))
                      have h2034 := (n2026 (a + 5) (by omega)).trans ((n2022 (a + 5) (by omega)).trans (hw.2.2.2.2.2.1))
                      have h2035 := (n2026 (a + 6) (by omega)).trans ((n2022 (a + 6) (by omega)).trans (hw.2.2.2.2.2.2.1))
                      have h2036 := (n2026 (a + 7) (by omega)).trans ((n2022 (a + 7) (by omega)).trans (hw.2.2.2.2.2.2.2))
                      refine Or.inr ⟨rfl, ?_, ⟨_, _, by omega, h2025⟩, ⟨cur, h2028, by omega⟩, ⟨h2029, h2030, h2031, h2032, h2033, h2034, h2035, h2036⟩, ((X_Fr.rf).tr (X_Fr.of n2022 e2023 (by omega))).tr (X_Fr.of n2026 e2027 (by omega))⟩
                      unfold sp_step sp_stF
                      (repeat (first | rw [if_pos (by assumption)] | rw [if_neg (by assumption)]))
                      all_goals first | rfl | ((repeat' split) <;> first | rfl | (exfalso; omega))
              refine T_p xr_79_139 xn_79 (pc' := 141) (ls' := [(7, .int (iI (bI (¬ X_isOp (so cur) ∧ pile = 16)))), (6, .int (iI (bI ((so cur) = 64 ∧ (X_vl ct cur < 1 ∨ d 4 0 < X_vl ct cur))))), (5, .int (iI (X_vl ct cur))), (4, .int (iI (so cur))), (3, .int (iI (pl cur))), (0, .ref 496), (1, .ref a), (2, .int (iI pile))]) (st' := [.int (iI (so cur))]) rfl ?_
              refine T_cs xr_79_141 (by decide) xf_81.1 xn_81 (as := [.int (iI (so cur))]) (r := []) rfl (Nat.le_of_ble_eq_true rfl) (Nat.le_of_ble_eq_true rfl) (pc' := 144) rfl (ls' := [(0, .int (iI (so cur)))]) rfl ?_
              refine T_mono (c_isOperation sc S (so cur) (by omega)) (fun v2038 S2039 h2037 => ?_)
              obtain ⟨h2040, h2041⟩ := h2037
              rw [h2040, h2041]
              show X_T sc 79 (144, [(7, .int (iI (bI (¬ X_isOp (so cur) ∧ pile = 16)))), (6, .int (iI (bI ((so cur) = 64 ∧ (X_vl ct cur < 1 ∨ d 4 0 < X_vl ct cur))))), (5, .int (iI (X_vl ct cur))), (4, .int (iI (so cur))), (3, .int (iI (pl cur))), (0, .ref 496), (1, .ref a), (2, .int (iI pile))], [.int (iI (bI (X_isOp (so cur))))], S) _
              refine T_bif_eq xr_79_144 (t := 156) (pc' := 147) rfl rfl (fun c2042 => ?_) (fun c2042 => ?_)
              · skip
                have c2042 : ¬ (X_isOp (so cur)) := c2042
                exact (show False by first | contradiction | omega).elim
              · skip
                have c2042 : (X_isOp (so cur)) := c2042
                refine T_p xr_79_147 xn_79 (pc' := 148) (ls' := [(7, .int (iI (bI (¬ X_isOp (so cur) ∧ pile = 16)))), (6, .int (iI (bI ((so cur) = 64 ∧ (X_vl ct cur < 1 ∨ d 4 0 < X_vl ct cur))))), (5, .int (iI (X_vl ct cur))), (4, .int (iI (so cur))), (3, .int (iI (pl cur))), (0, .ref 496), (1, .ref a), (2, .int (iI pile))]) (st' := [.int (iI pile)]) rfl ?_
                refine T_p xr_79_148 xn_79 (pc' := 149) (ls' := [(7, .int (iI (bI (¬ X_isOp (so cur) ∧ pile = 16)))), (6, .int (iI (bI ((so cur) = 64 ∧ (X_vl ct cur < 1 ∨ d 4 0 < X_vl ct cur))))), (5, .int (iI (X_vl ct cur))), (4, .int (iI (so cur))), (3, .int (iI (pl cur))), (0, .ref 496), (1, .ref a), (2, .int (iI pile))]) (st' := [.int (iI 2), .int (iI pile)]) rfl ?_
                refine T_zicmp_ge xr_79_149 (t := 156) (pc' := 152) rfl rfl (fun c2043 => ?_) (fun c2043 => ?_)
                · skip
                  have c2043 : 2 ≤ pile := c2043
                  refine T_p xr_79_156 xn_79 (pc' := 157) (ls' := [(7, .int (iI (bI (¬ X_isOp (so cur) ∧ pile = 16)))), (6, .int (iI (bI ((so cur) = 64 ∧ (X_vl ct cur < 1 ∨ d 4 0 < X_vl ct cur))))), (5, .int (iI (X_vl ct cur))), (4, .int (iI (so cur))), (3, .int (iI (pl cur))), (0, .ref 496), (1, .ref a), (2, .int (iI pile))]) (st' := [.int (iI 0)]) rfl ?_
                  refine T_ie (y := iI (bI (X_isOp (so cur) ∧ pile < 2))) (by rw [bI_f (by rintro ⟨h1, h2⟩; first | omega | contradiction)]) ?_
                  exact J1948
                · skip
                  have c2043 : ¬ (2 ≤ pile) := c2043
                  refine T_p xr_79_152 xn_79 (pc' := 153) (ls' := [(7, .int (iI (bI (¬ X_isOp (so cur) ∧ pile = 16)))), (6, .int (iI (bI ((so cur) = 64 ∧ (X_vl ct cur < 1 ∨ d 4 0 < X_vl ct cur))))), (5, .int (iI (X_vl ct cur))), (4, .int (iI (so cur))), (3, .int (iI (pl cur))), (0, .ref 496), (1, .ref a), (2, .int (iI pile))]) (st' := [.int (iI 1)]) rfl ?_
                  refine T_p xr_79_153 xn_79 (pc' := 157) (ls' := [(7, .int (iI (bI (¬ X_isOp (so cur) ∧ pile = 16)))), (6, .int (iI (bI ((so cur) = 64 ∧ (X_vl ct cur < 1 ∨ d 4 0 < X_vl ct cur))))), (5, .int (iI (X_vl ct cur))), (4, .int (iI (so cur))), (3, .int (iI (pl cur))), (0, .ref 496), (1, .ref a), (2, .int (iI pile))]) (st' := [.int (iI 1)]) rfl ?_
                  refine T_ie (y := iI (bI (X_isOp (so cur) ∧ pile < 2))) (by rw [bI_t (by exact ⟨by assumption, by omega⟩)]) ?_
                  exact J1948
            refine T_p xr_79_118 xn_79 (pc' := 120) (ls' := [(6, .int (iI (bI ((so cur) = 64 ∧ (X_vl ct cur < 1 ∨ d 4 0 < X_vl ct cur))))), (5, .int (iI (X_vl ct cur))), (4, .int (iI (so cur))), (3, .int (iI (pl cur))), (0, .ref 496), (1, .ref a), (2, .int (iI pile))]) (st' := [.int (iI (so cur))]) rfl ?_
            refine T_cs xr_79_120 (by decide) xf_81.1 xn_81 (as := [.int (iI (so cur))]) (r := []) rfl (Nat.le_of_ble_eq_true rfl) (Nat.le_of_ble_eq_true rfl) (pc' := 123) rfl (ls' := [(0, .int (iI (so cur)))]) rfl ?_
            refine T_mono (c_isOperation sc S (so cur) (by omega)) (fun v2045 S2046 h2044 => ?_)
            obtain ⟨h2047, h2048⟩ := h2044
            rw [h2047, h2048]
            show X_T sc 79 (123, [(6, .int (iI (bI ((so cur) = 64 ∧ (X_vl ct cur < 1 ∨ d 4 0 < X_vl ct cur))))), (5, .int (iI (X_vl ct cur))), (4, .int (iI (so cur))), (3, .int (iI (pl cur))), (0, .ref 496), (1, .ref a), (2, .int (iI pile))], [.int (iI (bI (X_isOp (so cur))))], S) _
            refine T_bif_ne xr_79_123 (t := 136) (pc' := 126) rfl rfl (fun c2049 => ?_) (fun c2049 => ?_)
            · skip
              have c2049 : (X_isOp (so cur)) := c2049
              refine T_p xr_79_136 xn_79 (pc' := 137) (ls' := [(6, .int (iI (bI ((so cur) = 64 ∧ (X_vl ct cur < 1 ∨ d 4 0 < X_vl ct cur))))), (5, .int (iI (X_vl ct cur))), (4, .int (iI (so cur))), (3, .int (iI (pl cur))), (0, .ref 496), (1, .ref a), (2, .int (iI pile))]) (st' := [.int (iI 0)]) rfl ?_
              refine T_ie (y := iI (bI (¬ X_isOp (so cur) ∧ pile = 16))) (by rw [bI_f (by rintro ⟨h1, h2⟩; first | omega | contradiction)]) ?_
              exact J1947
            · skip
              have c2049 : ¬ (X_isOp (so cur)) := c2049
              exact (show False by first | contradiction | omega).elim
          refine T_p xr_79_89 xn_79 (pc' := 91) (ls' := [(5, .int (iI (X_vl ct cur))), (4, .int (iI (so cur))), (3, .int (iI (pl cur))), (0, .ref 496), (1, .ref a), (2, .int (iI pile))]) (st' := [.int (iI (so cur))]) rfl ?_
          refine T_p xr_79_91 xn_79 (pc' := 93) (ls' := [(5, .int (iI (X_vl ct cur))), (4, .int (iI (so cur))), (3, .int (iI (pl cur))), (0, .ref 496), (1, .ref a), (2, .int (iI pile))]) (st' := [.int (iI 64), .int (iI (so cur))]) rfl ?_
          refine T_zicmp_ne xr_79_93 (t := 115) (pc' := 96) rfl rfl (fun c2050 => ?_) (fun c2050 => ?_)
          · skip
            have c2050 : ¬ (so cur) = 64 := c2050
            refine T_p xr_79_115 xn_79 (pc' := 116) (ls' := [(5, .int (iI (X_vl ct cur))), (4, .int (iI (so cur))), (3, .int (iI (pl cur))), (0, .ref 496), (1, .ref a), (2, .int (iI pile))]) (st' := [.int (iI 0)]) rfl ?_
            refine T_ie (y := iI (bI ((so cur) = 64 ∧ (X_vl ct cur < 1 ∨ d 4 0 < X_vl ct cur)))) (by rw [bI_f (by rintro ⟨h1, h2⟩; omega)]) ?_
            exact J1946
          · skip
            have c2050 : ¬ (¬ (so cur) = 64) := c2050
            exact (show False by first | contradiction | omega).elim
        · skip
          have c1939 : ¬ (X_isOp (so cur)) := c1939
          refine T_p xr_79_73 xn_79 (pc' := 74) (ls' := [(4, .int (iI (so cur))), (3, .int (iI (pl cur))), (0, .ref 496), (1, .ref a), (2, .int (iI pile))]) (st' := [.ref 496]) rfl ?_
          refine T_cv (S := S) (q := 496) xr_79_74 xf_67.1 xf_67.2.1 xn_67 (as := []) (r := []) rfl hp (Nat.le_of_ble_eq_true rfl) (Nat.le_of_ble_eq_true rfl) (pc' := 77) rfl (ls' := [(0, .ref 496)]) rfl ?_
          refine T_mono (c_refuse sc S B fl fp at_ n cur so pl ct hp ⟨hx.1, hx.2.1, hx.2.2.1, hx.2.2.2⟩ (by omega) hso) (fun v2051 S2052 h2053 => ?_)
          obtain ⟨h2054, ⟨fl2055, fp2056, hn2057, hp2058⟩, hf2059⟩ := h2053
          rw [h2054]
          show X_T sc 79 (77, [(4, .int (iI (so cur))), (3, .int (iI (pl cur))), (0, .ref 496), (1, .ref a), (2, .int (iI pile))], [], S2052) _
          refine T_p xr_79_77 xn_79 (pc' := 78) (ls' := [(4, .int (iI (so cur))), (3, .int (iI (pl cur))), (0, .ref 496), (1, .ref a), (2, .int (iI pile))]) (st' := [.int (iI (-1))]) rfl ?_
          refine T_iret xr_79_78 xf_79.2.2 rfl ?_
          refine hQ _ _ ?_
          have h2060 := (hf2059.1 497 (by omega)).trans (hx.1)
          have h2061 := (hf2059.1 a (by omega)).trans (hw.1)
          have h2062 := (hf2059.1 (a + 1) (by omega)).trans (hw.2.1)
          have h2063 := (hf2059.1 (a + 2) (by omega)).trans (hw.2.2.1)
          have h2064 := (hf2059.1 (a + 3) (by omega)).trans (hw.2.2.2.1)
          have h2065 := (hf2059.1 (a + 4) (by omega)).trans (hw.2.2.2.2.1)
          have h2066 := (hf2059.1 (a + 5) (by omega)).trans (hw.2.2.2.2.2.1)
          have h2067 := (hf2059.1 (a + 6) (by omega)).trans (hw.2.2.2.2.2.2.1)
          have h2068 := (hf2059.1 (a + 7) (by omega)).trans (hw.2.2.2.2.2.2.2)
          refine Or.inr ⟨rfl, ?_, ⟨_, _, by omega, hp2058⟩, ⟨cur, h2060, by omega⟩, ⟨h2061, h2062, h2063, h2064, h2065, h2066, h2067, h2068⟩, (X_Fr.rf).tr (X_Fr.mono ⟨hf2059.1, hf2059.2⟩ (fun q hq => (by omega)))⟩
          unfold sp_step sp_stF
          (repeat (first | rw [if_pos (by assumption)] | rw [if_neg (by assumption)]))
          all_goals first | rfl | ((repeat' split) <;> first | rfl | (exfalso; omega))
    · skip
      have c1811 : ¬ (¬ (so cur) = 64) := c1811
      have hop2069 : ¬ (X_isOp (so cur)) := by unfold X_isOp; omega
      refine T_p xr_79_35 xn_79 (pc' := 36) (ls' := [(4, .int (iI (so cur))), (3, .int (iI (pl cur))), (0, .ref 496), (1, .ref a), (2, .int (iI pile))]) (st' := [.ref 496]) rfl ?_
      refine T_get xr_79_36 hp rfl (v := .ref 497) rfl (pc' := 39) rfl ?_
      refine T_cv (S := S) (q := 497) xr_79_39 xf_52.1 xf_52.2.1 xn_52 (as := []) (r := []) rfl hx.1 (Nat.le_of_ble_eq_true rfl) (Nat.le_of_ble_eq_true rfl) (pc' := 42) rfl (ls' := [(0, .ref 497)]) rfl ?_
      refine T_mono (c_advance sc S at_ n cur so pl ct ⟨hx.1, hx.2.1, hx.2.2.1, hx.2.2.2⟩ (by omega)) (fun v2071 S2072 h2070 => ?_)
      obtain ⟨h2073, h2075, h2074⟩ := h2070
      rw [h2073]
      show X_T sc 79 (42, [(4, .int (iI (so cur))), (3, .int (iI (pl cur))), (0, .ref 496), (1, .ref a), (2, .int (iI pile))], [], S2072) _
      have hv2076 := X_av_r (n := n) (c := cur) (by omega)
      refine T_p xr_79_42 xn_79 (pc' := 43) (ls' := [(4, .int (iI (so cur))), (3, .int (iI (pl cur))), (0, .ref 496), (1, .ref a), (2, .int (iI pile))]) (st' := [.ref 496]) rfl ?_
      have h2077 := (h2074.1 496 (by omega)).trans (hp)
      refine T_get xr_79_43 h2077 rfl (v := .ref 497) rfl (pc' := 46) rfl ?_
      refine T_cv (S := S2072) (q := 497) xr_79_46 xf_48.1 xf_48.2.1 xn_48 (as := []) (r := []) rfl h2075 (Nat.le_of_ble_eq_true rfl) (Nat.le_of_ble_eq_true rfl) (pc' := 49) rfl (ls' := [(0, .ref 497)]) rfl ?_
      have h2078 := (h2074.1 498 (by omega)).trans (hx.2.1)
      have h2079 := (h2074.1 499 (by omega)).trans (hx.2.2.1)
      have h2080 := (h2074.1 500 (by omega)).trans (hx.2.2.2)
      refine T_mono (c_sort sc S2072 at_ n (X_av n cur) so pl ct ⟨h2075, h2078, h2079, h2080⟩ (by omega)) (fun v2082 S2083 h2081 => ?_)
      obtain ⟨h2084, h2085⟩ := h2081
      rw [h2084, h2085]
      show X_T sc 79 (49, [(4, .int (iI (so cur))), (3, .int (iI (pl cur))), (0, .ref 496), (1, .ref a), (2, .int (iI pile))], [.int (iI (so (X_av n cur)))], S2072) _
      have hs2086 := hso (X_av n cur) (by omega) (by omega)
      refine T_p xr_79_49 xn_79 (pc' := 50) (ls' := [(4, .int (iI (so cur))), (3, .int (iI (pl cur))), (0, .ref 496), (1, .ref a), (2, .int (iI pile))]) (st' := [.int (iI 5), .int (iI (so (X_av n cur)))]) rfl ?_
      refine T_zicmp_eq xr_79_50 (t := 79) (pc' := 53) rfl rfl (fun c2087 => ?_) (fun c2087 => ?_)
      · skip
        have c2087 : (so (X_av n cur)) = 5 := c2087
        refine T_p xr_79_79 xn_79 (pc' := 80) (ls' := [(4, .int (iI (so cur))), (3, .int (iI (pl cur))), (0, .ref 496), (1, .ref a), (2, .int (iI pile))]) (st' := [.ref 496]) rfl ?_
        refine T_get xr_79_80 h2077 rfl (v := .ref 497) rfl (pc' := 83) rfl ?_
        refine T_cv (S := S2072) (q := 497) xr_79_83 xf_50.1 xf_50.2.1 xn_50 (as := []) (r := []) rfl h2075 (Nat.le_of_ble_eq_true rfl) (Nat.le_of_ble_eq_true rfl) (pc' := 86) rfl (ls' := [(0, .ref 497)]) rfl ?_
        refine T_mono (c_content sc S2072 at_ n (X_av n cur) so pl ct ⟨h2075, h2078, h2079, h2080⟩ (by omega)) (fun v2089 S2090 h2088 => ?_)
        obtain ⟨h2091, h2092⟩ := h2088
        rw [h2091, h2092]
        show X_T sc 79 (86, [(4, .int (iI (so cur))), (3, .int (iI (pl cur))), (0, .ref 496), (1, .ref a), (2, .int (iI pile))], [.long (ct (X_av n cur))], S2072) _
        refine T_zop xr_79_86 (pc' := 87) rfl (z := ((ct (X_av n cur) : Int64).toInt32).toInt) (iI_of _) ?_
        refine T_ie (y := iI (X_vl ct (X_av n cur))) rfl ?_
        have hv2093 := X_vl_r ct (X_av n cur)
        refine T_p xr_79_87 xn_79 (pc' := 89) (ls' := [(5, .int (iI (X_vl ct (X_av n cur)))), (4, .int (iI (so cur))), (3, .int (iI (pl cur))), (0, .ref 496), (1, .ref a), (2, .int (iI pile))]) (st' := []) rfl ?_
        have J2094 : X_T sc 79 (116, [(5, .int (iI (X_vl ct (X_av n cur)))), (4, .int (iI (so cur))), (3, .int (iI (pl cur))), (0, .ref 496), (1, .ref a), (2, .int (iI pile))], [.int (iI (bI ((so cur) = 64 ∧ (X_vl ct (X_av n cur) < 1 ∨ d 4 0 < X_vl ct (X_av n cur)))))], S2072) Q := by
          refine T_p xr_79_116 xn_79 (pc' := 118) (ls' := [(6, .int (iI (bI ((so cur) = 64 ∧ (X_vl ct (X_av n cur) < 1 ∨ d 4 0 < X_vl ct (X_av n cur)))))), (5, .int (iI (X_vl ct (X_av n cur)))), (4, .int (iI (so cur))), (3, .int (iI (pl cur))), (0, .ref 496), (1, .ref a), (2, .int (iI pile))]) (st' := []) rfl ?_
          have J2095 : X_T sc 79 (137, [(6, .int (iI (bI ((so cur) = 64 ∧ (X_vl ct (X_av n cur) < 1 ∨ d 4 0 < X_vl ct (X_av n cur)))))), (5, .int (iI (X_vl ct (X_av n cur)))), (4, .int (iI (so cur))), (3, .int (iI (pl cur))), (0, .ref 496), (1, .ref a), (2, .int (iI pile))], [.int (iI (bI (¬ X_isOp (so cur) ∧ pile = 16)))], S2072) Q := by
            refine T_p xr_79_137 xn_79 (pc' := 139) (ls' := [(7, .int (iI (bI (¬ X_isOp (so cur) ∧ pile = 16)))), (6, .int (iI (bI ((so cur) = 64 ∧ (X_vl ct (X_av n cur) < 1 ∨ d 4 0 < X_vl ct (X_av n cur)))))), (5, .int (iI (X_vl ct (X_av n cur)))), (4, .int (iI (so cur))), (3, .int (iI (pl cur))), (0, .ref 496), (1, .ref a), (2, .int (iI pile))]) (st' := []) rfl ?_
            have J2096 : X_T sc 79 (157, [(7, .int (iI (bI (¬ X_isOp (so cur) ∧ pile = 16)))), (6, .int (iI (bI ((so cur) = 64 ∧ (X_vl ct (X_av n cur) < 1 ∨ d 4 0 < X_vl ct (X_av n cur)))))), (5, .int (iI (X_vl ct (X_av n cur)))), (4, .int (iI (so cur))), (3, .int (iI (pl cur))), (0, .ref 496), (1, .ref a), (2, .int (iI pile))], [.int (iI (bI (X_isOp (so cur) ∧ pile < 2)))], S2072) Q := by
              refine T_p xr_79_157 xn_79 (pc' := 159) (ls' := [(8, .int (iI (bI (X_isOp (so cur) ∧ pile < 2)))), (7, .int (iI (bI (¬ X_isOp (so cur) ∧ pile = 16)))), (6, .int (iI (bI ((so cur) = 64 ∧ (X_vl ct (X_av n cur) < 1 ∨ d 4 0 < X_vl ct (X_av n cur)))))), (5, .int (iI (X_vl ct (X_av n cur)))), (4, .int (iI (so cur))), (3, .int (iI (pl cur))), (0, .ref 496), (1, .ref a), (2, .int (iI pile))]) (st' := []) rfl ?_
              refine T_p xr_79_159 xn_79 (pc' := 161) (ls' := [(8, .int (iI (bI (X_isOp (so cur) ∧ pile < 2)))), (7, .int (iI (bI (¬ X_isOp (so cur) ∧ pile = 16)))), (6, .int (iI (bI ((so cur) = 64 ∧ (X_vl ct (X_av n cur) < 1 ∨ d 4 0 < X_vl ct (X_av n cur)))))), (5, .int (iI (X_vl ct (X_av n cur)))), (4, .int (iI (so cur))), (3, .int (iI (pl cur))), (0, .ref 496), (1, .ref a), (2, .int (iI pile))]) (st' := [.int (iI (bI ((so cur) = 64 ∧ (X_vl ct (X_av n cur) < 1 ∨ d 4 0 < X_vl ct (X_av n cur)))))]) rfl ?_
              refine T_bif_ne xr_79_161 (t := 174) (pc' := 164) rfl rfl (fun c2097 => ?_) (fun c2097 => ?_)
              · skip
                have c2097 : ((so cur) = 64 ∧ (X_vl ct (X_av n cur) < 1 ∨ d 4 0 < X_vl ct (X_av n cur))) := c2097
                refine T_p xr_79_174 xn_79 (pc' := 175) (ls' := [(8, .int (iI (bI (X_isOp (so cur) ∧ pile < 2)))), (7, .int (iI (bI (¬ X_isOp (so cur) ∧ pile = 16)))), (6, .int (iI (bI ((so cur) = 64 ∧ (X_vl ct (X_av n cur) < 1 ∨ d 4 0 < X_vl ct (X_av n cur)))))), (5, .int (iI (X_vl ct (X_av n cur)))), (4, .int (iI (so cur))), (3, .int (iI (pl cur))), (0, .ref 496), (1, .ref a), (2, .int (iI pile))]) (st' := [.ref 496]) rfl ?_
                refine T_p xr_79_175 xn_79 (pc' := 176) (ls' := [(8, .int (iI (bI (X_isOp (so cur) ∧ pile < 2)))), (7, .int (iI (bI (¬ X_isOp (so cur) ∧ pile = 16)))), (6, .int (iI (bI ((so cur) = 64 ∧ (X_vl ct (X_av n cur) < 1 ∨ d 4 0 < X_vl ct (X_av n cur)))))), (5, .int (iI (X_vl ct (X_av n cur)))), (4, .int (iI (so cur))), (3, .int (iI (pl cur))), (0, .ref 496), (1, .ref a), (2, .int (iI pile))]) (st' := [.int (iI 5), .ref 496]) rfl ?_
                refine T_p xr_79_176 xn_79 (pc' := 177) (ls' := [(8, .int (iI (bI (X_isOp (so cur) ∧ pile < 2)))), (7, .int (iI (bI (¬ X_isOp (so cur) ∧ pile = 16)))), (6, .int (iI (bI ((so cur) = 64 ∧ (X_vl ct (X_av n cur) < 1 ∨ d 4 0 < X_vl ct (X_av n cur)))))), (5, .int (iI (X_vl ct (X_av n cur)))), (4, .int (iI (so cur))), (3, .int (iI (pl cur))), (0, .ref 496), (1, .ref a), (2, .int (iI pile))]) (st' := [.int (iI (pl cur)), .int (iI 5), .ref 496]) rfl ?_
                refine T_cv (S := S2072) (q := 496) xr_79_177 xf_66.1 xf_66.2.1 xn_66 (as := [.int (iI 5), .int (iI (pl cur))]) (r := []) rfl h2077 (Nat.le_of_ble_eq_true rfl) (Nat.le_of_ble_eq_true rfl) (pc' := 180) rfl (ls' := [(0, .ref 496), (1, .int (iI 5)), (2, .int (iI (pl cur)))]) rfl ?_
                refine T_p xr_66_0 xn_66 (pc' := 1) (ls' := [(0, .ref 496), (1, .int (iI 5)), (2, .int (iI (pl cur)))]) (st' := [.ref 496]) rfl ?_
                refine T_p xr_66_1 xn_66 (pc' := 2) (ls' := [(0, .ref 496), (1, .int (iI 5)), (2, .int (iI (pl cur)))]) (st' := [.int (iI 5), .ref 496]) rfl ?_
                refine T_put xr_66_2 h2077 rfl (Nat.le_of_ble_eq_true rfl) rfl (fs' := [.ref 497, .ref B, .int (iI 5), .int (iI fp)]) rfl (pc' := 5) rfl (fun S2098 h2099 n2100 e2101 => ?_)
                refine T_p xr_66_5 xn_66 (pc' := 6) (ls' := [(0, .ref 496), (1, .int (iI 5)), (2, .int (iI (pl cur)))]) (st' := [.ref 496]) rfl ?_
                refine T_p xr_66_6 xn_66 (pc' := 7) (ls' := [(0, .ref 496), (1, .int (iI 5)), (2, .int (iI (pl cur)))]) (st' := [.int (iI (pl cur)), .ref 496]) rfl ?_
                refine T_put xr_66_7 h2099 rfl (Nat.le_of_ble_eq_true rfl) rfl (fs' := [.ref 497, .ref B, .int (iI 5), .int (iI (pl cur))]) rfl (pc' := 10) rfl (fun S2102 h2103 n2104 e2105 => ?_)
                refine T_vret xr_66_10 xf_66.2.2 ?_
                show X_T sc 79 (180, [(8, .int (iI (bI (X_isOp (so cur) ∧ pile < 2)))), (7, .int (iI (bI (¬ X_isOp (so cur) ∧ pile = 16)))), (6, .int (iI (bI ((so cur) = 64 ∧ (X_vl ct (X_av n cur) < 1 ∨ d 4 0 < X_vl ct (X_av n cur)))))), (5, .int (iI (X_vl ct (X_av n cur)))), (4, .int (iI (so cur))), (3, .int (iI (pl cur))), (0, .ref 496), (1, .ref a), (2, .int (iI pile))], [], S2102) _
                refine T_p xr_79_180 xn_79 (pc' := 181) (ls' := [(8, .int (iI (bI (X_isOp (so cur) ∧ pile < 2)))), (7, .int (iI (bI (¬ X_isOp (so cur) ∧ pile = 16)))), (6, .int (iI (bI ((so cur) = 64 ∧ (X_vl ct (X_av n cur) < 1 ∨ d 4 0 < X_vl ct (X_av n cur)))))), (5, .int (iI (X_vl ct (X_av n cur)))), (4, .int (iI (so cur))), (3, .int (iI (pl cur))), (0, .ref 496), (1, .ref a), (2, .int (iI pile))]) (st' := [.int (iI (-1))]) rfl ?_
                refine T_iret xr_79_181 xf_79.2.2 rfl ?_
                refine hQ _ _ ?_
                have h2106 := (n2104 497 (by decide)).trans ((n2100 497 (by decide)).trans (h2075))
                have h2107 := (n2104 a (by omega)).trans ((n2100 a (by omega)).trans ((h2074.1 a (by omega)).trans (hw.1)))
                have h2108 := (n2104 (a + 1) (by omega)).trans ((n2100 (a + 1) (by omega)).trans ((h2074.1 (a + 1) (by omega)).trans (hw.2.1)))
                have h2109 := (n2104 (a + 2) (by omega)).trans ((n2100 (a + 2) (by omega)).trans ((h2074.1 (a + 2) (by omega)).trans (hw.2.2.1)))
                have h2110 := (n2104 (a + 3) (by omega)).trans ((n2100 (a + 3) (by omega)).trans ((h2074.1 (a + 3) (by omega)).trans (hw.2.2.2.1)))
                have h2111 := (n2104 (a + 4) (by omega)).trans ((n2100 (a + 4) (by omega)).trans ((h2074.1 (a + 4) (by omega)).trans (hw.2.2.2.2.1)))
                have h2112 := (n2104 (a + 5) (by omega)).trans ((n2100 (a + 5) (by omega)).trans ((h2074.1 (a + 5) (by omega)).trans (hw.2.2.2.2.2.1)))
                have h2113 := (n2104 (a + 6) (by omega)).trans ((n2100 (a + 6) (by omega)).trans ((h2074.1 (a + 6) (by omega)).trans (hw.2.2.2.2.2.2.1)))
                have h2114 := (n2104 (a + 7) (by omega)).trans ((n2100 (a + 7) (by omega)).trans ((h2074.1 (a + 7) (by omega)).trans (hw.2.2.2.2.2.2.2)))
                refine Or.inr ⟨rfl, ?_, ⟨_, _, by omega, h2103⟩, ⟨X_av n cur, h2106, by omega⟩, ⟨h2107, h2108, h2109, h2110, h2111, h2112, h2113, h2114⟩, (((X_Fr.rf).tr (X_Fr.mono ⟨h2074.1, h2074.2⟩ (fun q hq => (by omega)))).tr (X_Fr.of n2100 e2101 (by omega))).tr (X_Fr.of n2104 e2105 (by omega))⟩
                unfold sp_step sp_stF
                (repeat (first | rw [if_pos (by assumption)] | rw [if_neg (by assumption)]))
                all_goals first | rfl | ((repeat' split) <;> first | rfl | (exfalso; omega))
              · skip
                have c2097 : ¬ ((so cur) = 64 ∧ (X_vl ct (X_av n cur) < 1 ∨ d 4 0 < X_vl ct (X_av n cur))) := c2097
                refine T_p xr_79_164 xn_79 (pc' := 166) (ls' := [(8, .int (iI (bI (X_isOp (so cur) ∧ pile < 2)))), (7, .int (iI (bI (¬ X_isOp (so cur) ∧ pile = 16)))), (6, .int (iI (bI ((so cur) = 64 ∧ (X_vl ct (X_av n cur) < 1 ∨ d 4 0 < X_vl ct (X_av n cur)))))), (5, .int (iI (X_vl ct (X_av n cur)))), (4, .int (iI (so cur))), (3, .int (iI (pl cur))), (0, .ref 496), (1, .ref a), (2, .int (iI pile))]) (st' := [.int (iI (bI (¬ X_isOp (so cur) ∧ pile = 16)))]) rfl ?_
                refine T_bif_ne xr_79_166 (t := 174) (pc' := 169) rfl rfl (fun c2115 => ?_) (fun c2115 => ?_)
                · skip
                  have c2115 : (¬ X_isOp (so cur) ∧ pile = 16) := c2115
                  refine T_p xr_79_174 xn_79 (pc' := 175) (ls' := [(8, .int (iI (bI (X_isOp (so cur) ∧ pile < 2)))), (7, .int (iI (bI (¬ X_isOp (so cur) ∧ pile = 16)))), (6, .int (iI (bI ((so cur) = 64 ∧ (X_vl ct (X_av n cur) < 1 ∨ d 4 0 < X_vl ct (X_av n cur)))))), (5, .int (iI (X_vl ct (X_av n cur)))), (4, .int (iI (so cur))), (3, .int (iI (pl cur))), (0, .ref 496), (1, .ref a), (2, .int (iI pile))]) (st' := [.ref 496]) rfl ?_
                  refine T_p xr_79_175 xn_79 (pc' := 176) (ls' := [(8, .int (iI (bI (X_isOp (so cur) ∧ pile < 2)))), (7, .int (iI (bI (¬ X_isOp (so cur) ∧ pile = 16)))), (6, .int (iI (bI ((so cur) = 64 ∧ (X_vl ct (X_av n cur) < 1 ∨ d 4 0 < X_vl ct (X_av n cur)))))), (5, .int (iI (X_vl ct (X_av n cur)))), (4, .int (iI (so cur))), (3, .int (iI (pl cur))), (0, .ref 496), (1, .ref a), (2, .int (iI pile))]) (st' := [.int (iI 5), .ref 496]) rfl ?_
                  refine T_p xr_79_176 xn_79 (pc' := 177) (ls' := [(8, .int (iI (bI (X_isOp (so cur) ∧ pile < 2)))), (7, .int (iI (bI (¬ X_isOp (so cur) ∧ pile = 16)))), (6, .int (iI (bI ((so cur) = 64 ∧ (X_vl ct (X_av n cur) < 1 ∨ d 4 0 < X_vl ct (X_av n cur)))))), (5, .int (iI (X_vl ct (X_av n cur)))), (4, .int (iI (so cur))), (3, .int (iI (pl cur))), (0, .ref 496), (1, .ref a), (2, .int (iI pile))]) (st' := [.int (iI (pl cur)), .int (iI 5), .ref 496]) rfl ?_
                  refine T_cv (S := S2072) (q := 496) xr_79_177 xf_66.1 xf_66.2.1 xn_66 (as := [.int (iI 5), .int (iI (pl cur))]) (r := []) rfl h2077 (Nat.le_of_ble_eq_true rfl) (Nat.le_of_ble_eq_true rfl) (pc' := 180) rfl (ls' := [(0, .ref 496), (1, .int (iI 5)), (2, .int (iI (pl cur)))]) rfl ?_
                  refine T_p xr_66_0 xn_66 (pc' := 1) (ls' := [(0, .ref 496), (1, .int (iI 5)), (2, .int (iI (pl cur)))]) (st' := [.ref 496]) rfl ?_
                  refine T_p xr_66_1 xn_66 (pc' := 2) (ls' := [(0, .ref 496), (1, .int (iI 5)), (2, .int (iI (pl cur)))]) (st' := [.int (iI 5), .ref 496]) rfl ?_
                  refine T_put xr_66_2 h2077 rfl (Nat.le_of_ble_eq_true rfl) rfl (fs' := [.ref 497, .ref B, .int (iI 5), .int (iI fp)]) rfl (pc' := 5) rfl (fun S2116 h2117 n2118 e2119 => ?_)
                  refine T_p xr_66_5 xn_66 (pc' := 6) (ls' := [(0, .ref 496), (1, .int (iI 5)), (2, .int (iI (pl cur)))]) (st' := [.ref 496]) rfl ?_
                  refine T_p xr_66_6 xn_66 (pc' := 7) (ls' := [(0, .ref 496), (1, .int (iI 5)), (2, .int (iI (pl cur)))]) (st' := [.int (iI (pl cur)), .ref 496]) rfl ?_
                  refine T_put xr_66_7 h2117 rfl (Nat.le_of_ble_eq_true rfl) rfl (fs' := [.ref 497, .ref B, .int (iI 5), .int (iI (pl cur))]) rfl (pc' := 10) rfl (fun S2120 h2121 n2122 e2123 => ?_)
                  refine T_vret xr_66_10 xf_66.2.2 ?_
                  show X_T sc 79 (180, [(8, .int (iI (bI (X_isOp (so cur) ∧ pile < 2)))), (7, .int (iI (bI (¬ X_isOp (so cur) ∧ pile = 16)))), (6, .int (iI (bI ((so cur) = 64 ∧ (X_vl ct (X_av n cur) < 1 ∨ d 4 0 < X_vl ct (X_av n cur)))))), (5, .int (iI (X_vl ct (X_av n cur)))), (4, .int (iI (so cur))), (3, .int (iI (pl cur))), (0, .ref 496), (1, .ref a), (2, .int (iI pile))], [], S2120) _
                  refine T_p xr_79_180 xn_79 (pc' := 181) (ls' := [(8, .int (iI (bI (X_isOp (so cur) ∧ pile < 2)))), (7, .int (iI (bI (¬ X_isOp (so cur) ∧ pile = 16)))), (6, .int (iI (bI ((so cur) = 64 ∧ (X_vl ct (X_av n cur) < 1 ∨ d 4 0 < X_vl ct (X_av n cur)))))), (5, .int (iI (X_vl ct (X_av n cur)))), (4, .int (iI (so cur))), (3, .int (iI (pl cur))), (0, .ref 496), (1, .ref a), (2, .int (iI pile))]) (st' := [.int (iI (-1))]) rfl ?_
                  refine T_iret xr_79_181 xf_79.2.2 rfl ?_
                  refine hQ _ _ ?_
                  have h2124 := (n2122 497 (by decide)).trans ((n2118 497 (by decide)).trans (h2075))
                  have h2125 := (n2122 a (by omega)).trans ((n2118 a (by omega)).trans ((h2074.1 a (by omega)).trans (hw.1)))
                  have h2126 := (n2122 (a + 1) (by omega)).trans ((n2118 (a + 1) (by omega)).trans ((h2074.1 (a + 1) (by omega)).trans (hw.2.1)))
                  have h2127 := (n2122 (a + 2) (by omega)).trans ((n2118 (a + 2) (by omega)).trans ((h2074.1 (a + 2) (by omega)).trans (hw.2.2.1)))
                  have h2128 := (n2122 (a + 3) (by omega)).trans ((n2118 (a + 3) (by omega)).trans ((h2074.1 (a + 3) (by omega)).trans (hw.2.2.2.1)))
                  have h2129 := (n2122 (a + 4) (by omega)).trans ((n2118 (a + 4) (by omega)).trans ((h2074.1 (a + 4) (by omega)).trans (hw.2.2.2.2.1)))
                  have h2130 := (n2122 (a + 5) (by omega)).trans ((n2118 (a + 5) (by omega)).trans ((h2074.1 (a + 5) (by omega)).trans (hw.2.2.2.2.2.1)))
                  have h2131 := (n2122 (a + 6) (by omega)).trans ((n2118 (a + 6) (by omega)).trans ((h2074.1 (a + 6) (by omega)).trans (hw.2.2.2.2.2.2.1)))
                  have h2132 := (n2122 (a + 7) (by omega)).trans ((n2118 (a + 7) (by omega)).trans ((h2074.1 (a + 7) (by omega)).trans (hw.2.2.2.2.2.2.2)))
                  refine Or.inr ⟨rfl, ?_, ⟨_, _, by omega, h2121⟩, ⟨X_av n cur, h2124, by omega⟩, ⟨h2125, h2126, h2127, h2128, h2129, h2130, h2131, h2132⟩, (((X_Fr.rf).tr (X_Fr.mono ⟨h2074.1, h2074.2⟩ (fun q hq => (by omega)))).tr (X_Fr.of n2118 e2119 (by omega))).tr (X_Fr.of n2122 e2123 (by omega))⟩
                  unfold sp_step sp_stF
                  (repeat (first | rw [if_pos (by assumption)] | rw [if_neg (by assumption)]))
                  all_goals first | rfl | ((repeat' split) <;> first | rfl | (exfalso; omega))
                · skip
                  have c2115 : ¬ (¬ X_isOp (so cur) ∧ pile = 16) := c2115
                  refine T_p xr_79_169 xn_79 (pc' := 171) (ls' := [(8, .int (iI (bI (X_isOp (so cur) ∧ pile < 2)))), (7, .int (iI (bI (¬ X_isOp (so cur) ∧ pile = 16)))), (6, .int (iI (bI ((so cur) = 64 ∧ (X_vl ct (X_av n cur) < 1 ∨ d 4 0 < X_vl ct (X_av n cur)))))), (5, .int (iI (X_vl ct (X_av n cur)))), (4, .int (iI (so cur))), (3, .int (iI (pl cur))), (0, .ref 496), (1, .ref a), (2, .int (iI pile))]) (st' := [.int (iI (bI (X_isOp (so cur) ∧ pile < 2)))]) rfl ?_
                  refine T_bif_eq xr_79_171 (t := 182) (pc' := 174) rfl rfl (fun c2133 => ?_) (fun c2133 => ?_)
                  · skip
                    have c2133 : ¬ (X_isOp (so cur) ∧ pile < 2) := c2133
                    refine T_p xr_79_182 xn_79 (pc' := 183) (ls' := [(8, .int (iI (bI (X_isOp (so cur) ∧ pile < 2)))), (7, .int (iI (bI (¬ X_isOp (so cur) ∧ pile = 16)))), (6, .int (iI (bI ((so cur) = 64 ∧ (X_vl ct (X_av n cur) < 1 ∨ d 4 0 < X_vl ct (X_av n cur)))))), (5, .int (iI (X_vl ct (X_av n cur)))), (4, .int (iI (so cur))), (3, .int (iI (pl cur))), (0, .ref 496), (1, .ref a), (2, .int (iI pile))]) (st' := [.ref a]) rfl ?_
                    refine T_p xr_79_183 xn_79 (pc' := 185) (ls' := [(8, .int (iI (bI (X_isOp (so cur) ∧ pile < 2)))), (7, .int (iI (bI (¬ X_isOp (so cur) ∧ pile = 16)))), (6, .int (iI (bI ((so cur) = 64 ∧ (X_vl ct (X_av n cur) < 1 ∨ d 4 0 < X_vl ct (X_av n cur)))))), (5, .int (iI (X_vl ct (X_av n cur)))), (4, .int (iI (so cur))), (3, .int (iI (pl cur))), (0, .ref 496), (1, .ref a), (2, .int (iI pile))]) (st' := [.int (iI (so cur)), .ref a]) rfl ?_
                    refine T_p xr_79_185 xn_79 (pc' := 187) (ls' := [(8, .int (iI (bI (X_isOp (so cur) ∧ pile < 2)))), (7, .int (iI (bI (¬ X_isOp (so cur) ∧ pile = 16)))), (6, .int (iI (bI ((so cur) = 64 ∧ (X_vl ct (X_av n cur) < 1 ∨ d 4 0 < X_vl ct (X_av n cur)))))), (5, .int (iI (X_vl ct (X_av n cur)))), (4, .int (iI (so cur))), (3, .int (iI (pl cur))), (0, .ref 496), (1, .ref a), (2, .int (iI pile))]) (st' := [.int (iI (X_vl ct (X_av n cur))), .int (iI (so cur)), .ref a]) rfl ?_
                    have h2134 := (h2074.1 a (by omega)).trans (hw.1)
                    refine T_cv (S := S2072) (q := a) xr_79_187 xf_99.1 xf_99.2.1 xn_99 (as := [.int (iI (so cur)), .int (iI (X_vl ct (X_av n cur)))]) (r := []) rfl h2134 (Nat.le_of_ble_eq_true rfl) (Nat.le_of_ble_eq_true rfl) (pc' := 190) rfl (ls' := [(0, .ref a), (1, .int (iI (so cur))), (2, .int (iI (X_vl ct (X_av n cur))))]) rfl ?_
                    have hr2141 : X_wr (X_aS d (so cur) (X_vl ct (X_av n cur))) := X_wr_S hr (by omega)
                    have h2142 := (h2074.1 (a + 1) (by omega)).trans (hw.2.1)
                    have h2143 := (h2074.1 (a + 2) (by omega)).trans (hw.2.2.1)
                    have h2144 := (h2074.1 (a + 3) (by omega)).trans (hw.2.2.2.1)
                    have h2145 := (h2074.1 (a + 4) (by omega)).trans (hw.2.2.2.2.1)
                    have h2146 := (h2074.1 (a + 5) (by omega)).trans (hw.2.2.2.2.2.1)
                    have h2147 := (h2074.1 (a + 6) (by omega)).trans (hw.2.2.2.2.2.2.1)
                    have h2148 := (h2074.1 (a + 7) (by omega)).trans (hw.2.2.2.2.2.2.2)
                    refine T_mono (c_addStep sc S2072 a d q (so cur) (X_vl ct (X_av n cur)) ⟨h2134, h2142, h2143, h2144, h2145, h2146, h2147, h2148⟩ hr (by omega)) (fun v2135 S2136 h2137 => ?_)
                    obtain ⟨h2138, hw2139, hf2140⟩ := h2137
                    rw [h2138]
                    have hw2139 : C_wd S2136 a (X_aS d (so cur) (X_vl ct (X_av n cur))) q := hw2139
                    show X_T sc 79 (190, [(8, .int (iI (bI (X_isOp (so cur) ∧ pile < 2)))), (7, .int (iI (bI (¬ X_isOp (so cur) ∧ pile = 16)))), (6, .int (iI (bI ((so cur) = 64 ∧ (X_vl ct (X_av n cur) < 1 ∨ d 4 0 < X_vl ct (X_av n cur)))))), (5, .int (iI (X_vl ct (X_av n cur)))), (4, .int (iI (so cur))), (3, .int (iI (pl cur))), (0, .ref 496), (1, .ref a), (2, .int (iI pile))], [], S2136) _
                    refine T_p xr_79_190 xn_79 (pc' := 191) (ls' := [(8, .int (iI (bI (X_isOp (so cur) ∧ pile < 2)))), (7, .int (iI (bI (¬ X_isOp (so cur) ∧ pile = 16)))), (6, .int (iI (bI ((so cur) = 64 ∧ (X_vl ct (X_av n cur) < 1 ∨ d 4 0 < X_vl ct (X_av n cur)))))), (5, .int (iI (X_vl ct (X_av n cur)))), (4, .int (iI (so cur))), (3, .int (iI (pl cur))), (0, .ref 496), (1, .ref a), (2, .int (iI pile))]) (st' := [.ref 496]) rfl ?_
                    have h2149 := (hf2140.1 496 (by omega)).trans (h2077)
                    refine T_get xr_79_191 h2149 rfl (v := .ref 497) rfl (pc' := 194) rfl ?_
                    have h2150 := (hf2140.1 497 (by omega)).trans (h2075)
                    refine T_cv (S := S2136) (q := 497) xr_79_194 xf_52.1 xf_52.2.1 xn_52 (as := []) (r := []) rfl h2150 (Nat.le_of_ble_eq_true rfl) (Nat.le_of_ble_eq_true rfl) (pc' := 197) rfl (ls' := [(0, .ref 497)]) rfl ?_
                    have h2151 := (hf2140.1 498 (by omega)).trans (h2078)
                    have h2152 := (hf2140.1 499 (by omega)).trans (h2079)
                    have h2153 := (hf2140.1 500 (by omega)).trans (h2080)
                    refine T_mono (c_advance sc S2136 at_ n (X_av n cur) so pl ct ⟨h2150, h2151, h2152, h2153⟩ (by omega)) (fun v2155 S2156 h2154 => ?_)
                    obtain ⟨h2157, h2159, h2158⟩ := h2154
                    rw [h2157]
                    show X_T sc 79 (197, [(8, .int (iI (bI (X_isOp (so cur) ∧ pile < 2)))), (7, .int (iI (bI (¬ X_isOp (so cur) ∧ pile = 16)))), (6, .int (iI (bI ((so cur) = 64 ∧ (X_vl ct (X_av n cur) < 1 ∨ d 4 0 < X_vl ct (X_av n cur)))))), (5, .int (iI (X_vl ct (X_av n cur)))), (4, .int (iI (so cur))), (3, .int (iI (pl cur))), (0, .ref 496), (1, .ref a), (2, .int (iI pile))], [], S2156) _
                    have hv2160 := X_av_r (n := n) (c := (X_av n cur)) (by omega)
                    refine T_p xr_79_197 xn_79 (pc' := 199) (ls' := [(8, .int (iI (bI (X_isOp (so cur) ∧ pile < 2)))), (7, .int (iI (bI (¬ X_isOp (so cur) ∧ pile = 16)))), (6, .int (iI (bI ((so cur) = 64 ∧ (X_vl ct (X_av n cur) < 1 ∨ d 4 0 < X_vl ct (X_av n cur)))))), (5, .int (iI (X_vl ct (X_av n cur)))), (4, .int (iI (so cur))), (3, .int (iI (pl cur))), (0, .ref 496), (1, .ref a), (2, .int (iI pile))]) (st' := [.int (iI (so cur))]) rfl ?_
                    refine T_cs xr_79_199 (by decide) xf_81.1 xn_81 (as := [.int (iI (so cur))]) (r := []) rfl (Nat.le_of_ble_eq_true rfl) (Nat.le_of_ble_eq_true rfl) (pc' := 202) rfl (ls' := [(0, .int (iI (so cur)))]) rfl ?_
                    refine T_mono (c_isOperation sc S2156 (so cur) (by omega)) (fun v2162 S2163 h2161 => ?_)
                    obtain ⟨h2164, h2165⟩ := h2161
                    rw [h2164, h2165]
                    show X_T sc 79 (202, [(8, .int (iI (bI (X_isOp (so cur) ∧ pile < 2)))), (7, .int (iI (bI (¬ X_isOp (so cur) ∧ pile = 16)))), (6, .int (iI (bI ((so cur) = 64 ∧ (X_vl ct (X_av n cur) < 1 ∨ d 4 0 < X_vl ct (X_av n cur)))))), (5, .int (iI (X_vl ct (X_av n cur)))), (4, .int (iI (so cur))), (3, .int (iI (pl cur))), (0, .ref 496), (1, .ref a), (2, .int (iI pile))], [.int (iI (bI (X_isOp (so cur))))], S2156) _
                    refine T_bif_eq xr_79_202 (t := 211) (pc' := 205) rfl rfl (fun c2166 => ?_) (fun c2166 => ?_)
                    · skip
                      have c2166 : ¬ (X_isOp (so cur)) := c2166
                      refine T_p xr_79_211 xn_79 (pc' := 212) (ls' := [(8, .int (iI (bI (X_isOp (so cur) ∧ pile < 2)))), (7, .int (iI (bI (¬ X_isOp (so cur) ∧ pile = 16)))), (6, .int (iI (bI ((so cur) = 64 ∧ (X_vl ct (X_av n cur) < 1 ∨ d 4 0 < X_vl ct (X_av n cur)))))), (5, .int (iI (X_vl ct (X_av n cur)))), (4, .int (iI (so cur))), (3, .int (iI (pl cur))), (0, .ref 496), (1, .ref a), (2, .int (iI pile))]) (st' := [.int (iI pile)]) rfl ?_
                      refine T_p xr_79_212 xn_79 (pc' := 213) (ls' := [(8, .int (iI (bI (X_isOp (so cur) ∧ pile < 2)))), (7, .int (iI (bI (¬ X_isOp (so cur) ∧ pile = 16)))), (6, .int (iI (bI ((so cur) = 64 ∧ (X_vl ct (X_av n cur) < 1 ∨ d 4 0 < X_vl ct (X_av n cur)))))), (5, .int (iI (X_vl ct (X_av n cur)))), (4, .int (iI (so cur))), (3, .int (iI (pl cur))), (0, .ref 496), (1, .ref a), (2, .int (iI pile))]) (st' := [.int (iI 1), .int (iI pile)]) rfl ?_
                      refine T_ziadd xr_79_213 (z := pile + 1) rfl (pc' := 214) rfl ?_
                      refine T_iret xr_79_214 xf_79.2.2 rfl ?_
                      refine hQ _ _ ?_
                      have h2167 := (h2158.1 496 (by omega)).trans (h2149)
                      have h2168 := (h2158.1 a (by omega)).trans (hw2139.1)
                      have h2169 := (h2158.1 (a + 1) (by omega)).trans (hw2139.2.1)
                      have h2170 := (h2158.1 (a + 2) (by omega)).trans (hw2139.2.2.1)
                      have h2171 := (h2158.1 (a + 3) (by omega)).trans (hw2139.2.2.2.1)
                      have h2172 := (h2158.1 (a + 4) (by omega)).trans (hw2139.2.2.2.2.1)
                      have h2173 := (h2158.1 (a + 5) (by omega)).trans (hw2139.2.2.2.2.2.1)
                      have h2174 := (h2158.1 (a + 6) (by omega)).trans (hw2139.2.2.2.2.2.2.1)
                      have h2175 := (h2158.1 (a + 7) (by omega)).trans (hw2139.2.2.2.2.2.2.2)
                      refine Or.inl ⟨X_av n (X_av n cur), X_aS d (so cur) (X_vl ct (X_av n cur)), pile + 1, rfl, ?_, h2167, h2159, by omega, ⟨h2168, h2169, h2170, h2171, h2172, h2173, h2174, h2175⟩, hr2141, (((X_Fr.rf).tr (X_Fr.mono ⟨h2074.1, h2074.2⟩ (fun q hq => (by omega)))).tr (X_Fr.mono ⟨hf2140.1, hf2140.2⟩ (fun q hq => (by omega)))).tr (X_Fr.mono ⟨h2158.1, h2158.2⟩ (fun q hq => (by omega)))⟩
                      unfold sp_step sp_stF
                      (repeat (first | rw [if_pos (by assumption)] | rw [if_neg (by assumption)]))
                      all_goals first | rfl | ((repeat' split) <;> first | rfl | (exfalso; omega))
                    · skip
                      have c2166 : (X_isOp (so cur)) := c2166
                      exact (show False by first | contradiction | omega).elim
                  · skip
                    have c2133 : (X_isOp (so cur) ∧ pile < 2) := c2133
                    refine T_p xr_79_174 xn_79 (pc' := 175) (ls' := [(8, .int (iI (bI (X_isOp (so cur) ∧ pile < 2)))), (7, .int (iI (bI (¬ X_isOp (so cur) ∧ pile = 16)))), (6, .int (iI (bI ((so cur) = 64 ∧ (X_vl ct (X_av n cur) < 1 ∨ d 4 0 < X_vl ct (X_av n cur)))))), (5, .int (iI (X_vl ct (X_av n cur)))), (4, .int (iI (so cur))), (3, .int (iI (pl cur))), (0, .ref 496), (1, .ref a), (2, .int (iI pile))]) (st' := [.ref 496]) rfl ?_
                    refine T_p xr_79_175 xn_79 (pc' := 176) (ls' := [(8, .int (iI (bI (X_isOp (so cur) ∧ pile < 2)))), (7, .int (iI (bI (¬ X_isOp (so cur) ∧ pile = 16)))), (6, .int (iI (bI ((so cur) = 64 ∧ (X_vl ct (X_av n cur) < 1 ∨ d 4 0 < X_vl ct (X_av n cur)))))), (5, .int (iI (X_vl ct (X_av n cur)))), (4, .int (iI (so cur))), (3, .int (iI (pl cur))), (0, .ref 496), (1, .ref a), (2, .int (iI pile))]) (st' := [.int (iI 5), .ref 496]) rfl ?_
                    refine T_p xr_79_176 xn_79 (pc' := 177) (ls' := [(8, .int (iI (bI (X_isOp (so cur) ∧ pile < 2)))), (7, .int (iI (bI (¬ X_isOp (so cur) ∧ pile = 16)))), (6, .int (iI (bI ((so cur) = 64 ∧ (X_vl ct (X_av n cur) < 1 ∨ d 4 0 < X_vl ct (X_av n cur)))))), (5, .int (iI (X_vl ct (X_av n cur)))), (4, .int (iI (so cur))), (3, .int (iI (pl cur))), (0, .ref 496), (1, .ref a), (2, .int (iI pile))]) (st' := [.int (iI (pl cur)), .int (iI 5), .ref 496]) rfl ?_
                    refine T_cv (S := S2072) (q := 496) xr_79_177 xf_66.1 xf_66.2.1 xn_66 (as := [.int (iI 5), .int (iI (pl cur))]) (r := []) rfl h2077 (Nat.le_of_ble_eq_true rfl) (Nat.le_of_ble_eq_true rfl) (pc' := 180) rfl (ls' := [(0, .ref 496), (1, .int (iI 5)), (2, .int (iI (pl cur)))]) rfl ?_
                    refine T_p xr_66_0 xn_66 (pc' := 1) (ls' := [(0, .ref 496), (1, .int (iI 5)), (2, .int (iI (pl cur)))]) (st' := [.ref 496]) rfl ?_
                    refine T_p xr_66_1 xn_66 (pc' := 2) (ls' := [(0, .ref 496), (1, .int (iI 5)), (2, .int (iI (pl cur)))]) (st' := [.int (iI 5), .ref 496]) rfl ?_
                    refine T_put xr_66_2 h2077 rfl (Nat.le_of_ble_eq_true rfl) rfl (fs' := [.ref 497, .ref B, .int (iI 5), .int (iI fp)]) rfl (pc' := 5) rfl (fun S2176 h2177 n2178 e2179 => ?_)
                    refine T_p xr_66_5 xn_66 (pc' := 6) (ls' := [(0, .ref 496), (1, .int (iI 5)), (2, .int (iI (pl cur)))]) (st' := [.ref 496]) rfl ?_
                    refine T_p xr_66_6 xn_66 (pc' := 7) (ls' := [(0, .ref 496), (1, .int (iI 5)), (2, .int (iI (pl cur)))]) (st' := [.int (iI (pl cur)), .ref 496]) rfl ?_
                    refine T_put xr_66_7 h2177 rfl (Nat.le_of_ble_eq_true rfl) rfl (fs' := [.ref 497, .ref B, .int (iI 5), .int (iI (pl cur))]) rfl (pc' := 10) rfl (fun S2180 h2181 n2182 e2183 => ?_)
                    refine T_vret xr_66_10 xf_66.2.2 ?_
                    show X_T sc 79 (180, [(8, .int (iI (bI (X_isOp (so cur) ∧ pile < 2)))), (7, .int (iI (bI (¬ X_isOp (so cur) ∧ pile = 16)))), (6, .int (iI (bI ((so cur) = 64 ∧ (X_vl ct (X_av n cur) < 1 ∨ d 4 0 < X_vl ct (X_av n cur)))))), (5, .int (iI (X_vl ct (X_av n cur)))), (4, .int (iI (so cur))), (3, .int (iI (pl cur))), (0, .ref 496), (1, .ref a), (2, .int (iI pile))], [], S2180) _
                    refine T_p xr_79_180 xn_79 (pc' := 181) (ls' := [(8, .int (iI (bI (X_isOp (so cur) ∧ pile < 2)))), (7, .int (iI (bI (¬ X_isOp (so cur) ∧ pile = 16)))), (6, .int (iI (bI ((so cur) = 64 ∧ (X_vl ct (X_av n cur) < 1 ∨ d 4 0 < X_vl ct (X_av n cur)))))), (5, .int (iI (X_vl ct (X_av n cur)))), (4, .int (iI (so cur))), (3, .int (iI (pl cur))), (0, .ref 496), (1, .ref a), (2, .int (iI pile))]) (st' := [.int (iI (-1))]) rfl ?_
                    refine T_iret xr_79_181 xf_79.2.2 rfl ?_
                    refine hQ _ _ ?_
                    have h2184 := (n2182 497 (by decide)).trans ((n2178 497 (by decide)).trans (h2075))
                    have h2185 := (n2182 a (by omega)).trans ((n2178 a (by omega)).trans ((h2074.1 a (by omega)).trans (hw.1)))
                    have h2186 := (n2182 (a + 1) (by omega)).trans ((n2178 (a + 1) (by omega)).trans ((h2074.1 (a + 1) (by omega)).trans (hw.2.1)))
                    have h2187 := (n2182 (a + 2) (by omega)).trans ((n2178 (a + 2) (by omega)).trans ((h2074.1 (a + 2) (by omega)).trans (hw.2.2.1)))
                    have h2188 := (n2182 (a + 3) (by omega)).trans ((n2178 (a + 3) (by omega)).trans ((h2074.1 (a + 3) (by omega)).trans (hw.2.2.2.1)))
                    have h2189 := (n2182 (a + 4) (by omega)).trans ((n2178 (a + 4) (by omega)).trans ((h2074.1 (a + 4) (by omega)).trans (hw.2.2.2.2.1)))
                    have h2190 := (n2182 (a + 5) (by omega)).trans ((n2178 (a + 5) (by omega)).trans ((h2074.1 (a + 5) (by omega)).trans (hw.2.2.2.2.2.1)))
                    have h2191 := (n2182 (a + 6) (by omega)).trans ((n2178 (a + 6) (by omega)).trans ((h2074.1 (a + 6) (by omega)).trans (hw.2.2.2.2.2.2.1)))
                    have h2192 := (n2182 (a + 7) (by omega)).trans ((n2178 (a + 7) (by omega)).trans ((h2074.1 (a + 7) (by omega)).trans (hw.2.2.2.2.2.2.2)))
                    refine Or.inr ⟨rfl, ?_, ⟨_, _, by omega, h2181⟩, ⟨X_av n cur, h2184, by omega⟩, ⟨h2185, h2186, h2187, h2188, h2189, h2190, h2191, h2192⟩, (((X_Fr.rf).tr (X_Fr.mono ⟨h2074.1, h2074.2⟩ (fun q hq => (by omega)))).tr (X_Fr.of n2178 e2179 (by omega))).tr (X_Fr.of n2182 e2183 (by omega))⟩
                    unfold sp_step sp_stF
                    (repeat (first | rw [if_pos (by assumption)] | rw [if_neg (by assumption)]))
                    all_goals first | rfl | ((repeat' split) <;> first | rfl | (exfalso; omega))
            refine T_p xr_79_139 xn_79 (pc' := 141) (ls' := [(7, .int (iI (bI (¬ X_isOp (so cur) ∧ pile = 16)))), (6, .int (iI (bI ((so cur) = 64 ∧ (X_vl ct (X_av n cur) < 1 ∨ d 4 0 < X_vl ct (X_av n cur)))))), (5, .int (iI (X_vl ct (X_av n cur)))), (4, .int (iI (so cur))), (3, .int (iI (pl cur))), (0, .ref 496), (1, .ref a), (2, .int (iI pile))]) (st' := [.int (iI (so cur))]) rfl ?_
            refine T_cs xr_79_141 (by decide) xf_81.1 xn_81 (as := [.int (iI (so cur))]) (r := []) rfl (Nat.le_of_ble_eq_true rfl) (Nat.le_of_ble_eq_true rfl) (pc' := 144) rfl (ls' := [(0, .int (iI (so cur)))]) rfl ?_
            refine T_mono (c_isOperation sc S2072 (so cur) (by omega)) (fun v2194 S2195 h2193 => ?_)
            obtain ⟨h2196, h2197⟩ := h2193
            rw [h2196, h2197]
            show X_T sc 79 (144, [(7, .int (iI (bI (¬ X_isOp (so cur) ∧ pile = 16)))), (6, .int (iI (bI ((so cur) = 64 ∧ (X_vl ct (X_av n cur) < 1 ∨ d 4 0 < X_vl ct (X_av n cur)))))), (5, .int (iI (X_vl ct (X_av n cur)))), (4, .int (iI (so cur))), (3, .int (iI (pl cur))), (0, .ref 496), (1, .ref a), (2, .int (iI pile))], [.int (iI (bI (X_isOp (so cur))))], S2072) _
            refine T_bif_eq xr_79_144 (t := 156) (pc' := 147) rfl rfl (fun c2198 => ?_) (fun c2198 => ?_)
            · skip
              have c2198 : ¬ (X_isOp (so cur)) := c2198
              refine T_p xr_79_156 xn_79 (pc' := 157) (ls' := [(7, .int (iI (bI (¬ X_isOp (so cur) ∧ pile = 16)))), (6, .int (iI (bI ((so cur) = 64 ∧ (X_vl ct (X_av n cur) < 1 ∨ d 4 0 < X_vl ct (X_av n cur)))))), (5, .int (iI (X_vl ct (X_av n cur)))), (4, .int (iI (so cur))), (3, .int (iI (pl cur))), (0, .ref 496), (1, .ref a), (2, .int (iI pile))]) (st' := [.int (iI 0)]) rfl ?_
              refine T_ie (y := iI (bI (X_isOp (so cur) ∧ pile < 2))) (by rw [bI_f (by rintro ⟨h1, h2⟩; first | omega | contradiction)]) ?_
              exact J2096
            · skip
              have c2198 : (X_isOp (so cur)) := c2198
              exact (show False by first | contradiction | omega).elim
          refine T_p xr_79_118 xn_79 (pc' := 120) (ls' := [(6, .int (iI (bI ((so cur) = 64 ∧ (X_vl ct (X_av n cur) < 1 ∨ d 4 0 < X_vl ct (X_av n cur)))))), (5, .int (iI (X_vl ct (X_av n cur)))), (4, .int (iI (so cur))), (3, .int (iI (pl cur))), (0, .ref 496), (1, .ref a), (2, .int (iI pile))]) (st' := [.int (iI (so cur))]) rfl ?_
          refine T_cs xr_79_120 (by decide) xf_81.1 xn_81 (as := [.int (iI (so cur))]) (r := []) rfl (Nat.le_of_ble_eq_true rfl) (Nat.le_of_ble_eq_true rfl) (pc' := 123) rfl (ls' := [(0, .int (iI (so cur)))]) rfl ?_
          refine T_mono (c_isOperation sc S2072 (so cur) (by omega)) (fun v2200 S2201 h2199 => ?_)
          obtain ⟨h2202, h2203⟩ := h2199
          rw [h2202, h2203]
          show X_T sc 79 (123, [(6, .int (iI (bI ((so cur) = 64 ∧ (X_vl ct (X_av n cur) < 1 ∨ d 4 0 < X_vl ct (X_av n cur)))))), (5, .int (iI (X_vl ct (X_av n cur)))), (4, .int (iI (so cur))), (3, .int (iI (pl cur))), (0, .ref 496), (1, .ref a), (2, .int (iI pile))], [.int (iI (bI (X_isOp (so cur))))], S2072) _
          refine T_bif_ne xr_79_123 (t := 136) (pc' := 126) rfl rfl (fun c2204 => ?_) (fun c2204 => ?_)
          · skip
            have c2204 : (X_isOp (so cur)) := c2204
            exact (show False by first | contradiction | omega).elim
          · skip
            have c2204 : ¬ (X_isOp (so cur)) := c2204
            refine T_p xr_79_126 xn_79 (pc' := 127) (ls' := [(6, .int (iI (bI ((so cur) = 64 ∧ (X_vl ct (X_av n cur) < 1 ∨ d 4 0 < X_vl ct (X_av n cur)))))), (5, .int (iI (X_vl ct (X_av n cur)))), (4, .int (iI (so cur))), (3, .int (iI (pl cur))), (0, .ref 496), (1, .ref a), (2, .int (iI pile))]) (st' := [.int (iI pile)]) rfl ?_
            refine T_p xr_79_127 xn_79 (pc' := 129) (ls' := [(6, .int (iI (bI ((so cur) = 64 ∧ (X_vl ct (X_av n cur) < 1 ∨ d 4 0 < X_vl ct (X_av n cur)))))), (5, .int (iI (X_vl ct (X_av n cur)))), (4, .int (iI (so cur))), (3, .int (iI (pl cur))), (0, .ref 496), (1, .ref a), (2, .int (iI pile))]) (st' := [.int (iI 16), .int (iI pile)]) rfl ?_
            refine T_zicmp_ne xr_79_129 (t := 136) (pc' := 132) rfl rfl (fun c2205 => ?_) (fun c2205 => ?_)
            · skip
              have c2205 : ¬ pile = 16 := c2205
              refine T_p xr_79_136 xn_79 (pc' := 137) (ls' := [(6, .int (iI (bI ((so cur) = 64 ∧ (X_vl ct (X_av n cur) < 1 ∨ d 4 0 < X_vl ct (X_av n cur)))))), (5, .int (iI (X_vl ct (X_av n cur)))), (4, .int (iI (so cur))), (3, .int (iI (pl cur))), (0, .ref 496), (1, .ref a), (2, .int (iI pile))]) (st' := [.int (iI 0)]) rfl ?_
              refine T_ie (y := iI (bI (¬ X_isOp (so cur) ∧ pile = 16))) (by rw [bI_f (by rintro ⟨h1, h2⟩; first | omega | contradiction)]) ?_
              exact J2095
            · skip
              have c2205 : ¬ (¬ pile = 16) := c2205
              refine T_p xr_79_132 xn_79 (pc' := 133) (ls' := [(6, .int (iI (bI ((so cur) = 64 ∧ (X_vl ct (X_av n cur) < 1 ∨ d 4 0 < X_vl ct (X_av n cur)))))), (5, .int (iI (X_vl ct (X_av n cur)))), (4, .int (iI (so cur))), (3, .int (iI (pl cur))), (0, .ref 496), (1, .ref a), (2, .int (iI pile))]) (st' := [.int (iI 1)]) rfl ?_
              refine T_p xr_79_133 xn_79 (pc' := 137) (ls' := [(6, .int (iI (bI ((so cur) = 64 ∧ (X_vl ct (X_av n cur) < 1 ∨ d 4 0 < X_vl ct (X_av n cur)))))), (5, .int (iI (X_vl ct (X_av n cur)))), (4, .int (iI (so cur))), (3, .int (iI (pl cur))), (0, .ref 496), (1, .ref a), (2, .int (iI pile))]) (st' := [.int (iI 1)]) rfl ?_
              refine T_ie (y := iI (bI (¬ X_isOp (so cur) ∧ pile = 16))) (by rw [bI_t (by exact ⟨by assumption, by omega⟩)]) ?_
              exact J2095
        refine T_p xr_79_89 xn_79 (pc' := 91) (ls' := [(5, .int (iI (X_vl ct (X_av n cur)))), (4, .int (iI (so cur))), (3, .int (iI (pl cur))), (0, .ref 496), (1, .ref a), (2, .int (iI pile))]) (st' := [.int (iI (so cur))]) rfl ?_
        refine T_p xr_79_91 xn_79 (pc' := 93) (ls' := [(5, .int (iI (X_vl ct (X_av n cur)))), (4, .int (iI (so cur))), (3, .int (iI (pl cur))), (0, .ref 496), (1, .ref a), (2, .int (iI pile))]) (st' := [.int (iI 64), .int (iI (so cur))]) rfl ?_
        refine T_zicmp_ne xr_79_93 (t := 115) (pc' := 96) rfl rfl (fun c2206 => ?_) (fun c2206 => ?_)
        · skip
          have c2206 : ¬ (so cur) = 64 := c2206
          exact (show False by first | contradiction | omega).elim
        · skip
          have c2206 : ¬ (¬ (so cur) = 64) := c2206
          refine T_p xr_79_96 xn_79 (pc' := 98) (ls' := [(5, .int (iI (X_vl ct (X_av n cur)))), (4, .int (iI (so cur))), (3, .int (iI (pl cur))), (0, .ref 496), (1, .ref a), (2, .int (iI pile))]) (st' := [.int (iI (X_vl ct (X_av n cur)))]) rfl ?_
          refine T_p xr_79_98 xn_79 (pc' := 99) (ls' := [(5, .int (iI (X_vl ct (X_av n cur)))), (4, .int (iI (so cur))), (3, .int (iI (pl cur))), (0, .ref 496), (1, .ref a), (2, .int (iI pile))]) (st' := [.int (iI 1), .int (iI (X_vl ct (X_av n cur)))]) rfl ?_
          refine T_zicmp_lt xr_79_99 (t := 111) (pc' := 102) rfl rfl (fun c2207 => ?_) (fun c2207 => ?_)
          · skip
            have c2207 : (X_vl ct (X_av n cur)) < 1 := c2207
            refine T_p xr_79_111 xn_79 (pc' := 112) (ls' := [(5, .int (iI (X_vl ct (X_av n cur)))), (4, .int (iI (so cur))), (3, .int (iI (pl cur))), (0, .ref 496), (1, .ref a), (2, .int (iI pile))]) (st' := [.int (iI 1)]) rfl ?_
            refine T_p xr_79_112 xn_79 (pc' := 116) (ls' := [(5, .int (iI (X_vl ct (X_av n cur)))), (4, .int (iI (so cur))), (3, .int (iI (pl cur))), (0, .ref 496), (1, .ref a), (2, .int (iI pile))]) (st' := [.int (iI 1)]) rfl ?_
            refine T_ie (y := iI (bI ((so cur) = 64 ∧ (X_vl ct (X_av n cur) < 1 ∨ d 4 0 < X_vl ct (X_av n cur))))) (by rw [bI_t (by exact ⟨by omega, by omega⟩)]) ?_
            exact J2094
          · skip
            have c2207 : ¬ ((X_vl ct (X_av n cur)) < 1) := c2207
            refine T_p xr_79_102 xn_79 (pc' := 104) (ls' := [(5, .int (iI (X_vl ct (X_av n cur)))), (4, .int (iI (so cur))), (3, .int (iI (pl cur))), (0, .ref 496), (1, .ref a), (2, .int (iI pile))]) (st' := [.int (iI (X_vl ct (X_av n cur)))]) rfl ?_
            refine T_p xr_79_104 xn_79 (pc' := 105) (ls' := [(5, .int (iI (X_vl ct (X_av n cur)))), (4, .int (iI (so cur))), (3, .int (iI (pl cur))), (0, .ref 496), (1, .ref a), (2, .int (iI pile))]) (st' := [.ref a, .int (iI (X_vl ct (X_av n cur)))]) rfl ?_
            have h2208 := (h2074.1 a (by omega)).trans (hw.1)
            refine T_get xr_79_105 h2208 rfl (v := .int (iI (d 4 0))) rfl (pc' := 108) rfl ?_
            refine T_zicmp_le xr_79_108 (t := 115) (pc' := 111) rfl rfl (fun c2209 => ?_) (fun c2209 => ?_)
            · skip
              have c2209 : (X_vl ct (X_av n cur)) ≤ (d 4 0) := c2209
              refine T_p xr_79_115 xn_79 (pc' := 116) (ls' := [(5, .int (iI (X_vl ct (X_av n cur)))), (4, .int (iI (so cur))), (3, .int (iI (pl cur))), (0, .ref 496), (1, .ref a), (2, .int (iI pile))]) (st' := [.int (iI 0)]) rfl ?_
              refine T_ie (y := iI (bI ((so cur) = 64 ∧ (X_vl ct (X_av n cur) < 1 ∨ d 4 0 < X_vl ct (X_av n cur))))) (by rw [bI_f (by rintro ⟨h1, h2⟩; omega)]) ?_
              exact J2094
            · skip
              have c2209 : ¬ ((X_vl ct (X_av n cur)) ≤ (d 4 0)) := c2209
              refine T_p xr_79_111 xn_79 (pc' := 112) (ls' := [(5, .int (iI (X_vl ct (X_av n cur)))), (4, .int (iI (so cur))), (3, .int (iI (pl cur))), (0, .ref 496), (1, .ref a), (2, .int (iI pile))]) (st' := [.int (iI 1)]) rfl ?_
              refine T_p xr_79_112 xn_79 (pc' := 116) (ls' := [(5, .int (iI (X_vl ct (X_av n cur)))), (4, .int (iI (so cur))), (3, .int (iI (pl cur))), (0, .ref 496), (1, .ref a), (2, .int (iI pile))]) (st' := [.int (iI 1)]) rfl ?_
              refine T_ie (y := iI (bI ((so cur) = 64 ∧ (X_vl ct (X_av n cur) < 1 ∨ d 4 0 < X_vl ct (X_av n cur))))) (by rw [bI_t (by exact ⟨by omega, by omega⟩)]) ?_
              exact J2094
      · skip
        have c2087 : ¬ ((so (X_av n cur)) = 5) := c2087
        refine T_p xr_79_53 xn_79 (pc' := 54) (ls' := [(4, .int (iI (so cur))), (3, .int (iI (pl cur))), (0, .ref 496), (1, .ref a), (2, .int (iI pile))]) (st' := [.ref 496]) rfl ?_
        refine T_cv (S := S2072) (q := 496) xr_79_54 xf_67.1 xf_67.2.1 xn_67 (as := []) (r := []) rfl h2077 (Nat.le_of_ble_eq_true rfl) (Nat.le_of_ble_eq_true rfl) (pc' := 57) rfl (ls' := [(0, .ref 496)]) rfl ?_
        refine T_mono (c_refuse sc S2072 B fl fp at_ n (X_av n cur) so pl ct h2077 ⟨h2075, h2078, h2079, h2080⟩ (by omega) hso) (fun v2210 S2211 h2212 => ?_)
        obtain ⟨h2213, ⟨fl2214, fp2215, hn2216, hp2217⟩, hf2218⟩ := h2212
        rw [h2213]
        show X_T sc 79 (57, [(4, .int (iI (so cur))), (3, .int (iI (pl cur))), (0, .ref 496), (1, .ref a), (2, .int (iI pile))], [], S2211) _
        refine T_p xr_79_57 xn_79 (pc' := 58) (ls' := [(4, .int (iI (so cur))), (3, .int (iI (pl cur))), (0, .ref 496), (1, .ref a), (2, .int (iI pile))]) (st' := [.int (iI (-1))]) rfl ?_
        refine T_iret xr_79_58 xf_79.2.2 rfl ?_
        refine hQ _ _ ?_
        have h2219 := (hf2218.1 497 (by omega)).trans (h2075)
        have h2220 := (hf2218.1 a (by omega)).trans ((h2074.1 a (by omega)).trans (hw.1))
        have h2221 := (hf2218.1 (a + 1) (by omega)).trans ((h2074.1 (a + 1) (by omega)).trans (hw.2.1))
        have h2222 := (hf2218.1 (a + 2) (by omega)).trans ((h2074.1 (a + 2) (by omega)).trans (hw.2.2.1))
        have h2223 := (hf2218.1 (a + 3) (by omega)).trans ((h2074.1 (a + 3) (by omega)).trans (hw.2.2.2.1))
        have h2224 := (hf2218.1 (a + 4) (by omega)).trans ((h2074.1 (a + 4) (by omega)).trans (hw.2.2.2.2.1))
        have h2225 := (hf2218.1 (a + 5) (by omega)).trans ((h2074.1 (a + 5) (by omega)).trans (hw.2.2.2.2.2.1))
        have h2226 := (hf2218.1 (a + 6) (by omega)).trans ((h2074.1 (a + 6) (by omega)).trans (hw.2.2.2.2.2.2.1))
        have h2227 := (hf2218.1 (a + 7) (by omega)).trans ((h2074.1 (a + 7) (by omega)).trans (hw.2.2.2.2.2.2.2))
        refine Or.inr ⟨rfl, ?_, ⟨_, _, by omega, hp2217⟩, ⟨X_av n cur, h2219, by omega⟩, ⟨h2220, h2221, h2222, h2223, h2224, h2225, h2226, h2227⟩, ((X_Fr.rf).tr (X_Fr.mono ⟨h2074.1, h2074.2⟩ (fun q hq => (by omega)))).tr (X_Fr.mono ⟨hf2218.1, hf2218.2⟩ (fun q hq => (by omega)))⟩
        unfold sp_step sp_stF
        (repeat (first | rw [if_pos (by assumption)] | rw [if_neg (by assumption)]))
        all_goals first | rfl | ((repeat' split) <;> first | rfl | (exfalso; omega))
  · skip
    have c1804 : (so cur = 4 ∨ so cur = 5) := c1804
    refine T_p xr_79_15 xn_79 (pc' := 16) (ls' := [(3, .int (iI (pl cur))), (0, .ref 496), (1, .ref a), (2, .int (iI pile))]) (st' := [.int (iI 4)]) rfl ?_
    refine T_p xr_79_16 xn_79 (pc' := 26) (ls' := [(3, .int (iI (pl cur))), (0, .ref 496), (1, .ref a), (2, .int (iI pile))]) (st' := [.int (iI 4)]) rfl ?_
    refine T_p xr_79_26 xn_79 (pc' := 28) (ls' := [(4, .int (iI 4)), (3, .int (iI (pl cur))), (0, .ref 496), (1, .ref a), (2, .int (iI pile))]) (st' := []) rfl ?_
    refine T_p xr_79_28 xn_79 (pc' := 30) (ls' := [(4, .int (iI 4)), (3, .int (iI (pl cur))), (0, .ref 496), (1, .ref a), (2, .int (iI pile))]) (st' := [.int (iI 4)]) rfl ?_
    refine T_p xr_79_30 xn_79 (pc' := 32) (ls' := [(4, .int (iI 4)), (3, .int (iI (pl cur))), (0, .ref 496), (1, .ref a), (2, .int (iI pile))]) (st' := [.int (iI 64), .int (iI 4)]) rfl ?_
    refine T_zicmp_net xr_79_32 (t := 59) rfl (by decide) ?_
    refine T_p xr_79_59 xn_79 (pc' := 61) (ls' := [(4, .int (iI 4)), (3, .int (iI (pl cur))), (0, .ref 496), (1, .ref a), (2, .int (iI pile))]) (st' := [.int (iI 4)]) rfl ?_
    refine T_p xr_79_61 xn_79 (pc' := 62) (ls' := [(4, .int (iI 4)), (3, .int (iI (pl cur))), (0, .ref 496), (1, .ref a), (2, .int (iI pile))]) (st' := [.int (iI 4), .int (iI 4)]) rfl ?_
    refine T_zicmp_eqt xr_79_62 (t := 79) rfl (by decide) ?_
    refine T_p xr_79_79 xn_79 (pc' := 80) (ls' := [(4, .int (iI 4)), (3, .int (iI (pl cur))), (0, .ref 496), (1, .ref a), (2, .int (iI pile))]) (st' := [.ref 496]) rfl ?_
    refine T_get xr_79_80 hp rfl (v := .ref 497) rfl (pc' := 83) rfl ?_
    refine T_cv (S := S) (q := 497) xr_79_83 xf_50.1 xf_50.2.1 xn_50 (as := []) (r := []) rfl hx.1 (Nat.le_of_ble_eq_true rfl) (Nat.le_of_ble_eq_true rfl) (pc' := 86) rfl (ls' := [(0, .ref 497)]) rfl ?_
    refine T_mono (c_content sc S at_ n cur so pl ct ⟨hx.1, hx.2.1, hx.2.2.1, hx.2.2.2⟩ (by omega)) (fun v2229 S2230 h2228 => ?_)
    obtain ⟨h2231, h2232⟩ := h2228
    rw [h2231, h2232]
    show X_T sc 79 (86, [(4, .int (iI 4)), (3, .int (iI (pl cur))), (0, .ref 496), (1, .ref a), (2, .int (iI pile))], [.long (ct cur)], S) _
    refine T_zop xr_79_86 (pc' := 87) rfl (z := ((ct cur : Int64).toInt32).toInt) (iI_of _) ?_
    refine T_ie (y := iI (X_vl ct cur)) rfl ?_
    have hv2233 := X_vl_r ct cur
    refine T_p xr_79_87 xn_79 (pc' := 89) (ls' := [(5, .int (iI (X_vl ct cur))), (4, .int (iI 4)), (3, .int (iI (pl cur))), (0, .ref 496), (1, .ref a), (2, .int (iI pile))]) (st' := []) rfl ?_
    have J2234 : X_T sc 79 (116, [(5, .int (iI (X_vl ct cur))), (4, .int (iI 4)), (3, .int (iI (pl cur))), (0, .ref 496), (1, .ref a), (2, .int (iI pile))], [.int (iI (bI (4 = 64 ∧ (X_vl ct cur < 1 ∨ d 4 0 < X_vl ct cur))))], S) Q := by
      refine T_p xr_79_116 xn_79 (pc' := 118) (ls' := [(6, .int (iI (bI (4 = 64 ∧ (X_vl ct cur < 1 ∨ d 4 0 < X_vl ct cur))))), (5, .int (iI (X_vl ct cur))), (4, .int (iI 4)), (3, .int (iI (pl cur))), (0, .ref 496), (1, .ref a), (2, .int (iI pile))]) (st' := []) rfl ?_
      have J2235 : X_T sc 79 (137, [(6, .int (iI (bI (4 = 64 ∧ (X_vl ct cur < 1 ∨ d 4 0 < X_vl ct cur))))), (5, .int (iI (X_vl ct cur))), (4, .int (iI 4)), (3, .int (iI (pl cur))), (0, .ref 496), (1, .ref a), (2, .int (iI pile))], [.int (iI (bI (¬ X_isOp 4 ∧ pile = 16)))], S) Q := by
        refine T_p xr_79_137 xn_79 (pc' := 139) (ls' := [(7, .int (iI (bI (¬ X_isOp 4 ∧ pile = 16)))), (6, .int (iI (bI (4 = 64 ∧ (X_vl ct cur < 1 ∨ d 4 0 < X_vl ct cur))))), (5, .int (iI (X_vl ct cur))), (4, .int (iI 4)), (3, .int (iI (pl cur))), (0, .ref 496), (1, .ref a), (2, .int (iI pile))]) (st' := []) rfl ?_
        have J2236 : X_T sc 79 (157, [(7, .int (iI (bI (¬ X_isOp 4 ∧ pile = 16)))), (6, .int (iI (bI (4 = 64 ∧ (X_vl ct cur < 1 ∨ d 4 0 < X_vl ct cur))))), (5, .int (iI (X_vl ct cur))), (4, .int (iI 4)), (3, .int (iI (pl cur))), (0, .ref 496), (1, .ref a), (2, .int (iI pile))], [.int (iI (bI (X_isOp 4 ∧ pile < 2)))], S) Q := by
          refine T_p xr_79_157 xn_79 (pc' := 159) (ls' := [(8, .int (iI (bI (X_isOp 4 ∧ pile < 2)))), (7, .int (iI (bI (¬ X_isOp 4 ∧ pile = 16)))), (6, .int (iI (bI (4 = 64 ∧ (X_vl ct cur < 1 ∨ d 4 0 < X_vl ct cur))))), (5, .int (iI (X_vl ct cur))), (4, .int (iI 4)), (3, .int (iI (pl cur))), (0, .ref 496), (1, .ref a), (2, .int (iI pile))]) (st' := []) rfl ?_
          refine T_p xr_79_159 xn_79 (pc' := 161) (ls' := [(8, .int (iI (bI (X_isOp 4 ∧ pile < 2)))), (7, .int (iI (bI (¬ X_isOp 4 ∧ pile = 16)))), (6, .int (iI (bI (4 = 64 ∧ (X_vl ct cur < 1 ∨ d 4 0 < X_vl ct cur))))), (5, .int (iI (X_vl ct cur))), (4, .int (iI 4)), (3, .int (iI (pl cur))), (0, .ref 496), (1, .ref a), (2, .int (iI pile))]) (st' := [.int (iI (bI (4 = 64 ∧ (X_vl ct cur < 1 ∨ d 4 0 < X_vl ct cur))))]) rfl ?_
          refine T_bif_ne xr_79_161 (t := 174) (pc' := 164) rfl rfl (fun c2237 => ?_) (fun c2237 => ?_)
          · skip
            have c2237 : (4 = 64 ∧ (X_vl ct cur < 1 ∨ d 4 0 < X_vl ct cur)) := c2237
            refine T_p xr_79_174 xn_79 (pc' := 175) (ls' := [(8, .int (iI (bI (X_isOp 4 ∧ pile < 2)))), (7, .int (iI (bI (¬ X_isOp 4 ∧ pile = 16)))), (6, .int (iI (bI (4 = 64 ∧ (X_vl ct cur < 1 ∨ d 4 0 < X_vl ct cur))))), (5, .int (iI (X_vl ct cur))), (4, .int (iI 4)), (3, .int (iI (pl cur))), (0, .ref 496), (1, .ref a), (2, .int (iI pile))]) (st' := [.ref 496]) rfl ?_
            refine T_p xr_79_175 xn_79 (pc' := 176) (ls' := [(8, .int (iI (bI (X_isOp 4 ∧ pile < 2)))), (7, .int (iI (bI (¬ X_isOp 4 ∧ pile = 16)))), (6, .int (iI (bI (4 = 64 ∧ (X_vl ct cur < 1 ∨ d 4 0 < X_vl ct cur))))), (5, .int (iI (X_vl ct cur))), (4, .int (iI 4)), (3, .int (iI (pl cur))), (0, .ref 496), (1, .ref a), (2, .int (iI pile))]) (st' := [.int (iI 5), .ref 496]) rfl ?_
            refine T_p xr_79_176 xn_79 (pc' := 177) (ls' := [(8, .int (iI (bI (X_isOp 4 ∧ pile < 2)))), (7, .int (iI (bI (¬ X_isOp 4 ∧ pile = 16)))), (6, .int (iI (bI (4 = 64 ∧ (X_vl ct cur < 1 ∨ d 4 0 < X_vl ct cur))))), (5, .int (iI (X_vl ct cur))), (4, .int (iI 4)), (3, .int (iI (pl cur))), (0, .ref 496), (1, .ref a), (2, .int (iI pile))]) (st' := [.int (iI (pl cur)), .int (iI 5), .ref 496]) rfl ?_
            refine T_cv (S := S) (q := 496) xr_79_177 xf_66.1 xf_66.2.1 xn_66 (as := [.int (iI 5), .int (iI (pl cur))]) (r := []) rfl hp (Nat.le_of_ble_eq_true rfl) (Nat.le_of_ble_eq_true rfl) (pc' := 180) rfl (ls' := [(0, .ref 496), (1, .int (iI 5)), (2, .int (iI (pl cur)))]) rfl ?_
            refine T_p xr_66_0 xn_66 (pc' := 1) (ls' := [(0, .ref 496), (1, .int (iI 5)), (2, .int (iI (pl cur)))]) (st' := [.ref 496]) rfl ?_
            refine T_p xr_66_1 xn_66 (pc' := 2) (ls' := [(0, .ref 496), (1, .int (iI 5)), (2, .int (iI (pl cur)))]) (st' := [.int (iI 5), .ref 496]) rfl ?_
            refine T_put xr_66_2 hp rfl (Nat.le_of_ble_eq_true rfl) rfl (fs' := [.ref 497, .ref B, .int (iI 5), .int (iI fp)]) rfl (pc' := 5) rfl (fun S2238 h2239 n2240 e2241 => ?_)
            refine T_p xr_66_5 xn_66 (pc' := 6) (ls' := [(0, .ref 496), (1, .int (iI 5)), (2, .int (iI (pl cur)))]) (st' := [.ref 496]) rfl ?_
            refine T_p xr_66_6 xn_66 (pc' := 7) (ls' := [(0, .ref 496), (1, .int (iI 5)), (2, .int (iI (pl cur)))]) (st' := [.int (iI (pl cur)), .ref 496]) rfl ?_
            refine T_put xr_66_7 h2239 rfl (Nat.le_of_ble_eq_true rfl) rfl (fs' := [.ref 497, .ref B, .int (iI 5), .int (iI (pl cur))]) rfl (pc' := 10) rfl (fun S2242 h2243 n2244 e2245 => ?_)
            refine T_vret xr_66_10 xf_66.2.2 ?_
            show X_T sc 79 (180, [(8, .int (iI (bI (X_isOp 4 ∧ pile < 2)))), (7, .int (iI (bI (¬ X_isOp 4 ∧ pile = 16)))), (6, .int (iI (bI (4 = 64 ∧ (X_vl ct cur < 1 ∨ d 4 0 < X_vl ct cur))))), (5, .int (iI (X_vl ct cur))), (4, .int (iI 4)), (3, .int (iI (pl cur))), (0, .ref 496), (1, .ref a), (2, .int (iI pile))], [], S2242) _
            refine T_p xr_79_180 xn_79 (pc' := 181) (ls' := [(8, .int (iI (bI (X_isOp 4 ∧ pile < 2)))), (7, .int (iI (bI (¬ X_isOp 4 ∧ pile = 16)))), (6, .int (iI (bI (4 = 64 ∧ (X_vl ct cur < 1 ∨ d 4 0 < X_vl ct cur))))), (5, .int (iI (X_vl ct cur))), (4, .int (iI 4)), (3, .int (iI (pl cur))), (0, .ref 496), (1, .ref a), (2, .int (iI pile))]) (st' := [.int (iI (-1))]) rfl ?_
            refine T_iret xr_79_181 xf_79.2.2 rfl ?_
            refine hQ _ _ ?_
            have h2246 := (n2244 497 (by decide)).trans ((n2240 497 (by decide)).trans (hx.1))
            have h2247 := (n2244 a (by omega)).trans ((n2240 a (by omega)).trans (hw.1))
            have h2248 := (n2244 (a + 1) (by omega)).trans ((n2240 (a + 1) (by omega)).trans (hw.2.1))
            have h2249 := (n2244 (a + 2) (by omega)).trans ((n2240 (a + 2) (by omega)).trans (hw.2.2.1))
            have h2250 := (n2244 (a + 3) (by omega)).trans ((n2240 (a + 3) (by omega)).trans (hw.2.2.2.1))
            have h2251 := (n2244 (a + 4) (by omega)).trans ((n2240 (a + 4) (by omega)).trans (hw.2.2.2.2.1))
            have h2252 := (n2244 (a + 5) (by omega)).trans ((n2240 (a + 5) (by omega)).trans (hw.2.2.2.2.2.1))
            have h2253 := (n2244 (a + 6) (by omega)).trans ((n2240 (a + 6) (by omega)).trans (hw.2.2.2.2.2.2.1))
            have h2254 := (n2244 (a + 7) (by omega)).trans ((n2240 (a + 7) (by omega)).trans (hw.2.2.2.2.2.2.2))
            refine Or.inr ⟨rfl, ?_, ⟨_, _, by omega, h2243⟩, ⟨cur, h2246, by omega⟩, ⟨h2247, h2248, h2249, h2250, h2251, h2252, h2253, h2254⟩, ((X_Fr.rf).tr (X_Fr.of n2240 e2241 (by omega))).tr (X_Fr.of n2244 e2245 (by omega))⟩
            unfold sp_step sp_stF
            (repeat (first | rw [if_pos (by assumption)] | rw [if_neg (by assumption)]))
            all_goals first | rfl | ((repeat' split) <;> first | rfl | (exfalso; omega))
          · skip
            have c2237 : ¬ (4 = 64 ∧ (X_vl ct cur < 1 ∨ d 4 0 < X_vl ct cur)) := c2237
            refine T_p xr_79_164 xn_79 (pc' := 166) (ls' := [(8, .int (iI (bI (X_isOp 4 ∧ pile < 2)))), (7, .int (iI (bI (¬ X_isOp 4 ∧ pile = 16)))), (6, .int (iI (bI (4 = 64 ∧ (X_vl ct cur < 1 ∨ d 4 0 < X_vl ct cur))))), (5, .int (iI (X_vl ct cur))), (4, .int (iI 4)), (3, .int (iI (pl cur))), (0, .ref 496), (1, .ref a), (2, .int (iI pile))]) (st' := [.int (iI (bI (¬ X_isOp 4 ∧ pile = 16)))]) rfl ?_
            refine T_bif_ne xr_79_166 (t := 174) (pc' := 169) rfl rfl (fun c2255 => ?_) (fun c2255 => ?_)
            · skip
              have c2255 : (¬ X_isOp 4 ∧ pile = 16) := c2255
              refine T_p xr_79_174 xn_79 (pc' := 175) (ls' := [(8, .int (iI (bI (X_isOp 4 ∧ pile < 2)))), (7, .int (iI (bI (¬ X_isOp 4 ∧ pile = 16)))), (6, .int (iI (bI (4 = 64 ∧ (X_vl ct cur < 1 ∨ d 4 0 < X_vl ct cur))))), (5, .int (iI (X_vl ct cur))), (4, .int (iI 4)), (3, .int (iI (pl cur))), (0, .ref 496), (1, .ref a), (2, .int (iI pile))]) (st' := [.ref 496]) rfl ?_
              refine T_p xr_79_175 xn_79 (pc' := 176) (ls' := [(8, .int (iI (bI (X_isOp 4 ∧ pile < 2)))), (7, .int (iI (bI (¬ X_isOp 4 ∧ pile = 16)))), (6, .int (iI (bI (4 = 64 ∧ (X_vl ct cur < 1 ∨ d 4 0 < X_vl ct cur))))), (5, .int (iI (X_vl ct cur))), (4, .int (iI 4)), (3, .int (iI (pl cur))), (0, .ref 496), (1, .ref a), (2, .int (iI pile))]) (st' := [.int (iI 5), .ref 496]) rfl ?_
              refine T_p xr_79_176 xn_79 (pc' := 177) (ls' := [(8, .int (iI (bI (X_isOp 4 ∧ pile < 2)))), (7, .int (iI (bI (¬ X_isOp 4 ∧ pile = 16)))), (6, .int (iI (bI (4 = 64 ∧ (X_vl ct cur < 1 ∨ d 4 0 < X_vl ct cur))))), (5, .int (iI (X_vl ct cur))), (4, .int (iI 4)), (3, .int (iI (pl cur))), (0, .ref 496), (1, .ref a), (2, .int (iI pile))]) (st' := [.int (iI (pl cur)), .int (iI 5), .ref 496]) rfl ?_
              refine T_cv (S := S) (q := 496) xr_79_177 xf_66.1 xf_66.2.1 xn_66 (as := [.int (iI 5), .int (iI (pl cur))]) (r := []) rfl hp (Nat.le_of_ble_eq_true rfl) (Nat.le_of_ble_eq_true rfl) (pc' := 180) rfl (ls' := [(0, .ref 496), (1, .int (iI 5)), (2, .int (iI (pl cur)))]) rfl ?_
              refine T_p xr_66_0 xn_66 (pc' := 1) (ls' := [(0, .ref 496), (1, .int (iI 5)), (2, .int (iI (pl cur)))]) (st' := [.ref 496]) rfl ?_
              refine T_p xr_66_1 xn_66 (pc' := 2) (ls' := [(0, .ref 496), (1, .int (iI 5)), (2, .int (iI (pl cur)))]) (st' := [.int (iI 5), .ref 496]) rfl ?_
              refine T_put xr_66_2 hp rfl (Nat.le_of_ble_eq_true rfl) rfl (fs' := [.ref 497, .ref B, .int (iI 5), .int (iI fp)]) rfl (pc' := 5) rfl (fun S2256 h2257 n2258 e2259 => ?_)
              refine T_p xr_66_5 xn_66 (pc' := 6) (ls' := [(0, .ref 496), (1, .int (iI 5)), (2, .int (iI (pl cur)))]) (st' := [.ref 496]) rfl ?_
              refine T_p xr_66_6 xn_66 (pc' := 7) (ls' := [(0, .ref 496), (1, .int (iI 5)), (2, .int (iI (pl cur)))]) (st' := [.int (iI (pl cur)), .ref 496]) rfl ?_
              refine T_put xr_66_7 h2257 rfl (Nat.le_of_ble_eq_true rfl) rfl (fs' := [.ref 497, .ref B, .int (iI 5), .int (iI (pl cur))]) rfl (pc' := 10) rfl (fun S2260 h2261 n2262 e2263 => ?_)
              refine T_vret xr_66_10 xf_66.2.2 ?_
              show X_T sc 79 (180, [(8, .int (iI (bI (X_isOp 4 ∧ pile < 2)))), (7, .int (iI (bI (¬ X_isOp 4 ∧ pile = 16)))), (6, .int (iI (bI (4 = 64 ∧ (X_vl ct cur < 1 ∨ d 4 0 < X_vl ct cur))))), (5, .int (iI (X_vl ct cur))), (4, .int (iI 4)), (3, .int (iI (pl cur))), (0, .ref 496), (1, .ref a), (2, .int (iI pile))], [], S2260) _
              refine T_p xr_79_180 xn_79 (pc' := 181) (ls' := [(8, .int (iI (bI (X_isOp 4 ∧ pile < 2)))), (7, .int (iI (bI (¬ X_isOp 4 ∧ pile = 16)))), (6, .int (iI (bI (4 = 64 ∧ (X_vl ct cur < 1 ∨ d 4 0 < X_vl ct cur))))), (5, .int (iI (X_vl ct cur))), (4, .int (iI 4)), (3, .int (iI (pl cur))), (0, .ref 496), (1, .ref a), (2, .int (iI pile))]) (st' := [.int (iI (-1))]) rfl ?_
              refine T_iret xr_79_181 xf_79.2.2 rfl ?_
              refine hQ _ _ ?_
              have h2264 := (n2262 497 (by decide)).trans ((n2258 497 (by decide)).trans (hx.1))
              have h2265 := (n2262 a (by omega)).trans ((n2258 a (by omega)).trans (hw.1))
              have h2266 := (n2262 (a + 1) (by omega)).trans ((n2258 (a + 1) (by omega)).trans (hw.2.1))
              have h2267 := (n2262 (a + 2) (by omega)).trans ((n2258 (a + 2) (by omega)).trans (hw.2.2.1))
              have h2268 := (n2262 (a + 3) (by omega)).trans ((n2258 (a + 3) (by omega)).trans (hw.2.2.2.1))
              have h2269 := (n2262 (a + 4) (by omega)).trans ((n2258 (a + 4) (by omega)).trans (hw.2.2.2.2.1))
              have h2270 := (n2262 (a + 5) (by omega)).trans ((n2258 (a + 5) (by omega)).trans (hw.2.2.2.2.2.1))
              have h2271 := (n2262 (a + 6) (by omega)).trans ((n2258 (a + 6) (by omega)).trans (hw.2.2.2.2.2.2.1))
              have h2272 := (n2262 (a + 7) (by omega)).trans ((n2258 (a + 7) (by omega)).trans (hw.2.2.2.2.2.2.2))
              refine Or.inr ⟨rfl, ?_, ⟨_, _, by omega, h2261⟩, ⟨cur, h2264, by omega⟩, ⟨h2265, h2266, h2267, h2268, h2269, h2270, h2271, h2272⟩, ((X_Fr.rf).tr (X_Fr.of n2258 e2259 (by omega))).tr (X_Fr.of n2262 e2263 (by omega))⟩
              unfold sp_step sp_stF
              (repeat (first | rw [if_pos (by assumption)] | rw [if_neg (by assumption)]))
              all_goals first | rfl | ((repeat' split) <;> first | rfl | (exfalso; omega))
            · skip
              have c2255 : ¬ (¬ X_isOp 4 ∧ pile = 16) := c2255
              refine T_p xr_79_169 xn_79 (pc' := 171) (ls' := [(8, .int (iI (bI (X_isOp 4 ∧ pile < 2)))), (7, .int (iI (bI (¬ X_isOp 4 ∧ pile = 16)))), (6, .int (iI (bI (4 = 64 ∧ (X_vl ct cur < 1 ∨ d 4 0 < X_vl ct cur))))), (5, .int (iI (X_vl ct cur))), (4, .int (iI 4)), (3, .int (iI (pl cur))), (0, .ref 496), (1, .ref a), (2, .int (iI pile))]) (st' := [.int (iI (bI (X_isOp 4 ∧ pile < 2)))]) rfl ?_
              refine T_bif_eq xr_79_171 (t := 182) (pc' := 174) rfl rfl (fun c2273 => ?_) (fun c2273 => ?_)
              · skip
                have c2273 : ¬ (X_isOp 4 ∧ pile < 2) := c2273
                refine T_p xr_79_182 xn_79 (pc' := 183) (ls' := [(8, .int (iI (bI (X_isOp 4 ∧ pile < 2)))), (7, .int (iI (bI (¬ X_isOp 4 ∧ pile = 16)))), (6, .int (iI (bI (4 = 64 ∧ (X_vl ct cur < 1 ∨ d 4 0 < X_vl ct cur))))), (5, .int (iI (X_vl ct cur))), (4, .int (iI 4)), (3, .int (iI (pl cur))), (0, .ref 496), (1, .ref a), (2, .int (iI pile))]) (st' := [.ref a]) rfl ?_
                refine T_p xr_79_183 xn_79 (pc' := 185) (ls' := [(8, .int (iI (bI (X_isOp 4 ∧ pile < 2)))), (7, .int (iI (bI (¬ X_isOp 4 ∧ pile = 16)))), (6, .int (iI (bI (4 = 64 ∧ (X_vl ct cur < 1 ∨ d 4 0 < X_vl ct cur))))), (5, .int (iI (X_vl ct cur))), (4, .int (iI 4)), (3, .int (iI (pl cur))), (0, .ref 496), (1, .ref a), (2, .int (iI pile))]) (st' := [.int (iI 4), .ref a]) rfl ?_
                refine T_p xr_79_185 xn_79 (pc' := 187) (ls' := [(8, .int (iI (bI (X_isOp 4 ∧ pile < 2)))), (7, .int (iI (bI (¬ X_isOp 4 ∧ pile = 16)))), (6, .int (iI (bI (4 = 64 ∧ (X_vl ct cur < 1 ∨ d 4 0 < X_vl ct cur))))), (5, .int (iI (X_vl ct cur))), (4, .int (iI 4)), (3, .int (iI (pl cur))), (0, .ref 496), (1, .ref a), (2, .int (iI pile))]) (st' := [.int (iI (X_vl ct cur)), .int (iI 4), .ref a]) rfl ?_
                refine T_cv (S := S) (q := a) xr_79_187 xf_99.1 xf_99.2.1 xn_99 (as := [.int (iI 4), .int (iI (X_vl ct cur))]) (r := []) rfl hw.1 (Nat.le_of_ble_eq_true rfl) (Nat.le_of_ble_eq_true rfl) (pc' := 190) rfl (ls' := [(0, .ref a), (1, .int (iI 4)), (2, .int (iI (X_vl ct cur)))]) rfl ?_
                have hr2280 : X_wr (X_aS d 4 (X_vl ct cur)) := X_wr_S hr (by omega)
                refine T_mono (c_addStep sc S a d q 4 (X_vl ct cur) ⟨hw.1, hw.2.1, hw.2.2.1, hw.2.2.2.1, hw.2.2.2.2.1, hw.2.2.2.2.2.1, hw.2.2.2.2.2.2.1, hw.2.2.2.2.2.2.2⟩ hr (by omega)) (fun v2274 S2275 h2276 => ?_)
                obtain ⟨h2277, hw2278, hf2279⟩ := h2276
                rw [h2277]
                have hw2278 : C_wd S2275 a (X_aS d 4 (X_vl ct cur)) q := hw2278
                show X_T sc 79 (190, [(8, .int (iI (bI (X_isOp 4 ∧ pile < 2)))), (7, .int (iI (bI (¬ X_isOp 4 ∧ pile = 16)))), (6, .int (iI (bI (4 = 64 ∧ (X_vl ct cur < 1 ∨ d 4 0 < X_vl ct cur))))), (5, .int (iI (X_vl ct cur))), (4, .int (iI 4)), (3, .int (iI (pl cur))), (0, .ref 496), (1, .ref a), (2, .int (iI pile))], [], S2275) _
                refine T_p xr_79_190 xn_79 (pc' := 191) (ls' := [(8, .int (iI (bI (X_isOp 4 ∧ pile < 2)))), (7, .int (iI (bI (¬ X_isOp 4 ∧ pile = 16)))), (6, .int (iI (bI (4 = 64 ∧ (X_vl ct cur < 1 ∨ d 4 0 < X_vl ct cur))))), (5, .int (iI (X_vl ct cur))), (4, .int (iI 4)), (3, .int (iI (pl cur))), (0, .ref 496), (1, .ref a), (2, .int (iI pile))]) (st' := [.ref 496]) rfl ?_
                have h2281 := (hf2279.1 496 (by omega)).trans (hp)
                refine T_get xr_79_191 h2281 rfl (v := .ref 497) rfl (pc' := 194) rfl ?_
                have h2282 := (hf2279.1 497 (by omega)).trans (hx.1)
                refine T_cv (S := S2275) (q := 497) xr_79_194 xf_52.1 xf_52.2.1 xn_52 (as := []) (r := []) rfl h2282 (Nat.le_of_ble_eq_true rfl) (Nat.le_of_ble_eq_true rfl) (pc' := 197) rfl (ls' := [(0, .ref 497)]) rfl ?_
                have h2283 := (hf2279.1 498 (by omega)).trans (hx.2.1)
                have h2284 := (hf2279.1 499 (by omega)).trans (hx.2.2.1)
                have h2285 := (hf2279.1 500 (by omega)).trans (hx.2.2.2)
                refine T_mono (c_advance sc S2275 at_ n cur so pl ct ⟨h2282, h2283, h2284, h2285⟩ (by omega)) (fun v2287 S2288 h2286 => ?_)
                obtain ⟨h2289, h2291, h2290⟩ := h2286
                rw [h2289]
                show X_T sc 79 (197, [(8, .int (iI (bI (X_isOp 4 ∧ pile < 2)))), (7, .int (iI (bI (¬ X_isOp 4 ∧ pile = 16)))), (6, .int (iI (bI (4 = 64 ∧ (X_vl ct cur < 1 ∨ d 4 0 < X_vl ct cur))))), (5, .int (iI (X_vl ct cur))), (4, .int (iI 4)), (3, .int (iI (pl cur))), (0, .ref 496), (1, .ref a), (2, .int (iI pile))], [], S2288) _
                have hv2292 := X_av_r (n := n) (c := cur) (by omega)
                refine T_p xr_79_197 xn_79 (pc' := 199) (ls' := [(8, .int (iI (bI (X_isOp 4 ∧ pile < 2)))), (7, .int (iI (bI (¬ X_isOp 4 ∧ pile = 16)))), (6, .int (iI (bI (4 = 64 ∧ (X_vl ct cur < 1 ∨ d 4 0 < X_vl ct cur))))), (5, .int (iI (X_vl ct cur))), (4, .int (iI 4)), (3, .int (iI (pl cur))), (0, .ref 496), (1, .ref a), (2, .int (iI pile))]) (st' := [.int (iI 4)]) rfl ?_
                refine T_cs xr_79_199 (by decide) xf_81.1 xn_81 (as := [.int (iI 4)]) (r := []) rfl (Nat.le_of_ble_eq_true rfl) (Nat.le_of_ble_eq_true rfl) (pc' := 202) rfl (ls' := [(0, .int (iI 4))]) rfl ?_
                refine T_mono (c_isOperation sc S2288 4 (by omega)) (fun v2294 S2295 h2293 => ?_)
                obtain ⟨h2296, h2297⟩ := h2293
                rw [h2296, h2297]
                show X_T sc 79 (202, [(8, .int (iI (bI (X_isOp 4 ∧ pile < 2)))), (7, .int (iI (bI (¬ X_isOp 4 ∧ pile = 16)))), (6, .int (iI (bI (4 = 64 ∧ (X_vl ct cur < 1 ∨ d 4 0 < X_vl ct cur))))), (5, .int (iI (X_vl ct cur))), (4, .int (iI 4)), (3, .int (iI (pl cur))), (0, .ref 496), (1, .ref a), (2, .int (iI pile))], [.int (iI (bI (X_isOp 4)))], S2288) _
                refine T_bif_eq xr_79_202 (t := 211) (pc' := 205) rfl rfl (fun c2298 => ?_) (fun c2298 => ?_)
                · skip
                  have c2298 : ¬ (X_isOp 4) := c2298
                  refine T_p xr_79_211 xn_79 (pc' := 212) (ls' := [(8, .int (iI (bI (X_isOp 4 ∧ pile < 2)))), (7, .int (iI (bI (¬ X_isOp 4 ∧ pile = 16)))), (6, .int (iI (bI (4 = 64 ∧ (X_vl ct cur < 1 ∨ d 4 0 < X_vl ct cur))))), (5, .int (iI (X_vl ct cur))), (4, .int (iI 4)), (3, .int (iI (pl cur))), (0, .ref 496), (1, .ref a), (2, .int (iI pile))]) (st' := [.int (iI pile)]) rfl ?_
                  refine T_p xr_79_212 xn_79 (pc' := 213) (ls' := [(8, .int (iI (bI (X_isOp 4 ∧ pile < 2)))), (7, .int (iI (bI (¬ X_isOp 4 ∧ pile = 16)))), (6, .int (iI (bI (4 = 64 ∧ (X_vl ct cur < 1 ∨ d 4 0 < X_vl ct cur))))), (5, .int (iI (X_vl ct cur))), (4, .int (iI 4)), (3, .int (iI (pl cur))), (0, .ref 496), (1, .ref a), (2, .int (iI pile))]) (st' := [.int (iI 1), .int (iI pile)]) rfl ?_
                  refine T_ziadd xr_79_213 (z := pile + 1) rfl (pc' := 214) rfl ?_
                  refine T_iret xr_79_214 xf_79.2.2 rfl ?_
                  refine hQ _ _ ?_
                  have h2299 := (h2290.1 496 (by omega)).trans (h2281)
                  have h2300 := (h2290.1 a (by omega)).trans (hw2278.1)
                  have h2301 := (h2290.1 (a + 1) (by omega)).trans (hw2278.2.1)
                  have h2302 := (h2290.1 (a + 2) (by omega)).trans (hw2278.2.2.1)
                  have h2303 := (h2290.1 (a + 3) (by omega)).trans (hw2278.2.2.2.1)
                  have h2304 := (h2290.1 (a + 4) (by omega)).trans (hw2278.2.2.2.2.1)
                  have h2305 := (h2290.1 (a + 5) (by omega)).trans (hw2278.2.2.2.2.2.1)
                  have h2306 := (h2290.1 (a + 6) (by omega)).trans (hw2278.2.2.2.2.2.2.1)
                  have h2307 := (h2290.1 (a + 7) (by omega)).trans (hw2278.2.2.2.2.2.2.2)
                  refine Or.inl ⟨X_av n cur, X_aS d 4 (X_vl ct cur), pile + 1, rfl, ?_, h2299, h2291, by omega, ⟨h2300, h2301, h2302, h2303, h2304, h2305, h2306, h2307⟩, hr2280, ((X_Fr.rf).tr (X_Fr.mono ⟨hf2279.1, hf2279.2⟩ (fun q hq => (by omega)))).tr (X_Fr.mono ⟨h2290.1, h2290.2⟩ (fun q hq => (by omega)))⟩
                  unfold sp_step sp_stF
                  (repeat (first | rw [if_pos (by assumption)] | rw [if_neg (by assumption)]))
                  all_goals first | rfl | ((repeat' split) <;> first | rfl | (exfalso; omega))
                · skip
                  have c2298 : (X_isOp 4) := c2298
                  exact (show False by first | contradiction | omega).elim
              · skip
                have c2273 : (X_isOp 4 ∧ pile < 2) := c2273
                refine T_p xr_79_174 xn_79 (pc' := 175) (ls' := [(8, .int (iI (bI (X_isOp 4 ∧ pile < 2)))), (7, .int (iI (bI (¬ X_isOp 4 ∧ pile = 16)))), (6, .int (iI (bI (4 = 64 ∧ (X_vl ct cur < 1 ∨ d 4 0 < X_vl ct cur))))), (5, .int (iI (X_vl ct cur))), (4, .int (iI 4)), (3, .int (iI (pl cur))), (0, .ref 496), (1, .ref a), (2, .int (iI pile))]) (st' := [.ref 496]) rfl ?_
                refine T_p xr_79_175 xn_79 (pc' := 176) (ls' := [(8, .int (iI (bI (X_isOp 4 ∧ pile < 2)))), (7, .int (iI (bI (¬ X_isOp 4 ∧ pile = 16)))), (6, .int (iI (bI (4 = 64 ∧ (X_vl ct cur < 1 ∨ d 4 0 < X_vl ct cur))))), (5, .int (iI (X_vl ct cur))), (4, .int (iI 4)), (3, .int (iI (pl cur))), (0, .ref 496), (1, .ref a), (2, .int (iI pile))]) (st' := [.int (iI 5), .ref 496]) rfl ?_
                refine T_p xr_79_176 xn_79 (pc' := 177) (ls' := [(8, .int (iI (bI (X_isOp 4 ∧ pile < 2)))), (7, .int (iI (bI (¬ X_isOp 4 ∧ pile = 16)))), (6, .int (iI (bI (4 = 64 ∧ (X_vl ct cur < 1 ∨ d 4 0 < X_vl ct cur))))), (5, .int (iI (X_vl ct cur))), (4, .int (iI 4)), (3, .int (iI (pl cur))), (0, .ref 496), (1, .ref a), (2, .int (iI pile))]) (st' := [.int (iI (pl cur)), .int (iI 5), .ref 496]) rfl ?_
                refine T_cv (S := S) (q := 496) xr_79_177 xf_66.1 xf_66.2.1 xn_66 (as := [.int (iI 5), .int (iI (pl cur))]) (r := []) rfl hp (Nat.le_of_ble_eq_true rfl) (Nat.le_of_ble_eq_true rfl) (pc' := 180) rfl (ls' := [(0, .ref 496), (1, .int (iI 5)), (2, .int (iI (pl cur)))]) rfl ?_
                refine T_p xr_66_0 xn_66 (pc' := 1) (ls' := [(0, .ref 496), (1, .int (iI 5)), (2, .int (iI (pl cur)))]) (st' := [.ref 496]) rfl ?_
                refine T_p xr_66_1 xn_66 (pc' := 2) (ls' := [(0, .ref 496), (1, .int (iI 5)), (2, .int (iI (pl cur)))]) (st' := [.int (iI 5), .ref 496]) rfl ?_
                refine T_put xr_66_2 hp rfl (Nat.le_of_ble_eq_true rfl) rfl (fs' := [.ref 497, .ref B, .int (iI 5), .int (iI fp)]) rfl (pc' := 5) rfl (fun S2308 h2309 n2310 e2311 => ?_)
                refine T_p xr_66_5 xn_66 (pc' := 6) (ls' := [(0, .ref 496), (1, .int (iI 5)), (2, .int (iI (pl cur)))]) (st' := [.ref 496]) rfl ?_
                refine T_p xr_66_6 xn_66 (pc' := 7) (ls' := [(0, .ref 496), (1, .int (iI 5)), (2, .int (iI (pl cur)))]) (st' := [.int (iI (pl cur)), .ref 496]) rfl ?_
                refine T_put xr_66_7 h2309 rfl (Nat.le_of_ble_eq_true rfl) rfl (fs' := [.ref 497, .ref B, .int (iI 5), .int (iI (pl cur))]) rfl (pc' := 10) rfl (fun S2312 h2313 n2314 e2315 => ?_)
                refine T_vret xr_66_10 xf_66.2.2 ?_
                show X_T sc 79 (180, [(8, .int (iI (bI (X_isOp 4 ∧ pile < 2)))), (7, .int (iI (bI (¬ X_isOp 4 ∧ pile = 16)))), (6, .int (iI (bI (4 = 64 ∧ (X_vl ct cur < 1 ∨ d 4 0 < X_vl ct cur))))), (5, .int (iI (X_vl ct cur))), (4, .int (iI 4)), (3, .int (iI (pl cur))), (0, .ref 496), (1, .ref a), (2, .int (iI pile))], [], S2312) _
                refine T_p xr_79_180 xn_79 (pc' := 181) (ls' := [(8, .int (iI (bI (X_isOp 4 ∧ pile < 2)))), (7, .int (iI (bI (¬ X_isOp 4 ∧ pile = 16)))), (6, .int (iI (bI (4 = 64 ∧ (X_vl ct cur < 1 ∨ d 4 0 < X_vl ct cur))))), (5, .int (iI (X_vl ct cur))), (4, .int (iI 4)), (3, .int (iI (pl cur))), (0, .ref 496), (1, .ref a), (2, .int (iI pile))]) (st' := [.int (iI (-1))]) rfl ?_
                refine T_iret xr_79_181 xf_79.2.2 rfl ?_
                refine hQ _ _ ?_
                have h2316 := (n2314 497 (by decide)).trans ((n2310 497 (by decide)).trans (hx.1))
                have h2317 := (n2314 a (by omega)).trans ((n2310 a (by omega)).trans (hw.1))
                have h2318 := (n2314 (a + 1) (by omega)).trans ((n2310 (a + 1) (by omega)).trans (hw.2.1))
                have h2319 := (n2314 (a + 2) (by omega)).trans ((n2310 (a + 2) (by omega)).trans (hw.2.2.1))
                have h2320 := (n2314 (a + 3) (by omega)).trans ((n2310 (a + 3) (by omega)).trans (hw.2.2.2.1))
                have h2321 := (n2314 (a + 4) (by omega)).trans ((n2310 (a + 4) (by omega)).trans (hw.2.2.2.2.1))
                have h2322 := (n2314 (a + 5) (by omega)).trans ((n2310 (a + 5) (by omega)).trans (hw.2.2.2.2.2.1))
                have h2323 := (n2314 (a + 6) (by omega)).trans ((n2310 (a + 6) (by omega)).trans (hw.2.2.2.2.2.2.1))
                have h2324 := (n2314 (a + 7) (by omega)).trans ((n2310 (a + 7) (by omega)).trans (hw.2.2.2.2.2.2.2))
                refine Or.inr ⟨rfl, ?_, ⟨_, _, by omega, h2313⟩, ⟨cur, h2316, by omega⟩, ⟨h2317, h2318, h2319, h2320, h2321, h2322, h2323, h2324⟩, ((X_Fr.rf).tr (X_Fr.of n2310 e2311 (by omega))).tr (X_Fr.of n2314 e2315 (by omega))⟩
                unfold sp_step sp_stF
                (repeat (first | rw [if_pos (by assumption)] | rw [if_neg (by assumption)]))
                all_goals first | rfl | ((repeat' split) <;> first | rfl | (exfalso; omega))
        refine T_p xr_79_139 xn_79 (pc' := 141) (ls' := [(7, .int (iI (bI (¬ X_isOp 4 ∧ pile = 16)))), (6, .int (iI (bI (4 = 64 ∧ (X_vl ct cur < 1 ∨ d 4 0 < X_vl ct cur))))), (5, .int (iI (X_vl ct cur))), (4, .int (iI 4)), (3, .int (iI (pl cur))), (0, .ref 496), (1, .ref a), (2, .int (iI pile))]) (st' := [.int (iI 4)]) rfl ?_
        refine T_cs xr_79_141 (by decide) xf_81.1 xn_81 (as := [.int (iI 4)]) (r := []) rfl (Nat.le_of_ble_eq_true rfl) (Nat.le_of_ble_eq_true rfl) (pc' := 144) rfl (ls' := [(0, .int (iI 4))]) rfl ?_
        refine T_mono (c_isOperation sc S 4 (by omega)) (fun v2326 S2327 h2325 => ?_)
        obtain ⟨h2328, h2329⟩ := h2325
        rw [h2328, h2329]
        show X_T sc 79 (144, [(7, .int (iI (bI (¬ X_isOp 4 ∧ pile = 16)))), (6, .int (iI (bI (4 = 64 ∧ (X_vl ct cur < 1 ∨ d 4 0 < X_vl ct cur))))), (5, .int (iI (X_vl ct cur))), (4, .int (iI 4)), (3, .int (iI (pl cur))), (0, .ref 496), (1, .ref a), (2, .int (iI pile))], [.int (iI (bI (X_isOp 4)))], S) _
        refine T_bif_eq xr_79_144 (t := 156) (pc' := 147) rfl rfl (fun c2330 => ?_) (fun c2330 => ?_)
        · skip
          have c2330 : ¬ (X_isOp 4) := c2330
          refine T_p xr_79_156 xn_79 (pc' := 157) (ls' := [(7, .int (iI (bI (¬ X_isOp 4 ∧ pile = 16)))), (6, .int (iI (bI (4 = 64 ∧ (X_vl ct cur < 1 ∨ d 4 0 < X_vl ct cur))))), (5, .int (iI (X_vl ct cur))), (4, .int (iI 4)), (3, .int (iI (pl cur))), (0, .ref 496), (1, .ref a), (2, .int (iI pile))]) (st' := [.int (iI 0)]) rfl ?_
          refine T_ie (y := iI (bI (X_isOp 4 ∧ pile < 2))) (by rw [bI_f (by rintro ⟨h1, h2⟩; first | omega | contradiction)]) ?_
          exact J2236
        · skip
          have c2330 : (X_isOp 4) := c2330
          exact (show False by first | contradiction | omega).elim
      refine T_p xr_79_118 xn_79 (pc' := 120) (ls' := [(6, .int (iI (bI (4 = 64 ∧ (X_vl ct cur < 1 ∨ d 4 0 < X_vl ct cur))))), (5, .int (iI (X_vl ct cur))), (4, .int (iI 4)), (3, .int (iI (pl cur))), (0, .ref 496), (1, .ref a), (2, .int (iI pile))]) (st' := [.int (iI 4)]) rfl ?_
      refine T_cs xr_79_120 (by decide) xf_81.1 xn_81 (as := [.int (iI 4)]) (r := []) rfl (Nat.le_of_ble_eq_true rfl) (Nat.le_of_ble_eq_true rfl) (pc' := 123) rfl (ls' := [(0, .int (iI 4))]) rfl ?_
      refine T_mono (c_isOperation sc S 4 (by omega)) (fun v2332 S2333 h2331 => ?_)
      obtain ⟨h2334, h2335⟩ := h2331
      rw [h2334, h2335]
      show X_T sc 79 (123, [(6, .int (iI (bI (4 = 64 ∧ (X_vl ct cur < 1 ∨ d 4 0 < X_vl ct cur))))), (5, .int (iI (X_vl ct cur))), (4, .int (iI 4)), (3, .int (iI (pl cur))), (0, .ref 496), (1, .ref a), (2, .int (iI pile))], [.int (iI (bI (X_isOp 4)))], S) _
      refine T_bif_ne xr_79_123 (t := 136) (pc' := 126) rfl rfl (fun c2336 => ?_) (fun c2336 => ?_)
      · skip
        have c2336 : (X_isOp 4) := c2336
        exact (show False by first | contradiction | omega).elim
      · skip
        have c2336 : ¬ (X_isOp 4) := c2336
        refine T_p xr_79_126 xn_79 (pc' := 127) (ls' := [(6, .int (iI (bI (4 = 64 ∧ (X_vl ct cur < 1 ∨ d 4 0 < X_vl ct cur))))), (5, .int (iI (X_vl ct cur))), (4, .int (iI 4)), (3, .int (iI (pl cur))), (0, .ref 496), (1, .ref a), (2, .int (iI pile))]) (st' := [.int (iI pile)]) rfl ?_
        refine T_p xr_79_127 xn_79 (pc' := 129) (ls' := [(6, .int (iI (bI (4 = 64 ∧ (X_vl ct cur < 1 ∨ d 4 0 < X_vl ct cur))))), (5, .int (iI (X_vl ct cur))), (4, .int (iI 4)), (3, .int (iI (pl cur))), (0, .ref 496), (1, .ref a), (2, .int (iI pile))]) (st' := [.int (iI 16), .int (iI pile)]) rfl ?_
        refine T_zicmp_ne xr_79_129 (t := 136) (pc' := 132) rfl rfl (fun c2337 => ?_) (fun c2337 => ?_)
        · skip
          have c2337 : ¬ pile = 16 := c2337
          refine T_p xr_79_136 xn_79 (pc' := 137) (ls' := [(6, .int (iI (bI (4 = 64 ∧ (X_vl ct cur < 1 ∨ d 4 0 < X_vl ct cur))))), (5, .int (iI (X_vl ct cur))), (4, .int (iI 4)), (3, .int (iI (pl cur))), (0, .ref 496), (1, .ref a), (2, .int (iI pile))]) (st' := [.int (iI 0)]) rfl ?_
          refine T_ie (y := iI (bI (¬ X_isOp 4 ∧ pile = 16))) (by rw [bI_f (by rintro ⟨h1, h2⟩; first | omega | contradiction)]) ?_
          exact J2235
        · skip
          have c2337 : ¬ (¬ pile = 16) := c2337
          refine T_p xr_79_132 xn_79 (pc' := 133) (ls' := [(6, .int (iI (bI (4 = 64 ∧ (X_vl ct cur < 1 ∨ d 4 0 < X_vl ct cur))))), (5, .int (iI (X_vl ct cur))), (4, .int (iI 4)), (3, .int (iI (pl cur))), (0, .ref 496), (1, .ref a), (2, .int (iI pile))]) (st' := [.int (iI 1)]) rfl ?_
          refine T_p xr_79_133 xn_79 (pc' := 137) (ls' := [(6, .int (iI (bI (4 = 64 ∧ (X_vl ct cur < 1 ∨ d 4 0 < X_vl ct cur))))), (5, .int (iI (X_vl ct cur))), (4, .int (iI 4)), (3, .int (iI (pl cur))), (0, .ref 496), (1, .ref a), (2, .int (iI pile))]) (st' := [.int (iI 1)]) rfl ?_
          refine T_ie (y := iI (bI (¬ X_isOp 4 ∧ pile = 16))) (by rw [bI_t (by exact ⟨by assumption, by omega⟩)]) ?_
          exact J2235
    refine T_p xr_79_89 xn_79 (pc' := 91) (ls' := [(5, .int (iI (X_vl ct cur))), (4, .int (iI 4)), (3, .int (iI (pl cur))), (0, .ref 496), (1, .ref a), (2, .int (iI pile))]) (st' := [.int (iI 4)]) rfl ?_
    refine T_p xr_79_91 xn_79 (pc' := 93) (ls' := [(5, .int (iI (X_vl ct cur))), (4, .int (iI 4)), (3, .int (iI (pl cur))), (0, .ref 496), (1, .ref a), (2, .int (iI pile))]) (st' := [.int (iI 64), .int (iI 4)]) rfl ?_
    refine T_zicmp_net xr_79_93 (t := 115) rfl (by decide) ?_
    refine T_p xr_79_115 xn_79 (pc' := 116) (ls' := [(5, .int (iI (X_vl ct cur))), (4, .int (iI 4)), (3, .int (iI (pl cur))), (0, .ref 496), (1, .ref a), (2, .int (iI pile))]) (st' := [.int (iI 0)]) rfl ?_
    refine T_ie (y := iI (bI (4 = 64 ∧ (X_vl ct cur < 1 ∨ d 4 0 < X_vl ct cur)))) (by rw [bI_f (by rintro ⟨h1, h2⟩; omega)]) ?_
    exact J2234
