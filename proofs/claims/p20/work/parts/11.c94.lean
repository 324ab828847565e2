theorem xr_75_0 : X_row 75 0 = some (0, (.aload_n 0, 1), (0, 0, 0)) := by decide +kernel
theorem xr_75_1 : X_row 75 1 = some (1, (.getfield 23, 3), (4, 0, 18)) := by decide +kernel
theorem xr_75_4 : X_row 75 4 = some (4, (.invokevirtual 73, 3), (45, 14, 0)) := by decide +kernel
theorem xr_75_7 : X_row 75 7 = some (7, (.istore_n 3, 1), (0, 0, 0)) := by decide +kernel
theorem xr_75_8 : X_row 75 8 = some (8, (.aload_n 0, 1), (0, 0, 0)) := by decide +kernel
theorem xr_75_9 : X_row 75 9 = some (9, (.invokevirtual 190, 3), (76, 66, 0)) := by decide +kernel
theorem xr_75_12 : X_row 75 12 = some (12, (.ifCond .eq 7, 3), (0, 0, 0)) := by decide +kernel
theorem xr_75_15 : X_row 75 15 = some (15, (.iconst 4, 1), (0, 0, 0)) := by decide +kernel
theorem xr_75_16 : X_row 75 16 = some (16, (.goto 10, 3), (0, 0, 0)) := by decide +kernel
theorem xr_75_19 : X_row 75 19 = some (19, (.aload_n 0, 1), (0, 0, 0)) := by decide +kernel
theorem xr_75_20 : X_row 75 20 = some (20, (.getfield 23, 3), (4, 0, 18)) := by decide +kernel
theorem xr_75_23 : X_row 75 23 = some (23, (.invokevirtual 39, 3), (44, 6, 0)) := by decide +kernel
theorem xr_75_26 : X_row 75 26 = some (26, (.istore 4, 2), (0, 0, 0)) := by decide +kernel
theorem xr_75_28 : X_row 75 28 = some (28, (.iload 4, 2), (0, 0, 0)) := by decide +kernel
theorem xr_75_30 : X_row 75 30 = some (30, (.bipush 64, 2), (0, 0, 0)) := by decide +kernel
theorem xr_75_32 : X_row 75 32 = some (32, (.if_icmp .ne 27, 3), (0, 0, 0)) := by decide +kernel
theorem xr_75_35 : X_row 75 35 = some (35, (.aload_n 0, 1), (0, 0, 0)) := by decide +kernel
theorem xr_75_36 : X_row 75 36 = some (36, (.getfield 23, 3), (4, 0, 18)) := by decide +kernel
theorem xr_75_39 : X_row 75 39 = some (39, (.invokevirtual 80, 3), (48, 18, 0)) := by decide +kernel
theorem xr_75_42 : X_row 75 42 = some (42, (.aload_n 0, 1), (0, 0, 0)) := by decide +kernel
theorem xr_75_43 : X_row 75 43 = some (43, (.getfield 23, 3), (4, 0, 18)) := by decide +kernel
theorem xr_75_46 : X_row 75 46 = some (46, (.invokevirtual 39, 3), (44, 6, 0)) := by decide +kernel
theorem xr_75_49 : X_row 75 49 = some (49, (.iconst 5, 1), (0, 0, 0)) := by decide +kernel
theorem xr_75_50 : X_row 75 50 = some (50, (.if_icmp .eq 29, 3), (0, 0, 0)) := by decide +kernel
theorem xr_75_53 : X_row 75 53 = some (53, (.aload_n 0, 1), (0, 0, 0)) := by decide +kernel
theorem xr_75_54 : X_row 75 54 = some (54, (.invokevirtual 67, 3), (63, 12, 0)) := by decide +kernel
theorem xr_75_57 : X_row 75 57 = some (57, (.iconst (-1), 1), (0, 0, 0)) := by decide +kernel
theorem xr_75_58 : X_row 75 58 = some (58, (.ireturn, 1), (0, 0, 0)) := by decide +kernel
theorem xr_75_59 : X_row 75 59 = some (59, (.iload 4, 2), (0, 0, 0)) := by decide +kernel
theorem xr_75_61 : X_row 75 61 = some (61, (.iconst 4, 1), (0, 0, 0)) := by decide +kernel
theorem xr_75_62 : X_row 75 62 = some (62, (.if_icmp .eq 17, 3), (0, 0, 0)) := by decide +kernel
theorem xr_75_65 : X_row 75 65 = some (65, (.iload 4, 2), (0, 0, 0)) := by decide +kernel
theorem xr_75_67 : X_row 75 67 = some (67, (.invokestatic 193, 3), (77, 68, 0)) := by decide +kernel
theorem xr_75_70 : X_row 75 70 = some (70, (.ifCond .ne 9, 3), (0, 0, 0)) := by decide +kernel
theorem xr_75_73 : X_row 75 73 = some (73, (.aload_n 0, 1), (0, 0, 0)) := by decide +kernel
theorem xr_75_74 : X_row 75 74 = some (74, (.invokevirtual 67, 3), (63, 12, 0)) := by decide +kernel
theorem xr_75_77 : X_row 75 77 = some (77, (.iconst (-1), 1), (0, 0, 0)) := by decide +kernel
theorem xr_75_78 : X_row 75 78 = some (78, (.ireturn, 1), (0, 0, 0)) := by decide +kernel
theorem xr_75_79 : X_row 75 79 = some (79, (.aload_n 0, 1), (0, 0, 0)) := by decide +kernel
theorem xr_75_80 : X_row 75 80 = some (80, (.getfield 23, 3), (4, 0, 18)) := by decide +kernel
theorem xr_75_83 : X_row 75 83 = some (83, (.invokevirtual 86, 3), (46, 20, 0)) := by decide +kernel
theorem xr_75_86 : X_row 75 86 = some (86, (.l2i, 1), (0, 0, 0)) := by decide +kernel
theorem xr_75_87 : X_row 75 87 = some (87, (.istore 5, 2), (0, 0, 0)) := by decide +kernel
theorem xr_75_89 : X_row 75 89 = some (89, (.iload 4, 2), (0, 0, 0)) := by decide +kernel
theorem xr_75_91 : X_row 75 91 = some (91, (.bipush 64, 2), (0, 0, 0)) := by decide +kernel
theorem xr_75_93 : X_row 75 93 = some (93, (.if_icmp .ne 22, 3), (0, 0, 0)) := by decide +kernel
theorem xr_75_96 : X_row 75 96 = some (96, (.iload 5, 2), (0, 0, 0)) := by decide +kernel
theorem xr_75_98 : X_row 75 98 = some (98, (.iconst 1, 1), (0, 0, 0)) := by decide +kernel
theorem xr_75_99 : X_row 75 99 = some (99, (.if_icmp .lt 12, 3), (0, 0, 0)) := by decide +kernel
theorem xr_75_102 : X_row 75 102 = some (102, (.iload 5, 2), (0, 0, 0)) := by decide +kernel
theorem xr_75_104 : X_row 75 104 = some (104, (.aload_n 1, 1), (0, 0, 0)) := by decide +kernel
theorem xr_75_105 : X_row 75 105 = some (105, (.getfield 161, 3), (8, 4, 7)) := by decide +kernel
theorem xr_75_108 : X_row 75 108 = some (108, (.if_icmp .le 7, 3), (0, 0, 0)) := by decide +kernel
theorem xr_75_111 : X_row 75 111 = some (111, (.iconst 1, 1), (0, 0, 0)) := by decide +kernel
theorem xr_75_112 : X_row 75 112 = some (112, (.goto 4, 3), (0, 0, 0)) := by decide +kernel
theorem xr_75_115 : X_row 75 115 = some (115, (.iconst 0, 1), (0, 0, 0)) := by decide +kernel
theorem xr_75_116 : X_row 75 116 = some (116, (.istore 6, 2), (0, 0, 0)) := by decide +kernel
theorem xr_75_118 : X_row 75 118 = some (118, (.iload 4, 2), (0, 0, 0)) := by decide +kernel
theorem xr_75_120 : X_row 75 120 = some (120, (.invokestatic 193, 3), (77, 68, 0)) := by decide +kernel
theorem xr_75_123 : X_row 75 123 = some (123, (.ifCond .ne 13, 3), (0, 0, 0)) := by decide +kernel
theorem xr_75_126 : X_row 75 126 = some (126, (.iload_n 2, 1), (0, 0, 0)) := by decide +kernel
theorem xr_75_127 : X_row 75 127 = some (127, (.bipush 16, 2), (0, 0, 0)) := by decide +kernel
theorem xr_75_129 : X_row 75 129 = some (129, (.if_icmp .ne 7, 3), (0, 0, 0)) := by decide +kernel
theorem xr_75_132 : X_row 75 132 = some (132, (.iconst 1, 1), (0, 0, 0)) := by decide +kernel
theorem xr_75_133 : X_row 75 133 = some (133, (.goto 4, 3), (0, 0, 0)) := by decide +kernel
theorem xr_75_136 : X_row 75 136 = some (136, (.iconst 0, 1), (0, 0, 0)) := by decide +kernel
theorem xr_75_137 : X_row 75 137 = some (137, (.istore 7, 2), (0, 0, 0)) := by decide +kernel
theorem xr_75_139 : X_row 75 139 = some (139, (.iload 4, 2), (0, 0, 0)) := by decide +kernel
theorem xr_75_141 : X_row 75 141 = some (141, (.invokestatic 193, 3), (77, 68, 0)) := by decide +kernel
theorem xr_75_144 : X_row 75 144 = some (144, (.ifCond .eq 12, 3), (0, 0, 0)) := by decide +kernel
theorem xr_75_147 : X_row 75 147 = some (147, (.iload_n 2, 1), (0, 0, 0)) := by decide +kernel
theorem xr_75_148 : X_row 75 148 = some (148, (.iconst 2, 1), (0, 0, 0)) := by decide +kernel
theorem xr_75_149 : X_row 75 149 = some (149, (.if_icmp .ge 7, 3), (0, 0, 0)) := by decide +kernel
theorem xr_75_152 : X_row 75 152 = some (152, (.iconst 1, 1), (0, 0, 0)) := by decide +kernel
theorem xr_75_153 : X_row 75 153 = some (153, (.goto 4, 3), (0, 0, 0)) := by decide +kernel
theorem xr_75_156 : X_row 75 156 = some (156, (.iconst 0, 1), (0, 0, 0)) := by decide +kernel
theorem xr_75_157 : X_row 75 157 = some (157, (.istore 8, 2), (0, 0, 0)) := by decide +kernel
theorem xr_75_159 : X_row 75 159 = some (159, (.iload 6, 2), (0, 0, 0)) := by decide +kernel
theorem xr_75_161 : X_row 75 161 = some (161, (.ifCond .ne 13, 3), (0, 0, 0)) := by decide +kernel
theorem xr_75_164 : X_row 75 164 = some (164, (.iload 7, 2), (0, 0, 0)) := by decide +kernel
theorem xr_75_166 : X_row 75 166 = some (166, (.ifCond .ne 8, 3), (0, 0, 0)) := by decide +kernel
theorem xr_75_169 : X_row 75 169 = some (169, (.iload 8, 2), (0, 0, 0)) := by decide +kernel
theorem xr_75_171 : X_row 75 171 = some (171, (.ifCond .eq 11, 3), (0, 0, 0)) := by decide +kernel
theorem xr_75_174 : X_row 75 174 = some (174, (.aload_n 0, 1), (0, 0, 0)) := by decide +kernel
theorem xr_75_175 : X_row 75 175 = some (175, (.iconst 5, 1), (0, 0, 0)) := by decide +kernel
theorem xr_75_176 : X_row 75 176 = some (176, (.iload_n 3, 1), (0, 0, 0)) := by decide +kernel
theorem xr_75_177 : X_row 75 177 = some (177, (.invokevirtual 76, 3), (62, 16, 0)) := by decide +kernel
theorem xr_75_180 : X_row 75 180 = some (180, (.iconst (-1), 1), (0, 0, 0)) := by decide +kernel
theorem xr_75_181 : X_row 75 181 = some (181, (.ireturn, 1), (0, 0, 0)) := by decide +kernel
theorem xr_75_182 : X_row 75 182 = some (182, (.aload_n 1, 1), (0, 0, 0)) := by decide +kernel
theorem xr_75_183 : X_row 75 183 = some (183, (.iload 4, 2), (0, 0, 0)) := by decide +kernel
theorem xr_75_185 : X_row 75 185 = some (185, (.iload 5, 2), (0, 0, 0)) := by decide +kernel
theorem xr_75_187 : X_row 75 187 = some (187, (.invokevirtual 196, 3), (94, 70, 0)) := by decide +kernel
theorem xr_75_190 : X_row 75 190 = some (190, (.aload_n 0, 1), (0, 0, 0)) := by decide +kernel
theorem xr_75_191 : X_row 75 191 = some (191, (.getfield 23, 3), (4, 0, 18)) := by decide +kernel
theorem xr_75_194 : X_row 75 194 = some (194, (.invokevirtual 80, 3), (48, 18, 0)) := by decide +kernel
theorem xr_75_197 : X_row 75 197 = some (197, (.iload 4, 2), (0, 0, 0)) := by decide +kernel
theorem xr_75_199 : X_row 75 199 = some (199, (.invokestatic 193, 3), (77, 68, 0)) := by decide +kernel
theorem xr_75_202 : X_row 75 202 = some (202, (.ifCond .eq 9, 3), (0, 0, 0)) := by decide +kernel
theorem xr_75_205 : X_row 75 205 = some (205, (.iload_n 2, 1), (0, 0, 0)) := by decide +kernel
theorem xr_75_206 : X_row 75 206 = some (206, (.iconst 1, 1), (0, 0, 0)) := by decide +kernel
theorem xr_75_207 : X_row 75 207 = some (207, (.isub, 1), (0, 0, 0)) := by decide +kernel
theorem xr_75_208 : X_row 75 208 = some (208, (.goto 6, 3), (0, 0, 0)) := by decide +kernel
theorem xr_75_211 : X_row 75 211 = some (211, (.iload_n 2, 1), (0, 0, 0)) := by decide +kernel
theorem xr_75_212 : X_row 75 212 = some (212, (.iconst 1, 1), (0, 0, 0)) := by decide +kernel
theorem xr_75_213 : X_row 75 213 = some (213, (.iadd, 1), (0, 0, 0)) := by decide +kernel
theorem xr_75_214 : X_row 75 214 = some (214, (.ireturn, 1), (0, 0, 0)) := by decide +kernel
theorem xr_76_0 : X_row 76 0 = some (0, (.aload_n 0, 1), (0, 0, 0)) := by decide +kernel
theorem xr_76_1 : X_row 76 1 = some (1, (.getfield 23, 3), (4, 0, 18)) := by decide +kernel
theorem xr_76_4 : X_row 76 4 = some (4, (.invokevirtual 39, 3), (44, 6, 0)) := by decide +kernel
theorem xr_76_7 : X_row 76 7 = some (7, (.iconst 4, 1), (0, 0, 0)) := by decide +kernel
theorem xr_76_8 : X_row 76 8 = some (8, (.if_icmp .eq 14, 3), (0, 0, 0)) := by decide +kernel
theorem xr_76_11 : X_row 76 11 = some (11, (.aload_n 0, 1), (0, 0, 0)) := by decide +kernel
theorem xr_76_12 : X_row 76 12 = some (12, (.getfield 23, 3), (4, 0, 18)) := by decide +kernel
theorem xr_76_15 : X_row 76 15 = some (15, (.invokevirtual 39, 3), (44, 6, 0)) := by decide +kernel
theorem xr_76_18 : X_row 76 18 = some (18, (.iconst 5, 1), (0, 0, 0)) := by decide +kernel
theorem xr_76_19 : X_row 76 19 = some (19, (.if_icmp .ne 7, 3), (0, 0, 0)) := by decide +kernel
theorem xr_76_22 : X_row 76 22 = some (22, (.iconst 1, 1), (0, 0, 0)) := by decide +kernel
theorem xr_76_23 : X_row 76 23 = some (23, (.goto 4, 3), (0, 0, 0)) := by decide +kernel
theorem xr_76_26 : X_row 76 26 = some (26, (.iconst 0, 1), (0, 0, 0)) := by decide +kernel
theorem xr_76_27 : X_row 76 27 = some (27, (.ireturn, 1), (0, 0, 0)) := by decide +kernel
theorem xr_77_0 : X_row 77 0 = some (0, (.iload_n 0, 1), (0, 0, 0)) := by decide +kernel
theorem xr_77_1 : X_row 77 1 = some (1, (.bipush 43, 2), (0, 0, 0)) := by decide +kernel
theorem xr_77_3 : X_row 77 3 = some (3, (.if_icmp .eq 33, 3), (0, 0, 0)) := by decide +kernel
theorem xr_77_6 : X_row 77 6 = some (6, (.iload_n 0, 1), (0, 0, 0)) := by decide +kernel
theorem xr_77_7 : X_row 77 7 = some (7, (.bipush 45, 2), (0, 0, 0)) := by decide +kernel
theorem xr_77_9 : X_row 77 9 = some (9, (.if_icmp .eq 27, 3), (0, 0, 0)) := by decide +kernel
theorem xr_77_12 : X_row 77 12 = some (12, (.iload_n 0, 1), (0, 0, 0)) := by decide +kernel
theorem xr_77_13 : X_row 77 13 = some (13, (.bipush 42, 2), (0, 0, 0)) := by decide +kernel
theorem xr_77_15 : X_row 77 15 = some (15, (.if_icmp .eq 21, 3), (0, 0, 0)) := by decide +kernel
theorem xr_77_18 : X_row 77 18 = some (18, (.iload_n 0, 1), (0, 0, 0)) := by decide +kernel
theorem xr_77_19 : X_row 77 19 = some (19, (.bipush 47, 2), (0, 0, 0)) := by decide +kernel
theorem xr_77_21 : X_row 77 21 = some (21, (.if_icmp .eq 15, 3), (0, 0, 0)) := by decide +kernel
theorem xr_77_24 : X_row 77 24 = some (24, (.iload_n 0, 1), (0, 0, 0)) := by decide +kernel
theorem xr_77_25 : X_row 77 25 = some (25, (.bipush 37, 2), (0, 0, 0)) := by decide +kernel
theorem xr_77_27 : X_row 77 27 = some (27, (.if_icmp .eq 9, 3), (0, 0, 0)) := by decide +kernel
theorem xr_77_30 : X_row 77 30 = some (30, (.iload_n 0, 1), (0, 0, 0)) := by decide +kernel
theorem xr_77_31 : X_row 77 31 = some (31, (.bipush 60, 2), (0, 0, 0)) := by decide +kernel
theorem xr_77_33 : X_row 77 33 = some (33, (.if_icmp .ne 7, 3), (0, 0, 0)) := by decide +kernel
theorem xr_77_36 : X_row 77 36 = some (36, (.iconst 1, 1), (0, 0, 0)) := by decide +kernel
theorem xr_77_37 : X_row 77 37 = some (37, (.goto 4, 3), (0, 0, 0)) := by decide +kernel
theorem xr_77_40 : X_row 77 40 = some (40, (.iconst 0, 1), (0, 0, 0)) := by decide +kernel
theorem xr_77_41 : X_row 77 41 = some (41, (.ireturn, 1), (0, 0, 0)) := by decide +kernel
theorem xn_75 : X_nL 75 = 9 := by decide +kernel
theorem xf_75 : X_na 75 = 2 ∧ X_ci 75 = 4 ∧ X_rt 75 = (some .int) := by decide +kernel
theorem xn_76 : X_nL 76 = 1 := by decide +kernel
theorem xf_76 : X_na 76 = 0 ∧ X_ci 76 = 4 ∧ X_rt 76 = (some .boolean) := by decide +kernel
theorem xn_77 : X_nL 77 = 1 := by decide +kernel
theorem xf_77 : X_na 77 = 1 ∧ X_ci 77 = 4 ∧ X_rt 77 = (some .boolean) := by decide +kernel
def X_isOp (s : Int) : Prop := s = 43 ∨ s = 45 ∨ s = 42 ∨ s = 47 ∨ s = 37 ∨ s = 60
def X_vl (ct : Int → Int64) (c : Int) : Int := ((ct c : Int64).toInt32).toInt
theorem X_vl_r (ct : Int → Int64) (c : Int) : -2147483648 ≤ X_vl ct c ∧ X_vl ct c ≤ 2147483647 := iI_rng _
def X_aS (d : Nat → Int → Int) (s y : Int) : Nat → Int → Int := X_wu (X_wu (X_wu d 12 (X_ug (d 12) (d 5 0) s)) 13 (X_ug (d 13) (d 5 0) y)) 5 (fun _ => d 5 0 + 1)
theorem X_wr_S {d : Nat → Int → Int} {s y : Int} (h : X_wr d) (h5 : 0 ≤ d 5 0 ∧ d 5 0 < 30) : X_wr (X_aS d s y) := X_wr_5 (X_wr_13 (X_wr_12 h)) (by omega)
/-- a step: its sign, its number; the token behind it is looked at next -/
noncomputable def sp_stF (n : Int) (c s v : Int) (d : Nat → Int → Int) (pile : Int) : Option (Int × (Nat → Int → Int) × Int) :=
  if s = 64 ∧ (v < 1 ∨ d 4 0 < v) then none else
    @ite _ (¬ X_isOp s ∧ pile = 16) (Classical.propDecidable _) none (@ite _ (X_isOp s ∧ pile < 2) (Classical.propDecidable _) none
      (some (X_av n c, X_aS d s v, @ite _ (X_isOp s) (Classical.propDecidable _) (pile - 1) (pile + 1))))
noncomputable def sp_step (n : Int) (so : Int → Int) (ct : Int → Int64) (c : Int) (d : Nat → Int → Int) (pile : Int) : Option (Int × (Nat → Int → Int) × Int) :=
  if so c = 4 ∨ so c = 5 then sp_stF n c 4 (X_vl ct c) d pile else
    if so c = 64 then (if so (X_av n c) = 5 then sp_stF n (X_av n c) (so c) (X_vl ct (X_av n c)) d pile else none) else
      @ite _ (X_isOp (so c)) (Classical.propDecidable _) (sp_stF n c (so c) (X_vl ct c) d pile) none
theorem c_isOperation (sc : X_Sc) (S : X_S) (s : Int) (hs : 0 ≤ s ∧ s ≤ 255) : X_T sc 77 (0, [(0, .int (iI s))], [], S) (fun v S' => v = some (.int (iI (bI (X_isOp s)))) ∧ S' = S) := by
  refine X_QI (fun Q hQ => ?_)
  refine T_p xr_77_0 xn_77 (pc' := 1) (ls' := [(0, .int (iI s))]) (st' := [.int (iI s)]) rfl ?_
  refine T_p xr_77_1 xn_77 (pc' := 3) (ls' := [(0, .int (iI s))]) (st' := [.int (iI 43), .int (iI s)]) rfl ?_
  refine T_zicmp_eq xr_77_3 (t := 36) (pc' := 6) rfl rfl (fun c1673 => ?_) (fun c1673 => ?_)
  · skip
    have c1673 : s = 43 := c1673
    refine T_p xr_77_36 xn_77 (pc' := 37) (ls' := [(0, .int (iI s))]) (st' := [.int (iI 1)]) rfl ?_
    refine T_p xr_77_37 xn_77 (pc' := 41) (ls' := [(0, .int (iI s))]) (st' := [.int (iI 1)]) rfl ?_
    refine T_iret xr_77_41 xf_77.2.2 (by decide) ?_
    refine hQ _ _ ?_
    exact ⟨by rw [bI_t (by unfold X_isOp; omega)], rfl⟩
  · skip
    have c1673 : ¬ (s = 43) := c1673
    refine T_p xr_77_6 xn_77 (pc' := 7) (ls' := [(0, .int (iI s))]) (st' := [.int (iI s)]) rfl ?_
    refine T_p xr_77_7 xn_77 (pc' := 9) (ls' := [(0, .int (iI s))]) (st' := [.int (iI 45), .int (iI s)]) rfl ?_
    refine T_zicmp_eq xr_77_9 (t := 36) (pc' := 12) rfl rfl (fun c1674 => ?_) (fun c1674 => ?_)
    · skip
      have c1674 : s = 45 := c1674
      refine T_p xr_77_36 xn_77 (pc' := 37) (ls' := [(0, .int (iI s))]) (st' := [.int (iI 1)]) rfl ?_
      refine T_p xr_77_37 xn_77 (pc' := 41) (ls' := [(0, .int (iI s))]) (st' := [.int (iI 1)]) rfl ?_
      refine T_iret xr_77_41 xf_77.2.2 (by decide) ?_
      refine hQ _ _ ?_
      exact ⟨by rw [bI_t (by unfold X_isOp; omega)], rfl⟩
    · skip
      have c1674 : ¬ (s = 45) := c1674
      refine T_p xr_77_12 xn_77 (pc' := 13) (ls' := [(0, .int (iI s))]) (st' := [.int (iI s)]) rfl ?_
      refine T_p xr_77_13 xn_77 (pc' := 15) (ls' := [(0, .int (iI s))]) (st' := [.int (iI 42), .int (iI s)]) rfl ?_
      refine T_zicmp_eq xr_77_15 (t := 36) (pc' := 18) rfl rfl (fun c1675 => ?_) (fun c1675 => ?_)
      · skip
        have c1675 : s = 42 := c1675
        refine T_p xr_77_36 xn_77 (pc' := 37) (ls' := [(0, .int (iI s))]) (st' := [.int (iI 1)]) rfl ?_
        refine T_p xr_77_37 xn_77 (pc' := 41) (ls' := [(0, .int (iI s))]) (st' := [.int (iI 1)]) rfl ?_
        refine T_iret xr_77_41 xf_77.2.2 (by decide) ?_
        refine hQ _ _ ?_
        exact ⟨by rw [bI_t (by unfold X_isOp; omega)], rfl⟩
      · skip
        have c1675 : ¬ (s = 42) := c1675
        refine T_p xr_77_18 xn_77 (pc' := 19) (ls' := [(0, .int (iI s))]) (st' := [.int (iI s)]) rfl ?_
        refine T_p xr_77_19 xn_77 (pc' := 21) (ls' := [(0, .int (iI s))]) (st' := [.int (iI 47), .int (iI s)]) rfl ?_
        refine T_zicmp_eq xr_77_21 (t := 36) (pc' := 24) rfl rfl (fun c1676 => ?_) (fun c1676 => ?_)
        · skip
          have c1676 : s = 47 := c1676
          refine T_p xr_77_36 xn_77 (pc' := 37) (ls' := [(0, .int (iI s))]) (st' := [.int (iI 1)]) rfl ?_
          refine T_p xr_77_37 xn_77 (pc' := 41) (ls' := [(0, .int (iI s))]) (st' := [.int (iI 1)]) rfl ?_
          refine T_iret xr_77_41 xf_77.2.2 (by decide) ?_
          refine hQ _ _ ?_
          exact ⟨by rw [bI_t (by unfold X_isOp; omega)], rfl⟩
        · skip
          have c1676 : ¬ (s = 47) := c1676
          refine T_p xr_77_24 xn_77 (pc' := 25) (ls' := [(0, .int (iI s))]) (st' := [.int (iI s)]) rfl ?_
          refine T_p xr_77_25 xn_77 (pc' := 27) (ls' := [(0, .int (iI s))]) (st' := [.int (iI 37), .int (iI s)]) rfl ?_
          refine T_zicmp_eq xr_77_27 (t := 36) (pc' := 30) rfl rfl (fun c1677 => ?_) (fun c1677 => ?_)
          · skip
            have c1677 : s = 37 := c1677
            refine T_p xr_77_36 xn_77 (pc' := 37) (ls' := [(0, .int (iI s))]) (st' := [.int (iI 1)]) rfl ?_
            refine T_p xr_77_37 xn_77 (pc' := 41) (ls' := [(0, .int (iI s))]) (st' := [.int (iI 1)]) rfl ?_
            refine T_iret xr_77_41 xf_77.2.2 (by decide) ?_
            refine hQ _ _ ?_
            exact ⟨by rw [bI_t (by unfold X_isOp; omega)], rfl⟩
          · skip
            have c1677 : ¬ (s = 37) := c1677
            refine T_p xr_77_30 xn_77 (pc' := 31) (ls' := [(0, .int (iI s))]) (st' := [.int (iI s)]) rfl ?_
            refine T_p xr_77_31 xn_77 (pc' := 33) (ls' := [(0, .int (iI s))]) (st' := [.int (iI 60), .int (iI s)]) rfl ?_
            refine T_zicmp_ne xr_77_33 (t := 40) (pc' := 36) rfl rfl (fun c1678 => ?_) (fun c1678 => ?_)
            · skip
              have c1678 : ¬ s = 60 := c1678
              refine T_p xr_77_40 xn_77 (pc' := 41) (ls' := [(0, .int (iI s))]) (st' := [.int (iI 0)]) rfl ?_
              refine T_iret xr_77_41 xf_77.2.2 (by decide) ?_
              refine hQ _ _ ?_
              exact ⟨by rw [bI_f (by unfold X_isOp; omega)], rfl⟩
            · skip
              have c1678 : ¬ (¬ s = 60) := c1678
              refine T_p xr_77_36 xn_77 (pc' := 37) (ls' := [(0, .int (iI s))]) (st' := [.int (iI 1)]) rfl ?_
              refine T_p xr_77_37 xn_77 (pc' := 41) (ls' := [(0, .int (iI s))]) (st' := [.int (iI 1)]) rfl ?_
              refine T_iret xr_77_41 xf_77.2.2 (by decide) ?_
              refine hQ _ _ ?_
              exact ⟨by rw [bI_t (by unfold X_isOp; omega)], rfl⟩
theorem c_isNumber (sc : X_Sc) (S : X_S) (B : Nat) (fl fp at_ n cur : Int) (so pl : Int → Int) (ct : Int → Int64) (hp : C_pa S B fl fp) (hx : C_lx S at_ n cur so pl ct) (hcu : 0 ≤ cur ∧ cur < n ∧ n ≤ 2001) (hso : ∀ i, 0 ≤ i → i < n → 0 ≤ so i ∧ so i ≤ 255) : X_T sc 76 (0, [(0, .ref 496)], [], S) (fun v S' => v = some (.int (iI (bI (so cur = 4 ∨ so cur = 5)))) ∧ S' = S) := by
  refine X_QI (fun Q hQ => ?_)
  refine T_p xr_76_0 xn_76 (pc' := 1) (ls' := [(0, .ref 496)]) (st' := [.ref 496]) rfl ?_
  refine T_get xr_76_1 hp rfl (v := .ref 497) rfl (pc' := 4) rfl ?_
  refine T_cv (S := S) (q := 497) xr_76_4 xf_44.1 xf_44.2.1 xn_44 (as := []) (r := []) rfl hx.1 (Nat.le_of_ble_eq_true rfl) (Nat.le_of_ble_eq_true rfl) (pc' := 7) rfl (ls' := [(0, .ref 497)]) rfl ?_
  refine T_mono (c_sort sc S at_ n cur so pl ct ⟨hx.1, hx.2.1, hx.2.2.1, hx.2.2.2⟩ (by omega)) (fun v1680 S1681 h1679 => ?_)
  obtain ⟨h1682, h1683⟩ := h1679
  rw [h1682, h1683]
  show X_T sc 76 (7, [(0, .ref 496)], [.int (iI (so cur))], S) _
  have hs1684 := hso cur (by omega) (by omega)
  refine T_p xr_76_7 xn_76 (pc' := 8) (ls' := [(0, .ref 496)]) (st' := [.int (iI 4), .int (iI (so cur))]) rfl ?_
  refine T_zicmp_eq xr_76_8 (t := 22) (pc' := 11) rfl rfl (fun c1685 => ?_) (fun c1685 => ?_)
  · skip
    have c1685 : (so cur) = 4 := c1685
    refine T_p xr_76_22 xn_76 (pc' := 23) (ls' := [(0, .ref 496)]) (st' := [.int (iI 1)]) rfl ?_
    refine T_p xr_76_23 xn_76 (pc' := 27) (ls' := [(0, .ref 496)]) (st' := [.int (iI 1)]) rfl ?_
    refine T_iret xr_76_27 xf_76.2.2 (by decide) ?_
    refine hQ _ _ ?_
    exact ⟨by rw [bI_t (by omega)], rfl⟩
  · skip
    have c1685 : ¬ ((so cur) = 4) := c1685
    refine T_p xr_76_11 xn_76 (pc' := 12) (ls' := [(0, .ref 496)]) (st' := [.ref 496]) rfl ?_
    refine T_get xr_76_12 hp rfl (v := .ref 497) rfl (pc' := 15) rfl ?_
    refine T_cv (S := S) (q := 497) xr_76_15 xf_44.1 xf_44.2.1 xn_44 (as := []) (r := []) rfl hx.1 (Nat.le_of_ble_eq_true rfl) (Nat.le_of_ble_eq_true rfl) (pc' := 18) rfl (ls' := [(0, .ref 497)]) rfl ?_
    refine T_mono (c_sort sc S at_ n cur so pl ct ⟨hx.1, hx.2.1, hx.2.2.1, hx.2.2.2⟩ (by omega)) (fun v1687 S1688 h1686 => ?_)
    obtain ⟨h1689, h1690⟩ := h1686
    rw [h1689, h1690]
    show X_T sc 76 (18, [(0, .ref 496)], [.int (iI (so cur))], S) _
    have hs1691 := hso cur (by omega) (by omega)
    refine T_p xr_76_18 xn_76 (pc' := 19) (ls' := [(0, .ref 496)]) (st' := [.int (iI 5), .int (iI (so cur))]) rfl ?_
    refine T_zicmp_ne xr_76_19 (t := 26) (pc' := 22) rfl rfl (fun c1692 => ?_) (fun c1692 => ?_)
    · skip
      have c1692 : ¬ (so cur) = 5 := c1692
      refine T_p xr_76_26 xn_76 (pc' := 27) (ls' := [(0, .ref 496)]) (st' := [.int (iI 0)]) rfl ?_
      refine T_iret xr_76_27 xf_76.2.2 (by decide) ?_
      refine hQ _ _ ?_
      exact ⟨by rw [bI_f (by omega)], rfl⟩
    · skip
      have c1692 : ¬ (¬ (so cur) = 5) := c1692
      refine T_p xr_76_22 xn_76 (pc' := 23) (ls' := [(0, .ref 496)]) (st' := [.int (iI 1)]) rfl ?_
      refine T_p xr_76_23 xn_76 (pc' := 27) (ls' := [(0, .ref 496)]) (st' := [.int (iI 1)]) rfl ?_
      refine T_iret xr_76_27 xf_76.2.2 (by decide) ?_
      refine hQ _ _ ?_
      exact ⟨by rw [bI_t (by omega)], rfl⟩
theorem c_parseStep (sc : X_Sc) (S : X_S) (B : Nat) (fl fp at_ n cur : Int) (so pl : Int → Int) (ct : Int → Int64) (rc kc wc : Int) (rn : Int → Int64) (lo : Int → Int) (kn : Int → Int64) (ab : Int → Int) (a : Nat) (d : Nat → Int → Int) (q : Int → Int64) (pile : Int) (hB : 4 ≤ B ∧ B + 246 ≤ 496) (ha : B + 6 ≤ a ∧ a + 7 < B + 246) (hp : C_pa S B fl fp) (hx : C_lx S at_ n cur so pl ct) (hcu : 0 ≤ cur ∧ cur < n ∧ n ≤ 2001) (hso : ∀ i, 0 ≤ i → i < n → 0 ≤ so i ∧ so i ≤ 255) (hb : C_bk S B rc kc wc rn lo kn ab) (hw : C_wd S a d q) (hr : X_wr d) (hpi : 0 ≤ pile ∧ pile ≤ 16) (h5 : 0 ≤ d 5 0 ∧ d 5 0 < 30) : X_T sc 75 (0, [(0, .ref 496), (1, .ref a), (2, .int (iI pile))], [], S) (fun v S' => (∃ c2 d2 p2, v = some (.int (iI p2)) ∧ sp_step n so ct cur d pile = some (c2, d2, p2) ∧ C_pa S' B fl fp ∧ S'.1 497 = .inr (3, [.ref 2, .int (iI at_), .int (iI n), .ref 498, .ref 499, .ref 500, .int (iI (c2))]) ∧ (0 ≤ c2 ∧ c2 < n) ∧ C_wd S' a d2 q ∧ X_wr d2 ∧ X_Fr (fun q => q = 496 ∨ q = 497 ∨ (a ≤ q ∧ q ≤ a + 7)) S S') ∨ (v = some (.int (iI (-1))) ∧ sp_step n so ct cur d pile = none ∧ (∃ fl' fp', (¬ fl' = 0 ∧ 0 ≤ fl' ∧ fl' ≤ 5) ∧ C_pa S' B fl' fp') ∧ (∃ c2, S'.1 497 = .inr (3, [.ref 2, .int (iI at_), .int (iI n), .ref 498, .ref 499, .ref 500, .int (iI (c2))]) ∧ (0 ≤ c2 ∧ c2 < n)) ∧ C_wd S' a d q ∧ X_Fr (fun q => q = 496 ∨ q = 497 ∨ (a ≤ q ∧ q ≤ a + 7)) S S')) := by
  obtain ⟨hb0, hb1, hb2, hb3, hb4, ⟨f, hb5, hf⟩, ⟨hrc, hrcb⟩, ⟨hkc, hkcb⟩, ⟨hwc, hwcb⟩⟩ := id hb
  obtain ⟨⟨hr0, hr0b⟩, ⟨hr1, hr1b⟩, ⟨hr2, hr2b⟩, ⟨hr3, hr3b⟩, ⟨hr4, hr4b⟩, ⟨hr5, hr5b⟩, ⟨hr6, hr6b⟩, ⟨hr7, hr7b⟩⟩ := id hr
  have hop4 : ¬ (X_isOp 4) := by unfold X_isOp; omega
  refine X_QI (fun Q hQ => ?_)
  refine T_p xr_75_0 xn_75 (pc' := 1) (ls' := [(0, .ref 496), (1, .ref a), (2, .int (iI pile))]) (st' := [.ref 496]) rfl ?_
  refine T_get xr_75_1 hp rfl (v := .ref 497) rfl (pc' := 4) rfl ?_
  refine T_cv (S := S) (q := 497) xr_75_4 xf_45.1 xf_45.2.1 xn_45 (as := []) (r := []) rfl hx.1 (Nat.le_of_ble_eq_true rfl) (Nat.le_of_ble_eq_true rfl) (pc' := 7) rfl (ls' := [(0, .ref 497)]) rfl ?_
  refine T_mono (c_place sc S at_ n cur so pl ct ⟨hx.1, hx.2.1, hx.2.2.1, hx.2.2.2⟩ (by omega)) (fun v1694 S1695 h1693 => ?_)
  obtain ⟨h1696, h1697⟩ := h1693
  rw [h1696, h1697]
  show X_T sc 75 (7, [(0, .ref 496), (1, .ref a), (2, .int (iI pile))], [.int (iI (pl cur))], S) _
  refine T_p xr_75_7 xn_75 (pc' := 8) (ls' := [(3, .int (iI (pl cur))), (0, .ref 496), (1, .ref a), (2, .int (iI pile))]) (st' := []) rfl ?_
  refine T_p xr_75_8 xn_75 (pc' := 9) (ls' := [(3, .int (iI (pl cur))), (0, .ref 496), (1, .ref a), (2, .int (iI pile))]) (st' := [.ref 496]) rfl ?_
  refine T_cv (S := S) (q := 496) xr_75_9 xf_76.1 xf_76.2.1 xn_76 (as := []) (r := []) rfl hp (Nat.le_of_ble_eq_true rfl) (Nat.le_of_ble_eq_true rfl) (pc' := 12) rfl (ls' := [(0, .ref 496)]) rfl ?_
  refine T_mono (c_isNumber sc S B fl fp at_ n cur so pl ct hp ⟨hx.1, hx.2.1, hx.2.2.1, hx.2.2.2⟩ (by omega) hso) (fun v1699 S1700 h1698 => ?_)
  obtain ⟨h1701, h1702⟩ := h1698
  rw [h1701, h1702]
  show X_T sc 75 (12, [(3, .int (iI (pl cur))), (0, .ref 496), (1, .ref a), (2, .int (iI pile))], [.int (iI (bI (so cur = 4 ∨ so cur = 5)))], S) _
  refine T_bif_eq xr_75_12 (t := 19) (pc' := 15) rfl rfl (fun c1703 => ?_) (fun c1703 => ?_)
  · skip
    have c1703 : ¬ (so cur = 4 ∨ so cur = 5) := c1703
    refine T_p xr_75_19 xn_75 (pc' := 20) (ls' := [(3, .int (iI (pl cur))), (0, .ref 496), (1, .ref a), (2, .int (iI pile))]) (st' := [.ref 496]) rfl ?_
    refine T_get xr_75_20 hp rfl (v := .ref 497) rfl (pc' := 23) rfl ?_
    refine T_cv (S := S) (q := 497) xr_75_23 xf_44.1 xf_44.2.1 xn_44 (as := []) (r := []) rfl hx.1 (Nat.le_of_ble_eq_true rfl) (Nat.le_of_ble_eq_true rfl) (pc' := 26) rfl (ls' := [(0, .ref 497)]) rfl ?_
    refine T_mono (c_sort sc S at_ n cur so pl ct ⟨hx.1, hx.2.1, hx.2.2.1, hx.2.2.2⟩ (by omega)) (fun v1705 S1706 h1704 => ?_)
    obtain ⟨h1707, h1708⟩ := h1704
    rw [h1707, h1708]
    show X_T sc 75 (26, [(3, .int (iI (pl cur))), (0, .ref 496), (1, .ref a), (2, .int (iI pile))], [.int (iI (so cur))], S) _
    have hs1709 := hso cur (by omega) (by omega)
    refine T_p xr_75_26 xn_75 (pc' := 28) (ls' := [(4, .int (iI (so cur))), (3, .int (iI (pl cur))), (0, .ref 496), (1, .ref a), (2, .int (iI pile))]) (st' := []) rfl ?_
    refine T_p xr_75_28 xn_75 (pc' := 30) (ls' := [(4, .int (iI (so cur))), (3, .int (iI (pl cur))), (0, .ref 496), (1, .ref a), (2, .int (iI pile))]) (st' := [.int (iI (so cur))]) rfl ?_
    refine T_p xr_75_30 xn_75 (pc' := 32) (ls' := [(4, .int (iI (so cur))), (3, .int (iI (pl cur))), (0, .ref 496), (1, .ref a), (2, .int (iI pile))]) (st' := [.int (iI 64), .int (iI (so cur))]) rfl ?_
    refine T_zicmp_ne xr_75_32 (t := 59) (pc' := 35) rfl rfl (fun c1710 => ?_) (fun c1710 => ?_)
    · skip
      have c1710 : ¬ (so cur) = 64 := c1710
      refine T_p xr_75_59 xn_75 (pc' := 61) (ls' := [(4, .int (iI (so cur))), (3, .int (iI (pl cur))), (0, .ref 496), (1, .ref a), (2, .int (iI pile))]) (st' := [.int (iI (so cur))]) rfl ?_
      refine T_p xr_75_61 xn_75 (pc' := 62) (ls' := [(4, .int (iI (so cur))), (3, .int (iI (pl cur))), (0, .ref 496), (1, .ref a), (2, .int (iI pile))]) (st' := [.int (iI 4), .int (iI (so cur))]) rfl ?_
      refine T_zicmp_eq xr_75_62 (t := 79) (pc' := 65) rfl rfl (fun c1711 => ?_) (fun c1711 => ?_)
      · skip
        have c1711 : (so cur) = 4 := c1711
        refine T_p xr_75_79 xn_75 (pc' := 80) (ls' := [(4, .int (iI (so cur))), (3, .int (iI (pl cur))), (0, .ref 496), (1, .ref a), (2, .int (iI pile))]) (st' := [.ref 496]) rfl ?_
        refine T_get xr_75_80 hp rfl (v := .ref 497) rfl (pc' := 83) rfl ?_
        refine T_cv (S := S) (q := 497) xr_75_83 xf_46.1 xf_46.2.1 xn_46 (as := []) (r := []) rfl hx.1 (Nat.le_of_ble_eq_true rfl) (Nat.le_of_ble_eq_true rfl) (pc' := 86) rfl (ls' := [(0, .ref 497)]) rfl ?_
        refine T_mono (c_content sc S at_ n cur so pl ct ⟨hx.1, hx.2.1, hx.2.2.1, hx.2.2.2⟩ (by omega)) (fun v1713 S1714 h1712 => ?_)
        obtain ⟨h1715, h1716⟩ := h1712
        rw [h1715, h1716]
        show X_T sc 75 (86, [(4, .int (iI (so cur))), (3, .int (iI (pl cur))), (0, .ref 496), (1, .ref a), (2, .int (iI pile))], [.long (ct cur)], S) _
        refine T_zop xr_75_86 (pc' := 87) rfl (z := ((ct cur : Int64).toInt32).toInt) (iI_of _) ?_
        refine T_ie (y := iI (X_vl ct cur)) rfl ?_
        have hv1717 := X_vl_r ct cur
        refine T_p xr_75_87 xn_75 (pc' := 89) (ls' := [(5, .int (iI (X_vl ct cur))), (4, .int (iI (so cur))), (3, .int (iI (pl cur))), (0, .ref 496), (1, .ref a), (2, .int (iI pile))]) (st' := []) rfl ?_
        have J1718 : X_T sc 75 (116, [(5, .int (iI (X_vl ct cur))), (4, .int (iI (so cur))), (3, .int (iI (pl cur))), (0, .ref 496), (1, .ref a), (2, .int (iI pile))], [.int (iI (bI ((so cur) = 64 ∧ (X_vl ct cur < 1 ∨ d 4 0 < X_vl ct cur))))], S) Q := by
          refine T_p xr_75_116 xn_75 (pc' := 118) (ls' := [(6, .int (iI (bI ((so cur) = 64 ∧ (X_vl ct cur < 1 ∨ d 4 0 < X_vl ct cur))))), (5, .int (iI (X_vl ct cur))), (4, .int (iI (so cur))), (3, .int (iI (pl cur))), (0, .ref 496), (1, .ref a), (2, .int (iI pile))]) (st' := []) rfl ?_
          have J1719 : X_T sc 75 (137, [(6, .int (iI (bI ((so cur) = 64 ∧ (X_vl ct cur < 1 ∨ d 4 0 < X_vl ct cur))))), (5, .int (iI (X_vl ct cur))), (4, .int (iI (so cur))), (3, .int (iI (pl cur))), (0, .ref 496), (1, .ref a), (2, .int (iI pile))], [.int (iI (bI (¬ X_isOp (so cur) ∧ pile = 16)))], S) Q := by
            refine T_p xr_75_137 xn_75 (pc' := 139) (ls' := [(7, .int (iI (bI (¬ X_isOp (so cur) ∧ pile = 16)))), (6, .int (iI (bI ((so cur) = 64 ∧ (X_vl ct cur < 1 ∨ d 4 0 < X_vl ct cur))))), (5, .int (iI (X_vl ct cur))), (4, .int (iI (so cur))), (3, .int (iI (pl cur))), (0, .ref 496), (1, .ref a), (2, .int (iI pile))]) (st' := []) rfl ?_
            have J1720 : X_T sc 75 (157, [(7, .int (iI (bI (¬ X_isOp (so cur) ∧ pile = 16)))), (6, .int (iI (bI ((so cur) = 64 ∧ (X_vl ct cur < 1 ∨ d 4 0 < X_vl ct cur))))), (5, .int (iI (X_vl ct cur))), (4, .int (iI (so cur))), (3, .int (iI (pl cur))), (0, .ref 496), (1, .ref a), (2, .int (iI pile))], [.int (iI (bI (X_isOp (so cur) ∧ pile < 2)))], S) Q := by
              refine T_p xr_75_157 xn_75 (pc' := 159) (ls' := [(8, .int (iI (bI (X_isOp (so cur) ∧ pile < 2)))), (7, .int (iI (bI (¬ X_isOp (so cur) ∧ pile = 16)))), (6, .int (iI (bI ((so cur) = 64 ∧ (X_vl ct cur < 1 ∨ d 4 0 < X_vl ct cur))))), (5, .int (iI (X_vl ct cur))), (4, .int (iI (so cur))), (3, .int (iI (pl cur))), (0, .ref 496), (1, .ref a), (2, .int (iI pile))]) (st' := []) rfl ?_
              refine T_p xr_75_159 xn_75 (pc' := 161) (ls' := [(8, .int (iI (bI (X_isOp (so cur) ∧ pile < 2)))), (7, .int (iI (bI (¬ X_isOp (so cur) ∧ pile = 16)))), (6, .int (iI (bI ((so cur) = 64 ∧ (X_vl ct cur < 1 ∨ d 4 0 < X_vl ct cur))))), (5, .int (iI (X_vl ct cur))), (4, .int (iI (so cur))), (3, .int (iI (pl cur))), (0, .ref 496), (1, .ref a), (2, .int (iI pile))]) (st' := [.int (iI (bI ((so cur) = 64 ∧ (X_vl ct cur < 1 ∨ d 4 0 < X_vl ct cur))))]) rfl ?_
              refine T_bif_ne xr_75_161 (t := 174) (pc' := 164) rfl rfl (fun c1721 => ?_) (fun c1721 => ?_)
              · skip
                have c1721 : ((so cur) = 64 ∧ (X_vl ct cur < 1 ∨ d 4 0 < X_vl ct cur)) := c1721
                refine T_p xr_75_174 xn_75 (pc' := 175) (ls' := [(8, .int (iI (bI (X_isOp (so cur) ∧ pile < 2)))), (7, .int (iI (bI (¬ X_isOp (so cur) ∧ pile = 16)))), (6, .int (iI (bI ((so cur) = 64 ∧ (X_vl ct cur < 1 ∨ d 4 0 < X_vl ct cur))))), (5, .int (iI (X_vl ct cur))), (4, .int (iI (so cur))), (3, .int (iI (pl cur))), (0, .ref 496), (1, .ref a), (2, .int (iI pile))]) (st' := [.ref 496]) rfl ?_
                refine T_p xr_75_175 xn_75 (pc' := 176) (ls' := [(8, .int (iI (bI (X_isOp (so cur) ∧ pile < 2)))), (7, .int (iI (bI (¬ X_isOp (so cur) ∧ pile = 16)))), (6, .int (iI (bI ((so cur) = 64 ∧ (X_vl ct cur < 1 ∨ d 4 0 < X_vl ct cur))))), (5, .int (iI (X_vl ct cur))), (4, .int (iI (so cur))), (3, .int (iI (pl cur))), (0, .ref 496), (1, .ref a), (2, .int (iI pile))]) (st' := [.int (iI 5), .ref 496]) rfl ?_
                refine T_p xr_75_176 xn_75 (pc' := 177) (ls' := [(8, .int (iI (bI (X_isOp (so cur) ∧ pile < 2)))), (7, .int (iI (bI (¬ X_isOp (so cur) ∧ pile = 16)))), (6, .int (iI (bI ((so cur) = 64 ∧ (X_vl ct cur < 1 ∨ d 4 0 < X_vl ct cur))))), (5, .int (iI (X_vl ct cur))), (4, .int (iI (so cur))), (3, .int (iI (pl cur))), (0, .ref 496), (1, .ref a), (2, .int (iI pile))]) (st' := [.int (iI (pl cur)), .int (iI 5), .ref 496]) rfl ?_
                refine T_cv (S := S) (q := 496) xr_75_177 xf_62.1 xf_62.2.1 xn_62 (as := [.int (iI 5), .int (iI (pl cur))]) (r := []) rfl hp (Nat.le_of_ble_eq_true rfl) (Nat.le_of_ble_eq_true rfl) (pc' := 180) rfl (ls' := [(0, .ref 496), (1, .int (iI 5)), (2, .int (iI (pl cur)))]) rfl ?_
                refine T_p xr_62_0 xn_62 (pc' := 1) (ls' := [(0, .ref 496), (1, .int (iI 5)), (2, .int (iI (pl cur)))]) (st' := [.ref 496]) rfl ?_
                refine T_p xr_62_1 xn_62 (pc' := 2) (ls' := [(0, .ref 496), (1, .int (iI 5)), (2, .int (iI (pl cur)))]) (st' := [.int (iI 5), .ref 496]) rfl ?_
                refine T_put xr_62_2 hp rfl (Nat.le_of_ble_eq_true rfl) rfl (fs' := [.ref 497, .ref B, .int (iI 5), .int (iI fp)]) rfl (pc' := 5) rfl (fun S1722 h1723 n1724 e1725 => ?_)
                refine T_p xr_62_5 xn_62 (pc' := 6) (ls' := [(0, .ref 496), (1, .int (iI 5)), (2, .int (iI (pl cur)))]) (st' := [.ref 496]) rfl ?_
                refine T_p xr_62_6 xn_62 (pc' := 7) (ls' := [(0, .ref 496), (1, .int (iI 5)), (2, .int (iI (pl cur)))]) (st' := [.int (iI (pl cur)), .ref 496]) rfl ?_
                refine T_put xr_62_7 h1723 rfl (Nat.le_of_ble_eq_true rfl) rfl (fs' := [.ref 497, .ref B, .int (iI 5), .int (iI (pl cur))]) rfl (pc' := 10) rfl (fun S1726 h1727 n1728 e1729 => ?_)
                refine T_vret xr_62_10 xf_62.2.2 ?_
                show X_T sc 75 (180, [(8, .int (iI (bI (X_isOp (so cur) ∧ pile < 2)))), (7, .int (iI (bI (¬ X_isOp (so cur) ∧ pile = 16)))), (6, .int (iI (bI ((so cur) = 64 ∧ (X_vl ct cur < 1 ∨ d 4 0 < X_vl ct cur))))), (5, .int (iI (X_vl ct cur))), (4, .int (iI (so cur))), (3, .int (iI (pl cur))), (0, .ref 496), (1, .ref a), (2, .int (iI pile))], [], S1726) _
                refine T_p xr_75_180 xn_75 (pc' := 181) (ls' := [(8, .int (iI (bI (X_isOp (so cur) ∧ pile < 2)))), (7, .int (iI (bI (¬ X_isOp (so cur) ∧ pile = 16)))), (6, .int (iI (bI ((so cur) = 64 ∧ (X_vl ct cur < 1 ∨ d 4 0 < X_vl ct cur))))), (5, .int (iI (X_vl ct cur))), (4, .int (iI (so cur))), (3, .int (iI (pl cur))), (0, .ref 496), (1, .ref a), (2, .int (iI pile))]) (st' := [.int (iI (-1))]) rfl ?_
                refine T_iret xr_75_181 xf_75.2.2 rfl ?_
                refine hQ _ _ ?_
                have h1730 := (n1728 497 (by decide)).trans ((n1724 497 (by decide)).trans (hx.1))
                have h1731 := (n1728 a (by omega)).trans ((n1724 a (by omega)).trans (hw.1))
                have h1732 := (n1728 (a + 1) (by omega)).trans ((n1724 (a + 1) (by omega)).trans (hw.2.1))
                have h1733 := (n1728 (a + 2) (by omega)).trans ((n1724 (a + 2) (by omega)).trans (hw.2.2.1))
                have h1734 := (n1728 (a + 3) (by omega)).trans ((n1724 (a + 3) (by omega)).trans (hw.2.2.2.1))
                have h1735 := (n1728 (a + 4) (by omega)).trans ((n1724 (a + 4) (by omega)).trans (hw.2.2.2.2.1))
                have h1736 := (n1728 (a + 5) (by omega)).trans ((n1724 (a + 5) (by omega)).trans (hw.2.2.2.2.2.1))
                have h1737 := (n1728 (a + 6) (by omega)).trans ((n1724 (a + 6) (by omega)).trans (hw.2.2.2.2.2.2.1))
                have h1738 := (n1728 (a + 7) (by omega)).trans ((n1724 (a + 7) (by omega)).trans (hw.2.2.2.2.2.2.2))
                refine Or.inr ⟨rfl, ?_, ⟨_, _, by omega, h1727⟩, ⟨cur, h1730, by omega⟩, ⟨h1731, h1732, h1733, h1734, h1735, h1736, h1737, h1738⟩, ((X_Fr.rf).tr (X_Fr.of n1724 e1725 (by omega))).tr (X_Fr.of n1728 e1729 (by omega))⟩
                unfold sp_step sp_stF
                (repeat (first | rw [if_pos (by assumption)] | rw [if_neg (by assumption)]))
                all_goals first | rfl | ((repeat' split) <;> first | rfl | (exfalso; omega))
              · skip
                have c1721 : ¬ ((so cur) = 64 ∧ (X_vl ct cur < 1 ∨ d 4 0 < X_vl ct cur)) := c1721
                refine T_p xr_75_164 xn_75 (pc' := 166) (ls' := [(8, .int (iI (bI (X_isOp (so cur) ∧ pile < 2)))), (7, .int (iI (bI (¬ X_isOp (so cur) ∧ pile = 16)))), (6, .int (iI (bI ((so cur) = 64 ∧ (X_vl ct cur < 1 ∨ d 4 0 < X_vl ct cur))))), (5, .int (iI (X_vl ct cur))), (4, .int (iI (so cur))), (3, .int (iI (pl cur))), (0, .ref 496), (1, .ref a), (2, .int (iI pile))]) (st' := [.int (iI (bI (¬ X_isOp (so cur) ∧ pile = 16)))]) rfl ?_
                refine T_bif_ne xr_75_166 (t := 174) (pc' := 169) rfl rfl (fun c1739 => ?_) (fun c1739 => ?_)
                · skip
                  have c1739 : (¬ X_isOp (so cur) ∧ pile = 16) := c1739
                  refine T_p xr_75_174 xn_75 (pc' := 175) (ls' := [(8, .int (iI (bI (X_isOp (so cur) ∧ pile < 2)))), (7, .int (iI (bI (¬ X_isOp (so cur) ∧ pile = 16)))), (6, .int (iI (bI ((so cur) = 64 ∧ (X_vl ct cur < 1 ∨ d 4 0 < X_vl ct cur))))), (5, .int (iI (X_vl ct cur))), (4, .int (iI (so cur))), (3, .int (iI (pl cur))), (0, .ref 496), (1, .ref a), (2, .int (iI pile))]) (st' := [.ref 496]) rfl ?_
                  refine T_p xr_75_175 xn_75 (pc' := 176) (ls' := [(8, .int (iI (bI (X_isOp (so cur) ∧ pile < 2)))), (7, .int (iI (bI (¬ X_isOp (so cur) ∧ pile = 16)))), (6, .int (iI (bI ((so cur) = 64 ∧ (X_vl ct cur < 1 ∨ d 4 0 < X_vl ct cur))))), (5, .int (iI (X_vl ct cur))), (4, .int (iI (so cur))), (3, .int (iI (pl cur))), (0, .ref 496), (1, .ref a), (2, .int (iI pile))]) (st' := [.int (iI 5), .ref 496]) rfl ?_
                  refine T_p xr_75_176 xn_75 (pc' := 177) (ls' := [(8, .int (iI (bI (X_isOp (so cur) ∧ pile < 2)))), (7, .int (iI (bI (¬ X_isOp (so cur) ∧ pile = 16)))), (6, .int (iI (bI ((so cur) = 64 ∧ (X_vl ct cur < 1 ∨ d 4 0 < X_vl ct cur))))), (5, .int (iI (X_vl ct cur))), (4, .int (iI (so cur))), (3, .int (iI (pl cur))), (0, .ref 496), (1, .ref a), (2, .int (iI pile))]) (st' := [.int (iI (pl cur)), .int (iI 5), .ref 496]) rfl ?_
                  refine T_cv (S := S) (q := 496) xr_75_177 xf_62.1 xf_62.2.1 xn_62 (as := [.int (iI 5), .int (iI (pl cur))]) (r := []) rfl hp (Nat.le_of_ble_eq_true rfl) (Nat.le_of_ble_eq_true rfl) (pc' := 180) rfl (ls' := [(0, .ref 496), (1, .int (iI 5)), (2, .int (iI (pl cur)))]) rfl ?_
                  refine T_p xr_62_0 xn_62 (pc' := 1) (ls' := [(0, .ref 496), (1, .int (iI 5)), (2, .int (iI (pl cur)))]) (st' := [.ref 496]) rfl ?_
                  refine T_p xr_62_1 xn_62 (pc' := 2) (ls' := [(0, .ref 496), (1, .int (iI 5)), (2, .int (iI (pl cur)))]) (st' := [.int (iI 5), .ref 496]) rfl ?_
                  refine T_put xr_62_2 hp rfl (Nat.le_of_ble_eq_true rfl) rfl (fs' := [.ref 497, .ref B, .int (iI 5), .int (iI fp)]) rfl (pc' := 5) rfl (fun S1740 h1741 n1742 e1743 => ?_)
                  refine T_p xr_62_5 xn_62 (pc' := 6) (ls' := [(0, .ref 496), (1, .int (iI 5)), (2, .int (iI (pl cur)))]) (st' := [.ref 496]) rfl ?_
                  refine T_p xr_62_6 xn_62 (pc' := 7) (ls' := [(0, .ref 496), (1, .int (iI 5)), (2, .int (iI (pl cur)))]) (st' := [.int (iI (pl cur)), .ref 496]) rfl ?_
                  refine T_put xr_62_7 h1741 rfl (Nat.le_of_ble_eq_true rfl) rfl (fs' := [.ref 497, .ref B, .int (iI 5), .int (iI (pl cur))]) rfl (pc' := 10) rfl (fun S1744 h1745 n1746 e1747 => ?_)
                  refine T_vret xr_62_10 xf_62.2.2 ?_
                  show X_T sc 75 (180, [(8, .int (iI (bI (X_isOp (so cur) ∧ pile < 2)))), (7, .int (iI (bI (¬ X_isOp (so cur) ∧ pile = 16)))), (6, .int (iI (bI ((so cur) = 64 ∧ (X_vl ct cur < 1 ∨ d 4 0 < X_vl ct cur))))), (5, .int (iI (X_vl ct cur))), (4, .int (iI (so cur))), (3, .int (iI (pl cur))), (0, .ref 496), (1, .ref a), (2, .int (iI pile))], [], S1744) _
                  refine T_p xr_75_180 xn_75 (pc' := 181) (ls' := [(8, .int (iI (bI (X_isOp (so cur) ∧ pile < 2)))), (7, .int (iI (bI (¬ X_isOp (so cur) ∧ pile = 16)))), (6, .int (iI (bI ((so cur) = 64 ∧ (X_vl ct cur < 1 ∨ d 4 0 < X_vl ct cur))))), (5, .int (iI (X_vl ct cur))), (4, .int (iI (so cur))), (3, .int (iI (pl cur))), (0, .ref 496), (1, .ref a), (2, .int (iI pile))]) (st' := [.int (iI (-1))]) rfl ?_
                  refine T_iret xr_75_181 xf_75.2.2 rfl ?_
                  refine hQ _ _ ?_
                  have h1748 := (n1746 497 (by decide)).trans ((n1742 497 (by decide)).trans (hx.1))
                  have h1749 := (n1746 a (by omega)).trans ((n1742 a (by omega)).trans (hw.1))
                  have h1750 := (n1746 (a + 1) (by omega)).trans ((n1742 (a + 1) (by omega)).trans (hw.2.1))
                  have h1751 := (n1746 (a + 2) (by omega)).trans ((n1742 (a + 2) (by omega)).trans (hw.2.2.1))
                  have h1752 := (n1746 (a + 3) (by omega)).trans ((n1742 (a + 3) (by omega)).trans (hw.2.2.2.1))
                  have h1753 := (n1746 (a + 4) (by omega)).trans ((n1742 (a + 4) (by omega)).trans (hw.2.2.2.2.1))
                  have h1754 := (n1746 (a + 5) (by omega)).trans ((n1742 (a + 5) (by omega)).trans (hw.2.2.2.2.2.1))
                  have h1755 := (n1746 (a + 6) (by omega)).trans ((n1742 (a + 6) (by omega)).trans (hw.2.2.2.2.2.2.1))
                  have h1756 := (n1746 (a + 7) (by omega)).trans ((n1742 (a + 7) (by omega)).trans (hw.2.2.2.2.2.2.2))
                  refine Or.inr ⟨rfl, ?_, ⟨_, _, by omega, h1745⟩, ⟨cur, h1748, by omega⟩, ⟨h1749, h1750, h1751, h1752, h1753, h1754, h1755, h1756⟩, ((X_Fr.rf).tr (X_Fr.of n1742 e1743 (by omega))).tr (X_Fr.of n1746 e1747 (by omega))⟩
                  unfold sp_step sp_stF
                  (repeat (first | rw [if_pos (by assumption)] | rw [if_neg (by assumption)]))
                  all_goals first | rfl | ((repeat' split) <;> first | rfl | (exfalso; omega))
                · skip
                  have c1739 : ¬ (¬ X_isOp (so cur) ∧ pile = 16) := c1739
                  refine T_p xr_75_169 xn_75 (pc' := 171) (ls' := [(8, .int (iI (bI (X_isOp (so cur) ∧ pile < 2)))), (7, .int (iI (bI (¬ X_isOp (so cur) ∧ pile = 16)))), (6, .int (iI (bI ((so cur) = 64 ∧ (X_vl ct cur < 1 ∨ d 4 0 < X_vl ct cur))))), (5, .int (iI (X_vl ct cur))), (4, .int (iI (so cur))), (3, .int (iI (pl cur))), (0, .ref 496), (1, .ref a), (2, .int (iI pile))]) (st' := [.int (iI (bI (X_isOp (so cur) ∧ pile < 2)))]) rfl ?_
                  refine T_bif_eq xr_75_171 (t := 182) (pc' := 174) rfl rfl (fun c1757 => ?_) (fun c1757 => ?_)
                  · skip
                    have c1757 : ¬ (X_isOp (so cur) ∧ pile < 2) := c1757
                    refine T_p xr_75_182 xn_75 (pc' := 183) (ls' := [(8, .int (iI (bI (X_isOp (so cur) ∧ pile < 2)))), (7, .int (iI (bI (¬ X_isOp (so cur) ∧ pile = 16)))), (6, .int (iI (bI ((so cur) = 64 ∧ (X_vl ct cur < 1 ∨ d 4 0 < X_vl ct cur))))), (5, .int (iI (X_vl ct cur))), (4, .int (iI (so cur))), (3, .int (iI (pl cur))), (0, .ref 496), (1, .ref a), (2, .int (iI pile))]) (st' := [.ref a]) rfl ?_
                    refine T_p xr_75_183 xn_75 (pc' := 185) (ls' := [(8, .int (iI (bI (X_isOp (so cur) ∧ pile < 2)))), (7, .int (iI (bI (¬ X_isOp (so cur) ∧ pile = 16)))), (6, .int (iI (bI ((so cur) = 64 ∧ (X_vl ct cur < 1 ∨ d 4 0 < X_vl ct cur))))), (5, .int (iI (X_vl ct cur))), (4, .int (iI (so cur))), (3, .int (iI (pl cur))), (0, .ref 496), (1, .ref a), (2, .int (iI pile))]) (st' := [.int (iI (so cur)), .ref a]) rfl ?_
                    refine T_p xr_75_185 xn_75 (pc' := 187) (ls' := [(8, .int (iI (bI (X_isOp (so cur) ∧ pile < 2)))), (7, .int (iI (bI (¬ X_isOp (so cur) ∧ pile = 16)))), (6, .int (iI (bI ((so cur) = 64 ∧ (X_vl ct cur < 1 ∨ d 4 0 < X_vl ct cur))))), (5, .int (iI (X_vl ct cur))), (4, .int (iI (so cur))), (3, .int (iI (pl cur))), (0, .ref 496), (1, .ref a), (2, .int (iI pile))]) (st' := [.int (iI (X_vl ct cur)), .int (iI (so cur)), .ref a]) rfl ?_
                    refine T_cv (S := S) (q := a) xr_75_187 xf_94.1 xf_94.2.1 xn_94 (as := [.int (iI (so cur)), .int (iI (X_vl ct cur))]) (r := []) rfl hw.1 (Nat.le_of_ble_eq_true rfl) (Nat.le_of_ble_eq_true rfl) (pc' := 190) rfl (ls' := [(0, .ref a), (1, .int (iI (so cur))), (2, .int (iI (X_vl ct cur)))]) rfl ?_
                    have hr1764 : X_wr (X_aS d (so cur) (X_vl ct cur)) := X_wr_S hr (by omega)
                    refine T_mono (c_addStep sc S a d q (so cur) (X_vl ct cur) ⟨hw.1, hw.2.1, hw.2.2.1, hw.2.2.2.1, hw.2.2.2.2.1, hw.2.2.2.2.2.1, hw.2.2.2.2.2.2.1, hw.2.2.2.2.2.2.2⟩ hr (by omega)) (fun v1758 S1759 h1760 => ?_)
                    obtain ⟨h1761, hw1762, hf1763⟩ := h1760
                    rw [h1761]
                    have hw1762 : C_wd S1759 a (X_aS d (so cur) (X_vl ct cur)) q := hw1762
                    show X_T sc 75 (190, [(8, .int (iI (bI (X_isOp (so cur) ∧ pile < 2)))), (7, .int (iI (bI (¬ X_isOp (so cur) ∧ pile = 16)))), (6, .int (iI (bI ((so cur) = 64 ∧ (X_vl ct cur < 1 ∨ d 4 0 < X_vl ct cur))))), (5, .int (iI (X_vl ct cur))), (4, .int (iI (so cur))), (3, .int (iI (pl cur))), (0, .ref 496), (1, .ref a), (2, .int (iI pile))], [], S1759) _
                    refine T_p xr_75_190 xn_75 (pc' := 191) (ls' := [(8, .int (iI (bI (X_isOp (so cur) ∧ pile < 2)))), (7, .int (iI (bI (¬ X_isOp (so cur) ∧ pile = 16)))), (6, .int (iI (bI ((so cur) = 64 ∧ (X_vl ct cur < 1 ∨ d 4 0 < X_vl ct cur))))), (5, .int (iI (X_vl ct cur))), (4, .int (iI (so cur))), (3, .int (iI (pl cur))), (0, .ref 496), (1, .ref a), (2, .int (iI pile))]) (st' := [.ref 496]) rfl ?_
                    have h1765 := (hf1763.1 496 (by omega)).trans (hp)
                    refine T_get xr_75_191 h1765 rfl (v := .ref 497) rfl (pc' := 194) rfl ?_
                    have h1766 := (hf1763.1 497 (by omega)).trans (hx.1)
                    refine T_cv (S := S1759) (q := 497) xr_75_194 xf_48.1 xf_48.2.1 xn_48 (as := []) (r := []) rfl h1766 (Nat.le_of_ble_eq_true rfl) (Nat.le_of_ble_eq_true rfl) (pc' := 197) rfl (ls' := [(0, .ref 497)]) rfl ?_
                    have h1767 := (hf1763.1 498 (by omega)).trans (hx.2.1)
                    have h1768 := (hf1763.1 499 (by omega)).trans (hx.2.2.1)
                    have h1769 := (hf1763.1 500 (by omega)).trans (hx.2.2.2)
                    refine T_mono (c_advance sc S1759 at_ n cur so pl ct ⟨h1766, h1767, h1768, h1769⟩ (by omega)) (fun v1771 S1772 h1770 => ?_)
                    obtain ⟨h1773, h1775, h1774⟩ := h1770
                    rw [h1773]
                    show X_T sc 75 (197, [(8, .int (iI (bI (X_isOp (so cur) ∧ pile < 2)))), (7, .int (iI (bI (¬ X_isOp (so cur) ∧ pile = 16)))), (6, .int (iI (bI ((so cur) = 64 ∧ (X_vl ct cur < 1 ∨ d 4 0 < X_vl ct cur))))), (5, .int (iI (X_vl ct cur))), (4, .int (iI (so cur))), (3, .int (iI (pl cur))), (0, .ref 496), (1, .ref a), (2, .int (iI pile))], [], S1772) _
                    have hv1776 := X_av_r (n := n) (c := cur) (by omega)
                    refine T_p xr_75_197 xn_75 (pc' := 199) (ls' := [(8, .int (iI (bI (X_isOp (so cur) ∧ pile < 2)))), (7, .int (iI (bI (¬ X_isOp (so cur) ∧ pile = 16)))), (6, .int (iI (bI ((so cur) = 64 ∧ (X_vl ct cur < 1 ∨ d 4 0 < X_vl ct cur))))), (5, .int (iI (X_vl ct cur))), (4, .int (iI (so cur))), (3, .int (iI (pl cur))), (0, .ref 496), (1, .ref a), (2, .int (iI pile))]) (st' := [.int (iI (so cur))]) rfl ?_
                    refine T_cs xr_75_199 (by decide) xf_77.1 xn_77 (as := [.int (iI (so cur))]) (r := []) rfl (Nat.le_of_ble_eq_true rfl) (Nat.le_of_ble_eq_true rfl) (pc' := 202) rfl (ls' := [(0, .int (iI (so cur)))]) rfl ?_
                    refine T_mono (c_isOperation sc S1772 (so cur) (by omega)) (fun v1778 S1779 h1777 => ?_)
                    obtain ⟨h1780, h1781⟩ := h1777
                    rw [h1780, h1781]
                    show X_T sc 75 (202, [(8, .int (iI (bI (X_isOp (so cur) ∧ pile < 2)))), (7, .int (iI (bI (¬ X_isOp (so cur) ∧ pile = 16)))), (6, .int (iI (bI ((so cur) = 64 ∧ (X_vl ct cur < 1 ∨ d 4 0 < X_vl ct cur))))), (5, .int (iI (X_vl ct cur))), (4, .int (iI (so cur))), (3, .int (iI (pl cur))), (0, .ref 496), (1, .ref a), (2, .int (iI pile))], [.int (iI (bI (X_isOp (so cur))))], S1772) _
                    refine T_bif_eq xr_75_202 (t := 211) (pc' := 205) rfl rfl (fun c1782 => ?_) (fun c1782 => ?_)
                    · skip
                      have c1782 : ¬ (X_isOp (so cur)) := c1782
                      refine T_p xr_75_211 xn_75 (pc' := 212) (ls' := [(8, .int (iI (bI (X_isOp (so cur) ∧ pile < 2)))), (7, .int (iI (bI (¬ X_isOp (so cur) ∧ pile = 16)))), (6, .int (iI (bI ((so cur) = 64 ∧ (X_vl ct cur < 1 ∨ d 4 0 < X_vl ct cur))))), (5, .int (iI (X_vl ct cur))), (4, .int (iI (so cur))), (3, .int (iI (pl cur))), (0, .ref 496), (1, .ref a), (2, .int (iI pile))]) (st' := [.int (iI pile)]) rfl ?_
                      refine T_p xr_75_212 xn_75 (pc' := 213) (ls' := [(8, .int (iI (bI (X_isOp (so cur) ∧ pile < 2)))), (7, .int (iI (bI (¬ X_isOp (so cur) ∧ pile = 16)))), (6, .int (iI (bI ((so cur) = 64 ∧ (X_vl ct cur < 1 ∨ d 4 0 < X_vl ct cur))))), (5, .int (iI (X_vl ct cur))), (4, .int (iI (so cur))), (3, .int (iI (pl cur))), (0, .ref 496), (1, .ref a), (2, .int (iI pile))]) (st' := [.int (iI 1), .int (iI pile)]) rfl ?_
                      refine T_ziadd xr_75_213 (z := pile + 1) rfl (pc' := 214) rfl ?_
                      refine T_iret xr_75_214 xf_75.2.2 rfl ?_
                      refine hQ _ _ ?_
                      have h1783 := (h1774.1 496 (by omega)).trans (h1765)
                      have h1784 := (h1774.1 a (by omega)).trans (hw1762.1)
                      have h1785 := (h1774.1 (a + 1) (by omega)).trans (hw1762.2.1)
                      have h1786 := (h1774.1 (a + 2) (by omega)).trans (hw1762.2.2.1)
                      have h1787 := (h1774.1 (a + 3) (by omega)).trans (hw1762.2.2.2.1)
                      have h1788 := (h1774.1 (a + 4) (by omega)).trans (hw1762.2.2.2.2.1)
                      have h1789 := (h1774.1 (a + 5) (by omega)).trans (hw1762.2.2.2.2.2.1)
                      have h1790 := (h1774.1 (a + 6) (by omega)).trans (hw1762.2.2.2.2.2.2.1)
                      have h1791 := (h1774.1 (a + 7) (by omega)).trans (hw1762.2.2.2.2.2.2.2)
                      refine Or.inl ⟨X_av n cur, X_aS d (so cur) (X_vl ct cur), pile + 1, rfl, ?_, h1783, h1775, by omega, ⟨h1784, h1785, h1786, h1787, h1788, h1789, h1790, h1791⟩, hr1764, ((X_Fr.rf).tr (X_Fr.mono ⟨hf1763.1, hf1763.2⟩ (fun q hq => (by omega)))).tr (X_Fr.mono ⟨h1774.1, h1774.2⟩ (fun q hq => (by omega)))⟩
                      unfold sp_step sp_stF
                      (repeat (first | rw [if_pos (by assumption)] | rw [if_neg (by assumption)]))
                      all_goals first | rfl | ((repeat' split) <;> first | rfl | (exfalso; omega))
                    · skip
                      have c1782 : (X_isOp (so cur)) := c1782
                      refine T_p xr_75_205 xn_75 (pc' := 206) (ls' := [(8, .int (iI (bI (X_isOp (so cur) ∧ pile < 2)))), (7, .int (iI (bI (¬ X_isOp (so cur) ∧ pile = 16)))), (6, .int (iI (bI ((so cur) = 64 ∧ (X_vl ct cur < 1 ∨ d 4 0 < X_vl ct cur))))), (5, .int (iI (X_vl ct cur))), (4, .int (iI (so cur))), (3, .int (iI (pl cur))), (0, .ref 496), (1, .ref a), (2, .int (iI pile))]) (st' := [.int (iI pile)]) rfl ?_
                      refine T_p xr_75_206 xn_75 (pc' := 207) (ls' := [(8, .int (iI (bI (X_isOp (so cur) ∧ pile < 2)))), (7, .int (iI (bI (¬ X_isOp (so cur) ∧ pile = 16)))), (6, .int (iI (bI ((so cur) = 64 ∧ (X_vl ct cur < 1 ∨ d 4 0 < X_vl ct cur))))), (5, .int (iI (X_vl ct cur))), (4, .int (iI (so cur))), (3, .int (iI (pl cur))), (0, .ref 496), (1, .ref a), (2, .int (iI pile))]) (st' := [.int (iI 1), .int (iI pile)]) rfl ?_
                      refine T_zisub xr_75_207 (z := pile - 1) rfl (pc' := 208) rfl ?_
                      refine T_p xr_75_208 xn_75 (pc' := 214) (ls' := [(8, .int (iI (bI (X_isOp (so cur) ∧ pile < 2)))), (7, .int (iI (bI (¬ X_isOp (so cur) ∧ pile = 16)))), (6, .int (iI (bI ((so cur) = 64 ∧ (X_vl ct cur < 1 ∨ d 4 0 < X_vl ct cur))))), (5, .int (iI (X_vl ct cur))), (4, .int (iI (so cur))), (3, .int (iI (pl cur))), (0, .ref 496), (1, .ref a), (2, .int (iI pile))]) (st' := [.int (iI (pile - 1))]) rfl ?_
                      refine T_iret xr_75_214 xf_75.2.2 rfl ?_
                      refine hQ _ _ ?_
                      have h1792 := (h1774.1 496 (by omega)).trans (h1765)
                      have h1793 := (h1774.1 a (by omega)).trans (hw1762.1)
                      have h1794 := (h1774.1 (a + 1) (by omega)).trans (hw1762.2.1)
                      have h1795 := (h1774.1 (a + 2) (by omega)).trans (hw1762.2.2.1)
                      have h1796 := (h1774.1 (a + 3) (by omega)).trans (hw1762.2.2.2.1)
                      have h1797 := (h1774.1 (a + 4) (by omega)).trans (hw1762.2.2.2.2.1)
                      have h1798 := (h1774.1 (a + 5) (by omega)).trans (hw1762.2.2.2.2.2.1)
                      have h1799 := (h1774.1 (a + 6) (by omega)).trans (hw1762.2.2.2.2.2.2.1)
                      have h1800 := (h1774.1 (a + 7) (by omega)).trans (hw1762.2.2.2.2.2.2.2)
                      refine Or.inl ⟨X_av n cur, X_aS d (so cur) (X_vl ct cur), pile - 1, rfl, ?_, h1792, h1775, by omega, ⟨h1793, h1794, h1795, h1796, h1797, h1798, h1799, h1800⟩, hr1764, ((X_Fr.rf).tr (X_Fr.mono ⟨hf1763.1, hf1763.2⟩ (fun q hq => (by omega)))).tr (X_Fr.mono ⟨h1774.1, h1774.2⟩ (fun q hq => (by omega)))⟩
                      unfold sp_step sp_stF
                      (repeat (first | rw [if_pos (by assumption)] | rw [if_neg (by assumption)]))
                      all_goals first | rfl | ((repeat' split) <;> first | rfl | (exfalso; omega))
                  · skip
                    have c1757 : (X_isOp (so cur) ∧ pile < 2) := c1757
                    refine T_p xr_75_174 xn_75 (pc' := 175) (ls' := [(8, .int (iI (bI (X_isOp (so cur) ∧ pile < 2)))), (7, .int (iI (bI (¬ X_isOp (so cur) ∧ pile = 16)))), (6, .int (iI (bI ((so cur) = 64 ∧ (X_vl ct cur < 1 ∨ d 4 0 < X_vl ct cur))))), (5, .int (iI (X_vl ct cur))), (4, .int (iI (so cur))), (3, .int (iI (pl cur))), (0, .ref 496), (1, .ref a), (2, .int (iI pile))]) (st' := [.ref 496]) rfl ?_
                    refine T_p xr_75_175 xn_75 (pc' := 176) (ls' := [(8, .int (iI (bI (X_isOp (so cur) ∧ pile < 2)))), (7, .int (iI (bI (¬ X_isOp (so cur) ∧ pile = 16)))), (6, .int (iI (bI ((so cur) = 64 ∧ (X_vl ct cur < 1 ∨ d 4 0 < X_vl ct cur))))), (5, .int (iI (X_vl ct cur))), (4, .int (iI (so cur))), (3, .int (iI (pl cur))), (0, .ref 496), (1, .ref a), (2, .int (iI pile))]) (st' := [.int (iI 5), .ref 496]) rfl ?_
                    refine T_p xr_75_176 xn_75 (pc' := 177) (ls' := [(8, .int (iI (bI (X_isOp (so cur) ∧ pile < 2)))), (7, .int (iI (bI (¬ X_isOp (so cur) ∧ pile = 16)))), (6, .int (iI (bI ((so cur) = 64 ∧ (X_vl ct cur < 1 ∨ d 4 0 < X_vl ct cur))))), (5, .int (iI (X_vl ct cur))), (4, .int (iI (so cur))), (3, .int (iI (pl cur))), (0, .ref 496), (1, .ref a), (2, .int (iI pile))]) (st' := [.int (iI (pl cur)), .int (iI 5), .ref 496]) rfl ?_
                    refine T_cv (S := S) (q := 496) xr_75_177 xf_62.1 xf_62.2.1 xn_62 (as := [.int (iI 5), .int (iI (pl cur))]) (r := []) rfl hp (Nat.le_of_ble_eq_true rfl) (Nat.le_of_ble_eq_true rfl) (pc' := 180) rfl (ls' := [(0, .ref 496), (1, .int (iI 5)), (2, .int (iI (pl cur)))]) rfl ?_
                    refine T_p xr_62_0 xn_62 (pc' := 1) (ls' := [(0, .ref 496), (1, .int (iI 5)), (2, .int (iI (pl cur)))]) (st' := [.ref 496]) rfl ?_
                    refine T_p xr_62_1 xn_62 (pc' := 2) (ls' := [(0, .ref 496), (1, .int (iI 5)), (2, .int (iI (pl cur)))]) (st' := [.int (iI 5), .ref 496]) rfl ?_
                    refine T_put xr_62_2 hp rfl (Nat.le_of_ble_eq_true rfl) rfl (fs' := [.ref 497, .ref B, .int (iI 5), .int (iI fp)]) rfl (pc' := 5) rfl (fun S1801 h1802 n1803 e1804 => ?_)
                    refine T_p xr_62_5 xn_62 (pc' := 6) (ls' := [(0, .ref 496), (1, .int (iI 5)), (2, .int (iI (pl cur)))]) (st' := [.ref 496]) rfl ?_
                    refine T_p xr_62_6 xn_62 (pc' := 7) (ls' := [(0, .ref 496), (1, .int (iI 5)), (2, .int (iI (pl cur)))]) (st' := [.int (iI (pl cur)), .ref 496]) rfl ?_
                    refine T_put xr_62_7 h1802 rfl (Nat.le_of_ble_eq_true rfl) rfl (fs' := [.ref 497, .ref B, .int (iI 5), .int (iI (pl cur))]) rfl (pc' := 10) rfl (fun S1805 h1806 n1807 e1808 => ?_)
                    refine T_vret xr_62_10 xf_62.2.2 ?_
                    show X_T sc 75 (180, [(8, .int (iI (bI (X_isOp (so cur) ∧ pile < 2)))), (7, .int (iI (bI (¬ X_isOp (so cur) ∧ pile = 16)))), (6, .int (iI (bI ((so cur) = 64 ∧ (X_vl ct cur < 1 ∨ d 4 0 < X_vl ct cur))))), (5, .int (iI (X_vl ct cur))), (4, .int (iI (so cur))), (3, .int (iI (pl cur))), (0, .ref 496), (1, .ref a), (2, .int (iI pile))], [], S1805) _
                    refine T_p xr_75_180 xn_75 (pc' := 181) (ls' := [(8, .int (iI (bI (X_isOp (so cur) ∧ pile < 2)))), (7, .int (iI (bI (¬ X_isOp (so cur) ∧ pile = 16)))), (6, .int (iI (bI ((so cur) = 64 ∧ (X_vl ct cur < 1 ∨ d 4 0 < X_vl ct cur))))), (5, .int (iI (X_vl ct cur))), (4, .int (iI (so cur))), (3, .int (iI (pl cur))), (0, .ref 496), (1, .ref a), (2, .int (iI pile))]) (st' := [.int (iI (-1))]) rfl ?_
                    refine T_iret xr_75_181 xf_75.2.2 rfl ?_
                    refine hQ _ _ ?_
                    have h1809 := (n1807 497 (by decide)).trans ((n1803 497 (by decide)).trans (hx.1))
                    have h1810 := (n1807 a (by omega)).trans ((n1803 a (by omega)).trans (hw.1))
                    have h1811 := (n1807 (a + 1) (by omega)).trans ((n1803 (a + 1) (by omega)).trans (hw.2.1))
                    have h1812 := (n1807 (a + 2) (by omega)).trans ((n1803 (a + 2) (by omega)).trans (hw.2.2.1))
                    have h1813 := (n1807 (a + 3) (by omega)).trans ((n1803 (a + 3) (by omega)).trans (hw.2.2.2.1))
                    have h1814 := (n1807 (a + 4) (by omega)).trans ((n1803 (a + 4) (by omega)).trans (hw.2.2.2.2.1))
                    have h1815 := (n1807 (a + 5) (by omega)).trans ((n1803 (a + 5) (by omega)).trans (hw.2.2.2.2.2.1))
                    have h1816 := (n1807 (a + 6) (by omega)).trans ((n1803 (a + 6) (by omega)).trans (hw.2.2.2.2.2.2.1))
                    have h1817 := (n1807 (a + 7) (by omega)).trans ((n1803 (a + 7) (by omega)).trans (hw.2.2.2.2.2.2.2))
                    refine Or.inr ⟨rfl, ?_, ⟨_, _, by omega, h1806⟩, ⟨cur, h1809, by omega⟩, ⟨h1810, h1811, h1812, h1813, h1814, h1815, h1816, h1817⟩, ((X_Fr.rf).tr (X_Fr.of n1803 e1804 (by omega))).tr (X_Fr.of n1807 e1808 (by omega))⟩
                    unfold sp_step sp_stF
                    (repeat (first | rw [if_pos (by assumption)] | rw [if_neg (by assumption)]))
                    all_goals first | rfl | ((repeat' split) <;> first | rfl | (exfalso; omega))
            refine T_p xr_75_139 xn_75 (pc' := 141) (ls' := [(7, .int (iI (bI (¬ X_isOp (so cur) ∧ pile = 16)))), (6, .int (iI (bI ((so cur) = 64 ∧ (X_vl ct cur < 1 ∨ d 4 0 < X_vl ct cur))))), (5, .int (iI (X_vl ct cur))), (4, .int (iI (so cur))), (3, .int (iI (pl cur))), (0, .ref 496), (1, .ref a), (2, .int (iI pile))]) (st' := [.int (iI (so cur))]) rfl ?_
            refine T_cs xr_75_141 (by decide) xf_77.1 xn_77 (as := [.int (iI (so cur))]) (r := []) rfl (Nat.le_of_ble_eq_true rfl) (Nat.le_of_ble_eq_true rfl) (pc' := 144) rfl (ls' := [(0, .int (iI (so cur)))]) rfl ?_
            refine T_mono (c_isOperation sc S (so cur) (by omega)) (fun v1819 S1820 h1818 => ?_)
            obtain ⟨h1821, h1822⟩ := h1818
            rw [h1821, h1822]
            show X_T sc 75 (144, [(7, .int (iI (bI (¬ X_isOp (so cur) ∧ pile = 16)))), (6, .int (iI (bI ((so cur) = 64 ∧ (X_vl ct cur < 1 ∨ d 4 0 < X_vl ct cur))))), (5, .int (iI (X_vl ct cur))), (4, .int (iI (so cur))), (3, .int (iI (pl cur))), (0, .ref 496), (1, .ref a), (2, .int (iI pile))], [.int (iI (bI (X_isOp (so cur))))], S) _
            refine T_bif_eq xr_75_144 (t := 156) (pc' := 147) rfl rfl (fun c1823 => ?_) (fun c1823 => ?_)
            · skip
              have c1823 : ¬ (X_isOp (so cur)) := c1823
              refine T_p xr_75_156 xn_75 (pc' := 157) (ls' := [(7, .int (iI (bI (¬ X_isOp (so cur) ∧ pile = 16)))), (6, .int (iI (bI ((so cur) = 64 ∧ (X_vl ct cur < 1 ∨ d 4 0 < X_vl ct cur))))), (5, .int (iI (X_vl ct cur))), (4, .int (iI (so cur))), (3, .int (iI (pl cur))), (0, .ref 496), (1, .ref a), (2, .int (iI pile))]) (st' := [.int (iI 0)]) rfl ?_
              refine T_ie (y := iI (bI (X_isOp (so cur) ∧ pile < 2))) (by rw [bI_f (by rintro ⟨h1, h2⟩; first | omega | contradiction)]) ?_
              exact J1720
            · skip
              have c1823 : (X_isOp (so cur)) := c1823
              refine T_p xr_75_147 xn_75 (pc' := 148) (ls' := [(7, .int (iI (bI (¬ X_isOp (so cur) ∧ pile = 16)))), (6, .int (iI (bI ((so cur) = 64 ∧ (X_vl ct cur < 1 ∨ d 4 0 < X_vl ct cur))))), (5, .int (iI (X_vl ct cur))), (4, .int (iI (so cur))), (3, .int (iI (pl cur))), (0, .ref 496), (1, .ref a), (2, .int (iI pile))]) (st' := [.int (iI pile)]) rfl ?_
              refine T_p xr_75_148 xn_75 (pc' := 149) (ls' := [(7, .int (iI (bI (¬ X_isOp (so cur) ∧ pile = 16)))), (6, .int (iI (bI ((so cur) = 64 ∧ (X_vl ct cur < 1 ∨ d 4 0 < X_vl ct cur))))), (5, .int (iI (X_vl ct cur))), (4, .int (iI (so cur))), (3, .int (iI (pl cur))), (0, .ref 496), (1, .ref a), (2, .int (iI pile))]) (st' := [.int (iI 2), .int (iI pile)]) rfl ?_
              refine T_zicmp_ge xr_75_149 (t := 156) (pc' := 152) rfl rfl (fun c1824 => ?_) (fun c1824 => ?_)
              · skip
                have c1824 : 2 ≤ pile := c1824
                refine T_p xr_75_156 xn_75 (pc' := 157) (ls' := [(7, .int (iI (bI (¬ X_isOp (so cur) ∧ pile = 16)))), (6, .int (iI (bI ((so cur) = 64 ∧ (X_vl ct cur < 1 ∨ d 4 0 < X_vl ct cur))))), (5, .int (iI (X_vl ct cur))), (4, .int (iI (so cur))), (3, .int (iI (pl cur))), (0, .ref 496), (1, .ref a), (2, .int (iI pile))]) (st' := [.int (iI 0)]) rfl ?_
                refine T_ie (y := iI (bI (X_isOp (so cur) ∧ pile < 2))) (by rw [bI_f (by rintro ⟨h1, h2⟩; first | omega | contradiction)]) ?_
                exact J1720
              · skip
                have c1824 : ¬ (2 ≤ pile) := c1824
                refine T_p xr_75_152 xn_75 (pc' := 153) (ls' := [(7, .int (iI (bI (¬ X_isOp (so cur) ∧ pile = 16)))), (6, .int (iI (bI ((so cur) = 64 ∧ (X_vl ct cur < 1 ∨ d 4 0 < X_vl ct cur))))), (5, .int (iI (X_vl ct cur))), (4, .int (iI (so cur))), (3, .int (iI (pl cur))), (0, .ref 496), (1, .ref a), (2, .int (iI pile))]) (st' := [.int (iI 1)]) rfl ?_
                refine T_p xr_75_153 xn_75 (pc' := 157) (ls' := [(7, .int (iI (bI (¬ X_isOp (so cur) ∧ pile = 16)))), (6, .int (iI (bI ((so cur) = 64 ∧ (X_vl ct cur < 1 ∨ d 4 0 < X_vl ct cur))))), (5, .int (iI (X_vl ct cur))), (4, .int (iI (so cur))), (3, .int (iI (pl cur))), (0, .ref 496), (1, .ref a), (2, .int (iI pile))]) (st' := [.int (iI 1)]) rfl ?_
                refine T_ie (y := iI (bI (X_isOp (so cur) ∧ pile < 2))) (by rw [bI_t (by exact ⟨by assumption, by omega⟩)]) ?_
                exact J1720
          refine T_p xr_75_118 xn_75 (pc' := 120) (ls' := [(6, .int (iI (bI ((so cur) = 64 ∧ (X_vl ct cur < 1 ∨ d 4 0 < X_vl ct cur))))), (5, .int (iI (X_vl ct cur))), (4, .int (iI (so cur))), (3, .int (iI (pl cur))), (0, .ref 496), (1, .ref a), (2, .int (iI pile))]) (st' := [.int (iI (so cur))]) rfl ?_
          refine T_cs xr_75_120 (by decide) xf_77.1 xn_77 (as := [.int (iI (so cur))]) (r := []) rfl (Nat.le_of_ble_eq_true rfl) (Nat.le_of_ble_eq_true rfl) (pc' := 123) rfl (ls' := [(0, .int (iI (so cur)))]) rfl ?_
          refine T_mono (c_isOperation sc S (so cur) (by omega)) (fun v1826 S1827 h1825 => ?_)
          obtain ⟨h1828, h1829⟩ := h1825
          rw [h1828, h1829]
          show X_T sc 75 (123, [(6, .int (iI (bI ((so cur) = 64 ∧ (X_vl ct cur < 1 ∨ d 4 0 < X_vl ct cur))))), (5, .int (iI (X_vl ct cur))), (4, .int (iI (so cur))), (3, .int (iI (pl cur))), (0, .ref 496), (1, .ref a), (2, .int (iI pile))], [.int (iI (bI (X_isOp (so cur))))], S) _
          refine T_bif_ne xr_75_123 (t := 136) (pc' := 126) rfl rfl (fun c1830 => ?_) (fun c1830 => ?_)
          · skip
            have c1830 : (X_isOp (so cur)) := c1830
            refine T_p xr_75_136 xn_75 (pc' := 137) (ls' := [(6, .int (iI (bI ((so cur) = 64 ∧ (X_vl ct cur < 1 ∨ d 4 0 < X_vl ct cur))))), (5, .int (iI (X_vl ct cur))), (4, .int (iI (so cur))), (3, .int (iI (pl cur))), (0, .ref 496), (1, .ref a), (2, .int (iI pile))]) (st' := [.int (iI 0)]) rfl ?_
            refine T_ie (y := iI (bI (¬ X_isOp (so cur) ∧ pile = 16))) (by rw [bI_f (by rintro ⟨h1, h2⟩; first | omega | contradiction)]) ?_
            exact J1719
          · skip
            have c1830 : ¬ (X_isOp (so cur)) := c1830
            refine T_p xr_75_126 xn_75 (pc' := 127) (ls' := [(6, .int (iI (bI ((so cur) = 64 ∧ (X_vl ct cur < 1 ∨ d 4 0 < X_vl ct cur))))), (5, .int (iI (X_vl ct cur))), (4, .int (iI (so cur))), (3, .int (iI (pl cur))), (0, .ref 496), (1, .ref a), (2, .int (iI pile))]) (st' := [.int (iI pile)]) rfl ?_
            refine T_p xr_75_127 xn_75 (pc' := 129) (ls' := [(6, .int (iI (bI ((so cur) = 64 ∧ (X_vl ct cur < 1 ∨ d 4 0 < X_vl ct cur))))), (5, .int (iI (X_vl ct cur))), (4, .int (iI (so cur))), (3, .int (iI (pl cur))), (0, .ref 496), (1, .ref a), (2, .int (iI pile))]) (st' := [.int (iI 16), .int (iI pile)]) rfl ?_
            refine T_zicmp_ne xr_75_129 (t := 136) (pc' := 132) rfl rfl (fun c1831 => ?_) (fun c1831 => ?_)
            · skip
              have c1831 : ¬ pile = 16 := c1831
              refine T_p xr_75_136 xn_75 (pc' := 137) (ls' := [(6, .int (iI (bI ((so cur) = 64 ∧ (X_vl ct cur < 1 ∨ d 4 0 < X_vl ct cur))))), (5, .int (iI (X_vl ct cur))), (4, .int (iI (so cur))), (3, .int (iI (pl cur))), (0, .ref 496), (1, .ref a), (2, .int (iI pile))]) (st' := [.int (iI 0)]) rfl ?_
              refine T_ie (y := iI (bI (¬ X_isOp (so cur) ∧ pile = 16))) (by rw [bI_f (by rintro ⟨h1, h2⟩; first | omega | contradiction)]) ?_
              exact J1719
            · skip
              have c1831 : ¬ (¬ pile = 16) := c1831
              refine T_p xr_75_132 xn_75 (pc' := 133) (ls' := [(6, .int (iI (bI ((so cur) = 64 ∧ (X_vl ct cur < 1 ∨ d 4 0 < X_vl ct cur))))), (5, .int (iI (X_vl ct cur))), (4, .int (iI (so cur))), (3, .int (iI (pl cur))), (0, .ref 496), (1, .ref a), (2, .int (iI pile))]) (st' := [.int (iI 1)]) rfl ?_
              refine T_p xr_75_133 xn_75 (pc' := 137) (ls' := [(6, .int (iI (bI ((so cur) = 64 ∧ (X_vl ct cur < 1 ∨ d 4 0 < X_vl ct cur))))), (5, .int (iI (X_vl ct cur))), (4, .int (iI (so cur))), (3, .int (iI (pl cur))), (0, .ref 496), (1, .ref a), (2, .int (iI pile))]) (st' := [.int (iI 1)]) rfl ?_
              refine T_ie (y := iI (bI (¬ X_isOp (so cur) ∧ pile = 16))) (by rw [bI_t (by exact ⟨by assumption, by omega⟩)]) ?_
              exact J1719
        refine T_p xr_75_89 xn_75 (pc' := 91) (ls' := [(5, .int (iI (X_vl ct cur))), (4, .int (iI (so cur))), (3, .int (iI (pl cur))), (0, .ref 496), (1, .ref a), (2, .int (iI pile))]) (st' := [.int (iI (so cur))]) rfl ?_
        refine T_p xr_75_91 xn_75 (pc' := 93) (ls' := [(5, .int (iI (X_vl ct cur))), (4, .int (iI (so cur))), (3, .int (iI (pl cur))), (0, .ref 496), (1, .ref a), (2, .int (iI pile))]) (st' := [.int (iI 64), .int (iI (so cur))]) rfl ?_
        refine T_zicmp_ne xr_75_93 (t := 115) (pc' := 96) rfl rfl (fun c1832 => ?_) (fun c1832 => ?_)
        · skip
          have c1832 : ¬ (so cur) = 64 := c1832
          refine T_p xr_75_115 xn_75 (pc' := 116) (ls' := [(5, .int (iI (X_vl ct cur))), (4, .int (iI (so cur))), (3, .int (iI (pl cur))), (0, .ref 496), (1, .ref a), (2, .int (iI pile))]) (st' := [.int (iI 0)]) rfl ?_
          refine T_ie (y := iI (bI ((so cur) = 64 ∧ (X_vl ct cur < 1 ∨ d 4 0 < X_vl ct cur)))) (by rw [bI_f (by rintro ⟨h1, h2⟩; omega)]) ?_
          exact J1718
        · skip
          have c1832 : ¬ (¬ (so cur) = 64) := c1832
          exact (show False by first | contradiction | omega).elim
      · skip
        have c1711 : ¬ ((so cur) = 4) := c1711
        refine T_p xr_75_65 xn_75 (pc' := 67) (ls' := [(4, .int (iI (so cur))), (3, .int (iI (pl cur))), (0, .ref 496), (1, .ref a), (2, .int (iI pile))]) (st' := [.int (iI (so cur))]) rfl ?_
        refine T_cs xr_75_67 (by decide) xf_77.1 xn_77 (as := [.int (iI (so cur))]) (r := []) rfl (Nat.le_of_ble_eq_true rfl) (Nat.le_of_ble_eq_true rfl) (pc' := 70) rfl (ls' := [(0, .int (iI (so cur)))]) rfl ?_
        refine T_mono (c_isOperation sc S (so cur) (by omega)) (fun v1834 S1835 h1833 => ?_)
        obtain ⟨h1836, h1837⟩ := h1833
        rw [h1836, h1837]
        show X_T sc 75 (70, [(4, .int (iI (so cur))), (3, .int (iI (pl cur))), (0, .ref 496), (1, .ref a), (2, .int (iI pile))], [.int (iI (bI (X_isOp (so cur))))], S) _
        refine T_bif_ne xr_75_70 (t := 79) (pc' := 73) rfl rfl (fun c1838 => ?_) (fun c1838 => ?_)
        · skip
          have c1838 : (X_isOp (so cur)) := c1838
          refine T_p xr_75_79 xn_75 (pc' := 80) (ls' := [(4, .int (iI (so cur))), (3, .int (iI (pl cur))), (0, .ref 496), (1, .ref a), (2, .int (iI pile))]) (st' := [.ref 496]) rfl ?_
          refine T_get xr_75_80 hp rfl (v := .ref 497) rfl (pc' := 83) rfl ?_
          refine T_cv (S := S) (q := 497) xr_75_83 xf_46.1 xf_46.2.1 xn_46 (as := []) (r := []) rfl hx.1 (Nat.le_of_ble_eq_true rfl) (Nat.le_of_ble_eq_true rfl) (pc' := 86) rfl (ls' := [(0, .ref 497)]) rfl ?_
          refine T_mono (c_content sc S at_ n cur so pl ct ⟨hx.1, hx.2.1, hx.2.2.1, hx.2.2.2⟩ (by omega)) (fun v1840 S1841 h1839 => ?_)
          obtain ⟨h1842, h1843⟩ := h1839
          rw [h1842, h1843]
          show X_T sc 75 (86, [(4, .int (iI (so cur))), (3, .int (iI (pl cur))), (0, .ref 496), (1, .ref a), (2, .int (iI pile))], [.long (ct cur)], S) _
          refine T_zop xr_75_86 (pc' := 87) rfl (z := ((ct cur : Int64).toInt32).toInt) (iI_of _) ?_
          refine T_ie (y := iI (X_vl ct cur)) rfl ?_
          have hv1844 := X_vl_r ct cur
          refine T_p xr_75_87 xn_75 (pc' := 89) (ls' := [(5, .int (iI (X_vl ct cur))), (4, .int (iI (so cur))), (3, .int (iI (pl cur))), (0, .ref 496), (1, .ref a), (2, .int (iI pile))]) (st' := []) rfl ?_
          have J1845 : X_T sc 75 (116, [(5, .int (iI (X_vl ct cur))), (4, .int (iI (so cur))), (3, .int (iI (pl cur))), (0, .ref 496), (1, .ref a), (2, .int (iI pile))], [.int (iI (bI ((so cur) = 64 ∧ (X_vl ct cur < 1 ∨ d 4 0 < X_vl ct cur))))], S) Q := by
            refine T_p xr_75_116 xn_75 (pc' := 118) (ls' := [(6, .int (iI (bI ((so cur) = 64 ∧ (X_vl ct cur < 1 ∨ d 4 0 < X_vl ct cur))))), (5, .int (iI (X_vl ct cur))), (4, .int (iI (so cur))), (3, .int (iI (pl cur))), (0, .ref 496), (1, .ref a), (2, .int (iI pile))]) (st' := []) rfl ?_
            have J1846 : X_T sc 75 (137, [(6, .int (iI (bI ((so cur) = 64 ∧ (X_vl ct cur < 1 ∨ d 4 0 < X_vl ct cur))))), (5, .int (iI (X_vl ct cur))), (4, .int (iI (so cur))), (3, .int (iI (pl cur))), (0, .ref 496), (1, .ref a), (2, .int (iI pile))], [.int (iI (bI (¬ X_isOp (so cur) ∧ pile = 16)))], S) Q := by
              refine T_p xr_75_137 xn_75 (pc' := 139) (ls' := [(7, .int (iI (bI (¬ X_isOp (so cur) ∧ pile = 16)))), (6, .int (iI (bI ((so cur) = 64 ∧ (X_vl ct cur < 1 ∨ d 4 0 < X_vl ct cur))))), (5, .int (iI (X_vl ct cur))), (4, .int (iI (so cur))), (3, .int (iI (pl cur))), (0, .ref 496), (1, .ref a), (2, .int (iI pile))]) (st' := []) rfl ?_
              have J1847 : X_T sc 75 (157, [(7, .int (iI (bI (¬ X_isOp (so cur) ∧ pile = 16)))), (6, .int (iI (bI ((so cur) = 64 ∧ (X_vl ct cur < 1 ∨ d 4 0 < X_vl ct cur))))), (5, .int (iI (X_vl ct cur))), (4, .int (iI (so cur))), (3, .int (iI (pl cur))), (0, .ref 496), (1, .ref a), (2, .int (iI pile))], [.int (iI (bI (X_isOp (so cur) ∧ pile < 2)))], S) Q := by
                refine T_p xr_75_157 xn_75 (pc' := 159) (ls' := [(8, .int (iI (bI (X_isOp (so cur) ∧ pile < 2)))), (7, .int (iI (bI (¬ X_isOp (so cur) ∧ pile = 16)))), (6, .int (iI (bI ((so cur) = 64 ∧ (X_vl ct cur < 1 ∨ d 4 0 < X_vl ct cur))))), (5, .int (iI (X_vl ct cur))), (4, .int (iI (so cur))), (3, .int (iI (pl cur))), (0, .ref 496), (1, .ref a), (2, .int (iI pile))]) (st' := []) rfl ?_
                refine T_p xr_75_159 xn_75 (pc' := 161) (ls' := [(8, .int (iI (bI (X_isOp (so cur) ∧ pile < 2)))), (7, .int (iI (bI (¬ X_isOp (so cur) ∧ pile = 16)))), (6, .int (iI (bI ((so cur) = 64 ∧ (X_vl ct cur < 1 ∨ d 4 0 < X_vl ct cur))))), (5, .int (iI (X_vl ct cur))), (4, .int (iI (so cur))), (3, .int (iI (pl cur))), (0, .ref 496), (1, .ref a), (2, .int (iI pile))]) (st' := [.int (iI (bI ((so cur) = 64 ∧ (X_vl ct cur < 1 ∨ d 4 0 < X_vl ct cur))))]) rfl ?_
                refine T_bif_ne xr_75_161 (t := 174) (pc' := 164) rfl rfl (fun c1848 => ?_) (fun c1848 => ?_)
                · skip
                  have c1848 : ((so cur) = 64 ∧ (X_vl ct cur < 1 ∨ d 4 0 < X_vl ct cur)) := c1848
                  refine T_p xr_75_174 xn_75 (pc' := 175) (ls' := [(8, .int (iI (bI (X_isOp (so cur) ∧ pile < 2)))), (7, .int (iI (bI (¬ X_isOp (so cur) ∧ pile = 16)))), (6, .int (iI (bI ((so cur) = 64 ∧ (X_vl ct cur < 1 ∨ d 4 0 < X_vl ct cur))))), (5, .int (iI (X_vl ct cur))), (4, .int (iI (so cur))), (3, .int (iI (pl cur))), (0, .ref 496), (1, .ref a), (2, .int (iI pile))]) (st' := [.ref 496]) rfl ?_
                  refine T_p xr_75_175 xn_75 (pc' := 176) (ls' := [(8, .int (iI (bI (X_isOp (so cur) ∧ pile < 2)))), (7, .int (iI (bI (¬ X_isOp (so cur) ∧ pile = 16)))), (6, .int (iI (bI ((so cur) = 64 ∧ (X_vl ct cur < 1 ∨ d 4 0 < X_vl ct cur))))), (5, .int (iI (X_vl ct cur))), (4, .int (iI (so cur))), (3, .int (iI (pl cur))), (0, .ref 496), (1, .ref a), (2, .int (iI pile))]) (st' := [.int (iI 5), .ref 496]) rfl ?_
                  refine T_p xr_75_176 xn_75 (pc' := 177) (ls' := [(8, .int (iI (bI (X_isOp (so cur) ∧ pile < 2)))), (7, .int (iI (bI (¬ X_isOp (so cur) ∧ pile = 16)))), (6, .int (iI (bI ((so cur) = 64 ∧ (X_vl ct cur < 1 ∨ d 4 0 < X_vl ct cur))))), (5, .int (iI (X_vl ct cur))), (4, .int (iI (so cur))), (3, .int (iI (pl cur))), (0, .ref 496), (1, .ref a), (2, .int (iI pile))]) (st' := [.int (iI (pl cur)), .int (iI 5), .ref 496]) rfl ?_
                  refine T_cv (S := S) (q := 496) xr_75_177 xf_62.1 xf_62.2.1 xn_62 (as := [.int (iI 5), .int (iI (pl cur))]) (r := []) rfl hp (Nat.le_of_ble_eq_true rfl) (Nat.le_of_ble_eq_true rfl) (pc' := 180) rfl (ls' := [(0, .ref 496), (1, .int (iI 5)), (2, .int (iI (pl cur)))]) rfl ?_
                  refine T_p xr_62_0 xn_62 (pc' := 1) (ls' := [(0, .ref 496), (1, .int (iI 5)), (2, .int (iI (pl cur)))]) (st' := [.ref 496]) rfl ?_
                  refine T_p xr_62_1 xn_62 (pc' := 2) (ls' := [(0, .ref 496), (1, .int (iI 5)), (2, .int (iI (pl cur)))]) (st' := [.int (iI 5), .ref 496]) rfl ?_
                  refine T_put xr_62_2 hp rfl (Nat.le_of_ble_eq_true rfl) rfl (fs' := [.ref 497, .ref B, .int (iI 5), .int (iI fp)]) rfl (pc' := 5) rfl (fun S1849 h1850 n1851 e1852 => ?_)
                  refine T_p xr_62_5 xn_62 (pc' := 6) (ls' := [(0, .ref 496), (1, .int (iI 5)), (2, .int (iI (pl cur)))]) (st' := [.ref 496]) rfl ?_
                  refine T_p xr_62_6 xn_62 (pc' := 7) (ls' := [(0, .ref 496), (1, .int (iI 5)), (2, .int (iI (pl cur)))]) (st' := [.int (iI (pl cur)), .ref 496]) rfl ?_
                  refine T_put xr_62_7 h1850 rfl (Nat.le_of_ble_eq_true rfl) rfl (fs' := [.ref 497, .ref B, .int (iI 5), .int (iI (pl cur))]) rfl (pc' := 10) rfl (fun S1853 h1854 n1855 e1856 => ?_)
                  refine T_vret xr_62_10 xf_62.2.2 ?_
                  show X_T sc 75 (180, [(8, .int (iI (bI (X_isOp (so cur) ∧ pile < 2)))), (7, .int (iI (bI (¬ X_isOp (so cur) ∧ pile = 16)))), (6, .int (iI (bI ((so cur) = 64 ∧ (X_vl ct cur < 1 ∨ d 4 0 < X_vl ct cur))))), (5, .int (iI (X_vl ct cur))), (4, .int (iI (so cur))), (3, .int (iI (pl cur))), (0, .ref 496), (1, .ref a), (2, .int (iI pile))], [], S1853) _
                  refine T_p xr_75_180 xn_75 (pc' := 181) (ls' := [(8, .int (iI (bI (X_isOp (so cur) ∧ pile < 2)))), (7, .int (iI (bI (¬ X_isOp (so cur) ∧ pile = 16)))), (6, .int (iI (bI ((so cur) = 64 ∧ (X_vl ct cur < 1 ∨ d 4 0 < X_vl ct cur))))), (5, .int (iI (X_vl ct cur))), (4, .int (iI (so cur))), (3, .int (iI (pl cur))), (0, .ref 496), (1, .ref a), (2, .int (iI pile))]) (st' := [.int (iI (-1))]) rfl ?_
                  refine T_iret xr_75_181 xf_75.2.2 rfl ?_
                  refine hQ _ _ ?_
                  have h1857 := (n1855 497 (by decide)).trans ((n1851 497 (by decide)).trans (hx.1))
                  have h1858 := (n1855 a (by omega)).trans ((n1851 a (by omega)).trans (hw.1))
                  have h1859 := (n1855 (a + 1) (by omega)).trans ((n1851 (a + 1) (by omega)).trans (hw.2.1))
                  have h1860 := (n1855 (a + 2) (by omega)).trans ((n1851 (a + 2) (by omega)).trans (hw.2.2.1))
                  have h1861 := (n1855 (a + 3) (by omega)).trans ((n1851 (a + 3) (by omega)).trans (hw.2.2.2.1))
                  have h1862 := (n1855 (a + 4) (by omega)).trans ((n1851 (a + 4) (by omega)).trans (hw.2.2.2.2.1))
                  have h1863 := (n1855 (a + 5) (by omega)).trans ((n1851 (a + 5) (by omega)).trans (hw.2.2.2.2.2.1))
                  have h1864 := (n1855 (a + 6) (by omega)).trans ((n1851 (a + 6) (by omega)).trans (hw.2.2.2.2.2.2.1))
                  have h1865 := (n1855 (a + 7) (by omega)).trans ((n1851 (a + 7) (by omega)).trans (hw.2.2.2.2.2.2.2))
                  refine Or.inr ⟨rfl, ?_, ⟨_, _, by omega, h1854⟩, ⟨cur, h1857, by omega⟩, ⟨h1858, h1859, h1860, h1861, h1862, h1863, h1864, h1865⟩, ((X_Fr.rf).tr (X_Fr.of n1851 e1852 (by omega))).tr (X_Fr.of n1855 e1856 (by omega))⟩
                  unfold sp_step sp_stF
                  (repeat (first | rw [if_pos (by assumption)] | rw [if_neg (by assumption)]))
                  all_goals first | rfl | ((repeat' split) <;> first | rfl | (exfalso; omega))
                · skip
                  have c1848 : ¬ ((so cur) = 64 ∧ (X_vl ct cur < 1 ∨ d 4 0 < X_vl ct cur)) := c1848
                  refine T_p xr_75_164 xn_75 (pc' := 166) (ls' := [(8, .int (iI (bI (X_isOp (so cur) ∧ pile < 2)))), (7, .int (iI (bI (¬ X_isOp (so cur) ∧ pile = 16)))), (6, .int (iI (bI ((so cur) = 64 ∧ (X_vl ct cur < 1 ∨ d 4 0 < X_vl ct cur))))), (5, .int (iI (X_vl ct cur))), (4, .int (iI (so cur))), (3, .int (iI (pl cur))), (0, .ref 496), (1, .ref a), (2, .int (iI pile))]) (st' := [.int (iI (bI (¬ X_isOp (so cur) ∧ pile = 16)))]) rfl ?_
                  refine T_bif_ne xr_75_166 (t := 174) (pc' := 169) rfl rfl (fun c1866 => ?_) (fun c1866 => ?_)
                  · skip
                    have c1866 : (¬ X_isOp (so cur) ∧ pile = 16) := c1866
                    refine T_p xr_75_174 xn_75 (pc' := 175) (ls' := [(8, .int (iI (bI (X_isOp (so cur) ∧ pile < 2)))), (7, .int (iI (bI (¬ X_isOp (so cur) ∧ pile = 16)))), (6, .int (iI (bI ((so cur) = 64 ∧ (X_vl ct cur < 1 ∨ d 4 0 < X_vl ct cur))))), (5, .int (iI (X_vl ct cur))), (4, .int (iI (so cur))), (3, .int (iI (pl cur))), (0, .ref 496), (1, .ref a), (2, .int (iI pile))]) (st' := [.ref 496]) rfl ?_
                    refine T_p xr_75_175 xn_75 (pc' := 176) (ls' := [(8, .int (iI (bI (X_isOp (so cur) ∧ pile < 2)))), (7, .int (iI (bI (¬ X_isOp (so cur) ∧ pile = 16)))), (6, .int (iI (bI ((so cur) = 64 ∧ (X_vl ct cur < 1 ∨ d 4 0 < X_vl ct cur))))), (5, .int (iI (X_vl ct cur))), (4, .int (iI (so cur))), (3, .int (iI (pl cur))), (0, .ref 496), (1, .ref a), (2, .int (iI pile))]) (st' := [.int (iI 5), .ref 496]) rfl ?_
                    refine T_p xr_75_176 xn_75 (pc' := 177) (ls' := [(8, .int (iI (bI (X_isOp (so cur) ∧ pile < 2)))), (7, .int (iI (bI (¬ X_isOp (so cur) ∧ pile = 16)))), (6, .int (iI (bI ((so cur) = 64 ∧ (X_vl ct cur < 1 ∨ d 4 0 < X_vl ct cur))))), (5, .int (iI (X_vl ct cur))), (4, .int (iI (so cur))), (3, .int (iI (pl cur))), (0, .ref 496), (1, .ref a), (2, .int (iI pile))]) (st' := [.int (iI (pl cur)), .int (iI 5), .ref 496]) rfl ?_
                    refine T_cv (S := S) (q := 496) xr_75_177 xf_62.1 xf_62.2.1 xn_62 (as := [.int (iI 5), .int (iI (pl cur))]) (r := []) rfl hp (Nat.le_of_ble_eq_true rfl) (Nat.le_of_ble_eq_true rfl) (pc' := 180) rfl (ls' := [(0, .ref 496), (1, .int (iI 5)), (2, .int (iI (pl cur)))]) rfl ?_
                    refine T_p xr_62_0 xn_62 (pc' := 1) (ls' := [(0, .ref 496), (1, .int (iI 5)), (2, .int (iI (pl cur)))]) (st' := [.ref 496]) rfl ?_
                    refine T_p xr_62_1 xn_62 (pc' := 2) (ls' := [(0, .ref 496), (1, .int (iI 5)), (2, .int (iI (pl cur)))]) (st' := [.int (iI 5), .ref 496]) rfl ?_
                    refine T_put xr_62_2 hp rfl (Nat.le_of_ble_eq_true rfl) rfl (fs' := [.ref 497, .ref B, .int (iI 5), .int (iI fp)]) rfl (pc' := 5) rfl (fun S1867 h1868 n1869 e1870 => ?_)
                    refine T_p xr_62_5 xn_62 (pc' := 6) (ls' := [(0, .ref 496), (1, .int (iI 5)), (2, .int (iI (pl cur)))]) (st' := [.ref 496]) rfl ?_
                    refine T_p xr_62_6 xn_62 (pc' := 7) (ls' := [(0, .ref 496), (1, .int (iI 5)), (2, .int (iI (pl cur)))]) (st' := [.int (iI (pl cur)), .ref 496]) rfl ?_
                    refine T_put xr_62_7 h1868 rfl (Nat.le_of_ble_eq_true rfl) rfl (fs' := [.ref 497, .ref B, .int (iI 5), .int (iI (pl cur))]) rfl (pc' := 10) rfl (fun S1871 h1872 n1873 e1874 => ?_)
                    refine T_vret xr_62_10 xf_62.2.2 ?_
                    show X_T sc 75 (180, [(8, .int (iI (bI (X_isOp (so cur) ∧ pile < 2)))), (7, .int (iI (bI (¬ X_isOp (so cur) ∧ pile = 16)))), (6, .int (iI (bI ((so cur) = 64 ∧ (X_vl ct cur < 1 ∨ d 4 0 < X_vl ct cur))))), (5, .int (iI (X_vl ct cur))), (4, .int (iI (so cur))), (3, .int (iI (pl cur))), (0, .ref 496), (1, .ref a), (2, .int (iI pile))], [], S1871) _
                    refine T_p xr_75_180 xn_75 (pc' := 181) (ls' := [(8, .int (iI (bI (X_isOp (so cur) ∧ pile < 2)))), (7, .int (iI (bI (¬ X_isOp (so cur) ∧ pile = 16)))), (6, .int (iI (bI ((so cur) = 64 ∧ (X_vl ct cur < 1 ∨ d 4 0 < X_vl ct cur))))), (5, .int (iI (X_vl ct cur))), (4, .int (iI (so cur))), (3, .int (iI (pl cur))), (0, .ref 496), (1, .ref a), (2, .int (iI pile))]) (st' := [.int (iI (-1))]) rfl ?_
                    refine T_iret xr_75_181 xf_75.2.2 rfl ?_
                    refine hQ _ _ ?_
                    have h1875 := (n1873 497 (by decide)).trans ((n1869 497 (by decide)).trans (hx.1))
                    have h1876 := (n1873 a (by omega)).trans ((n1869 a (by omega)).trans (hw.1))
                    have h1877 := (n1873 (a + 1) (by omega)).trans ((n1869 (a + 1) (by omega)).trans (hw.2.1))
                    have h1878 := (n1873 (a + 2) (by omega)).trans ((n1869 (a + 2) (by omega)).trans (hw.2.2.1))
                    have h1879 := (n1873 (a + 3) (by omega)).trans ((n1869 (a + 3) (by omega)).trans (hw.2.2.2.1))
                    have h1880 := (n1873 (a + 4) (by omega)).trans ((n1869 (a + 4) (by omega)).trans (hw.2.2.2.2.1))
                    have h1881 := (n1873 (a + 5) (by omega)).trans ((n1869 (a + 5) (by omega)).trans (hw.2.2.2.2.2.1))
                    have h1882 := (n1873 (a + 6) (by omega)).trans ((n1869 (a + 6) (by omega)).trans (hw.2.2.2.2.2.2.1))
                    have h1883 := (n1873 (a + 7) (by omega)).trans ((n1869 (a + 7) (by omega)).trans (hw.2.2.2.2.2.2.2))
                    refine Or.inr ⟨rfl, ?_, ⟨_, _, by omega, h1872⟩, ⟨cur, h1875, by omega⟩, ⟨h1876, h1877, h1878, h1879, h1880, h1881, h1882, h1883⟩, ((X_Fr.rf).tr (X_Fr.of n1869 e1870 (by omega))).tr (X_Fr.of n1873 e1874 (by omega))⟩
                    unfold sp_step sp_stF
                    (repeat (first | rw [if_pos (by assumption)] | rw [if_neg (by assumption)]))
                    all_goals first | rfl | ((repeat' split) <;> first | rfl | (exfalso; omega))
                  · skip
                    have c1866 : ¬ (¬ X_isOp (so cur) ∧ pile = 16) := c1866
                    refine T_p xr_75_169 xn_75 (pc' := 171) (ls' := [(8, .int (iI (bI (X_isOp (so cur) ∧ pile < 2)))), (7, .int (iI (bI (¬ X_isOp (so cur) ∧ pile = 16)))), (6, .int (iI (bI ((so cur) = 64 ∧ (X_vl ct cur < 1 ∨ d 4 0 < X_vl ct cur))))), (5, .int (iI (X_vl ct cur))), (4, .int (iI (so cur))), (3, .int (iI (pl cur))), (0, .ref 496), (1, .ref a), (2, .int (iI pile))]) (st' := [.int (iI (bI (X_isOp (so cur) ∧ pile < 2)))]) rfl ?_
                    refine T_bif_eq xr_75_171 (t := 182) (pc' := 174) rfl rfl (fun c1884 => ?_) (fun c1884 => ?_)
                    · skip
                      have c1884 : ¬ (X_isOp (so cur) ∧ pile < 2) := c1884
                      refine T_p xr_75_182 xn_75 (pc' := 183) (ls' := [(8, .int (iI (bI (X_isOp (so cur) ∧ pile < 2)))), (7, .int (iI (bI (¬ X_isOp (so cur) ∧ pile = 16)))), (6, .int (iI (bI ((so cur) = 64 ∧ (X_vl ct cur < 1 ∨ d 4 0 < X_vl ct cur))))), (5, .int (iI (X_vl ct cur))), (4, .int (iI (so cur))), (3, .int (iI (pl cur))), (0, .ref 496), (1, .ref a), (2, .int (iI pile))]) (st' := [.ref a]) rfl ?_
                      refine T_p xr_75_183 xn_75 (pc' := 185) (ls' := [(8, .int (iI (bI (X_isOp (so cur) ∧ pile < 2)))), (7, .int (iI (bI (¬ X_isOp (so cur) ∧ pile = 16)))), (6, .int (iI (bI ((so cur) = 64 ∧ (X_vl ct cur < 1 ∨ d 4 0 < X_vl ct cur))))), (5, .int (iI (X_vl ct cur))), (4, .int (iI (so cur))), (3, .int (iI (pl cur))), (0, .ref 496), (1, .ref a), (2, .int (iI pile))]) (st' := [.int (iI (so cur)), .ref a]) rfl ?_
                      refine T_p xr_75_185 xn_75 (pc' := 187) (ls' := [(8, .int (iI (bI (X_isOp (so cur) ∧ pile < 2)))), (7, .int (iI (bI (¬ X_isOp (so cur) ∧ pile = 16)))), (6, .int (iI (bI ((so cur) = 64 ∧ (X_vl ct cur < 1 ∨ d 4 0 < X_vl ct cur))))), (5, .int (iI (X_vl ct cur))), (4, .int (iI (so cur))), (3, .int (iI (pl cur))), (0, .ref 496), (1, .ref a), (2, .int (iI pile))]) (st' := [.int (iI (X_vl ct cur)), .int (iI (so cur)), .ref a]) rfl ?_
                      refine T_cv (S := S) (q := a) xr_75_187 xf_94.1 xf_94.2.1 xn_94 (as := [.int (iI (so cur)), .int (iI (X_vl ct cur))]) (r := []) rfl hw.1 (Nat.le_of_ble_eq_true rfl) (Nat.le_of_ble_eq_true rfl) (pc' := 190) rfl (ls' := [(0, .ref a), (1, .int (iI (so cur))), (2, .int (iI (X_vl ct cur)))]) rfl ?_
                      have hr1891 : X_wr (X_aS d (so cur) (X_vl ct cur)) := X_wr_S hr (by omega)
                      refine T_mono (c_addStep sc S a d q (so cur) (X_vl ct cur) ⟨hw.1, hw.2.1, hw.2.2.1, hw.2.2.2.1, hw.2.2.2.2.1, hw.2.2.2.2.2.1, hw.2.2.2.2.2.2.1, hw.2.2.2.2.2.2.2⟩ hr (by omega)) (fun v1885 S1886 h1887 => ?_)
                      obtain ⟨h1888, hw1889, hf1890⟩ := h1887
                      rw [h1888]
                      have hw1889 : C_wd S1886 a (X_aS d (so cur) (X_vl ct cur)) q := hw1889
                      show X_T sc 75 (190, [(8, .int (iI (bI (X_isOp (so cur) ∧ pile < 2)))), (7, .int (iI (bI (¬ X_isOp (so cur) ∧ pile = 16)))), (6, .int (iI (bI ((so cur) = 64 ∧ (X_vl ct cur < 1 ∨ d 4 0 < X_vl ct cur))))), (5, .int (iI (X_vl ct cur))), (4, .int (iI (so cur))), (3, .int (iI (pl cur))), (0, .ref 496), (1, .ref a), (2, .int (iI pile))], [], S1886) _
                      refine T_p xr_75_190 xn_75 (pc' := 191) (ls' := [(8, .int (iI (bI (X_isOp (so cur) ∧ pile < 2)))), (7, .int (iI (bI (¬ X_isOp (so cur) ∧ pile = 16)))), (6, .int (iI (bI ((so cur) = 64 ∧ (X_vl ct cur < 1 ∨ d 4 0 < X_vl ct cur))))), (5, .int (iI (X_vl ct cur))), (4, .int (iI (so cur))), (3, .int (iI (pl cur))), (0, .ref 496), (1, .ref a), (2, .int (iI pile))]) (st' := [.ref 496]) rfl ?_
                      have h1892 := (hf1890.1 496 (by omega)).trans (hp)
                      refine T_get xr_75_191 h1892 rfl (v := .ref 497) rfl (pc' := 194) rfl ?_
                      have h1893 := (hf1890.1 497 (by omega)).trans (hx.1)
                      refine T_cv (S := S1886) (q := 497) xr_75_194 xf_48.1 xf_48.2.1 xn_48 (as := []) (r := []) rfl h1893 (Nat.le_of_ble_eq_true rfl) (Nat.le_of_ble_eq_true rfl) (pc' := 197) rfl (ls' := [(0, .ref 497)]) rfl ?_
                      have h1894 := (hf1890.1 498 (by omega)).trans (hx.2.1)
                      have h1895 := (hf1890.1 499 (by omega)).trans (hx.2.2.1)
                      have h1896 := (hf1890.1 500 (by omega)).trans (hx.2.2.2)
                      refine T_mono (c_advance sc S1886 at_ n cur so pl ct ⟨h1893, h1894, h1895, h1896⟩ (by omega)) (fun v1898 S1899 h1897 => ?_)
                      obtain ⟨h1900, h1902, h1901⟩ := h1897
                      rw [h1900]
                      show X_T sc 75 (197, [(8, .int (iI (bI (X_isOp (so cur) ∧ pile < 2)))), (7, .int (iI (bI (¬ X_isOp (so cur) ∧ pile = 16)))), (6, .int (iI (bI ((so cur) = 64 ∧ (X_vl ct cur < 1 ∨ d 4 0 < X_vl ct cur))))), (5, .int (iI (X_vl ct cur))), (4, .int (iI (so cur))), (3, .int (iI (pl cur))), (0, .ref 496), (1, .ref a), (2, .int (iI pile))], [], S1899) _
                      have hv1903 := X_av_r (n := n) (c := cur) (by omega)
                      refine T_p xr_75_197 xn_75 (pc' := 199) (ls' := [(8, .int (iI (bI (X_isOp (so cur) ∧ pile < 2)))), (7, .int (iI (bI (¬ X_isOp (so cur) ∧ pile = 16)))), (6, .int (iI (bI ((so cur) = 64 ∧ (X_vl ct cur < 1 ∨ d 4 0 < X_vl ct cur))))), (5, .int (iI (X_vl ct cur))), (4, .int (iI (so cur))), (3, .int (iI (pl cur))), (0, .ref 496), (1, .ref a), (2, .int (iI pile))]) (st' := [.int (iI (so cur))]) rfl ?_
                      refine T_cs xr_75_199 (by decide) xf_77.1 xn_77 (as := [.int (iI (so cur))]) (r := []) rfl (Nat.le_of_ble_eq_true rfl) (Nat.le_of_ble_eq_true rfl) (pc' := 202) rfl (ls' := [(0, .int (iI (so cur)))]) rfl ?_
                      refine T_mono (c_isOperation sc S1899 (so cur) (by omega)) (fun v1905 S1906 h1904 => ?_)
                      obtain ⟨h1907, h1908⟩ := h1904
                      rw [h1907, h1908]
                      show X_T sc 75 (202, [(8, .int (iI (bI (X_isOp (so cur) ∧ pile < 2)))), (7, .int (iI (bI (¬ X_isOp (so cur) ∧ pile = 16)))), (6, .int (iI (bI ((so cur) = 64 ∧ (X_vl ct cur < 1 ∨ d 4 0 < X_vl ct cur))))), (5, .int (iI (X_vl ct cur))), (4, .int (iI (so cur))), (3, .int (iI (pl cur))), (0, .ref 496), (1, .ref a), (2, .int (iI pile))], [.int (iI (bI (X_isOp (so cur))))], S1899) _
                      refine T_bif_eq xr_75_202 (t := 211) (pc' := 205) rfl rfl (fun c1909 => ?_) (fun c1909 => ?_)
                      · skip
                        have c1909 : ¬ (X_isOp (so cur)) := c1909
                        exact (show False by first | contradiction | omega).elim
                      · skip
                        have c1909 : (X_isOp (so cur)) := c1909
                        refine T_p xr_75_205 xn_75 (pc' := 206) (ls' := [(8, .int (iI (bI (X_isOp (so cur) ∧ pile < 2)))), (7, .int (iI (bI (¬ X_isOp (so cur) ∧ pile = 16)))), (6, .int (iI (bI ((so cur) = 64 ∧ (X_vl ct cur < 1 ∨ d 4 0 < X_vl ct cur))))), (5, .int (iI (X_vl ct cur))), (4, .int (iI (so cur))), (3, .int (iI (pl cur))), (0, .ref 496), (1, .ref a), (2, .int (iI pile))]) (st' := [.int (iI pile)]) rfl ?_
                        refine T_p xr_75_206 xn_75 (pc' := 207) (ls' := [(8, .int (iI (bI (X_isOp (so cur) ∧ pile < 2)))), (7, .int (iI (bI (¬ X_isOp (so cur) ∧ pile = 16)))), (6, .int (iI (bI ((so cur) = 64 ∧ (X_vl ct cur < 1 ∨ d 4 0 < X_vl ct cur))))), (5, .int (iI (X_vl ct cur))), (4, .int (iI (so cur))), (3, .int (iI (pl cur))), (0, .ref 496), (1, .ref a), (2, .int (iI pile))]) (st' := [.int (iI 1), .int (iI pile)]) rfl ?_
                        refine T_zisub xr_75_207 (z := pile - 1) rfl (pc' := 208) rfl ?_
                        refine T_p xr_75_208 xn_75 (pc' := 214) (ls' := [(8, .int (iI (bI (X_isOp (so cur) ∧ pile < 2)))), (7, .int (iI (bI (¬ X_isOp (so cur) ∧ pile = 16)))), (6, .int (iI (bI ((so cur) = 64 ∧ (X_vl ct cur < 1 ∨ d 4 0 < X_vl ct cur))))), (5, .int (iI (X_vl ct cur))), (4, .int (iI (so cur))), (3, .int (iI (pl cur))), (0, .ref 496), (1, .ref a), (2, .int (iI pile))]) (st' := [.int (iI (pile - 1))]) rfl ?_
                        refine T_iret xr_75_214 xf_75.2.2 rfl ?_
                        refine hQ _ _ ?_
                        have h1910 := (h1901.1 496 (by omega)).trans (h1892)
                        have h1911 := (h1901.1 a (by omega)).trans (hw1889.1)
                        have h1912 := (h1901.1 (a + 1) (by omega)).trans (hw1889.2.1)
                        have h1913 := (h1901.1 (a + 2) (by omega)).trans (hw1889.2.2.1)
                        have h1914 := (h1901.1 (a + 3) (by omega)).trans (hw1889.2.2.2.1)
                        have h1915 := (h1901.1 (a + 4) (by omega)).trans (hw1889.2.2.2.2.1)
                        have h1916 := (h1901.1 (a + 5) (by omega)).trans (hw1889.2.2.2.2.2.1)
                        have h1917 := (h1901.1 (a + 6) (by omega)).trans (hw1889.2.2.2.2.2.2.1)
                        have h1918 := (h1901.1 (a + 7) (by omega)).trans (hw1889.2.2.2.2.2.2.2)
                        refine Or.inl ⟨X_av n cur, X_aS d (so cur) (X_vl ct cur), pile - 1, rfl, ?_, h1910, h1902, by omega, ⟨h1911, h1912, h1913, h1914, h1915, h1916, h1917, h1918⟩, hr1891, ((X_Fr.rf).tr (X_Fr.mono ⟨hf1890.1, hf1890.2⟩ (fun q hq => (by omega)))).tr (X_Fr.mono ⟨h1901.1, h1901.2⟩ (fun q hq => (by omega)))⟩
                        unfold sp_step sp_stF
                        (repeat (first | rw [if_pos (by assumption)] | rw [if_neg (by assumption)]))
                        all_goals first | rfl | ((repeat' split) <;> first | rfl | (exfalso; omega))
                    · skip
                      have c1884 : (X_isOp (so cur) ∧ pile < 2) := c1884
                      refine T_p xr_75_174 xn_75 (pc' := 175) (ls' := [(8, .int (iI (bI (X_isOp (so cur) ∧ pile < 2)))), (7, .int (iI (bI (¬ X_isOp (so cur) ∧ pile = 16)))), (6, .int (iI (bI ((so cur) = 64 ∧ (X_vl ct cur < 1 ∨ d 4 0 < X_vl ct cur))))), (5, .int (iI (X_vl ct cur))), (4, .int (iI (so cur))), (3, .int (iI (pl cur))), (0, .ref 496), (1, .ref a), (2, .int (iI pile))]) (st' := [.ref 496]) rfl ?_
                      refine T_p xr_75_175 xn_75 (pc' := 176) (ls' := [(8, .int (iI (bI (X_isOp (so cur) ∧ pile < 2)))), (7, .int (iI (bI (¬ X_isOp (so cur) ∧ pile = 16)))), (6, .int (iI (bI ((so cur) = 64 ∧ (X_vl ct cur < 1 ∨ d 4 0 < X_vl ct cur))))), (5, .int (iI (X_vl ct cur))), (4, .int (iI (so cur))), (3, .int (iI (pl cur))), (0, .ref 496), (1, .ref a), (2, .int (iI pile))]) (st' := [.int (iI 5), .ref 496]) rfl ?_
                      refine T_p xr_75_176 xn_75 (pc' := 177) (ls' := [(8, .int (iI (bI (X_isOp (so cur) ∧ pile < 2)))), (7, .int (iI (bI (¬ X_isOp (so cur) ∧ pile = 16)))), (6, .int (iI (bI ((so cur) = 64 ∧ (X_vl ct cur < 1 ∨ d 4 0 < X_vl ct cur))))), (5, .int (iI (X_vl ct cur))), (4, .int (iI (so cur))), (3, .int (iI (pl cur))), (0, .ref 496), (1, .ref a), (2, .int (iI pile))]) (st' := [.int (iI (pl cur)), .int (iI 5), .ref 496]) rfl ?_
                      refine T_cv (S := S) (q := 496) xr_75_177 xf_62.1 xf_62.2.1 xn_62 (as := [.int (iI 5), .int (iI (pl cur))]) (r := []) rfl hp (Nat.le_of_ble_eq_true rfl) (Nat.le_of_ble_eq_true rfl) (pc' := 180) rfl (ls' := [(0, .ref 496), (1, .int (iI 5)), (2, .int (iI (pl cur)))]) rfl ?_
                      refine T_p xr_62_0 xn_62 (pc' := 1) (ls' := [(0, .ref 496), (1, .int (iI 5)), (2, .int (iI (pl cur)))]) (st' := [.ref 496]) rfl ?_
                      refine T_p xr_62_1 xn_62 (pc' := 2) (ls' := [(0, .ref 496), (1, .int (iI 5)), (2, .int (iI (pl cur)))]) (st' := [.int (iI 5), .ref 496]) rfl ?_
                      refine T_put xr_62_2 hp rfl (Nat.le_of_ble_eq_true rfl) rfl (fs' := [.ref 497, .ref B, .int (iI 5), .int (iI fp)]) rfl (pc' := 5) rfl (fun S1919 h1920 n1921 e1922 => ?_)
                      refine T_p xr_62_5 xn_62 (pc' := 6) (ls' := [(0, .ref 496), (1, .int (iI 5)), (2, .int (iI (pl cur)))]) (st' := [.ref 496]) rfl ?_
                      refine T_p xr_62_6 xn_62 (pc' := 7) (ls' := [(0, .ref 496), (1, .int (iI 5)), (2, .int (iI (pl cur)))]) (st' := [.int (iI (pl cur)), .ref 496]) rfl ?_
                      refine T_put xr_62_7 h1920 rfl (Nat.le_of_ble_eq_true rfl) rfl (fs' := [.ref 497, .ref B, .int (iI 5), .int (iI (pl cur))]) rfl (pc' := 10) rfl (fun S1923 h1924 n1925 e1926 => ?_)
                      refine T_vret xr_62_10 xf_62.2.2 ?_
                      show X_T sc 75 (180, [(8, .int (iI (bI (X_isOp (so cur) ∧ pile < 2)))), (7, .int (iI (bI (¬ X_isOp (so cur) ∧ pile = 16)))), (6, .int (iI (bI ((so cur) = 64 ∧ (X_vl ct cur < 1 ∨ d 4 0 < X_vl ct cur))))), (5, .int (iI (X_vl ct cur))), (4, .int (iI (so cur))), (3, .int (iI (pl cur))), (0, .ref 496), (1, .ref a), (2, .int (iI pile))], [], S1923) _
                      refine T_p xr_75_180 xn_75 (pc' := 181) (ls' := [(8, .int (iI (bI (X_isOp (so cur) ∧ pile < 2)))), (7, .int (iI (bI (¬ X_isOp (so cur) ∧ pile = 16)))), (6, .int (iI (bI ((so cur) = 64 ∧ (X_vl ct cur < 1 ∨ d 4 0 < X_vl ct cur))))), (5, .int (iI (X_vl ct cur))), (4, .int (iI (so cur))), (3, .int (iI (pl cur))), (0, .ref 496), (1, .ref a), (2, .int (iI pile))]) (st' := [.int (iI (-1))]) rfl ?_
                      refine T_iret xr_75_181 xf_75.2.2 rfl ?_
                      refine hQ _ _ ?_
                      have h1927 := (n1925 497 (by decide)).trans ((n1921 497 (by decide)).trans (hx.1))
                      have h1928 := (n1925 a (by omega)).trans ((n1921 a (by omega)).trans (hw.1))
                      have h1929 := (n1925 (a + 1) (by omega)).trans ((n1921 (a + 1) (by omega)).trans (hw.2.1))
                      have h1930 := (n1925 (a + 2) (by omega)).trans ((n1921 (a + 2) (by omega)).trans (hw.2.2.1))
                      have h1931 := (n1925 (a + 3) (by omega)).trans ((n1921 (a + 3) (by omega)).trans (hw.2.2.2.1))
                      have h1932 := (n1925 (a + 4) (by omega)).trans ((n1921 (a + 4) (by omega)).trans (hw.2.2.2.2.1))
                      have h1933 := (n1925 (a + 5) (by omega)).trans ((n1921 (a + 5) (by omega)).trans (hw.2.2.2.2.2.1))
                      have h1934 := (n1925 (a + 6) (by omega)).trans ((n1921 (a + 6) (by omega)).trans (hw.2.2.2.2.2.2.1))
                      have h1935 := (n1925 (a + 7) (by omega)).trans ((n1921 (a + 7) (by omega)).trans (hw.2.2.2.2.2.2.2))
                      refine Or.inr ⟨rfl, ?_, ⟨_, _, by omega, h1924⟩, ⟨cur, h1927, by omega⟩, ⟨h1928, h1929, h1930, h1931, h1932, h1933, h1934, h1935⟩, ((X_Fr.rf).tr (X_Fr.of n1921 e1922 (by omega))).tr (X_Fr.of n1925 e1926 (by omega))⟩
                      unfold sp_step sp_stF
                      (repeat (first | rw [if_pos (by assumption)] | rw [if_neg (by assumption)]))
                      all_goals first | rfl | ((repeat' split) <;> first | rfl | (exfalso; omega))
              refine T_p xr_75_139 xn_75 (pc' := 141) (ls' := [(7, .int (iI (bI (¬ X_isOp (so cur) ∧ pile = 16)))), (6, .int (iI (bI ((so cur) = 64 ∧ (X_vl ct cur < 1 ∨ d 4 0 < X_vl ct cur))))), (5, .int (iI (X_vl ct cur))), (4, .int (iI (so cur))), (3, .int (iI (pl cur))), (0, .ref 496), (1, .ref a), (2, .int (iI pile))]) (st' := [.int (iI (so cur))]) rfl ?_
              refine T_cs xr_75_141 (by decide) xf_77.1 xn_77 (as := [.int (iI (so cur))]) (r := []) rfl (Nat.le_of_ble_eq_true rfl) (Nat.le_of_ble_eq_true rfl) (pc' := 144) rfl (ls' := [(0, .int (iI (so cur)))]) rfl ?_
              refine T_mono (c_isOperation sc S (so cur) (by omega)) (fun v1937 S1938 h1936 => ?_)
              obtain ⟨h1939, h1940⟩ := h1936
              rw [h1939, h1940]
              show X_T sc 75 (144, [(7, .int (iI (bI (¬ X_isOp (so cur) ∧ pile = 16)))), (6, .int (iI (bI ((so cur) = 64 ∧ (X_vl ct cur < 1 ∨ d 4 0 < X_vl ct cur))))), (5, .int (iI (X_vl ct cur))), (4, .int (iI (so cur))), (3, .int (iI (pl cur))), (0, .ref 496), (1, .ref a), (2, .int (iI pile))], [.int (iI (bI (X_isOp (so cur))))], S) _
              refine T_bif_eq xr_75_144 (t := 156) (pc' := 147) rfl rfl (fun c1941 => ?_) (fun c1941 => ?_)
              · skip
                have c1941 : ¬ (X_isOp (so cur)) := c1941
                exact (show False by first | contradiction | omega).elim
              · skip
                have c1941 : (X_isOp (so cur)) := c1941
                refine T_p xr_75_147 xn_75 (pc' := 148) (ls' := [(7, .int (iI (bI (¬ X_isOp (so cur) ∧ pile = 16)))), (6, .int (iI (bI ((so cur) = 64 ∧ (X_vl ct cur < 1 ∨ d 4 0 < X_vl ct cur))))), (5, .int (iI (X_vl ct cur))), (4, .int (iI (so cur))), (3, .int (iI (pl cur))), (0, .ref 496), (1, .ref a), (2, .int (iI pile))]) (st' := [.int (iI pile)]) rfl ?_
                refine T_p xr_75_148 xn_75 (pc' := 149) (ls' := [(7, .int (iI (bI (¬ X_isOp (so cur) ∧ pile = 16)))), (6, .int (iI (bI ((so cur) = 64 ∧ (X_vl ct cur < 1 ∨ d 4 0 < X_vl ct cur))))), (5, .int (iI (X_vl ct cur))), (4, .int (iI (so cur))), (3, .int (iI (pl cur))), (0, .ref 496), (1, .ref a), (2, .int (iI pile))]) (st' := [.int (iI 2), .int (iI pile)]) rfl ?_
                refine T_zicmp_ge xr_75_149 (t := 156) (pc' := 152) rfl rfl (fun c1942 => ?_) (fun c1942 => ?_)
                · skip
                  have c1942 : 2 ≤ pile := c1942
                  refine T_p xr_75_156 xn_75 (pc' := 157) (ls' := [(7, .int (iI (bI (¬ X_isOp (so cur) ∧ pile = 16)))), (6, .int (iI (bI ((so cur) = 64 ∧ (X_vl ct cur < 1 ∨ d 4 0 < X_vl ct cur))))), (5, .int (iI (X_vl ct cur))), (4, .int (iI (so cur))), (3, .int (iI (pl cur))), (0, .ref 496), (1, .ref a), (2, .int (iI pile))]) (st' := [.int (iI 0)]) rfl ?_
                  refine T_ie (y := iI (bI (X_isOp (so cur) ∧ pile < 2))) (by rw [bI_f (by rintro ⟨h1, h2⟩; first | omega | contradiction)]) ?_
                  exact J1847
                · skip
                  have c1942 : ¬ (2 ≤ pile) := c1942
                  refine T_p xr_75_152 xn_75 (pc' := 153) (ls' := [(7, .int (iI (bI (¬ X_isOp (so cur) ∧ pile = 16)))), (6, .int (iI (bI ((so cur) = 64 ∧ (X_vl ct cur < 1 ∨ d 4 0 < X_vl ct cur))))), (5, .int (iI (X_vl ct cur))), (4, .int (iI (so cur))), (3, .int (iI (pl cur))), (0, .ref 496), (1, .ref a), (2, .int (iI pile))]) (st' := [.int (iI 1)]) rfl ?_
                  refine T_p xr_75_153 xn_75 (pc' := 157) (ls' := [(7, .int (iI (bI (¬ X_isOp (so cur) ∧ pile = 16)))), (6, .int (iI (bI ((so cur) = 64 ∧ (X_vl ct cur < 1 ∨ d 4 0 < X_vl ct cur))))), (5, .int (iI (X_vl ct cur))), (4, .int (iI (so cur))), (3, .int (iI (pl cur))), (0, .ref 496), (1, .ref a), (2, .int (iI pile))]) (st' := [.int (iI 1)]) rfl ?_
                  refine T_ie (y := iI (bI (X_isOp (so cur) ∧ pile < 2))) (by rw [bI_t (by exact ⟨by assumption, by omega⟩)]) ?_
                  exact J1847
            refine T_p xr_75_118 xn_75 (pc' := 120) (ls' := [(6, .int (iI (bI ((so cur) = 64 ∧ (X_vl ct cur < 1 ∨ d 4 0 < X_vl ct cur))))), (5, .int (iI (X_vl ct cur))), (4, .int (iI (so cur))), (3, .int (iI (pl cur))), (0, .ref 496), (1, .ref a), (2, .int (iI pile))]) (st' := [.int (iI (so cur))]) rfl ?_
            refine T_cs xr_75_120 (by decide) xf_77.1 xn_77 (as := [.int (iI (so cur))]) (r := []) rfl (Nat.le_of_ble_eq_true rfl) (Nat.le_of_ble_eq_true rfl) (pc' := 123) rfl (ls' := [(0, .int (iI (so cur)))]) rfl ?_
            refine T_mono (c_isOperation sc S (so cur) (by omega)) (fun v1944 S1945 h1943 => ?_)
            obtain ⟨h1946, h1947⟩ := h1943
            rw [h1946, h1947]
            show X_T sc 75 (123, [(6, .int (iI (bI ((so cur) = 64 ∧ (X_vl ct cur < 1 ∨ d 4 0 < X_vl ct cur))))), (5, .int (iI (X_vl ct cur))), (4, .int (iI (so cur))), (3, .int (iI (pl cur))), (0, .ref 496), (1, .ref a), (2, .int (iI pile))], [.int (iI (bI (X_isOp (so cur))))], S) _
            refine T_bif_ne xr_75_123 (t := 136) (pc' := 126) rfl rfl (fun c1948 => ?_) (fun c1948 => ?_)
            · skip
              have c1948 : (X_isOp (so cur)) := c1948
              refine T_p xr_75_136 xn_75 (pc' := 137) (ls' := [(6, .int (iI (bI ((so cur) = 64 ∧ (X_vl ct cur < 1 ∨ d 4 0 < X_vl ct cur))))), (5, .int (iI (X_vl ct cur))), (4, .int (iI (so cur))), (3, .int (iI (pl cur))), (0, .ref 496), (1, .ref a), (2, .int (iI pile))]) (st' := [.int (iI 0)]) rfl ?_
              refine T_ie (y := iI (bI (¬ X_isOp (so cur) ∧ pile = 16))) (by rw [bI_f (by rintro ⟨h1, h2⟩; first | omega | contradiction)]) ?_
              exact J1846
            · skip
              have c1948 : ¬ (X_isOp (so cur)) := c1948
              exact (show False by first | contradiction | omega).elim
          refine T_p xr_75_89 xn_75 (pc' := 91) (ls' := [(5, .int (iI (X_vl ct cur))), (4, .int (iI (so cur))), (3, .int (iI (pl cur))), (0, .ref 496), (1, .ref a), (2, .int (iI pile))]) (st' := [.int (iI (so cur))]) rfl ?_
          refine T_p xr_75_91 xn_75 (pc' := 93) (ls' := [(5, .int (iI (X_vl ct cur))), (4, .int (iI (so cur))), (3, .int (iI (pl cur))), (0, .ref 496), (1, .ref a), (2, .int (iI pile))]) (st' := [.int (iI 64), .int (iI (so cur))]) rfl ?_
          refine T_zicmp_ne xr_75_93 (t := 115) (pc' := 96) rfl rfl (fun c1949 => ?_) (fun c1949 => ?_)
          · skip
            have c1949 : ¬ (so cur) = 64 := c1949
            refine T_p xr_75_115 xn_75 (pc' := 116) (ls' := [(5, .int (iI (X_vl ct cur))), (4, .int (iI (so cur))), (3, .int (iI (pl cur))), (0, .ref 496), (1, .ref a), (2, .int (iI pile))]) (st' := [.int (iI 0)]) rfl ?_
            refine T_ie (y := iI (bI ((so cur) = 64 ∧ (X_vl ct cur < 1 ∨ d 4 0 < X_vl ct cur)))) (by rw [bI_f (by rintro ⟨h1, h2⟩; omega)]) ?_
            exact J1845
          · skip
            have c1949 : ¬ (¬ (so cur) = 64) := c1949
            exact (show False by first | contradiction | omega).elim
        · skip
          have c1838 : ¬ (X_isOp (so cur)) := c1838
          refine T_p xr_75_73 xn_75 (pc' := 74) (ls' := [(4, .int (iI (so cur))), (3, .int (iI (pl cur))), (0, .ref 496), (1, .ref a), (2, .int (iI pile))]) (st' := [.ref 496]) rfl ?_
          refine T_cv (S := S) (q := 496) xr_75_74 xf_63.1 xf_63.2.1 xn_63 (as := []) (r := []) rfl hp (Nat.le_of_ble_eq_true rfl) (Nat.le_of_ble_eq_true rfl) (pc' := 77) rfl (ls' := [(0, .ref 496)]) rfl ?_
          refine T_mono (c_refuse sc S B fl fp at_ n cur so pl ct hp ⟨hx.1, hx.2.1, hx.2.2.1, hx.2.2.2⟩ (by omega) hso) (fun v1950 S1951 h1952 => ?_)
          obtain ⟨h1953, ⟨fl1954, fp1955, hn1956, hp1957⟩, hf1958⟩ := h1952
          rw [h1953]
          show X_T sc 75 (77, [(4, .int (iI (so cur))), (3, .int (iI (pl cur))), (0, .ref 496), (1, .ref a), (2, .int (iI pile))], [], S1951) _
          refine T_p xr_75_77 xn_75 (pc' := 78) (ls' := [(4, .int (iI (so cur))), (3, .int (iI (pl cur))), (0, .ref 496), (1, .ref a), (2, .int (iI pile))]) (st' := [.int (iI (-1))]) rfl ?_
          refine T_iret xr_75_78 xf_75.2.2 rfl ?_
          refine hQ _ _ ?_
          have h1959 := (hf1958.1 497 (by omega)).trans (hx.1)
          have h1960 := (hf1958.1 a (by omega)).trans (hw.1)
          have h1961 := (hf1958.1 (a + 1) (by omega)).trans (hw.2.1)
          have h1962 := (hf1958.1 (a + 2) (by omega)).trans (hw.2.2.1)
          have h1963 := (hf1958.1 (a + 3) (by omega)).trans (hw.2.2.2.1)
          have h1964 := (hf1958.1 (a + 4) (by omega)).trans (hw.2.2.2.2.1)
          have h1965 := (hf1958.1 (a + 5) (by omega)).trans (hw.2.2.2.2.2.1)
          have h1966 := (hf1958.1 (a + 6) (by omega)).trans (hw.2.2.2.2.2.2.1)
          have h1967 := (hf1958.1 (a + 7) (by omega)).trans (hw.2.2.2.2.2.2.2)
          refine Or.inr ⟨rfl, ?_, ⟨_, _, by omega, hp1957⟩, ⟨cur, h1959, by omega⟩, ⟨h1960, h1961, h1962, h1963, h1964, h1965, h1966, h1967⟩, (X_Fr.rf).tr (X_Fr.mono ⟨hf1958.1, hf1958.2⟩ (fun q hq => (by omega)))⟩
          unfold sp_step sp_stF
          (repeat (first | rw [if_pos (by assumption)] | rw [if_neg (by assumption)]))
          all_goals first | rfl | ((repeat' split) <;> first | rfl | (exfalso; omega))
    · skip
      have c1710 : ¬ (¬ (so cur) = 64) := c1710
      have hop1968 : ¬ (X_isOp (so cur)) := by unfold X_isOp; omega
      refine T_p xr_75_35 xn_75 (pc' := 36) (ls' := [(4, .int (iI (so cur))), (3, .int (iI (pl cur))), (0, .ref 496), (1, .ref a), (2, .int (iI pile))]) (st' := [.ref 496]) rfl ?_
      refine T_get xr_75_36 hp rfl (v := .ref 497) rfl (pc' := 39) rfl ?_
      refine T_cv (S := S) (q := 497) xr_75_39 xf_48.1 xf_48.2.1 xn_48 (as := []) (r := []) rfl hx.1 (Nat.le_of_ble_eq_true rfl) (Nat.le_of_ble_eq_true rfl) (pc' := 42) rfl (ls' := [(0, .ref 497)]) rfl ?_
      refine T_mono (c_advance sc S at_ n cur so pl ct ⟨hx.1, hx.2.1, hx.2.2.1, hx.2.2.2⟩ (by omega)) (fun v1970 S1971 h1969 => ?_)
      obtain ⟨h1972, h1974, h1973⟩ := h1969
      rw [h1972]
      show X_T sc 75 (42, [(4, .int (iI (so cur))), (3, .int (iI (pl cur))), (0, .ref 496), (1, .ref a), (2, .int (iI pile))], [], S1971) _
      have hv1975 := X_av_r (n := n) (c := cur) (by omega)
      refine T_p xr_75_42 xn_75 (pc' := 43) (ls' := [(4, .int (iI (so cur))), (3, .int (iI (pl cur))), (0, .ref 496), (1, .ref a), (2, .int (iI pile))]) (st' := [.ref 496]) rfl ?_
      have h1976 := (h1973.1 496 (by omega)).trans (hp)
      refine T_get xr_75_43 h1976 rfl (v := .ref 497) rfl (pc' := 46) rfl ?_
      refine T_cv (S := S1971) (q := 497) xr_75_46 xf_44.1 xf_44.2.1 xn_44 (as := []) (r := []) rfl h1974 (Nat.le_of_ble_eq_true rfl) (Nat.le_of_ble_eq_true rfl) (pc' := 49) rfl (ls' := [(0, .ref 497)]) rfl ?_
      have h1977 := (h1973.1 498 (by omega)).trans (hx.2.1)
      have h1978 := (h1973.1 499 (by omega)).trans (hx.2.2.1)
      have h1979 := (h1973.1 500 (by omega)).trans (hx.2.2.2)
      refine T_mono (c_sort sc S1971 at_ n (X_av n cur) so pl ct ⟨h1974, h1977, h1978, h1979⟩ (by omega)) (fun v1981 S1982 h1980 => ?_)
      obtain ⟨h1983, h1984⟩ := h1980
      rw [h1983, h1984]
      show X_T sc 75 (49, [(4, .int (iI (so cur))), (3, .int (iI (pl cur))), (0, .ref 496), (1, .ref a), (2, .int (iI pile))], [.int (iI (so (X_av n cur)))], S1971) _
      have hs1985 := hso (X_av n cur) (by omega) (by omega)
      refine T_p xr_75_49 xn_75 (pc' := 50) (ls' := [(4, .int (iI (so cur))), (3, .int (iI (pl cur))), (0, .ref 496), (1, .ref a), (2, .int (iI pile))]) (st' := [.int (iI 5), .int (iI (so (X_av n cur)))]) rfl ?_
      refine T_zicmp_eq xr_75_50 (t := 79) (pc' := 53) rfl rfl (fun c1986 => ?_) (fun c1986 => ?_)
      · skip
        have c1986 : (so (X_av n cur)) = 5 := c1986
        refine T_p xr_75_79 xn_75 (pc' := 80) (ls' := [(4, .int (iI (so cur))), (3, .int (iI (pl cur))), (0, .ref 496), (1, .ref a), (2, .int (iI pile))]) (st' := [.ref 496]) rfl ?_
        refine T_get xr_75_80 h1976 rfl (v := .ref 497) rfl (pc' := 83) rfl ?_
        refine T_cv (S := S1971) (q := 497) xr_75_83 xf_46.1 xf_46.2.1 xn_46 (as := []) (r := []) rfl h1974 (Nat.le_of_ble_eq_true rfl) (Nat.le_of_ble_eq_true rfl) (pc' := 86) rfl (ls' := [(0, .ref 497)]) rfl ?_
        refine T_mono (c_content sc S1971 at_ n (X_av n cur) so pl ct ⟨h1974, h1977, h1978, h1979⟩ (by omega)) (fun v1988 S1989 h1987 => ?_)
        obtain ⟨h1990, h1991⟩ := h1987
        rw [h1990, h1991]
        show X_T sc 75 (86, [(4, .int (iI (so cur))), (3, .int (iI (pl cur))), (0, .ref 496), (1, .ref a), (2, .int (iI pile))], [.long (ct (X_av n cur))], S1971) _
        refine T_zop xr_75_86 (pc' := 87) rfl (z := ((ct (X_av n cur) : Int64).toInt32).toInt) (iI_of _) ?_
        refine T_ie (y := iI (X_vl ct (X_av n cur))) rfl ?_
        have hv1992 := X_vl_r ct (X_av n cur)
        refine T_p xr_75_87 xn_75 (pc' := 89) (ls' := [(5, .int (iI (X_vl ct (X_av n cur)))), (4, .int (iI (so cur))), (3, .int (iI (pl cur))), (0, .ref 496), (1, .ref a), (2, .int (iI pile))]) (st' := []) rfl ?_
        have J1993 : X_T sc 75 (116, [(5, .int (iI (X_vl ct (X_av n cur)))), (4, .int (iI (so cur))), (3, .int (iI (pl cur))), (0, .ref 496), (1, .ref a), (2, .int (iI pile))], [.int (iI (bI ((so cur) = 64 ∧ (X_vl ct (X_av n cur) < 1 ∨ d 4 0 < X_vl ct (X_av n cur)))))], S1971) Q := by
          refine T_p xr_75_116 xn_75 (pc' := 118) (ls' := [(6, .int (iI (bI ((so cur) = 64 ∧ (X_vl ct (X_av n cur) < 1 ∨ d 4 0 < X_vl ct (X_av n cur)))))), (5, .int (iI (X_vl ct (X_av n cur)))), (4, .int (iI (so cur))), (3, .int (iI (pl cur))), (0, .ref 496), (1, .ref a), (2, .int (iI pile))]) (st' := []) rfl ?_
          have J1994 : X_T sc 75 (137, [(6, .int (iI (bI ((so cur) = 64 ∧ (X_vl ct (X_av n cur) < 1 ∨ d 4 0 < X_vl ct (X_av n cur)))))), (5, .int (iI (X_vl ct (X_av n cur)))), (4, .int (iI (so cur))), (3, .int (iI (pl cur))), (0, .ref 496), (1, .ref a), (2, .int (iI pile))], [.int (iI (bI (¬ X_isOp (so cur) ∧ pile = 16)))], S1971) Q := by
            refine T_p xr_75_137 xn_75 (pc' := 139) (ls' := [(7, .int (iI (bI (¬ X_isOp (so cur) ∧ pile = 16)))), (6, .int (iI (bI ((so cur) = 64 ∧ (X_vl ct (X_av n cur) < 1 ∨ d 4 0 < X_vl ct (X_av n cur)))))), (5, .int (iI (X_vl ct (X_av n cur)))), (4, .int (iI (so cur))), (3, .int (iI (pl cur))), (0, .ref 496), (1, .ref a), (2, .int (iI pile))]) (st' := []) rfl ?_
            have J1995 : X_T sc 75 (157, [(7, .int (iI (bI (¬ X_isOp (so cur) ∧ pile = 16)))), (6, .int (iI (bI ((so cur) = 64 ∧ (X_vl ct (X_av n cur) < 1 ∨ d 4 0 < X_vl ct (X_av n cur)))))), (5, .int (iI (X_vl ct (X_av n cur)))), (4, .int (iI (so cur))), (3, .int (iI (pl cur))), (0, .ref 496), (1, .ref a), (2, .int (iI pile))], [.int (iI (bI (X_isOp (so cur) ∧ pile < 2)))], S1971) Q := by
              refine T_p xr_75_157 xn_75 (pc' := 159) (ls' := [(8, .int (iI (bI (X_isOp (so cur) ∧ pile < 2)))), (7, .int (iI (bI (¬ X_isOp (so cur) ∧ pile = 16)))), (6, .int (iI (bI ((so cur) = 64 ∧ (X_vl ct (X_av n cur) < 1 ∨ d 4 0 < X_vl ct (X_av n cur)))))), (5, .int (iI (X_vl ct (X_av n cur)))), (4, .int (iI (so cur))), (3, .int (iI (pl cur))), (0, .ref 496), (1, .ref a), (2, .int (iI pile))]) (st' := []) rfl ?_
              refine T_p xr_75_159 xn_75 (pc' := 161) (ls' := [(8, .int (iI (bI (X_isOp (so cur) ∧ pile < 2)))), (7, .int (iI (bI (¬ X_isOp (so cur) ∧ pile = 16)))), (6, .int (iI (bI ((so cur) = 64 ∧ (X_vl ct (X_av n cur) < 1 ∨ d 4 0 < X_vl ct (X_av n cur)))))), (5, .int (iI (X_vl ct (X_av n cur)))), (4, .int (iI (so cur))), (3, .int (iI (pl cur))), (0, .ref 496), (1, .ref a), (2, .int (iI pile))]) (st' := [.int (iI (bI ((so cur) = 64 ∧ (X_vl ct (X_av n cur) < 1 ∨ d 4 0 < X_vl ct (X_av n cur)))))]) rfl ?_
              refine T_bif_ne xr_75_161 (t := 174) (pc' := 164) rfl rfl (fun c1996 => ?_) (fun c1996 => ?_)
              · skip
                have c1996 : ((so cur) = 64 ∧ (X_vl ct (X_av n cur) < 1 ∨ d 4 0 < X_vl ct (X_av n cur))) := c1996
                refine T_p xr_75_174 xn_75 (pc' := 175) (ls' := [(8, .int (iI (bI (X_isOp (so cur) ∧ pile < 2)))), (7, .int (iI (bI (¬ X_isOp (so cur) ∧ pile = 16)))), (6, .int (iI (bI ((so cur) = 64 ∧ (X_vl ct (X_av n cur) < 1 ∨ d 4 0 < X_vl ct (X_av n cur)))))), (5, .int (iI (X_vl ct (X_av n cur)))), (4, .int (iI (so cur))), (3, .int (iI (pl cur))), (0, .ref 496), (1, .ref a), (2, .int (iI pile))]) (st' := [.ref 496]) rfl ?_
                refine T_p xr_75_175 xn_75 (pc' := 176) (ls' := [(8, .int (iI (bI (X_isOp (so cur) ∧ pile < 2)))), (7, .int (iI (bI (¬ X_isOp (so cur) ∧ pile = 16)))), (6, .int (iI (bI ((so cur) = 64 ∧ (X_vl ct (X_av n cur) < 1 ∨ d 4 0 < X_vl ct (X_av n cur)))))), (5, .int (iI (X_vl ct (X_av n cur)))), (4, .int (iI (so cur))), (3, .int (iI (pl cur))), (0, .ref 496), (1, .ref a), (2, .int (iI pile))]) (st' := [.int (iI 5), .ref 496]) rfl ?_
                refine T_p xr_75_176 xn_75 (pc' := 177) (ls' := [(8, .int (iI (bI (X_isOp (so cur) ∧ pile < 2)))), (7, .int (iI (bI (¬ X_isOp (so cur) ∧ pile = 16)))), (6, .int (iI (bI ((so cur) = 64 ∧ (X_vl ct (X_av n cur) < 1 ∨ d 4 0 < X_vl ct (X_av n cur)))))), (5, .int (iI (X_vl ct (X_av n cur)))), (4, .int (iI (so cur))), (3, .int (iI (pl cur))), (0, .ref 496), (1, .ref a), (2, .int (iI pile))]) (st' := [.int (iI (pl cur)), .int (iI 5), .ref 496]) rfl ?_
                refine T_cv (S := S1971) (q := 496) xr_75_177 xf_62.1 xf_62.2.1 xn_62 (as := [.int (iI 5), .int (iI (pl cur))]) (r := []) rfl h1976 (Nat.le_of_ble_eq_true rfl) (Nat.le_of_ble_eq_true rfl) (pc' := 180) rfl (ls' := [(0, .ref 496), (1, .int (iI 5)), (2, .int (iI (pl cur)))]) rfl ?_
                refine T_p xr_62_0 xn_62 (pc' := 1) (ls' := [(0, .ref 496), (1, .int (iI 5)), (2, .int (iI (pl cur)))]) (st' := [.ref 496]) rfl ?_
                refine T_p xr_62_1 xn_62 (pc' := 2) (ls' := [(0, .ref 496), (1, .int (iI 5)), (2, .int (iI (pl cur)))]) (st' := [.int (iI 5), .ref 496]) rfl ?_
                refine T_put xr_62_2 h1976 rfl (Nat.le_of_ble_eq_true rfl) rfl (fs' := [.ref 497, .ref B, .int (iI 5), .int (iI fp)]) rfl (pc' := 5) rfl (fun S1997 h1998 n1999 e2000 => ?_)
                refine T_p xr_62_5 xn_62 (pc' := 6) (ls' := [(0, .ref 496), (1, .int (iI 5)), (2, .int (iI (pl cur)))]) (st' := [.ref 496]) rfl ?_
                refine T_p xr_62_6 xn_62 (pc' := 7) (ls' := [(0, .ref 496), (1, .int (iI 5)), (2, .int (iI (pl cur)))]) (st' := [.int (iI (pl cur)), .ref 496]) rfl ?_
                refine T_put xr_62_7 h1998 rfl (Nat.le_of_ble_eq_true rfl) rfl (fs' := [.ref 497, .ref B, .int (iI 5), .int (iI (pl cur))]) rfl (pc' := 10) rfl (fun S2001 h2002 n2003 e2004 => ?_)
                refine T_vret xr_62_10 xf_62.2.2 ?_
                show X_T sc 75 (180, [(8, .int (iI (bI (X_isOp (so cur) ∧ pile < 2)))), (7, .int (iI (bI (¬ X_isOp (so cur) ∧ pile = 16)))), (6, .int (iI (bI ((so cur) = 64 ∧ (X_vl ct (X_av n cur) < 1 ∨ d 4 0 < X_vl ct (X_av n cur)))))), (5, .int (iI (X_vl ct (X_av n cur)))), (4, .int (iI (so cur))), (3, .int (iI (pl cur))), (0, .ref 496), (1, .ref a), (2, .int (iI pile))], [], S2001) _
                refine T_p xr_75_180 xn_75 (pc' := 181) (ls' := [(8, .int (iI (bI (X_isOp (so cur) ∧ pile < 2)))), (7, .int (iI (bI (¬ X_isOp (so cur) ∧ pile = 16)))), (6, .int (iI (bI ((so cur) = 64 ∧ (X_vl ct (X_av n cur) < 1 ∨ d 4 0 < X_vl ct (X_av n cur)))))), (5, .int (iI (X_vl ct (X_av n cur)))), (4, .int (iI (so cur))), (3, .int (iI (pl cur))), (0, .ref 496), (1, .ref a), (2, .int (iI pile))]) (st' := [.int (iI (-1))]) rfl ?_
                refine T_iret xr_75_181 xf_75.2.2 rfl ?_
                refine hQ _ _ ?_
                have h2005 := (n2003 497 (by decide)).trans ((n1999 497 (by decide)).trans (h1974))
                have h2006 := (n2003 a (by omega)).trans ((n1999 a (by omega)).trans ((h1973.1 a (by omega)).trans (hw.1)))
                have h2007 := (n2003 (a + 1) (by omega)).trans ((n1999 (a + 1) (by omega)).trans ((h1973.1 (a + 1) (by omega)).trans (hw.2.1)))
                have h2008 := (n2003 (a + 2) (by omega)).trans ((n1999 (a + 2) (by omega)).trans ((h1973.1 (a + 2) (by omega)).trans (hw.2.2.1)))
                have h2009 := (n2003 (a + 3) (by omega)).trans ((n1999 (a + 3) (by omega)).trans ((h1973.1 (a + 3) (by omega)).trans (hw.2.2.2.1)))
                have h2010 := (n2003 (a + 4) (by omega)).trans ((n1999 (a + 4) (by omega)).trans ((h1973.1 (a + 4) (by omega)).trans (hw.2.2.2.2.1)))
                have h2011 := (n2003 (a + 5) (by omega)).trans ((n1999 (a + 5) (by omega)).trans ((h1973.1 (a + 5) (by omega)).trans (hw.2.2.2.2.2.1)))
                have h2012 := (n2003 (a + 6) (by omega)).trans ((n1999 (a + 6) (by omega)).trans ((h1973.1 (a + 6) (by omega)).trans (hw.2.2.2.2.2.2.1)))
                have h2013 := (n2003 (a + 7) (by omega)).trans ((n1999 (a + 7) (by omega)).trans ((h1973.1 (a + 7) (by omega)).trans (hw.2.2.2.2.2.2.2)))
                refine Or.inr ⟨rfl, ?_, ⟨_, _, by omega, h2002⟩, ⟨X_av n cur, h2005, by omega⟩, ⟨h2006, h2007, h2008, h2009, h2010, h2011, h2012, h2013⟩, (((X_Fr.rf).tr (X_Fr.mono ⟨h1973.1, h1973.2⟩ (fun q hq => (by omega)))).tr (X_Fr.of n1999 e2000 (by omega))).tr (X_Fr.of n2003 e2004 (by omega))⟩
                unfold sp_step sp_stF
                (repeat (first | rw [if_pos (by assumption)] | rw [if_neg (by assumption)]))
                all_goals first | rfl | ((repeat' split) <;> first | rfl | (exfalso; omega))
              · skip
                have c1996 : ¬ ((so cur) = 64 ∧ (X_vl ct (X_av n cur) < 1 ∨ d 4 0 < X_vl ct (X_av n cur))) := c1996
                refine T_p xr_75_164 xn_75 (pc' := 166) (ls' := [(8, .int (iI (bI (X_isOp (so cur) ∧ pile < 2)))), (7, .int (iI (bI (¬ X_isOp (so cur) ∧ pile = 16)))), (6, .int (iI (bI ((so cur) = 64 ∧ (X_vl ct (X_av n cur) < 1 ∨ d 4 0 < X_vl ct (X_av n cur)))))), (5, .int (iI (X_vl ct (X_av n cur)))), (4, .int (iI (so cur))), (3, .int (iI (pl cur))), (0, .ref 496), (1, .ref a), (2, .int (iI pile))]) (st' := [.int (iI (bI (¬ X_isOp (so cur) ∧ pile = 16)))]) rfl ?_
                refine T_bif_ne xr_75_166 (t := 174) (pc' := 169) rfl rfl (fun c2014 => ?_) (fun c2014 => ?_)
                · skip
                  have c2014 : (¬ X_isOp (so cur) ∧ pile = 16) := c2014
                  refine T_p xr_75_174 xn_75 (pc' := 175) (ls' := [(8, .int (iI (bI (X_isOp (so cur) ∧ pile < 2)))), (7, .int (iI (bI (¬ X_isOp (so cur) ∧ pile = 16)))), (6, .int (iI (bI ((so cur) = 64 ∧ (X_vl ct (X_av n cur) < 1 ∨ d 4 0 < X_vl ct (X_av n cur)))))), (5, .int (iI (X_vl ct (X_av n cur)))), (4, .int (iI (so cur))), (3, .int (iI (pl cur))), (0, .ref 496), (1, .ref a), (2, .int (iI pile))]) (st' := [.ref 496]) rfl ?_
                  refine T_p xr_75_175 xn_75 (pc' := 176) (ls' := [(8, .int (iI (bI (X_isOp (so cur) ∧ pile < 2)))), (7, .int (iI (bI (¬ X_isOp (so cur) ∧ pile = 16)))), (6, .int (iI (bI ((so cur) = 64 ∧ (X_vl ct (X_av n cur) < 1 ∨ d 4 0 < X_vl ct (X_av n cur)))))), (5, .int (iI (X_vl ct (X_av n cur)))), (4, .int (iI (so cur))), (3, .int (iI (pl cur))), (0, .ref 496), (1, .ref a), (2, .int (iI pile))]) (st' := [.int (iI 5), .ref 496]) rfl ?_
                  refine T_p xr_75_176 xn_75 (pc' := 177) (ls' := [(8, .int (iI (bI (X_isOp (so cur) ∧ pile < 2)))), (7, .int (iI (bI (¬ X_isOp (so cur) ∧ pile = 16)))), (6, .int (iI (bI ((so cur) = 64 ∧ (X_vl ct (X_av n cur) < 1 ∨ d 4 0 < X_vl ct (X_av n cur)))))), (5, .int (iI (X_vl ct (X_av n cur)))), (4, .int (iI (so cur))), (3, .int (iI (pl cur))), (0, .ref 496), (1, .ref a), (2, .int (iI pile))]) (st' := [.int (iI (pl cur)), .int (iI 5), .ref 496]) rfl ?_
                  refine T_cv (S := S1971) (q := 496) xr_75_177 xf_62.1 xf_62.2.1 xn_62 (as := [.int (iI 5), .int (iI (pl cur))]) (r := []) rfl h1976 (Nat.le_of_ble_eq_true rfl) (Nat.le_of_ble_eq_true rfl) (pc' := 180) rfl (ls' := [(0, .ref 496), (1, .int (iI 5)), (2, .int (iI (pl cur)))]) rfl ?_
                  refine T_p xr_62_0 xn_62 (pc' := 1) (ls' := [(0, .ref 496), (1, .int (iI 5)), (2, .int (iI (pl cur)))]) (st' := [.ref 496]) rfl ?_
                  refine T_p xr_62_1 xn_62 (pc' := 2) (ls' := [(0, .ref 496), (1, .int (iI 5)), (2, .int (iI (pl cur)))]) (st' := [.int (iI 5), .ref 496]) rfl ?_
                  refine T_put xr_62_2 h1976 rfl (Nat.le_of_ble_eq_true rfl) rfl (fs' := [.ref 497, .ref B, .int (iI 5), .int (iI fp)]) rfl (pc' := 5) rfl (fun S2015 h2016 n2017 e2018 => ?_)
                  refine T_p xr_62_5 xn_62 (pc' := 6) (ls' := [(0, .ref 496), (1, .int (iI 5)), (2, .int (iI (pl cur)))]) (st' := [.ref 496]) rfl ?_
                  refine T_p xr_62_6 xn_62 (pc' := 7) (ls' := [(0, .ref 496), (1, .int (iI 5)), (2, .int (iI (pl cur)))]) (st' := [.int (iI (pl cur)), .ref 496]) rfl ?_
                  refine T_put xr_62_7 h2016 rfl (Nat.le_of_ble_eq_true rfl) rfl (fs' := [.ref 497, .ref B, .int (iI 5), .int (iI (pl cur))]) rfl (pc' := 10) rfl (fun S2019 h2020 n2021 e2022 => ?_)
                  refine T_vret xr_62_10 xf_62.2.2 ?_
                  show X_T sc 75 (180, [(8, .int (iI (bI (X_isOp (so cur) ∧ pile < 2)))), (7, .int (iI (bI (¬ X_isOp (so cur) ∧ pile = 16)))), (6, .int (iI (bI ((so cur) = 64 ∧ (X_vl ct (X_av n cur) < 1 ∨ d 4 0 < X_vl ct (X_av n cur)))))), (5, .int (iI (X_vl ct (X_av n cur)))), (4, .int (iI (so cur))), (3, .int (iI (pl cur))), (0, .ref 496), (1, .ref a), (2, .int (iI pile))], [], S2019) _
                  refine T_p xr_75_180 xn_75 (pc' := 181) (ls' := [(8, .int (iI (bI (X_isOp (so cur) ∧ pile < 2)))), (7, .int (iI (bI (¬ X_isOp (so cur) ∧ pile = 16)))), (6, .int (iI (bI ((so cur) = 64 ∧ (X_vl ct (X_av n cur) < 1 ∨ d 4 0 < X_vl ct (X_av n cur)))))), (5, .int (iI (X_vl ct (X_av n cur)))), (4, .int (iI (so cur))), (3, .int (iI (pl cur))), (0, .ref 496), (1, .ref a), (2, .int (iI pile))]) (st' := [.int (iI (-1))]) rfl ?_
                  refine T_iret xr_75_181 xf_75.2.2 rfl ?_
                  refine hQ _ _ ?_
                  have h2023 := (n2021 497 (by decide)).trans ((n2017 497 (by decide)).trans (h1974))
                  have h2024 := (n2021 a (by omega)).trans ((n2017 a (by omega)).trans ((h1973.1 a (by omega)).trans (hw.1)))
                  have h2025 := (n2021 (a + 1) (by omega)).trans ((n2017 (a + 1) (by omega)).trans ((h1973.1 (a + 1) (by omega)).trans (hw.2.1)))
                  have h2026 := (n2021 (a + 2) (by omega)).trans ((n2017 (a + 2) (by omega)).trans ((h1973.1 (a + 2) (by omega)).trans (hw.2.2.1)))
                  have h2027 := (n2021 (a + 3) (by omega)).trans ((n2017 (a + 3) (by omega)).trans ((h1973.1 (a + 3) (by omega)).trans (hw.2.2.2.1)))
                  have h2028 := (n2021 (a + 4) (by omega)).trans ((n2017 (a + 4) (by omega)).trans ((h1973.1 (a + 4) (by omega)).trans (hw.2.2.2.2.1)))
                  have h2029 := (n2021 (a + 5) (by omega)).trans ((n2017 (a + 5) (by omega)).trans ((h1973.1 (a + 5) (by omega)).trans (hw.2.2.2.2.2.1)))
                  have h2030 := (n2021 (a + 6) (by omega)).trans ((n2017 (a + 6) (by omega)).trans ((h1973.1 (a + 6) (by omega)).trans (hw.2.2.2.2.2.2.1)))
                  have h2031 := (n2021 (a + 7) (by omega)).trans ((n2017 (a + 7) (by omega)).trans ((h1973.1 (a + 7) (by omega)).trans (hw.2.2.2.2.2.2.2)))
                  refine Or.inr ⟨rfl, ?_, ⟨_, _, by omega, h2020⟩, ⟨X_av n cur, h2023, by omega⟩, ⟨h2024, h2025, h2026, h2027, h2028, h2029, h2030, h2031⟩, (((X_Fr.rf).tr (X_Fr.mono ⟨h1973.1, h1973.2⟩ (fun q hq => (by omega)))).tr (X_Fr.of n2017 e2018 (by omega))).tr (X_Fr.of n2021 e2022 (by omega))⟩
                  unfold sp_step sp_stF
                  (repeat (first | rw [if_pos (by assumption)] | rw [if_neg (by assumption)]))
                  all_goals first | rfl | ((repeat' split) <;> first | rfl | (exfalso; omega))
                · skip
                  have c2014 : ¬ (¬ X_isOp (so cur) ∧ pile = 16) := c2014
                  refine T_p xr_75_169 xn_75 (pc' := 171) (ls' := [(8, .int (iI (bI (X_isOp (so cur) ∧ pile < 2)))), (7, .int (iI (bI (¬ X_isOp (so cur) ∧ pile = 16)))), (6, .int (iI (bI ((so cur) = 64 ∧ (X_vl ct (X_av n cur) < 1 ∨ d 4 0 < X_vl ct (X_av n cur)))))), (5, .int (iI (X_vl ct (X_av n cur)))), (4, .int (iI (so cur))), (3, .int (iI (pl cur))), (0, .ref 496), (1, .ref a), (2, .int (iI pile))]) (st' := [.int (iI (bI (X_isOp (so cur) ∧ pile < 2)))]) rfl ?_
                  refine T_bif_eq xr_75_171 (t := 182) (pc' := 174) rfl rfl (fun c2032 => ?_) (fun c2032 => ?_)
                  · skip
                    have c2032 : ¬ (X_isOp (so cur) ∧ pile < 2) := c2032
                    refine T_p xr_75_182 xn_75 (pc' := 183) (ls' := [(8, .int (iI (bI (X_isOp (so cur) ∧ pile < 2)))), (7, .int (iI (bI (¬ X_isOp (so cur) ∧ pile = 16)))), (6, .int (iI (bI ((so cur) = 64 ∧ (X_vl ct (X_av n cur) < 1 ∨ d 4 0 < X_vl ct (X_av n cur)))))), (5, .int (iI (X_vl ct (X_av n cur)))), (4, .int (iI (so cur))), (3, .int (iI (pl cur))), (0, .ref 496), (1, .ref a), (2, .int (iI pile))]) (st' := [.ref a]) rfl ?_
                    refine T_p xr_75_183 xn_75 (pc' := 185) (ls' := [(8, .int (iI (bI (X_isOp (so cur) ∧ pile < 2)))), (7, .int (iI (bI (¬ X_isOp (so cur) ∧ pile = 16)))), (6, .int (iI (bI ((so cur) = 64 ∧ (X_vl ct (X_av n cur) < 1 ∨ d 4 0 < X_vl ct (X_av n cur)))))), (5, .int (iI (X_vl ct (X_av n cur)))), (4, .int (iI (so cur))), (3, .int (iI (pl cur))), (0, .ref 496), (1, .ref a), (2, .int (iI pile))]) (st' := [.int (iI (so cur)), .ref a]) rfl ?_
                    refine T_p xr_75_185 xn_75 (pc' := 187) (ls' := [(8, .int (iI (bI (X_isOp (so cur) ∧ pile < 2)))), (7, .int (iI (bI (¬ X_isOp (so cur) ∧ pile = 16)))), (6, .int (iI (bI ((so cur) = 64 ∧ (X_vl ct (X_av n cur) < 1 ∨ d 4 0 < X_vl ct (X_av n cur)))))), (5, .int (iI (X_vl ct (X_av n cur)))), (4, .int (iI (so cur))), (3, .int (iI (pl cur))), (0, .ref 496), (1, .ref a), (2, .int (iI pile))]) (st' := [.int (iI (X_vl ct (X_av n cur))), .int (iI (so cur)), .ref a]) rfl ?_
                    have h2033 := (h1973.1 a (by omega)).trans (hw.1)
                    refine T_cv (S := S1971) (q := a) xr_75_187 xf_94.1 xf_94.2.1 xn_94 (as := [.int (iI (so cur)), .int (iI (X_vl ct (X_av n cur)))]) (r := []) rfl h2033 (Nat.le_of_ble_eq_true rfl) (Nat.le_of_ble_eq_true rfl) (pc' := 190) rfl (ls' := [(0, .ref a), (1, .int (iI (so cur))), (2, .int (iI (X_vl ct (X_av n cur))))]) rfl ?_
                    have hr2040 : X_wr (X_aS d (so cur) (X_vl ct (X_av n cur))) := X_wr_S hr (by omega)
                    have h2041 := (h1973.1 (a + 1) (by omega)).trans (hw.2.1)
                    have h2042 := (h1973.1 (a + 2) (by omega)).trans (hw.2.2.1)
                    have h2043 := (h1973.1 (a + 3) (by omega)).trans (hw.2.2.2.1)
                    have h2044 := (h1973.1 (a + 4) (by omega)).trans (hw.2.2.2.2.1)
                    have h2045 := (h1973.1 (a + 5) (by omega)).trans (hw.2.2.2.2.2.1)
                    have h2046 := (h1973.1 (a + 6) (by omega)).trans (hw.2.2.2.2.2.2.1)
                    have h2047 := (h1973.1 (a + 7) (by omega)).trans (hw.2.2.2.2.2.2.2)
                    refine T_mono (c_addStep sc S1971 a d q (so cur) (X_vl ct (X_av n cur)) ⟨h2033, h2041, h2042, h2043, h2044, h2045, h2046, h2047⟩ hr (by omega)) (fun v2034 S2035 h2036 => ?_)
                    obtain ⟨h2037, hw2038, hf2039⟩ := h2036
                    rw [h2037]
                    have hw2038 : C_wd S2035 a (X_aS d (so cur) (X_vl ct (X_av n cur))) q := hw2038
                    show X_T sc 75 (190, [(8, .int (iI (bI (X_isOp (so cur) ∧ pile < 2)))), (7, .int (iI (bI (¬ X_isOp (so cur) ∧ pile = 16)))), (6, .int (iI (bI ((so cur) = 64 ∧ (X_vl ct (X_av n cur) < 1 ∨ d 4 0 < X_vl ct (X_av n cur)))))), (5, .int (iI (X_vl ct (X_av n cur)))), (4, .int (iI (so cur))), (3, .int (iI (pl cur))), (0, .ref 496), (1, .ref a), (2, .int (iI pile))], [], S2035) _
                    refine T_p xr_75_190 xn_75 (pc' := 191) (ls' := [(8, .int (iI (bI (X_isOp (so cur) ∧ pile < 2)))), (7, .int (iI (bI (¬ X_isOp (so cur) ∧ pile = 16)))), (6, .int (iI (bI ((so cur) = 64 ∧ (X_vl ct (X_av n cur) < 1 ∨ d 4 0 < X_vl ct (X_av n cur)))))), (5, .int (iI (X_vl ct (X_av n cur)))), (4, .int (iI (so cur))), (3, .int (iI (pl cur))), (0, .ref 496), (1, .ref a), (2, .int (iI pile))]) (st' := [.ref 496]) rfl ?_
                    have h2048 := (hf2039.1 496 (by omega)).trans (h1976)
                    refine T_get xr_75_191 h2048 rfl (v := .ref 497) rfl (pc' := 194) rfl ?_
                    have h2049 := (hf2039.1 497 (by omega)).trans (h1974)
                    refine T_cv (S := S2035) (q := 497) xr_75_194 xf_48.1 xf_48.2.1 xn_48 (as := []) (r := []) rfl h2049 (Nat.le_of_ble_eq_true rfl) (Nat.le_of_ble_eq_true rfl) (pc' := 197) rfl (ls' := [(0, .ref 497)]) rfl ?_
                    have h2050 := (hf2039.1 498 (by omega)).trans (h1977)
                    have h2051 := (hf2039.1 499 (by omega)).trans (h1978)
                    have h2052 := (hf2039.1 500 (by omega)).trans (h1979)
                    refine T_mono (c_advance sc S2035 at_ n (X_av n cur) so pl ct ⟨h2049, h2050, h2051, h2052⟩ (by omega)) (fun v2054 S2055 h2053 => ?_)
                    obtain ⟨h2056, h2058, h2057⟩ := h2053
                    rw [h2056]
                    show X_T sc 75 (197, [(8, .int (iI (bI (X_isOp (so cur) ∧ pile < 2)))), (7, .int (iI (bI (¬ X_isOp (so cur) ∧ pile = 16)))), (6, .int (iI (bI ((so cur) = 64 ∧ (X_vl ct (X_av n cur) < 1 ∨ d 4 0 < X_vl ct (X_av n cur)))))), (5, .int (iI (X_vl ct (X_av n cur)))), (4, .int (iI (so cur))), (3, .int (iI (pl cur))), (0, .ref 496), (1, .ref a), (2, .int (iI pile))], [], S2055) _
                    have hv2059 := X_av_r (n := n) (c := (X_av n cur)) (by omega)
                    refine T_p xr_75_197 xn_75 (pc' := 199) (ls' := [(8, .int (iI (bI (X_isOp (so cur) ∧ pile < 2)))), (7, .int (iI (bI (¬ X_isOp (so cur) ∧ pile = 16)))), (6, .int (iI (bI ((so cur) = 64 ∧ (X_vl ct (X_av n cur) < 1 ∨ d 4 0 < X_vl ct (X_av n cur)))))), (5, .int (iI (X_vl ct (X_av n cur)))), (4, .int (iI (so cur))), (3, .int (iI (pl cur))), (0, .ref 496), (1, .ref a), (2, .int (iI pile))]) (st' := [.int (iI (so cur))]) rfl ?_
                    refine T_cs xr_75_199 (by decide) xf_77.1 xn_77 (as := [.int (iI (so cur))]) (r := []) rfl (Nat.le_of_ble_eq_true rfl) (Nat.le_of_ble_eq_true rfl) (pc' := 202) rfl (ls' := [(0, .int (iI (so cur)))]) rfl ?_
                    refine T_mono (c_isOperation sc S2055 (so cur) (by omega)) (fun v2061 S2062 h2060 => ?_)
                    obtain ⟨h2063, h2064⟩ := h2060
                    rw [h2063, h2064]
                    show X_T sc 75 (202, [(8, .int (iI (bI (X_isOp (so cur) ∧ pile < 2)))), (7, .int (iI (bI (¬ X_isOp (so cur) ∧ pile = 16)))), (6, .int (iI (bI ((so cur) = 64 ∧ (X_vl ct (X_av n cur) < 1 ∨ d 4 0 < X_vl ct (X_av n cur)))))), (5, .int (iI (X_vl ct (X_av n cur)))), (4, .int (iI (so cur))), (3, .int (iI (pl cur))), (0, .ref 496), (1, .ref a), (2, .int (iI pile))], [.int (iI (bI (X_isOp (so cur))))], S2055) _
                    refine T_bif_eq xr_75_202 (t := 211) (pc' := 205) rfl rfl (fun c2065 => ?_) (fun c2065 => ?_)
                    · skip
                      have c2065 : ¬ (X_isOp (so cur)) := c2065
                      refine T_p xr_75_211 xn_75 (pc' := 212) (ls' := [(8, .int (iI (bI (X_isOp (so cur) ∧ pile < 2)))), (7, .int (iI (bI (¬ X_isOp (so cur) ∧ pile = 16)))), (6, .int (iI (bI ((so cur) = 64 ∧ (X_vl ct (X_av n cur) < 1 ∨ d 4 0 < X_vl ct (X_av n cur)))))), (5, .int (iI (X_vl ct (X_av n cur)))), (4, .int (iI (so cur))), (3, .int (iI (pl cur))), (0, .ref 496), (1, .ref a), (2, .int (iI pile))]) (st' := [.int (iI pile)]) rfl ?_
                      refine T_p xr_75_212 xn_75 (pc' := 213) (ls' := [(8, .int (iI (bI (X_isOp (so cur) ∧ pile < 2)))), (7, .int (iI (bI (¬ X_isOp (so cur) ∧ pile = 16)))), (6, .int (iI (bI ((so cur) = 64 ∧ (X_vl ct (X_av n cur) < 1 ∨ d 4 0 < X_vl ct (X_av n cur)))))), (5, .int (iI (X_vl ct (X_av n cur)))), (4, .int (iI (so cur))), (3, .int (iI (pl cur))), (0, .ref 496), (1, .ref a), (2, .int (iI pile))]) (st' := [.int (iI 1), .int (iI pile)]) rfl ?_
                      refine T_ziadd xr_75_213 (z := pile + 1) rfl (pc' := 214) rfl ?_
                      refine T_iret xr_75_214 xf_75.2.2 rfl ?_
                      refine hQ _ _ ?_
                      have h2066 := (h2057.1 496 (by omega)).trans (h2048)
                      have h2067 := (h2057.1 a (by omega)).trans (hw2038.1)
                      have h2068 := (h2057.1 (a + 1) (by omega)).trans (hw2038.2.1)
                      have h2069 := (h2057.1 (a + 2) (by omega)).trans (hw2038.2.2.1)
                      have h2070 := (h2057.1 (a + 3) (by omega)).trans (hw2038.2.2.2.1)
                      have h2071 := (h2057.1 (a + 4) (by omega)).trans (hw2038.2.2.2.2.1)
                      have h2072 := (h2057.1 (a + 5) (by omega)).trans (hw2038.2.2.2.2.2.1)
                      have h2073 := (h2057.1 (a + 6) (by omega)).trans (hw2038.2.2.2.2.2.2.1)
                      have h2074 := (h2057.1 (a + 7) (by omega)).trans (hw2038.2.2.2.2.2.2.2)
                      refine Or.inl ⟨X_av n (X_av n cur), X_aS d (so cur) (X_vl ct (X_av n cur)), pile + 1, rfl, ?_, h2066, h2058, by omega, ⟨h2067, h2068, h2069, h2070, h2071, h2072, h2073, h2074⟩, hr2040, (((X_Fr.rf).tr (X_Fr.mono ⟨h1973.1, h1973.2⟩ (fun q hq => (by omega)))).tr (X_Fr.mono ⟨hf2039.1, hf2039.2⟩ (fun q hq => (by omega)))).tr (X_Fr.mono ⟨h2057.1, h2057.2⟩ (fun q hq => (by omega)))⟩
                      unfold sp_step sp_stF
                      (repeat (first | rw [if_pos (by assumption)] | rw [if_neg (by assumption)]))
                      all_goals first | rfl | ((repeat' split) <;> first | rfl | (exfalso; omega))
                    · skip
                      have c2065 : (X_isOp (so cur)) := c2065
                      exact (show False by first | contradiction | omega).elim
                  · skip
                    have c2032 : (X_isOp (so cur) ∧ pile < 2) := c2032
                    refine T_p xr_75_174 xn_75 (pc' := 175) (ls' := [(8, .int (iI (bI (X_isOp (so cur) ∧ pile < 2)))), (7, .int (iI (bI (¬ X_isOp (so cur) ∧ pile = 16)))), (6, .int (iI (bI ((so cur) = 64 ∧ (X_vl ct (X_av n cur) < 1 ∨ d 4 0 < X_vl ct (X_av n cur)))))), (5, .int (iI (X_vl ct (X_av n cur)))), (4, .int (iI (so cur))), (3, .int (iI (pl cur))), (0, .ref 496), (1, .ref a), (2, .int (iI pile))]) (st' := [.ref 496]) rfl ?_
                    refine T_p xr_75_175 xn_75 (pc' := 176) (ls' := [(8, .int (iI (bI (X_isOp (so cur) ∧ pile < 2)))), (7, .int (iI (bI (¬ X_isOp (so cur) ∧ pile = 16)))), (6, .int (iI (bI ((so cur) = 64 ∧ (X_vl ct (X_av n cur) < 1 ∨ d 4 0 < X_vl ct (X_av n cur)))))), (5, .int (iI (X_vl ct (X_av n cur)))), (4, .int (iI (so cur))), (3, .int (iI (pl cur))), (0, .ref 496), (1, .ref a), (2, .int (iI pile))]) (st' := [.int (iI 5), .ref 496]) rfl ?_
                    refine T_p xr_75_176 xn_75 (pc' := 177) (ls' := [(8, .int (iI (bI (X_isOp (so cur) ∧ pile < 2)))), (7, .int (iI (bI (¬ X_isOp (so cur) ∧ pile = 16)))), (6, .int (iI (bI ((so cur) = 64 ∧ (X_vl ct (X_av n cur) < 1 ∨ d 4 0 < X_vl ct (X_av n cur)))))), (5, .int (iI (X_vl ct (X_av n cur)))), (4, .int (iI (so cur))), (3, .int (iI (pl cur))), (0, .ref 496), (1, .ref a), (2, .int (iI pile))]) (st' := [.int (iI (pl cur)), .int (iI 5), .ref 496]) rfl ?_
                    refine T_cv (S := S1971) (q := 496) xr_75_177 xf_62.1 xf_62.2.1 xn_62 (as := [.int (iI 5), .int (iI (pl cur))]) (r := []) rfl h1976 (Nat.le_of_ble_eq_true rfl) (Nat.le_of_ble_eq_true rfl) (pc' := 180) rfl (ls' := [(0, .ref 496), (1, .int (iI 5)), (2, .int (iI (pl cur)))]) rfl ?_
                    refine T_p xr_62_0 xn_62 (pc' := 1) (ls' := [(0, .ref 496), (1, .int (iI 5)), (2, .int (iI (pl cur)))]) (st' := [.ref 496]) rfl ?_
                    refine T_p xr_62_1 xn_62 (pc' := 2) (ls' := [(0, .ref 496), (1, .int (iI 5)), (2, .int (iI (pl cur)))]) (st' := [.int (iI 5), .ref 496]) rfl ?_
                    refine T_put xr_62_2 h1976 rfl (Nat.le_of_ble_eq_true rfl) rfl (fs' := [.ref 497, .ref B, .int (iI 5), .int (iI fp)]) rfl (pc' := 5) rfl (fun S2075 h2076 n2077 e2078 => ?_)
                    refine T_p xr_62_5 xn_62 (pc' := 6) (ls' := [(0, .ref 496), (1, .int (iI 5)), (2, .int (iI (pl cur)))]) (st' := [.ref 496]) rfl ?_
                    refine T_p xr_62_6 xn_62 (pc' := 7) (ls' := [(0, .ref 496), (1, .int (iI 5)), (2, .int (iI (pl cur)))]) (st' := [.int (iI (pl cur)), .ref 496]) rfl ?_
                    refine T_put xr_62_7 h2076 rfl (Nat.le_of_ble_eq_true rfl) rfl (fs' := [.ref 497, .ref B, .int (iI 5), .int (iI (pl cur))]) rfl (pc' := 10) rfl (fun S2079 h2080 n2081 e2082 => ?_)
                    refine T_vret xr_62_10 xf_62.2.2 ?_
                    show X_T sc 75 (180, [(8, .int (iI (bI (X_isOp (so cur) ∧ pile < 2)))), (7, .int (iI (bI (¬ X_isOp (so cur) ∧ pile = 16)))), (6, .int (iI (bI ((so cur) = 64 ∧ (X_vl ct (X_av n cur) < 1 ∨ d 4 0 < X_vl ct (X_av n cur)))))), (5, .int (iI (X_vl ct (X_av n cur)))), (4, .int (iI (so cur))), (3, .int (iI (pl cur))), (0, .ref 496), (1, .ref a), (2, .int (iI pile))], [], S2079) _
                    refine T_p xr_75_180 xn_75 (pc' := 181) (ls' := [(8, .int (iI (bI (X_isOp (so cur) ∧ pile < 2)))), (7, .int (iI (bI (¬ X_isOp (so cur) ∧ pile = 16)))), (6, .int (iI (bI ((so cur) = 64 ∧ (X_vl ct (X_av n cur) < 1 ∨ d 4 0 < X_vl ct (X_av n cur)))))), (5, .int (iI (X_vl ct (X_av n cur)))), (4, .int (iI (so cur))), (3, .int (iI (pl cur))), (0, .ref 496), (1, .ref a), (2, .int (iI pile))]) (st' := [.int (iI (-1))]) rfl ?_
                    refine T_iret xr_75_181 xf_75.2.2 rfl ?_
                    refine hQ _ _ ?_
                    have h2083 := (n2081 497 (by decide)).trans ((n2077 497 (by decide)).trans (h1974))
                    have h2084 := (n2081 a (by omega)).trans ((n2077 a (by omega)).trans ((h1973.1 a (by omega)).trans (hw.1)))
                    have h2085 := (n2081 (a + 1) (by omega)).trans ((n2077 (a + 1) (by omega)).trans ((h1973.1 (a + 1) (by omega)).trans (hw.2.1)))
                    have h2086 := (n2081 (a + 2) (by omega)).trans ((n2077 (a + 2) (by omega)).trans ((h1973.1 (a + 2) (by omega)).trans (hw.2.2.1)))
                    have h2087 := (n2081 (a + 3) (by omega)).trans ((n2077 (a + 3) (by omega)).trans ((h1973.1 (a + 3) (by omega)).trans (hw.2.2.2.1)))
                    have h2088 := (n2081 (a + 4) (by omega)).trans ((n2077 (a + 4) (by omega)).trans ((h1973.1 (a + 4) (by omega)).trans (hw.2.2.2.2.1)))
                    have h2089 := (n2081 (a + 5) (by omega)).trans ((n2077 (a + 5) (by omega)).trans ((h1973.1 (a + 5) (by omega)).trans (hw.2.2.2.2.2.1)))
                    have h2090 := (n2081 (a + 6) (by omega)).trans ((n2077 (a + 6) (by omega)).trans ((h1973.1 (a + 6) (by omega)).trans (hw.2.2.2.2.2.2.1)))
                    have h2091 := (n2081 (a + 7) (by omega)).trans ((n2077 (a + 7) (by omega)).trans ((h1973.1 (a + 7) (by omega)).trans (hw.2.2.2.2.2.2.2)))
                    refine Or.inr ⟨rfl, ?_, ⟨_, _, by omega, h2080⟩, ⟨X_av n cur, h2083, by omega⟩, ⟨h2084, h2085, h2086, h2087, h2088, h2089, h2090, h2091⟩, (((X_Fr.rf).tr (X_Fr.mono ⟨h1973.1, h1973.2⟩ (fun q hq => (by omega)))).tr (X_Fr.of n2077 e2078 (by omega))).tr (X_Fr.of n2081 e2082 (by omega))⟩
                    unfold sp_step sp_stF
                    (repeat (first | rw [if_pos (by assumption)] | rw [if_neg (by assumption)]))
                    all_goals first | rfl | ((repeat' split) <;> first | rfl | (exfalso; omega))
            refine T_p xr_75_139 xn_75 (pc' := 141) (ls' := [(7, .int (iI (bI (¬ X_isOp (so cur) ∧ pile = 16)))), (6, .int (iI (bI ((so cur) = 64 ∧ (X_vl ct (X_av n cur) < 1 ∨ d 4 0 < X_vl ct (X_av n cur)))))), (5, .int (iI (X_vl ct (X_av n cur)))), (4, .int (iI (so cur))), (3, .int (iI (pl cur))), (0, .ref 496), (1, .ref a), (2, .int (iI pile))]) (st' := [.int (iI (so cur))]) rfl ?_
            refine T_cs xr_75_141 (by decide) xf_77.1 xn_77 (as := [.int (iI (so cur))]) (r := []) rfl (Nat.le_of_ble_eq_true rfl) (Nat.le_of_ble_eq_true rfl) (pc' := 144) rfl (ls' := [(0, .int (iI (so cur)))]) rfl ?_
            refine T_mono (c_isOperation sc S1971 (so cur) (by omega)) (fun v2093 S2094 h2092 => ?_)
            obtain ⟨h2095, h2096⟩ := h2092
            rw [h2095, h2096]
            show X_T sc 75 (144, [(7, .int (iI (bI (¬ X_isOp (so cur) ∧ pile = 16)))), (6, .int (iI (bI ((so cur) = 64 ∧ (X_vl ct (X_av n cur) < 1 ∨ d 4 0 < X_vl ct (X_av n cur)))))), (5, .int (iI (X_vl ct (X_av n cur)))), (4, .int (iI (so cur))), (3, .int (iI (pl cur))), (0, .ref 496), (1, .ref a), (2, .int (iI pile))], [.int (iI (bI (X_isOp (so cur))))], S1971) _
            refine T_bif_eq xr_75_144 (t := 156) (pc' := 147) rfl rfl (fun c2097 => ?_) (fun c2097 => ?_)
            · skip
              have c2097 : ¬ (X_isOp (so cur)) := c2097
              refine T_p xr_75_156 xn_75 (pc' := 157) (ls' := [(7, .int (iI (bI (¬ X_isOp (so cur) ∧ pile = 16)))), (6, .int (iI (bI ((so cur) = 64 ∧ (X_vl ct (X_av n cur) < 1 ∨ d 4 0 < X_vl ct (X_av n cur)))))), (5, .int (iI (X_vl ct (X_av n cur)))), (4, .int (iI (so cur))), (3, .int (iI (pl cur))), (0, .ref 496), (1, .ref a), (2, .int (iI pile))]) (st' := [.int (iI 0)]) rfl ?_
              refine T_ie (y := iI (bI (X_isOp (so cur) ∧ pile < 2))) (by rw [bI_f (by rintro ⟨h1, h2⟩; first | omega | contradiction)]) ?_
              exact J1995
            · skip
              have c2097 : (X_isOp (so cur)) := c2097
              exact (show False by first | contradiction | omega).elim
          refine T_p xr_75_118 xn_75 (pc' := 120) (ls' := [(6, .int (iI (bI ((so cur) = 64 ∧ (X_vl ct (X_av n cur) < 1 ∨ d 4 0 < X_vl ct (X_av n cur)))))), (5, .int (iI (X_vl ct (X_av n cur)))), (4, .int (iI (so cur))), (3, .int (iI (pl cur))), (0, .ref 496), (1, .ref a), (2, .int (iI pile))]) (st' := [.int (iI (so cur))]) rfl ?_
          refine T_cs xr_75_120 (by decide) xf_77.1 xn_77 (as := [.int (iI (so cur))]) (r := []) rfl (Nat.le_of_ble_eq_true rfl) (Nat.le_of_ble_eq_true rfl) (pc' := 123) rfl (ls' := [(0, .int (iI (so cur)))]) rfl ?_
          refine T_mono (c_isOperation sc S1971 (so cur) (by omega)) (fun v2099 S2100 h2098 => ?_)
          obtain ⟨h2101, h2102⟩ := h2098
          rw [h2101, h2102]
          show X_T sc 75 (123, [(6, .int (iI (bI ((so cur) = 64 ∧ (X_vl ct (X_av n cur) < 1 ∨ d 4 0 < X_vl ct (X_av n cur)))))), (5, .int (iI (X_vl ct (X_av n cur)))), (4, .int (iI (so cur))), (3, .int (iI (pl cur))), (0, .ref 496), (1, .ref a), (2, .int (iI pile))], [.int (iI (bI (X_isOp (so cur))))], S1971) _
          refine T_bif_ne xr_75_123 (t := 136) (pc' := 126) rfl rfl (fun c2103 => ?_) (fun c2103 => ?_)
          · skip
            have c2103 : (X_isOp (so cur)) := c2103
            exact (show False by first | contradiction | omega).elim
          · skip
            have c2103 : ¬ (X_isOp (so cur)) := c2103
            refine T_p xr_75_126 xn_75 (pc' := 127) (ls' := [(6, .int (iI (bI ((so cur) = 64 ∧ (X_vl ct (X_av n cur) < 1 ∨ d 4 0 < X_vl ct (X_av n cur)))))), (5, .int (iI (X_vl ct (X_av n cur)))), (4, .int (iI (so cur))), (3, .int (iI (pl cur))), (0, .ref 496), (1, .ref a), (2, .int (iI pile))]) (st' := [.int (iI pile)]) rfl ?_
            refine T_p xr_75_127 xn_75 (pc' := 129) (ls' := [(6, .int (iI (bI ((so cur) = 64 ∧ (X_vl ct (X_av n cur) < 1 ∨ d 4 0 < X_vl ct (X_av n cur)))))), (5, .int (iI (X_vl ct (X_av n cur)))), (4, .int (iI (so cur))), (3, .int (iI (pl cur))), (0, .ref 496), (1, .ref a), (2, .int (iI pile))]) (st' := [.int (iI 16), .int (iI pile)]) rfl ?_
            refine T_zicmp_ne xr_75_129 (t := 136) (pc' := 132) rfl rfl (fun c2104 => ?_) (fun c2104 => ?_)
            · skip
              have c2104 : ¬ pile = 16 := c2104
              refine T_p xr_75_136 xn_75 (pc' := 137) (ls' := [(6, .int (iI (bI ((so cur) = 64 ∧ (X_vl ct (X_av n cur) < 1 ∨ d 4 0 < X_vl ct (X_av n cur)))))), (5, .int (iI (X_vl ct (X_av n cur)))), (4, .int (iI (so cur))), (3, .int (iI (pl cur))), (0, .ref 496), (1, .ref a), (2, .int (iI pile))]) (st' := [.int (iI 0)]) rfl ?_
              refine T_ie (y := iI (bI (¬ X_isOp (so cur) ∧ pile = 16))) (by rw [bI_f (by rintro ⟨h1, h2⟩; first | omega | contradiction)]) ?_
              exact J1994
            · skip
              have c2104 : ¬ (¬ pile = 16) := c2104
              refine T_p xr_75_132 xn_75 (pc' := 133) (ls' := [(6, .int (iI (bI ((so cur) = 64 ∧ (X_vl ct (X_av n cur) < 1 ∨ d 4 0 < X_vl ct (X_av n cur)))))), (5, .int (iI (X_vl ct (X_av n cur)))), (4, .int (iI (so cur))), (3, .int (iI (pl cur))), (0, .ref 496), (1, .ref a), (2, .int (iI pile))]) (st' := [.int (iI 1)]) rfl ?_
              refine T_p xr_75_133 xn_75 (pc' := 137) (ls' := [(6, .int (iI (bI ((so cur) = 64 ∧ (X_vl ct (X_av n cur) < 1 ∨ d 4 0 < X_vl ct (X_av n cur)))))), (5, .int (iI (X_vl ct (X_av n cur)))), (4, .int (iI (so cur))), (3, .int (iI (pl cur))), (0, .ref 496), (1, .ref a), (2, .int (iI pile))]) (st' := [.int (iI 1)]) rfl ?_
              refine T_ie (y := iI (bI (¬ X_isOp (so cur) ∧ pile = 16))) (by rw [bI_t (by exact ⟨by assumption, by omega⟩)]) ?_
              exact J1994
        refine T_p xr_75_89 xn_75 (pc' := 91) (ls' := [(5, .int (iI (X_vl ct (X_av n cur)))), (4, .int (iI (so cur))), (3, .int (iI (pl cur))), (0, .ref 496), (1, .ref a), (2, .int (iI pile))]) (st' := [.int (iI (so cur))]) rfl ?_
        refine T_p xr_75_91 xn_75 (pc' := 93) (ls' := [(5, .int (iI (X_vl ct (X_av n cur)))), (4, .int (iI (so cur))), (3, .int (iI (pl cur))), (0, .ref 496), (1, .ref a), (2, .int (iI pile))]) (st' := [.int (iI 64), .int (iI (so cur))]) rfl ?_
        refine T_zicmp_ne xr_75_93 (t := 115) (pc' := 96) rfl rfl (fun c2105 => ?_) (fun c2105 => ?_)
        · skip
          have c2105 : ¬ (so cur) = 64 := c2105
          exact (show False by first | contradiction | omega).elim
        · skip
          have c2105 : ¬ (¬ (so cur) = 64) := c2105
          refine T_p xr_75_96 xn_75 (pc' := 98) (ls' := [(5, .int (iI (X_vl ct (X_av n cur)))), (4, .int (iI (so cur))), (3, .int (iI (pl cur))), (0, .ref 496), (1, .ref a), (2, .int (iI pile))]) (st' := [.int (iI (X_vl ct (X_av n cur)))]) rfl ?_
          refine T_p xr_75_98 xn_75 (pc' := 99) (ls' := [(5, .int (iI (X_vl ct (X_av n cur)))), (4, .int (iI (so cur))), (3, .int (iI (pl cur))), (0, .ref 496), (1, .ref a), (2, .int (iI pile))]) (st' := [.int (iI 1), .int (iI (X_vl ct (X_av n cur)))]) rfl ?_
          refine T_zicmp_lt xr_75_99 (t := 111) (pc' := 102) rfl rfl (fun c2106 => ?_) (fun c2106 => ?_)
          · skip
            have c2106 : (X_vl ct (X_av n cur)) < 1 := c2106
            refine T_p xr_75_111 xn_75 (pc' := 112) (ls' := [(5, .int (iI (X_vl ct (X_av n cur)))), (4, .int (iI (so cur))), (3, .int (iI (pl cur))), (0, .ref 496), (1, .ref a), (2, .int (iI pile))]) (st' := [.int (iI 1)]) rfl ?_
            refine T_p xr_75_112 xn_75 (pc' := 116) (ls' := [(5, .int (iI (X_vl ct (X_av n cur)))), (4, .int (iI (so cur))), (3, .int (iI (pl cur))), (0, .ref 496), (1, .ref a), (2, .int (iI pile))]) (st' := [.int (iI 1)]) rfl ?_
            refine T_ie (y := iI (bI ((so cur) = 64 ∧ (X_vl ct (X_av n cur) < 1 ∨ d 4 0 < X_vl ct (X_av n cur))))) (by rw [bI_t (by exact ⟨by omega, by omega⟩)]) ?_
            exact J1993
          · skip
            have c2106 : ¬ ((X_vl ct (X_av n cur)) < 1) := c2106
            refine T_p xr_75_102 xn_75 (pc' := 104) (ls' := [(5, .int (iI (X_vl ct (X_av n cur)))), (4, .int (iI (so cur))), (3, .int (iI (pl cur))), (0, .ref 496), (1, .ref a), (2, .int (iI pile))]) (st' := [.int (iI (X_vl ct (X_av n cur)))]) rfl ?_
            refine T_p xr_75_104 xn_75 (pc' := 105) (ls' := [(5, .int (iI (X_vl ct (X_av n cur)))), (4, .int (iI (so cur))), (3, .int (iI (pl cur))), (0, .ref 496), (1, .ref a), (2, .int (iI pile))]) (st' := [.ref a, .int (iI (X_vl ct (X_av n cur)))]) rfl ?_
            have h2107 := (h1973.1 a (by omega)).trans (hw.1)
            refine T_get xr_75_105 h2107 rfl (v := .int (iI (d 4 0))) rfl (pc' := 108) rfl ?_
            refine T_zicmp_le xr_75_108 (t := 115) (pc' := 111) rfl rfl (fun c2108 => ?_) (fun c2108 => ?_)
            · skip
              have c2108 : (X_vl ct (X_av n cur)) ≤ (d 4 0) := c2108
              refine T_p xr_75_115 xn_75 (pc' := 116) (ls' := [(5, .int (iI (X_vl ct (X_av n cur)))), (4, .int (iI (so cur))), (3, .int (iI (pl cur))), (0, .ref 496), (1, .ref a), (2, .int (iI pile))]) (st' := [.int (iI 0)]) rfl ?_
              refine T_ie (y := iI (bI ((so cur) = 64 ∧ (X_vl ct (X_av n cur) < 1 ∨ d 4 0 < X_vl ct (X_av n cur))))) (by rw [bI_f (by rintro ⟨h1, h2⟩; omega)]) ?_
              exact J1993
            · skip
              have c2108 : ¬ ((X_vl ct (X_av n cur)) ≤ (d 4 0)) := c2108
              refine T_p xr_75_111 xn_75 (pc' := 112) (ls' := [(5, .int (iI (X_vl ct (X_av n cur)))), (4, .int (iI (so cur))), (3, .int (iI (pl cur))), (0, .ref 496), (1, .ref a), (2, .int (iI pile))]) (st' := [.int (iI 1)]) rfl ?_
              refine T_p xr_75_112 xn_75 (pc' := 116) (ls' := [(5, .int (iI (X_vl ct (X_av n cur)))), (4, .int (iI (so cur))), (3, .int (iI (pl cur))), (0, .ref 496), (1, .ref a), (2, .int (iI pile))]) (st' := [.int (iI 1)]) rfl ?_
              refine T_ie (y := iI (bI ((so cur) = 64 ∧ (X_vl ct (X_av n cur) < 1 ∨ d 4 0 < X_vl ct (X_av n cur))))) (by rw [bI_t (by exact ⟨by omega, by omega⟩)]) ?_
              exact J1993
      · skip
        have c1986 : ¬ ((so (X_av n cur)) = 5) := c1986
        refine T_p xr_75_53 xn_75 (pc' := 54) (ls' := [(4, .int (iI (so cur))), (3, .int (iI (pl cur))), (0, .ref 496), (1, .ref a), (2, .int (iI pile))]) (st' := [.ref 496]) rfl ?_
        refine T_cv (S := S1971) (q := 496) xr_75_54 xf_63.1 xf_63.2.1 xn_63 (as := []) (r := []) rfl h1976 (Nat.le_of_ble_eq_true rfl) (Nat.le_of_ble_eq_true rfl) (pc' := 57) rfl (ls' := [(0, .ref 496)]) rfl ?_
        refine T_mono (c_refuse sc S1971 B fl fp at_ n (X_av n cur) so pl ct h1976 ⟨h1974, h1977, h1978, h1979⟩ (by omega) hso) (fun v2109 S2110 h2111 => ?_)
        obtain ⟨h2112, ⟨fl2113, fp2114, hn2115, hp2116⟩, hf2117⟩ := h2111
        rw [h2112]
        show X_T sc 75 (57, [(4, .int (iI (so cur))), (3, .int (iI (pl cur))), (0, .ref 496), (1, .ref a), (2, .int (iI pile))], [], S2110) _
        refine T_p xr_75_57 xn_75 (pc' := 58) (ls' := [(4, .int (iI (so cur))), (3, .int (iI (pl cur))), (0, .ref 496), (1, .ref a), (2, .int (iI pile))]) (st' := [.int (iI (-1))]) rfl ?_
        refine T_iret xr_75_58 xf_75.2.2 rfl ?_
        refine hQ _ _ ?_
        have h2118 := (hf2117.1 497 (by omega)).trans (h1974)
        have h2119 := (hf2117.1 a (by omega)).trans ((h1973.1 a (by omega)).trans (hw.1))
        have h2120 := (hf2117.1 (a + 1) (by omega)).trans ((h1973.1 (a + 1) (by omega)).trans (hw.2.1))
        have h2121 := (hf2117.1 (a + 2) (by omega)).trans ((h1973.1 (a + 2) (by omega)).trans (hw.2.2.1))
        have h2122 := (hf2117.1 (a + 3) (by omega)).trans ((h1973.1 (a + 3) (by omega)).trans (hw.2.2.2.1))
        have h2123 := (hf2117.1 (a + 4) (by omega)).trans ((h1973.1 (a + 4) (by omega)).trans (hw.2.2.2.2.1))
        have h2124 := (hf2117.1 (a + 5) (by omega)).trans ((h1973.1 (a + 5) (by omega)).trans (hw.2.2.2.2.2.1))
        have h2125 := (hf2117.1 (a + 6) (by omega)).trans ((h1973.1 (a + 6) (by omega)).trans (hw.2.2.2.2.2.2.1))
        have h2126 := (hf2117.1 (a + 7) (by omega)).trans ((h1973.1 (a + 7) (by omega)).trans (hw.2.2.2.2.2.2.2))
        refine Or.inr ⟨rfl, ?_, ⟨_, _, by omega, hp2116⟩, ⟨X_av n cur, h2118, by omega⟩, ⟨h2119, h2120, h2121, h2122, h2123, h2124, h2125, h2126⟩, ((X_Fr.rf).tr (X_Fr.mono ⟨h1973.1, h1973.2⟩ (fun q hq => (by omega)))).tr (X_Fr.mono ⟨hf2117.1, hf2117.2⟩ (fun q hq => (by omega)))⟩
        unfold sp_step sp_stF
        (repeat (first | rw [if_pos (by assumption)] | rw [if_neg (by assumption)]))
        all_goals first | rfl | ((repeat' split) <;> first | rfl | (exfalso; omega))
  · skip
    have c1703 : (so cur = 4 ∨ so cur = 5) := c1703
    refine T_p xr_75_15 xn_75 (pc' := 16) (ls' := [(3, .int (iI (pl cur))), (0, .ref 496), (1, .ref a), (2, .int (iI pile))]) (st' := [.int (iI 4)]) rfl ?_
    refine T_p xr_75_16 xn_75 (pc' := 26) (ls' := [(3, .int (iI (pl cur))), (0, .ref 496), (1, .ref a), (2, .int (iI pile))]) (st' := [.int (iI 4)]) rfl ?_
    refine T_p xr_75_26 xn_75 (pc' := 28) (ls' := [(4, .int (iI 4)), (3, .int (iI (pl cur))), (0, .ref 496), (1, .ref a), (2, .int (iI pile))]) (st' := []) rfl ?_
    refine T_p xr_75_28 xn_75 (pc' := 30) (ls' := [(4, .int (iI 4)), (3, .int (iI (pl cur))), (0, .ref 496), (1, .ref a), (2, .int (iI pile))]) (st' := [.int (iI 4)]) rfl ?_
    refine T_p xr_75_30 xn_75 (pc' := 32) (ls' := [(4, .int (iI 4)), (3, .int (iI (pl cur))), (0, .ref 496), (1, .ref a), (2, .int (iI pile))]) (st' := [.int (iI 64), .int (iI 4)]) rfl ?_
    refine T_zicmp_net xr_75_32 (t := 59) rfl (by decide) ?_
    refine T_p xr_75_59 xn_75 (pc' := 61) (ls' := [(4, .int (iI 4)), (3, .int (iI (pl cur))), (0, .ref 496), (1, .ref a), (2, .int (iI pile))]) (st' := [.int (iI 4)]) rfl ?_
    refine T_p xr_75_61 xn_75 (pc' := 62) (ls' := [(4, .int (iI 4)), (3, .int (iI (pl cur))), (0, .ref 496), (1, .ref a), (2, .int (iI pile))]) (st' := [.int (iI 4), .int (iI 4)]) rfl ?_
    refine T_zicmp_eqt xr_75_62 (t := 79) rfl (by decide) ?_
    refine T_p xr_75_79 xn_75 (pc' := 80) (ls' := [(4, .int (iI 4)), (3, .int (iI (pl cur))), (0, .ref 496), (1, .ref a), (2, .int (iI pile))]) (st' := [.ref 496]) rfl ?_
    refine T_get xr_75_80 hp rfl (v := .ref 497) rfl (pc' := 83) rfl ?_
    refine T_cv (S := S) (q := 497) xr_75_83 xf_46.1 xf_46.2.1 xn_46 (as := []) (r := []) rfl hx.1 (Nat.le_of_ble_eq_true rfl) (Nat.le_of_ble_eq_true rfl) (pc' := 86) rfl (ls' := [(0, .ref 497)]) rfl ?_
    refine T_mono (c_content sc S at_ n cur so pl ct ⟨hx.1, hx.2.1, hx.2.2.1, hx.2.2.2⟩ (by omega)) (fun v2128 S2129 h2127 => ?_)
    obtain ⟨h2130, h2131⟩ := h2127
    rw [h2130, h2131]
    show X_T sc 75 (86, [(4, .int (iI 4)), (3, .int (iI (pl cur))), (0, .ref 496), (1, .ref a), (2, .int (iI pile))], [.long (ct cur)], S) _
    refine T_zop xr_75_86 (pc' := 87) rfl (z := ((ct cur : Int64).toInt32).toInt) (iI_of _) ?_
    refine T_ie (y := iI (X_vl ct cur)) rfl ?_
    have hv2132 := X_vl_r ct cur
    refine T_p xr_75_87 xn_75 (pc' := 89) (ls' := [(5, .int (iI (X_vl ct cur))), (4, .int (iI 4)), (3, .int (iI (pl cur))), (0, .ref 496), (1, .ref a), (2, .int (iI pile))]) (st' := []) rfl ?_
    have J2133 : X_T sc 75 (116, [(5, .int (iI (X_vl ct cur))), (4, .int (iI 4)), (3, .int (iI (pl cur))), (0, .ref 496), (1, .ref a), (2, .int (iI pile))], [.int (iI (bI (4 = 64 ∧ (X_vl ct cur < 1 ∨ d 4 0 < X_vl ct cur))))], S) Q := by
      refine T_p xr_75_116 xn_75 (pc' := 118) (ls' := [(6, .int (iI (bI (4 = 64 ∧ (X_vl ct cur < 1 ∨ d 4 0 < X_vl ct cur))))), (5, .int (iI (X_vl ct cur))), (4, .int (iI 4)), (3, .int (iI (pl cur))), (0, .ref 496), (1, .ref a), (2, .int (iI pile))]) (st' := []) rfl ?_
      have J2134 : X_T sc 75 (137, [(6, .int (iI (bI (4 = 64 ∧ (X_vl ct cur < 1 ∨ d 4 0 < X_vl ct cur))))), (5, .int (iI (X_vl ct cur))), (4, .int (iI 4)), (3, .int (iI (pl cur))), (0, .ref 496), (1, .ref a), (2, .int (iI pile))], [.int (iI (bI (¬ X_isOp 4 ∧ pile = 16)))], S) Q := by
        refine T_p xr_75_137 xn_75 (pc' := 139) (ls' := [(7, .int (iI (bI (¬ X_isOp 4 ∧ pile = 16)))), (6, .int (iI (bI (4 = 64 ∧ (X_vl ct cur < 1 ∨ d 4 0 < X_vl ct cur))))), (5, .int (iI (X_vl ct cur))), (4, .int (iI 4)), (3, .int (iI (pl cur))), (0, .ref 496), (1, .ref a), (2, .int (iI pile))]) (st' := []) rfl ?_
        have J2135 : X_T sc 75 (157, [(7, .int (iI (bI (¬ X_isOp 4 ∧ pile = 16)))), (6, .int (iI (bI (4 = 64 ∧ (X_vl ct cur < 1 ∨ d 4 0 < X_vl ct cur))))), (5, .int (iI (X_vl ct cur))), (4, .int (iI 4)), (3, .int (iI (pl cur))), (0, .ref 496), (1, .ref a), (2, .int (iI pile))], [.int (iI (bI (X_isOp 4 ∧ pile < 2)))], S) Q := by
          refine T_p xr_75_157 xn_75 (pc' := 159) (ls' := [(8, .int (iI (bI (X_isOp 4 ∧ pile < 2)))), (7, .int (iI (bI (¬ X_isOp 4 ∧ pile = 16)))), (6, .int (iI (bI (4 = 64 ∧ (X_vl ct cur < 1 ∨ d 4 0 < X_vl ct cur))))), (5, .int (iI (X_vl ct cur))), (4, .int (iI 4)), (3, .int (iI (pl cur))), (0, .ref 496), (1, .ref a), (2, .int (iI pile))]) (st' := []) rfl ?_
          refine T_p xr_75_159 xn_75 (pc' := 161) (ls' := [(8, .int (iI (bI (X_isOp 4 ∧ pile < 2)))), (7, .int (iI (bI (¬ X_isOp 4 ∧ pile = 16)))), (6, .int (iI (bI (4 = 64 ∧ (X_vl ct cur < 1 ∨ d 4 0 < X_vl ct cur))))), (5, .int (iI (X_vl ct cur))), (4, .int (iI 4)), (3, .int (iI (pl cur))), (0, .ref 496), (1, .ref a), (2, .int (iI pile))]) (st' := [.int (iI (bI (4 = 64 ∧ (X_vl ct cur < 1 ∨ d 4 0 < X_vl ct cur))))]) rfl ?_
          refine T_bif_ne xr_75_161 (t := 174) (pc' := 164) rfl rfl (fun c2136 => ?_) (fun c2136 => ?_)
          · skip
            have c2136 : (4 = 64 ∧ (X_vl ct cur < 1 ∨ d 4 0 < X_vl ct cur)) := c2136
            refine T_p xr_75_174 xn_75 (pc' := 175) (ls' := [(8, .int (iI (bI (X_isOp 4 ∧ pile < 2)))), (7, .int (iI (bI (¬ X_isOp 4 ∧ pile = 16)))), (6, .int (iI (bI (4 = 64 ∧ (X_vl ct cur < 1 ∨ d 4 0 < X_vl ct cur))))), (5, .int (iI (X_vl ct cur))), (4, .int (iI 4)), (3, .int (iI (pl cur))), (0, .ref 496), (1, .ref a), (2, .int (iI pile))]) (st' := [.ref 496]) rfl ?_
            refine T_p xr_75_175 xn_75 (pc' := 176) (ls' := [(8, .int (iI (bI (X_isOp 4 ∧ pile < 2)))), (7, .int (iI (bI (¬ X_isOp 4 ∧ pile = 16)))), (6, .int (iI (bI (4 = 64 ∧ (X_vl ct cur < 1 ∨ d 4 0 < X_vl ct cur))))), (5, .int (iI (X_vl ct cur))), (4, .int (iI 4)), (3, .int (iI (pl cur))), (0, .ref 496), (1, .ref a), (2, .int (iI pile))]) (st' := [.int (iI 5), .ref 496]) rfl ?_
            refine T_p xr_75_176 xn_75 (pc' := 177) (ls' := [(8, .int (iI (bI (X_isOp 4 ∧ pile < 2)))), (7, .int (iI (bI (¬ X_isOp 4 ∧ pile = 16)))), (6, .int (iI (bI (4 = 64 ∧ (X_vl ct cur < 1 ∨ d 4 0 < X_vl ct cur))))), (5, .int (iI (X_vl ct cur))), (4, .int (iI 4)), (3, .int (iI (pl cur))), (0, .ref 496), (1, .ref a), (2, .int (iI pile))]) (st' := [.int (iI (pl cur)), .int (iI 5), .ref 496]) rfl ?_
            refine T_cv (S := S) (q := 496) xr_75_177 xf_62.1 xf_62.2.1 xn_62 (as := [.int (iI 5), .int (iI (pl cur))]) (r := []) rfl hp (Nat.le_of_ble_eq_true rfl) (Nat.le_of_ble_eq_true rfl) (pc' := 180) rfl (ls' := [(0, .ref 496), (1, .int (iI 5)), (2, .int (iI (pl cur)))]) rfl ?_
            refine T_p xr_62_0 xn_62 (pc' := 1) (ls' := [(0, .ref 496), (1, .int (iI 5)), (2, .int (iI (pl cur)))]) (st' := [.ref 496]) rfl ?_
            refine T_p xr_62_1 xn_62 (pc' := 2) (ls' := [(0, .ref 496), (1, .int (iI 5)), (2, .int (iI (pl cur)))]) (st' := [.int (iI 5), .ref 496]) rfl ?_
            refine T_put xr_62_2 hp rfl (Nat.le_of_ble_eq_true rfl) rfl (fs' := [.ref 497, .ref B, .int (iI 5), .int (iI fp)]) rfl (pc' := 5) rfl (fun S2137 h2138 n2139 e2140 => ?_)
            refine T_p xr_62_5 xn_62 (pc' := 6) (ls' := [(0, .ref 496), (1, .int (iI 5)), (2, .int (iI (pl cur)))]) (st' := [.ref 496]) rfl ?_
            refine T_p xr_62_6 xn_62 (pc' := 7) (ls' := [(0, .ref 496), (1, .int (iI 5)), (2, .int (iI (pl cur)))]) (st' := [.int (iI (pl cur)), .ref 496]) rfl ?_
            refine T_put xr_62_7 h2138 rfl (Nat.le_of_ble_eq_true rfl) rfl (fs' := [.ref 497, .ref B, .int (iI 5), .int (iI (pl cur))]) rfl (pc' := 10) rfl (fun S2141 h2142 n2143 e2144 => ?_)
            refine T_vret xr_62_10 xf_62.2.2 ?_
            show X_T sc 75 (180, [(8, .int (iI (bI (X_isOp 4 ∧ pile < 2)))), (7, .int (iI (bI (¬ X_isOp 4 ∧ pile = 16)))), (6, .int (iI (bI (4 = 64 ∧ (X_vl ct cur < 1 ∨ d 4 0 < X_vl ct cur))))), (5, .int (iI (X_vl ct cur))), (4, .int (iI 4)), (3, .int (iI (pl cur))), (0, .ref 496), (1, .ref a), (2, .int (iI pile))], [], S2141) _
            refine T_p xr_75_180 xn_75 (pc' := 181) (ls' := [(8, .int (iI (bI (X_isOp 4 ∧ pile < 2)))), (7, .int (iI (bI (¬ X_isOp 4 ∧ pile = 16)))), (6, .int (iI (bI (4 = 64 ∧ (X_vl ct cur < 1 ∨ d 4 0 < X_vl ct cur))))), (5, .int (iI (X_vl ct cur))), (4, .int (iI 4)), (3, .int (iI (pl cur))), (0, .ref 496), (1, .ref a), (2, .int (iI pile))]) (st' := [.int (iI (-1))]) rfl ?_
            refine T_iret xr_75_181 xf_75.2.2 rfl ?_
            refine hQ _ _ ?_
            have h2145 := (n2143 497 (by decide)).trans ((n2139 497 (by decide)).trans (hx.1))
            have h2146 := (n2143 a (by omega)).trans ((n2139 a (by omega)).trans (hw.1))
            have h2147 := (n2143 (a + 1) (by omega)).trans ((n2139 (a + 1) (by omega)).trans (hw.2.1))
            have h2148 := (n2143 (a + 2) (by omega)).trans ((n2139 (a + 2) (by omega)).trans (hw.2.2.1))
            have h2149 := (n2143 (a + 3) (by omega)).trans ((n2139 (a + 3) (by omega)).trans (hw.2.2.2.1))
            have h2150 := (n2143 (a + 4) (by omega)).trans ((n2139 (a + 4) (by omega)).trans (hw.2.2.2.2.1))
            have h2151 := (n2143 (a + 5) (by omega)).trans ((n2139 (a + 5) (by omega)).trans (hw.2.2.2.2.2.1))
            have h2152 := (n2143 (a + 6) (by omega)).trans ((n2139 (a + 6) (by omega)).trans (hw.2.2.2.2.2.2.1))
            have h2153 := (n2143 (a + 7) (by omega)).trans ((n2139 (a + 7) (by omega)).trans (hw.2.2.2.2.2.2.2))
            refine Or.inr ⟨rfl, ?_, ⟨_, _, by omega, h2142⟩, ⟨cur, h2145, by omega⟩, ⟨h2146, h2147, h2148, h2149, h2150, h2151, h2152, h2153⟩, ((X_Fr.rf).tr (X_Fr.of n2139 e2140 (by omega))).tr (X_Fr.of n2143 e2144 (by omega))⟩
            unfold sp_step sp_stF
            (repeat (first | rw [if_pos (by assumption)] | rw [if_neg (by assumption)]))
            all_goals first | rfl | ((repeat' split) <;> first | rfl | (exfalso; omega))
          · skip
            have c2136 : ¬ (4 = 64 ∧ (X_vl ct cur < 1 ∨ d 4 0 < X_vl ct cur)) := c2136
            refine T_p xr_75_164 xn_75 (pc' := 166) (ls' := [(8, .int (iI (bI (X_isOp 4 ∧ pile < 2)))), (7, .int (iI (bI (¬ X_isOp 4 ∧ pile = 16)))), (6, .int (iI (bI (4 = 64 ∧ (X_vl ct cur < 1 ∨ d 4 0 < X_vl ct cur))))), (5, .int (iI (X_vl ct cur))), (4, .int (iI 4)), (3, .int (iI (pl cur))), (0, .ref 496), (1, .ref a), (2, .int (iI pile))]) (st' := [.int (iI (bI (¬ X_isOp 4 ∧ pile = 16)))]) rfl ?_
            refine T_bif_ne xr_75_166 (t := 174) (pc' := 169) rfl rfl (fun c2154 => ?_) (fun c2154 => ?_)
            · skip
              have c2154 : (¬ X_isOp 4 ∧ pile = 16) := c2154
              refine T_p xr_75_174 xn_75 (pc' := 175) (ls' := [(8, .int (iI (bI (X_isOp 4 ∧ pile < 2)))), (7, .int (iI (bI (¬ X_isOp 4 ∧ pile = 16)))), (6, .int (iI (bI (4 = 64 ∧ (X_vl ct cur < 1 ∨ d 4 0 < X_vl ct cur))))), (5, .int (iI (X_vl ct cur))), (4, .int (iI 4)), (3, .int (iI (pl cur))), (0, .ref 496), (1, .ref a), (2, .int (iI pile))]) (st' := [.ref 496]) rfl ?_
              refine T_p xr_75_175 xn_75 (pc' := 176) (ls' := [(8, .int (iI (bI (X_isOp 4 ∧ pile < 2)))), (7, .int (iI (bI (¬ X_isOp 4 ∧ pile = 16)))), (6, .int (iI (bI (4 = 64 ∧ (X_vl ct cur < 1 ∨ d 4 0 < X_vl ct cur))))), (5, .int (iI (X_vl ct cur))), (4, .int (iI 4)), (3, .int (iI (pl cur))), (0, .ref 496), (1, .ref a), (2, .int (iI pile))]) (st' := [.int (iI 5), .ref 496]) rfl ?_
              refine T_p xr_75_176 xn_75 (pc' := 177) (ls' := [(8, .int (iI (bI (X_isOp 4 ∧ pile < 2)))), (7, .int (iI (bI (¬ X_isOp 4 ∧ pile = 16)))), (6, .int (iI (bI (4 = 64 ∧ (X_vl ct cur < 1 ∨ d 4 0 < X_vl ct cur))))), (5, .int (iI (X_vl ct cur))), (4, .int (iI 4)), (3, .int (iI (pl cur))), (0, .ref 496), (1, .ref a), (2, .int (iI pile))]) (st' := [.int (iI (pl cur)), .int (iI 5), .ref 496]) rfl ?_
              refine T_cv (S := S) (q := 496) xr_75_177 xf_62.1 xf_62.2.1 xn_62 (as := [.int (iI 5), .int (iI (pl cur))]) (r := []) rfl hp (Nat.le_of_ble_eq_true rfl) (Nat.le_of_ble_eq_true rfl) (pc' := 180) rfl (ls' := [(0, .ref 496), (1, .int (iI 5)), (2, .int (iI (pl cur)))]) rfl ?_
              refine T_p xr_62_0 xn_62 (pc' := 1) (ls' := [(0, .ref 496), (1, .int (iI 5)), (2, .int (iI (pl cur)))]) (st' := [.ref 496]) rfl ?_
              refine T_p xr_62_1 xn_62 (pc' := 2) (ls' := [(0, .ref 496), (1, .int (iI 5)), (2, .int (iI (pl cur)))]) (st' := [.int (iI 5), .ref 496]) rfl ?_
              refine T_put xr_62_2 hp rfl (Nat.le_of_ble_eq_true rfl) rfl (fs' := [.ref 497, .ref B, .int (iI 5), .int (iI fp)]) rfl (pc' := 5) rfl (fun S2155 h2156 n2157 e2158 => ?_)
              refine T_p xr_62_5 xn_62 (pc' := 6) (ls' := [(0, .ref 496), (1, .int (iI 5)), (2, .int (iI (pl cur)))]) (st' := [.ref 496]) rfl ?_
              refine T_p xr_62_6 xn_62 (pc' := 7) (ls' := [(0, .ref 496), (1, .int (iI 5)), (2, .int (iI (pl cur)))]) (st' := [.int (iI (pl cur)), .ref 496]) rfl ?_
              refine T_put xr_62_7 h2156 rfl (Nat.le_of_ble_eq_true rfl) rfl (fs' := [.ref 497, .ref B, .int (iI 5), .int (iI (pl cur))]) rfl (pc' := 10) rfl (fun S2159 h2160 n2161 e2162 => ?_)
              refine T_vret xr_62_10 xf_62.2.2 ?_
              show X_T sc 75 (180, [(8, .int (iI (bI (X_isOp 4 ∧ pile < 2)))), (7, .int (iI (bI (¬ X_isOp 4 ∧ pile = 16)))), (6, .int (iI (bI (4 = 64 ∧ (X_vl ct cur < 1 ∨ d 4 0 < X_vl ct cur))))), (5, .int (iI (X_vl ct cur))), (4, .int (iI 4)), (3, .int (iI (pl cur))), (0, .ref 496), (1, .ref a), (2, .int (iI pile))], [], S2159) _
              refine T_p xr_75_180 xn_75 (pc' := 181) (ls' := [(8, .int (iI (bI (X_isOp 4 ∧ pile < 2)))), (7, .int (iI (bI (¬ X_isOp 4 ∧ pile = 16)))), (6, .int (iI (bI (4 = 64 ∧ (X_vl ct cur < 1 ∨ d 4 0 < X_vl ct cur))))), (5, .int (iI (X_vl ct cur))), (4, .int (iI 4)), (3, .int (iI (pl cur))), (0, .ref 496), (1, .ref a), (2, .int (iI pile))]) (st' := [.int (iI (-1))]) rfl ?_
              refine T_iret xr_75_181 xf_75.2.2 rfl ?_
              refine hQ _ _ ?_
              have h2163 := (n2161 497 (by decide)).trans ((n2157 497 (by decide)).trans (hx.1))
              have h2164 := (n2161 a (by omega)).trans ((n2157 a (by omega)).trans (hw.1))
              have h2165 := (n2161 (a + 1) (by omega)).trans ((n2157 (a + 1) (by omega)).trans (hw.2.1))
              have h2166 := (n2161 (a + 2) (by omega)).trans ((n2157 (a + 2) (by omega)).trans (hw.2.2.1))
              have h2167 := (n2161 (a + 3) (by omega)).trans ((n2157 (a + 3) (by omega)).trans (hw.2.2.2.1))
              have h2168 := (n2161 (a + 4) (by omega)).trans ((n2157 (a + 4) (by omega)).trans (hw.2.2.2.2.1))
              have h2169 := (n2161 (a + 5) (by omega)).trans ((n2157 (a + 5) (by omega)).trans (hw.2.2.2.2.2.1))
              have h2170 := (n2161 (a + 6) (by omega)).trans ((n2157 (a + 6) (by omega)).trans (hw.2.2.2.2.2.2.1))
              have h2171 := (n2161 (a + 7) (by omega)).trans ((n2157 (a + 7) (by omega)).trans (hw.2.2.2.2.2.2.2))
              refine Or.inr ⟨rfl, ?_, ⟨_, _, by omega, h2160⟩, ⟨cur, h2163, by omega⟩, ⟨h2164, h2165, h2166, h2167, h2168, h2169, h2170, h2171⟩, ((X_Fr.rf).tr (X_Fr.of n2157 e2158 (by omega))).tr (X_Fr.of n2161 e2162 (by omega))⟩
              unfold sp_step sp_stF
              (repeat (first | rw [if_pos (by assumption)] | rw [if_neg (by assumption)]))
              all_goals first | rfl | ((repeat' split) <;> first | rfl | (exfalso; omega))
            · skip
              have c2154 : ¬ (¬ X_isOp 4 ∧ pile = 16) := c2154
              refine T_p xr_75_169 xn_75 (pc' := 171) (ls' := [(8, .int (iI (bI (X_isOp 4 ∧ pile < 2)))), (7, .int (iI (bI (¬ X_isOp 4 ∧ pile = 16)))), (6, .int (iI (bI (4 = 64 ∧ (X_vl ct cur < 1 ∨ d 4 0 < X_vl ct cur))))), (5, .int (iI (X_vl ct cur))), (4, .int (iI 4)), (3, .int (iI (pl cur))), (0, .ref 496), (1, .ref a), (2, .int (iI pile))]) (st' := [.int (iI (bI (X_isOp 4 ∧ pile < 2)))]) rfl ?_
              refine T_bif_eq xr_75_171 (t := 182) (pc' := 174) rfl rfl (fun c2172 => ?_) (fun c2172 => ?_)
              · skip
                have c2172 : ¬ (X_isOp 4 ∧ pile < 2) := c2172
                refine T_p xr_75_182 xn_75 (pc' := 183) (ls' := [(8, .int (iI (bI (X_isOp 4 ∧ pile < 2)))), (7, .int (iI (bI (¬ X_isOp 4 ∧ pile = 16)))), (6, .int (iI (bI (4 = 64 ∧ (X_vl ct cur < 1 ∨ d 4 0 < X_vl ct cur))))), (5, .int (iI (X_vl ct cur))), (4, .int (iI 4)), (3, .int (iI (pl cur))), (0, .ref 496), (1, .ref a), (2, .int (iI pile))]) (st' := [.ref a]) rfl ?_
                refine T_p xr_75_183 xn_75 (pc' := 185) (ls' := [(8, .int (iI (bI (X_isOp 4 ∧ pile < 2)))), (7, .int (iI (bI (¬ X_isOp 4 ∧ pile = 16)))), (6, .int (iI (bI (4 = 64 ∧ (X_vl ct cur < 1 ∨ d 4 0 < X_vl ct cur))))), (5, .int (iI (X_vl ct cur))), (4, .int (iI 4)), (3, .int (iI (pl cur))), (0, .ref 496), (1, .ref a), (2, .int (iI pile))]) (st' := [.int (iI 4), .ref a]) rfl ?_
                refine T_p xr_75_185 xn_75 (pc' := 187) (ls' := [(8, .int (iI (bI (X_isOp 4 ∧ pile < 2)))), (7, .int (iI (bI (¬ X_isOp 4 ∧ pile = 16)))), (6, .int (iI (bI (4 = 64 ∧ (X_vl ct cur < 1 ∨ d 4 0 < X_vl ct cur))))), (5, .int (iI (X_vl ct cur))), (4, .int (iI 4)), (3, .int (iI (pl cur))), (0, .ref 496), (1, .ref a), (2, .int (iI pile))]) (st' := [.int (iI (X_vl ct cur)), .int (iI 4), .ref a]) rfl ?_
                refine T_cv (S := S) (q := a) xr_75_187 xf_94.1 xf_94.2.1 xn_94 (as := [.int (iI 4), .int (iI (X_vl ct cur))]) (r := []) rfl hw.1 (Nat.le_of_ble_eq_true rfl) (Nat.le_of_ble_eq_true rfl) (pc' := 190) rfl (ls' := [(0, .ref a), (1, .int (iI 4)), (2, .int (iI (X_vl ct cur)))]) rfl ?_
                have hr2179 : X_wr (X_aS d 4 (X_vl ct cur)) := X_wr_S hr (by omega)
                refine T_mono (c_addStep sc S a d q 4 (X_vl ct cur) ⟨hw.1, hw.2.1, hw.2.2.1, hw.2.2.2.1, hw.2.2.2.2.1, hw.2.2.2.2.2.1, hw.2.2.2.2.2.2.1, hw.2.2.2.2.2.2.2⟩ hr (by omega)) (fun v2173 S2174 h2175 => ?_)
                obtain ⟨h2176, hw2177, hf2178⟩ := h2175
                rw [h2176]
                have hw2177 : C_wd S2174 a (X_aS d 4 (X_vl ct cur)) q := hw2177
                show X_T sc 75 (190, [(8, .int (iI (bI (X_isOp 4 ∧ pile < 2)))), (7, .int (iI (bI (¬ X_isOp 4 ∧ pile = 16)))), (6, .int (iI (bI (4 = 64 ∧ (X_vl ct cur < 1 ∨ d 4 0 < X_vl ct cur))))), (5, .int (iI (X_vl ct cur))), (4, .int (iI 4)), (3, .int (iI (pl cur))), (0, .ref 496), (1, .ref a), (2, .int (iI pile))], [], S2174) _
                refine T_p xr_75_190 xn_75 (pc' := 191) (ls' := [(8, .int (iI (bI (X_isOp 4 ∧ pile < 2)))), (7, .int (iI (bI (¬ X_isOp 4 ∧ pile = 16)))), (6, .int (iI (bI (4 = 64 ∧ (X_vl ct cur < 1 ∨ d 4 0 < X_vl ct cur))))), (5, .int (iI (X_vl ct cur))), (4, .int (iI 4)), (3, .int (iI (pl cur))), (0, .ref 496), (1, .ref a), (2, .int (iI pile))]) (st' := [.ref 496]) rfl ?_
                have h2180 := (hf2178.1 496 (by omega)).trans (hp)
                refine T_get xr_75_191 h2180 rfl (v := .ref 497) rfl (pc' := 194) rfl ?_
                have h2181 := (hf2178.1 497 (by omega)).trans (hx.1)
                refine T_cv (S := S2174) (q := 497) xr_75_194 xf_48.1 xf_48.2.1 xn_48 (as := []) (r := []) rfl h2181 (Nat.le_of_ble_eq_true rfl) (Nat.le_of_ble_eq_true rfl) (pc' := 197) rfl (ls' := [(0, .ref 497)]) rfl ?_
                have h2182 := (hf2178.1 498 (by omega)).trans (hx.2.1)
                have h2183 := (hf2178.1 499 (by omega)).trans (hx.2.2.1)
                have h2184 := (hf2178.1 500 (by omega)).trans (hx.2.2.2)
                refine T_mono (c_advance sc S2174 at_ n cur so pl ct ⟨h2181, h2182, h2183, h2184⟩ (by omega)) (fun v2186 S2187 h2185 => ?_)
                obtain ⟨h2188, h2190, h2189⟩ := h2185
                rw [h2188]
                show X_T sc 75 (197, [(8, .int (iI (bI (X_isOp 4 ∧ pile < 2)))), (7, .int (iI (bI (¬ X_isOp 4 ∧ pile = 16)))), (6, .int (iI (bI (4 = 64 ∧ (X_vl ct cur < 1 ∨ d 4 0 < X_vl ct cur))))), (5, .int (iI (X_vl ct cur))), (4, .int (iI 4)), (3, .int (iI (pl cur))), (0, .ref 496), (1, .ref a), (2, .int (iI pile))], [], S2187) _
                have hv2191 := X_av_r (n := n) (c := cur) (by omega)
                refine T_p xr_75_197 xn_75 (pc' := 199) (ls' := [(8, .int (iI (bI (X_isOp 4 ∧ pile < 2)))), (7, .int (iI (bI (¬ X_isOp 4 ∧ pile = 16)))), (6, .int (iI (bI (4 = 64 ∧ (X_vl ct cur < 1 ∨ d 4 0 < X_vl ct cur))))), (5, .int (iI (X_vl ct cur))), (4, .int (iI 4)), (3, .int (iI (pl cur))), (0, .ref 496), (1, .ref a), (2, .int (iI pile))]) (st' := [.int (iI 4)]) rfl ?_
                refine T_cs xr_75_199 (by decide) xf_77.1 xn_77 (as := [.int (iI 4)]) (r := []) rfl (Nat.le_of_ble_eq_true rfl) (Nat.le_of_ble_eq_true rfl) (pc' := 202) rfl (ls' := [(0, .int (iI 4))]) rfl ?_
                refine T_mono (c_isOperation sc S2187 4 (by omega)) (fun v2193 S2194 h2192 => ?_)
                obtain ⟨h2195, h2196⟩ := h2192
                rw [h2195, h2196]
                show X_T sc 75 (202, [(8, .int (iI (bI (X_isOp 4 ∧ pile < 2)))), (7, .int (iI (bI (¬ X_isOp 4 ∧ pile = 16)))), (6, .int (iI (bI (4 = 64 ∧ (X_vl ct cur < 1 ∨ d 4 0 < X_vl ct cur))))), (5, .int (iI (X_vl ct cur))), (4, .int (iI 4)), (3, .int (iI (pl cur))), (0, .ref 496), (1, .ref a), (2, .int (iI pile))], [.int (iI (bI (X_isOp 4)))], S2187) _
                refine T_bif_eq xr_75_202 (t := 211) (pc' := 205) rfl rfl (fun c2197 => ?_) (fun c2197 => ?_)
                · skip
                  have c2197 : ¬ (X_isOp 4) := c2197
                  refine T_p xr_75_211 xn_75 (pc' := 212) (ls' := [(8, .int (iI (bI (X_isOp 4 ∧ pile < 2)))), (7, .int (iI (bI (¬ X_isOp 4 ∧ pile = 16)))), (6, .int (iI (bI (4 = 64 ∧ (X_vl ct cur < 1 ∨ d 4 0 < X_vl ct cur))))), (5, .int (iI (X_vl ct cur))), (4, .int (iI 4)), (3, .int (iI (pl cur))), (0, .ref 496), (1, .ref a), (2, .int (iI pile))]) (st' := [.int (iI pile)]) rfl ?_
                  refine T_p xr_75_212 xn_75 (pc' := 213) (ls' := [(8, .int (iI (bI (X_isOp 4 ∧ pile < 2)))), (7, .int (iI (bI (¬ X_isOp 4 ∧ pile = 16)))), (6, .int (iI (bI (4 = 64 ∧ (X_vl ct cur < 1 ∨ d 4 0 < X_vl ct cur))))), (5, .int (iI (X_vl ct cur))), (4, .int (iI 4)), (3, .int (iI (pl cur))), (0, .ref 496), (1, .ref a), (2, .int (iI pile))]) (st' := [.int (iI 1), .int (iI pile)]) rfl ?_
                  refine T_ziadd xr_75_213 (z := pile + 1) rfl (pc' := 214) rfl ?_
                  refine T_iret xr_75_214 xf_75.2.2 rfl ?_
                  refine hQ _ _ ?_
                  have h2198 := (h2189.1 496 (by omega)).trans (h2180)
                  have h2199 := (h2189.1 a (by omega)).trans (hw2177.1)
                  have h2200 := (h2189.1 (a + 1) (by omega)).trans (hw2177.2.1)
                  have h2201 := (h2189.1 (a + 2) (by omega)).trans (hw2177.2.2.1)
                  have h2202 := (h2189.1 (a + 3) (by omega)).trans (hw2177.2.2.2.1)
                  have h2203 := (h2189.1 (a + 4) (by omega)).trans (hw2177.2.2.2.2.1)
                  have h2204 := (h2189.1 (a + 5) (by omega)).trans (hw2177.2.2.2.2.2.1)
                  have h2205 := (h2189.1 (a + 6) (by omega)).trans (hw2177.2.2.2.2.2.2.1)
                  have h2206 := (h2189.1 (a + 7) (by omega)).trans (hw2177.2.2.2.2.2.2.2)
                  refine Or.inl ⟨X_av n cur, X_aS d 4 (X_vl ct cur), pile + 1, rfl, ?_, h2198, h2190, by omega, ⟨h2199, h2200, h2201, h2202, h2203, h2204, h2205, h2206⟩, hr2179, ((X_Fr.rf).tr (X_Fr.mono ⟨hf2178.1, hf2178.2⟩ (fun q hq => (by omega)))).tr (X_Fr.mono ⟨h2189.1, h2189.2⟩ (fun q hq => (by omega)))⟩
                  unfold sp_step sp_stF
                  (repeat (first | rw [if_pos (by assumption)] | rw [if_neg (by assumption)]))
                  all_goals first | rfl | ((repeat' split) <;> first | rfl | (exfalso; omega))
                · skip
                  have c2197 : (X_isOp 4) := c2197
                  exact (show False by first | contradiction | omega).elim
              · skip
                have c2172 : (X_isOp 4 ∧ pile < 2) := c2172
                refine T_p xr_75_174 xn_75 (pc' := 175) (ls' := [(8, .int (iI (bI (X_isOp 4 ∧ pile < 2)))), (7, .int (iI (bI (¬ X_isOp 4 ∧ pile = 16)))), (6, .int (iI (bI (4 = 64 ∧ (X_vl ct cur < 1 ∨ d 4 0 < X_vl ct cur))))), (5, .int (iI (X_vl ct cur))), (4, .int (iI 4)), (3, .int (iI (pl cur))), (0, .ref 496), (1, .ref a), (2, .int (iI pile))]) (st' := [.ref 496]) rfl ?_
                refine T_p xr_75_175 xn_75 (pc' := 176) (ls' := [(8, .int (iI (bI (X_isOp 4 ∧ pile < 2)))), (7, .int (iI (bI (¬ X_isOp 4 ∧ pile = 16)))), (6, .int (iI (bI (4 = 64 ∧ (X_vl ct cur < 1 ∨ d 4 0 < X_vl ct cur))))), (5, .int (iI (X_vl ct cur))), (4, .int (iI 4)), (3, .int (iI (pl cur))), (0, .ref 496), (1, .ref a), (2, .int (iI pile))]) (st' := [.int (iI 5), .ref 496]) rfl ?_
                refine T_p xr_75_176 xn_75 (pc' := 177) (ls' := [(8, .int (iI (bI (X_isOp 4 ∧ pile < 2)))), (7, .int (iI (bI (¬ X_isOp 4 ∧ pile = 16)))), (6, .int (iI (bI (4 = 64 ∧ (X_vl ct cur < 1 ∨ d 4 0 < X_vl ct cur))))), (5, .int (iI (X_vl ct cur))), (4, .int (iI 4)), (3, .int (iI (pl cur))), (0, .ref 496), (1, .ref a), (2, .int (iI pile))]) (st' := [.int (iI (pl cur)), .int (iI 5), .ref 496]) rfl ?_
                refine T_cv (S := S) (q := 496) xr_75_177 xf_62.1 xf_62.2.1 xn_62 (as := [.int (iI 5), .int (iI (pl cur))]) (r := []) rfl hp (Nat.le_of_ble_eq_true rfl) (Nat.le_of_ble_eq_true rfl) (pc' := 180) rfl (ls' := [(0, .ref 496), (1, .int (iI 5)), (2, .int (iI (pl cur)))]) rfl ?_
                refine T_p xr_62_0 xn_62 (pc' := 1) (ls' := [(0, .ref 496), (1, .int (iI 5)), (2, .int (iI (pl cur)))]) (st' := [.ref 496]) rfl ?_
                refine T_p xr_62_1 xn_62 (pc' := 2) (ls' := [(0, .ref 496), (1, .int (iI 5)), (2, .int (iI (pl cur)))]) (st' := [.int (iI 5), .ref 496]) rfl ?_
                refine T_put xr_62_2 hp rfl (Nat.le_of_ble_eq_true rfl) rfl (fs' := [.ref 497, .ref B, .int (iI 5), .int (iI fp)]) rfl (pc' := 5) rfl (fun S2207 h2208 n2209 e2210 => ?_)
                refine T_p xr_62_5 xn_62 (pc' := 6) (ls' := [(0, .ref 496), (1, .int (iI 5)), (2, .int (iI (pl cur)))]) (st' := [.ref 496]) rfl ?_
                refine T_p xr_62_6 xn_62 (pc' := 7) (ls' := [(0, .ref 496), (1, .int (iI 5)), (2, .int (iI (pl cur)))]) (st' := [.int (iI (pl cur)), .ref 496]) rfl ?_
                refine T_put xr_62_7 h2208 rfl (Nat.le_of_ble_eq_true rfl) rfl (fs' := [.ref 497, .ref B, .int (iI 5), .int (iI (pl cur))]) rfl (pc' := 10) rfl (fun S2211 h2212 n2213 e2214 => ?_)
                refine T_vret xr_62_10 xf_62.2.2 ?_
                show X_T sc 75 (180, [(8, .int (iI (bI (X_isOp 4 ∧ pile < 2)))), (7, .int (iI (bI (¬ X_isOp 4 ∧ pile = 16)))), (6, .int (iI (bI (4 = 64 ∧ (X_vl ct cur < 1 ∨ d 4 0 < X_vl ct cur))))), (5, .int (iI (X_vl ct cur))), (4, .int (iI 4)), (3, .int (iI (pl cur))), (0, .ref 496), (1, .ref a), (2, .int (iI pile))], [], S2211) _
                refine T_p xr_75_180 xn_75 (pc' := 181) (ls' := [(8, .int (iI (bI (X_isOp 4 ∧ pile < 2)))), (7, .int (iI (bI (¬ X_isOp 4 ∧ pile = 16)))), (6, .int (iI (bI (4 = 64 ∧ (X_vl ct cur < 1 ∨ d 4 0 < X_vl ct cur))))), (5, .int (iI (X_vl ct cur))), (4, .int (iI 4)), (3, .int (iI (pl cur))), (0, .ref 496), (1, .ref a), (2, .int (iI pile))]) (st' := [.int (iI (-1))]) rfl ?_
                refine T_iret xr_75_181 xf_75.2.2 rfl ?_
                refine hQ _ _ ?_
                have h2215 := (n2213 497 (by decide)).trans ((n2209 497 (by decide)).trans (hx.1))
                have h2216 := (n2213 a (by omega)).trans ((n2209 a (by omega)).trans (hw.1))
                have h2217 := (n2213 (a + 1) (by omega)).trans ((n2209 (a + 1) (by omega)).trans (hw.2.1))
                have h2218 := (n2213 (a + 2) (by omega)).trans ((n2209 (a + 2) (by omega)).trans (hw.2.2.1))
                have h2219 := (n2213 (a + 3) (by omega)).trans ((n2209 (a + 3) (by omega)).trans (hw.2.2.2.1))
                have h2220 := (n2213 (a + 4) (by omega)).trans ((n2209 (a + 4) (by omega)).trans (hw.2.2.2.2.1))
                have h2221 := (n2213 (a + 5) (by omega)).trans ((n2209 (a + 5) (by omega)).trans (hw.2.2.2.2.2.1))
                have h2222 := (n2213 (a + 6) (by omega)).trans ((n2209 (a + 6) (by omega)).trans (hw.2.2.2.2.2.2.1))
                have h2223 := (n2213 (a + 7) (by omega)).trans ((n2209 (a + 7) (by omega)).trans (hw.2.2.2.2.2.2.2))
                refine Or.inr ⟨rfl, ?_, ⟨_, _, by omega, h2212⟩, ⟨cur, h2215, by omega⟩, ⟨h2216, h2217, h2218, h2219, h2220, h2221, h2222, h2223⟩, ((X_Fr.rf).tr (X_Fr.of n2209 e2210 (by omega))).tr (X_Fr.of n2213 e2214 (by omega))⟩
                unfold sp_step sp_stF
                (repeat (first | rw [if_pos (by assumption)] | rw [if_neg (by assumption)]))
                all_goals first | rfl | ((repeat' split) <;> first | rfl | (exfalso; omega))
        refine T_p xr_75_139 xn_75 (pc' := 141) (ls' := [(7, .int (iI (bI (¬ X_isOp 4 ∧ pile = 16)))), (6, .int (iI (bI (4 = 64 ∧ (X_vl ct cur < 1 ∨ d 4 0 < X_vl ct cur))))), (5, .int (iI (X_vl ct cur))), (4, .int (iI 4)), (3, .int (iI (pl cur))), (0, .ref 496), (1, .ref a), (2, .int (iI pile))]) (st' := [.int (iI 4)]) rfl ?_
        refine T_cs xr_75_141 (by decide) xf_77.1 xn_77 (as := [.int (iI 4)]) (r := []) rfl (Nat.le_of_ble_eq_true rfl) (Nat.le_of_ble_eq_true rfl) (pc' := 144) rfl (ls' := [(0, .int (iI 4))]) rfl ?_
        refine T_mono (c_isOperation sc S 4 (by omega)) (fun v2225 S2226 h2224 => ?_)
        obtain ⟨h2227, h2228⟩ := h2224
        rw [h2227, h2228]
        show X_T sc 75 (144, [(7, .int (iI (bI (¬ X_isOp 4 ∧ pile = 16)))), (6, .int (iI (bI (4 = 64 ∧ (X_vl ct cur < 1 ∨ d 4 0 < X_vl ct cur))))), (5, .int (iI (X_vl ct cur))), (4, .int (iI 4)), (3, .int (iI (pl cur))), (0, .ref 496), (1, .ref a), (2, .int (iI pile))], [.int (iI (bI (X_isOp 4)))], S) _
        refine T_bif_eq xr_75_144 (t := 156) (pc' := 147) rfl rfl (fun c2229 => ?_) (fun c2229 => ?_)
        · skip
          have c2229 : ¬ (X_isOp 4) := c2229
          refine T_p xr_75_156 xn_75 (pc' := 157) (ls' := [(7, .int (iI (bI (¬ X_isOp 4 ∧ pile = 16)))), (6, .int (iI (bI (4 = 64 ∧ (X_vl ct cur < 1 ∨ d 4 0 < X_vl ct cur))))), (5, .int (iI (X_vl ct cur))), (4, .int (iI 4)), (3, .int (iI (pl cur))), (0, .ref 496), (1, .ref a), (2, .int (iI pile))]) (st' := [.int (iI 0)]) rfl ?_
          refine T_ie (y := iI (bI (X_isOp 4 ∧ pile < 2))) (by rw [bI_f (by rintro ⟨h1, h2⟩; first | omega | contradiction)]) ?_
          exact J2135
        · skip
          have c2229 : (X_isOp 4) := c2229
          exact (show False by first | contradiction | omega).elim
      refine T_p xr_75_118 xn_75 (pc' := 120) (ls' := [(6, .int (iI (bI (4 = 64 ∧ (X_vl ct cur < 1 ∨ d 4 0 < X_vl ct cur))))), (5, .int (iI (X_vl ct cur))), (4, .int (iI 4)), (3, .int (iI (pl cur))), (0, .ref 496), (1, .ref a), (2, .int (iI pile))]) (st' := [.int (iI 4)]) rfl ?_
      refine T_cs xr_75_120 (by decide) xf_77.1 xn_77 (as := [.int (iI 4)]) (r := []) rfl (Nat.le_of_ble_eq_true rfl) (Nat.le_of_ble_eq_true rfl) (pc' := 123) rfl (ls' := [(0, .int (iI 4))]) rfl ?_
      refine T_mono (c_isOperation sc S 4 (by omega)) (fun v2231 S2232 h2230 => ?_)
      obtain ⟨h2233, h2234⟩ := h2230
      rw [h2233, h2234]
      show X_T sc 75 (123, [(6, .int (iI (bI (4 = 64 ∧ (X_vl ct cur < 1 ∨ d 4 0 < X_vl ct cur))))), (5, .int (iI (X_vl ct cur))), (4, .int (iI 4)), (3, .int (iI (pl cur))), (0, .ref 496), (1, .ref a), (2, .int (iI pile))], [.int (iI (bI (X_isOp 4)))], S) _
      refine T_bif_ne xr_75_123 (t := 136) (pc' := 126) rfl rfl (fun c2235 => ?_) (fun c2235 => ?_)
      · skip
        have c2235 : (X_isOp 4) := c2235
        exact (show False by first | contradiction | omega).elim
      · skip
        have c2235 : ¬ (X_isOp 4) := c2235
        refine T_p xr_75_126 xn_75 (pc' := 127) (ls' := [(6, .int (iI (bI (4 = 64 ∧ (X_vl ct cur < 1 ∨ d 4 0 < X_vl ct cur))))), (5, .int (iI (X_vl ct cur))), (4, .int (iI 4)), (3, .int (iI (pl cur))), (0, .ref 496), (1, .ref a), (2, .int (iI pile))]) (st' := [.int (iI pile)]) rfl ?_
        refine T_p xr_75_127 xn_75 (pc' := 129) (ls' := [(6, .int (iI (bI (4 = 64 ∧ (X_vl ct cur < 1 ∨ d 4 0 < X_vl ct cur))))), (5, .int (iI (X_vl ct cur))), (4, .int (iI 4)), (3, .int (iI (pl cur))), (0, .ref 496), (1, .ref a), (2, .int (iI pile))]) (st' := [.int (iI 16), .int (iI pile)]) rfl ?_
        refine T_zicmp_ne xr_75_129 (t := 136) (pc' := 132) rfl rfl (fun c2236 => ?_) (fun c2236 => ?_)
        · skip
          have c2236 : ¬ pile = 16 := c2236
          refine T_p xr_75_136 xn_75 (pc' := 137) (ls' := [(6, .int (iI (bI (4 = 64 ∧ (X_vl ct cur < 1 ∨ d 4 0 < X_vl ct cur))))), (5, .int (iI (X_vl ct cur))), (4, .int (iI 4)), (3, .int (iI (pl cur))), (0, .ref 496), (1, .ref a), (2, .int (iI pile))]) (st' := [.int (iI 0)]) rfl ?_
          refine T_ie (y := iI (bI (¬ X_isOp 4 ∧ pile = 16))) (by rw [bI_f (by rintro ⟨h1, h2⟩; first | omega | contradiction)]) ?_
          exact J2134
        · skip
          have c2236 : ¬ (¬ pile = 16) := c2236
          refine T_p xr_75_132 xn_75 (pc' := 133) (ls' := [(6, .int (iI (bI (4 = 64 ∧ (X_vl ct cur < 1 ∨ d 4 0 < X_vl ct cur))))), (5, .int (iI (X_vl ct cur))), (4, .int (iI 4)), (3, .int (iI (pl cur))), (0, .ref 496), (1, .ref a), (2, .int (iI pile))]) (st' := [.int (iI 1)]) rfl ?_
          refine T_p xr_75_133 xn_75 (pc' := 137) (ls' := [(6, .int (iI (bI (4 = 64 ∧ (X_vl ct cur < 1 ∨ d 4 0 < X_vl ct cur))))), (5, .int (iI (X_vl ct cur))), (4, .int (iI 4)), (3, .int (iI (pl cur))), (0, .ref 496), (1, .ref a), (2, .int (iI pile))]) (st' := [.int (iI 1)]) rfl ?_
          refine T_ie (y := iI (bI (¬ X_isOp 4 ∧ pile = 16))) (by rw [bI_t (by exact ⟨by assumption, by omega⟩)]) ?_
          exact J2134
    refine T_p xr_75_89 xn_75 (pc' := 91) (ls' := [(5, .int (iI (X_vl ct cur))), (4, .int (iI 4)), (3, .int (iI (pl cur))), (0, .ref 496), (1, .ref a), (2, .int (iI pile))]) (st' := [.int (iI 4)]) rfl ?_
    refine T_p xr_75_91 xn_75 (pc' := 93) (ls' := [(5, .int (iI (X_vl ct cur))), (4, .int (iI 4)), (3, .int (iI (pl cur))), (0, .ref 496), (1, .ref a), (2, .int (iI pile))]) (st' := [.int (iI 64), .int (iI 4)]) rfl ?_
    refine T_zicmp_net xr_75_93 (t := 115) rfl (by decide) ?_
    refine T_p xr_75_115 xn_75 (pc' := 116) (ls' := [(5, .int (iI (X_vl ct cur))), (4, .int (iI 4)), (3, .int (iI (pl cur))), (0, .ref 496), (1, .ref a), (2, .int (iI pile))]) (st' := [.int (iI 0)]) rfl ?_
    refine T_ie (y := iI (bI (4 = 64 ∧ (X_vl ct cur < 1 ∨ d 4 0 < X_vl ct cur)))) (by rw [bI_f (by rintro ⟨h1, h2⟩; omega)]) ?_
    exact J2133
