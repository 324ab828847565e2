theorem X_opx0 (xs : Nat → Int32) (x1 x2 x3 x4 x5 : Int32) (g1 : xs 1 = x1) (g2 : xs 2 = x2) (g3 : xs 3 = x3) (g4 : xs 4 = x4) (g5 : xs 5 = x5) (S0 : X_S) (hS2 : S0.2 = (580, 263990)) (w1 : S0.1 1 = .inr (10, [.ref 2, .ref 4, .ref 250, .ref 496, .ref 501, .ref 504, .ref 511, .ref 517, .ref 527])) (w2 : S0.1 2 = .inr (7, [.ref 3, .int 0])) (w530 : S0.1 530 = .inr (11, [.ref 531, .int 0, .ref 532, .int 0, .int 0, .int 0, .int (-1), .int 0, .int 0, .int 0, .int 0, .int 0, .long 0, .ref 533, .ref 534, .ref 535, .ref 536, .ref 537, .ref 538, .ref 539, .ref 540, .ref 541, .ref 542, .ref 543, .ref 544, .ref 545, .ref 546, .ref 547, .int 0, .int 1, .int 0, .int 0, .int 1, .int 0, .ref 548, .ref 549, .ref 550, .ref 551, .int 0, .ref 552, .ref 553, .ref 554, .ref 555, .ref 556, .ref 557, .ref 558, .ref 559, .ref 560, .ref 561, .int 0, .ref 562, .ref 563, .ref 564, .ref 565, .ref 566, .ref 567, .ref 568, .ref 569, .int 0, .ref 570, .ref 571, .ref 572, .ref 573, .ref 574, .ref 575, .ref 576, .ref 577, .ref 578, .int 0, .int 0, .int 0, .ref 579])) (z3 : Nat → Int32) (hz3 : S0.1 3 = .inl (.byte, 2000, .inl z3)) (z531 : Nat → Int32) (hz531 : S0.1 531 = .inl (.byte, 2020, .inl z531)) : X_T (6, xs) 203 (116, [(3, .int 0), (2, .ref 530), (1, .ref 1), (0, .ref 0)], [], S0) (fun v S => v = some (.int 1) ∧ S.2 = (580, 263990)) := by
  refine T_p xr_203_116 xn_203 (pc' := 117) (ls' := [(3, .int 0), (2, .ref 530), (1, .ref 1), (0, .ref 0)]) (st' := [.ref 1]) rfl ?_
  refine T_p xr_203_117 xn_203 (pc' := 118) (ls' := [(3, .int 0), (2, .ref 530), (1, .ref 1), (0, .ref 0)]) (st' := [.ref 0, .ref 1]) rfl ?_
  refine T_p xr_203_118 xn_203 (pc' := 119) (ls' := [(3, .int 0), (2, .ref 530), (1, .ref 1), (0, .ref 0)]) (st' := [.int 0, .ref 0, .ref 1]) rfl ?_
  refine T_p xr_203_119 xn_203 (pc' := 120) (ls' := [(3, .int 0), (2, .ref 530), (1, .ref 1), (0, .ref 0)]) (st' := [.int 1, .int 0, .ref 0, .ref 1]) rfl ?_
  refine T_p xr_203_120 xn_203 (pc' := 121) (ls' := [(3, .int 0), (2, .ref 530), (1, .ref 1), (0, .ref 0)]) (st' := [.int 1, .ref 0, .ref 1]) rfl ?_
  refine T_sald xr_203_121 (show ¬ ((1 : Int32) < 0 ∨ 6 ≤ (1 : Int32).toNatClampNeg) by decide) (x := x1) g1 (pc' := 122) rfl ?_
  refine T_p xr_203_122 xn_203 (pc' := 123) (ls' := [(3, .int 0), (2, .ref 530), (1, .ref 1), (0, .ref 0)]) (st' := [.ref 0, .int (x1), .ref 1]) rfl ?_
  refine T_p xr_203_123 xn_203 (pc' := 124) (ls' := [(3, .int 0), (2, .ref 530), (1, .ref 1), (0, .ref 0)]) (st' := [.int 0, .ref 0, .int (x1), .ref 1]) rfl ?_
  refine T_p xr_203_124 xn_203 (pc' := 125) (ls' := [(3, .int 0), (2, .ref 530), (1, .ref 1), (0, .ref 0)]) (st' := [.int 2, .int 0, .ref 0, .int (x1), .ref 1]) rfl ?_
  refine T_p xr_203_125 xn_203 (pc' := 126) (ls' := [(3, .int 0), (2, .ref 530), (1, .ref 1), (0, .ref 0)]) (st' := [.int 2, .ref 0, .int (x1), .ref 1]) rfl ?_
  refine T_sald xr_203_126 (show ¬ ((2 : Int32) < 0 ∨ 6 ≤ (2 : Int32).toNatClampNeg) by decide) (x := x2) g2 (pc' := 127) rfl ?_
  refine T_p xr_203_127 xn_203 (pc' := 128) (ls' := [(3, .int 0), (2, .ref 530), (1, .ref 1), (0, .ref 0)]) (st' := [.ref 0, .int (x2), .int (x1), .ref 1]) rfl ?_
  refine T_p xr_203_128 xn_203 (pc' := 129) (ls' := [(3, .int 0), (2, .ref 530), (1, .ref 1), (0, .ref 0)]) (st' := [.int 0, .ref 0, .int (x2), .int (x1), .ref 1]) rfl ?_
  refine T_p xr_203_129 xn_203 (pc' := 130) (ls' := [(3, .int 0), (2, .ref 530), (1, .ref 1), (0, .ref 0)]) (st' := [.int 3, .int 0, .ref 0, .int (x2), .int (x1), .ref 1]) rfl ?_
  refine T_p xr_203_130 xn_203 (pc' := 131) (ls' := [(3, .int 0), (2, .ref 530), (1, .ref 1), (0, .ref 0)]) (st' := [.int 3, .ref 0, .int (x2), .int (x1), .ref 1]) rfl ?_
  refine T_sald xr_203_131 (show ¬ ((3 : Int32) < 0 ∨ 6 ≤ (3 : Int32).toNatClampNeg) by decide) (x := x3) g3 (pc' := 132) rfl ?_
  refine T_p xr_203_132 xn_203 (pc' := 133) (ls' := [(3, .int 0), (2, .ref 530), (1, .ref 1), (0, .ref 0)]) (st' := [.ref 0, .int (x3), .int (x2), .int (x1), .ref 1]) rfl ?_
  refine T_p xr_203_133 xn_203 (pc' := 134) (ls' := [(3, .int 0), (2, .ref 530), (1, .ref 1), (0, .ref 0)]) (st' := [.int 0, .ref 0, .int (x3), .int (x2), .int (x1), .ref 1]) rfl ?_
  refine T_p xr_203_134 xn_203 (pc' := 135) (ls' := [(3, .int 0), (2, .ref 530), (1, .ref 1), (0, .ref 0)]) (st' := [.int 4, .int 0, .ref 0, .int (x3), .int (x2), .int (x1), .ref 1]) rfl ?_
  refine T_p xr_203_135 xn_203 (pc' := 136) (ls' := [(3, .int 0), (2, .ref 530), (1, .ref 1), (0, .ref 0)]) (st' := [.int 4, .ref 0, .int (x3), .int (x2), .int (x1), .ref 1]) rfl ?_
  refine T_sald xr_203_136 (show ¬ ((4 : Int32) < 0 ∨ 6 ≤ (4 : Int32).toNatClampNeg) by decide) (x := x4) g4 (pc' := 137) rfl ?_
  refine T_p xr_203_137 xn_203 (pc' := 138) (ls' := [(3, .int 0), (2, .ref 530), (1, .ref 1), (0, .ref 0)]) (st' := [.ref 0, .int (x4), .int (x3), .int (x2), .int (x1), .ref 1]) rfl ?_
  refine T_p xr_203_138 xn_203 (pc' := 139) (ls' := [(3, .int 0), (2, .ref 530), (1, .ref 1), (0, .ref 0)]) (st' := [.int 0, .ref 0, .int (x4), .int (x3), .int (x2), .int (x1), .ref 1]) rfl ?_
  refine T_p xr_203_139 xn_203 (pc' := 140) (ls' := [(3, .int 0), (2, .ref 530), (1, .ref 1), (0, .ref 0)]) (st' := [.int 5, .int 0, .ref 0, .int (x4), .int (x3), .int (x2), .int (x1), .ref 1]) rfl ?_
  refine T_p xr_203_140 xn_203 (pc' := 141) (ls' := [(3, .int 0), (2, .ref 530), (1, .ref 1), (0, .ref 0)]) (st' := [.int 5, .ref 0, .int (x4), .int (x3), .int (x2), .int (x1), .ref 1]) rfl ?_
  refine T_sald xr_203_141 (show ¬ ((5 : Int32) < 0 ∨ 6 ≤ (5 : Int32).toNatClampNeg) by decide) (x := x5) g5 (pc' := 142) rfl ?_
  refine T_cv (S := S0) (q := 1) xr_203_142 xf_113.1 xf_113.2.1 xn_113 (as := [.int (x1), .int (x2), .int (x3), .int (x4), .int (x5)]) (r := []) rfl w1 (by simp [Value.category]) (by simp [Value.category]) (pc' := 145) rfl (ls' := [(0, .ref 1), (1, .int (x1)), (2, .int (x2)), (3, .int (x3)), (4, .int (x4)), (5, .int (x5))]) rfl ?_
  refine T_p xr_113_0 xn_113 (pc' := 1) (ls' := [(0, .ref 1), (1, .int (x1)), (2, .int (x2)), (3, .int (x3)), (4, .int (x4)), (5, .int (x5))]) (st' := [.ref 1]) rfl ?_
  refine T_get xr_113_1 w1 rfl (v := .ref 2) rfl (pc' := 4) rfl ?_
  refine T_get xr_113_4 w2 rfl (v := .int 0) rfl (pc' := 7) rfl ?_
  refine T_p xr_113_7 xn_113 (pc' := 9) (ls' := [(0, .ref 1), (1, .int (x1)), (2, .int (x2)), (3, .int (x3)), (4, .int (x4)), (5, .int (x5))]) (st' := [.int 20, .int 0]) rfl ?_
  refine T_p xr_113_9 xn_113 (pc' := 10) (ls' := [(0, .ref 1), (1, .int (x1)), (2, .int (x2)), (3, .int (x3)), (4, .int (x4)), (5, .int (x5))]) (st' := [.int 20]) rfl ?_
  refine T_p xr_113_10 xn_113 (pc' := 13) (ls' := [(0, .ref 1), (1, .int (x1)), (2, .int (x2)), (3, .int (x3)), (4, .int (x4)), (5, .int (x5))]) (st' := [.int 2000, .int 20]) rfl ?_
  refine T_b2t xr_113_13 rfl (t := 18) rfl ?_
  refine T_p xr_113_18 xn_113 (pc' := 19) (ls' := [(0, .ref 1), (1, .int (x1)), (2, .int (x2)), (3, .int (x3)), (4, .int (x4)), (5, .int (x5))]) (st' := [.ref 1]) rfl ?_
  refine T_get xr_113_19 w1 rfl (v := .ref 2) rfl (pc' := 22) rfl ?_
  refine T_p xr_113_22 xn_113 (pc' := 23) (ls' := [(0, .ref 1), (1, .int (x1)), (2, .int (x2)), (3, .int (x3)), (4, .int (x4)), (5, .int (x5))]) (st' := [.int (x1), .ref 2]) rfl ?_
  refine T_cv (S := S0) (q := 2) xr_113_23 xf_92.1 xf_92.2.1 xn_92 (as := [.int (x1)]) (r := []) rfl w2 (by simp [Value.category]) (by simp [Value.category]) (pc' := 26) rfl (ls' := [(0, .ref 2), (1, .int (x1))]) rfl ?_
  refine T_p xr_92_0 xn_92 (pc' := 2) (ls' := [(0, .ref 2), (1, .int (x1))]) (st' := [.int 24]) rfl ?_
  refine T_p xr_92_2 xn_92 (pc' := 3) (ls' := [(2, .int 24), (0, .ref 2), (1, .int (x1))]) (st' := []) rfl ?_
  refine T_p xr_92_3 xn_92 (pc' := 4) (ls' := [(2, .int 24), (0, .ref 2), (1, .int (x1))]) (st' := [.int 24]) rfl ?_
  refine T_b1f xr_92_4 rfl (t := 46) (pc' := 7) rfl rfl ?_
  refine T_p xr_92_7 xn_92 (pc' := 8) (ls' := [(2, .int 24), (0, .ref 2), (1, .int (x1))]) (st' := [.ref 2]) rfl ?_
  refine T_get xr_92_8 w2 rfl (v := .int 0) rfl (pc' := 11) rfl ?_
  refine T_p xr_92_11 xn_92 (pc' := 14) (ls' := [(2, .int 24), (0, .ref 2), (1, .int (x1))]) (st' := [.int 2000, .int 0]) rfl ?_
  refine T_b2f xr_92_14 rfl (t := 46) (pc' := 17) rfl rfl ?_
  refine T_p xr_92_17 xn_92 (pc' := 18) (ls' := [(2, .int 24), (0, .ref 2), (1, .int (x1))]) (st' := [.ref 2]) rfl ?_
  refine T_get xr_92_18 w2 rfl (v := .ref 3) rfl (pc' := 21) rfl ?_
  refine T_p xr_92_21 xn_92 (pc' := 22) (ls' := [(2, .int 24), (0, .ref 2), (1, .int (x1))]) (st' := [.ref 2, .ref 3]) rfl ?_
  refine T_get xr_92_22 w2 rfl (v := .int 0) rfl (pc' := 25) rfl ?_
  refine T_p xr_92_25 xn_92 (pc' := 26) (ls' := [(2, .int 24), (0, .ref 2), (1, .int (x1))]) (st' := [.int (x1), .int 0, .ref 3]) rfl ?_
  refine T_p xr_92_26 xn_92 (pc' := 27) (ls' := [(2, .int 24), (0, .ref 2), (1, .int (x1))]) (st' := [.int 24, .int (x1), .int 0, .ref 3]) rfl ?_
  refine T_p xr_92_27 xn_92 (pc' := 28) (ls' := [(2, .int 24), (0, .ref 2), (1, .int (x1))]) (st' := [.int (((x1 : Int32) >>> ((24 : Int32) &&& 31))), .int 0, .ref 3]) rfl ?_
  refine T_p xr_92_28 xn_92 (pc' := 29) (ls' := [(2, .int 24), (0, .ref 2), (1, .int (x1))]) (st' := [.int ((((x1 : Int32) >>> ((24 : Int32) &&& 31))).toInt8.toInt32), .int 0, .ref 3]) rfl ?_
  refine T_bast xr_92_29 hz3 (by decide) (pc' := 30) rfl (fun S1 h2 n3 e4 => ?_)
  have h5 := (n3 1 (by decide)).trans w1
  have h6 := (n3 2 (by decide)).trans w2
  have h7 := (n3 530 (by decide)).trans w530
  have h8 := (n3 531 (by decide)).trans hz531
  have hs9 := e4.trans hS2
  obtain ⟨f10, h11⟩ : ∃ z, S1.1 3 = .inl (.byte, 2000, .inl z) := ⟨_, h2⟩
  refine T_p xr_92_30 xn_92 (pc' := 31) (ls' := [(2, .int 24), (0, .ref 2), (1, .int (x1))]) (st' := [.ref 2]) rfl ?_
  refine T_p xr_92_31 xn_92 (pc' := 32) (ls' := [(2, .int 24), (0, .ref 2), (1, .int (x1))]) (st' := [.ref 2, .ref 2]) rfl ?_
  refine T_get xr_92_32 h6 rfl (v := .int 0) rfl (pc' := 35) rfl ?_
  refine T_p xr_92_35 xn_92 (pc' := 36) (ls' := [(2, .int 24), (0, .ref 2), (1, .int (x1))]) (st' := [.int 1, .int 0, .ref 2]) rfl ?_
  refine T_p xr_92_36 xn_92 (pc' := 37) (ls' := [(2, .int 24), (0, .ref 2), (1, .int (x1))]) (st' := [.int 1, .ref 2]) rfl ?_
  refine T_put xr_92_37 h6 rfl (by decide) rfl (fs' := [.ref 3, .int 1]) rfl (pc' := 40) rfl (fun S12 h13 n14 e15 => ?_)
  have h16 := (n14 1 (by decide)).trans h5
  have h17 := (n14 530 (by decide)).trans h7
  have h18 := (n14 3 (by decide)).trans h11
  have h19 := (n14 531 (by decide)).trans h8
  have hs20 := e15.trans hs9
  refine T_p xr_92_40 xn_92 (pc' := 43) (ls' := [(2, .int 16), (0, .ref 2), (1, .int (x1))]) (st' := []) rfl ?_
  refine T_p xr_92_43 xn_92 (pc' := 3) (ls' := [(2, .int 16), (0, .ref 2), (1, .int (x1))]) (st' := []) rfl ?_
  refine T_p xr_92_3 xn_92 (pc' := 4) (ls' := [(2, .int 16), (0, .ref 2), (1, .int (x1))]) (st' := [.int 16]) rfl ?_
  refine T_b1f xr_92_4 rfl (t := 46) (pc' := 7) rfl rfl ?_
  refine T_p xr_92_7 xn_92 (pc' := 8) (ls' := [(2, .int 16), (0, .ref 2), (1, .int (x1))]) (st' := [.ref 2]) rfl ?_
  refine T_get xr_92_8 h13 rfl (v := .int 1) rfl (pc' := 11) rfl ?_
  refine T_p xr_92_11 xn_92 (pc' := 14) (ls' := [(2, .int 16), (0, .ref 2), (1, .int (x1))]) (st' := [.int 2000, .int 1]) rfl ?_
  refine T_b2f xr_92_14 rfl (t := 46) (pc' := 17) rfl rfl ?_
  refine T_p xr_92_17 xn_92 (pc' := 18) (ls' := [(2, .int 16), (0, .ref 2), (1, .int (x1))]) (st' := [.ref 2]) rfl ?_
  refine T_get xr_92_18 h13 rfl (v := .ref 3) rfl (pc' := 21) rfl ?_
  refine T_p xr_92_21 xn_92 (pc' := 22) (ls' := [(2, .int 16), (0, .ref 2), (1, .int (x1))]) (st' := [.ref 2, .ref 3]) rfl ?_
  refine T_get xr_92_22 h13 rfl (v := .int 1) rfl (pc' := 25) rfl ?_
  refine T_p xr_92_25 xn_92 (pc' := 26) (ls' := [(2, .int 16), (0, .ref 2), (1, .int (x1))]) (st' := [.int (x1), .int 1, .ref 3]) rfl ?_
  refine T_p xr_92_26 xn_92 (pc' := 27) (ls' := [(2, .int 16), (0, .ref 2), (1, .int (x1))]) (st' := [.int 16, .int (x1), .int 1, .ref 3]) rfl ?_
  refine T_p xr_92_27 xn_92 (pc' := 28) (ls' := [(2, .int 16), (0, .ref 2), (1, .int (x1))]) (st' := [.int (((x1 : Int32) >>> ((16 : Int32) &&& 31))), .int 1, .ref 3]) rfl ?_
  refine T_p xr_92_28 xn_92 (pc' := 29) (ls' := [(2, .int 16), (0, .ref 2), (1, .int (x1))]) (st' := [.int ((((x1 : Int32) >>> ((16 : Int32) &&& 31))).toInt8.toInt32), .int 1, .ref 3]) rfl ?_
  refine T_bast xr_92_29 h18 (by decide) (pc' := 30) rfl (fun S21 h22 n23 e24 => ?_)
  have h25 := (n23 1 (by decide)).trans h16
  have h26 := (n23 2 (by decide)).trans h13
  have h27 := (n23 530 (by decide)).trans h17
  have h28 := (n23 531 (by decide)).trans h19
  have hs29 := e24.trans hs20
  obtain ⟨f30, h31⟩ : ∃ z, S21.1 3 = .inl (.byte, 2000, .inl z) := ⟨_, h22⟩
  refine T_p xr_92_30 xn_92 (pc' := 31) (ls' := [(2, .int 16), (0, .ref 2), (1, .int (x1))]) (st' := [.ref 2]) rfl ?_
  refine T_p xr_92_31 xn_92 (pc' := 32) (ls' := [(2, .int 16), (0, .ref 2), (1, .int (x1))]) (st' := [.ref 2, .ref 2]) rfl ?_
  refine T_get xr_92_32 h26 rfl (v := .int 1) rfl (pc' := 35) rfl ?_
  refine T_p xr_92_35 xn_92 (pc' := 36) (ls' := [(2, .int 16), (0, .ref 2), (1, .int (x1))]) (st' := [.int 1, .int 1, .ref 2]) rfl ?_
  refine T_p xr_92_36 xn_92 (pc' := 37) (ls' := [(2, .int 16), (0, .ref 2), (1, .int (x1))]) (st' := [.int 2, .ref 2]) rfl ?_
  refine T_put xr_92_37 h26 rfl (by decide) rfl (fs' := [.ref 3, .int 2]) rfl (pc' := 40) rfl (fun S32 h33 n34 e35 => ?_)
  have h36 := (n34 1 (by decide)).trans h25
  have h37 := (n34 530 (by decide)).trans h27
  have h38 := (n34 3 (by decide)).trans h31
  have h39 := (n34 531 (by decide)).trans h28
  have hs40 := e35.trans hs29
  refine T_p xr_92_40 xn_92 (pc' := 43) (ls' := [(2, .int 8), (0, .ref 2), (1, .int (x1))]) (st' := []) rfl ?_
  refine T_p xr_92_43 xn_92 (pc' := 3) (ls' := [(2, .int 8), (0, .ref 2), (1, .int (x1))]) (st' := []) rfl ?_
  refine T_p xr_92_3 xn_92 (pc' := 4) (ls' := [(2, .int 8), (0, .ref 2), (1, .int (x1))]) (st' := [.int 8]) rfl ?_
  refine T_b1f xr_92_4 rfl (t := 46) (pc' := 7) rfl rfl ?_
  refine T_p xr_92_7 xn_92 (pc' := 8) (ls' := [(2, .int 8), (0, .ref 2), (1, .int (x1))]) (st' := [.ref 2]) rfl ?_
  refine T_get xr_92_8 h33 rfl (v := .int 2) rfl (pc' := 11) rfl ?_
  refine T_p xr_92_11 xn_92 (pc' := 14) (ls' := [(2, .int 8), (0, .ref 2), (1, .int (x1))]) (st' := [.int 2000, .int 2]) rfl ?_
  refine T_b2f xr_92_14 rfl (t := 46) (pc' := 17) rfl rfl ?_
  refine T_p xr_92_17 xn_92 (pc' := 18) (ls' := [(2, .int 8), (0, .ref 2), (1, .int (x1))]) (st' := [.ref 2]) rfl ?_
  refine T_get xr_92_18 h33 rfl (v := .ref 3) rfl (pc' := 21) rfl ?_
  refine T_p xr_92_21 xn_92 (pc' := 22) (ls' := [(2, .int 8), (0, .ref 2), (1, .int (x1))]) (st' := [.ref 2, .ref 3]) rfl ?_
  refine T_get xr_92_22 h33 rfl (v := .int 2) rfl (pc' := 25) rfl ?_
  refine T_p xr_92_25 xn_92 (pc' := 26) (ls' := [(2, .int 8), (0, .ref 2), (1, .int (x1))]) (st' := [.int (x1), .int 2, .ref 3]) rfl ?_
  refine T_p xr_92_26 xn_92 (pc' := 27) (ls' := [(2, .int 8), (0, .ref 2), (1, .int (x1))]) (st' := [.int 8, .int (x1), .int 2, .ref 3]) rfl ?_
  refine T_p xr_92_27 xn_92 (pc' := 28) (ls' := [(2, .int 8), (0, .ref 2), (1, .int (x1))]) (st' := [.int (((x1 : Int32) >>> ((8 : Int32) &&& 31))), .int 2, .ref 3]) rfl ?_
  refine T_p xr_92_28 xn_92 (pc' := 29) (ls' := [(2, .int 8), (0, .ref 2), (1, .int (x1))]) (st' := [.int ((((x1 : Int32) >>> ((8 : Int32) &&& 31))).toInt8.toInt32), .int 2, .ref 3]) rfl ?_
  refine T_bast xr_92_29 h38 (by decide) (pc' := 30) rfl (fun S41 h42 n43 e44 => ?_)
  have h45 := (n43 1 (by decide)).trans h36
  have h46 := (n43 2 (by decide)).trans h33
  have h47 := (n43 530 (by decide)).trans h37
  have h48 := (n43 531 (by decide)).trans h39
  have hs49 := e44.trans hs40
  obtain ⟨f50, h51⟩ : ∃ z, S41.1 3 = .inl (.byte, 2000, .inl z) := ⟨_, h42⟩
  refine T_p xr_92_30 xn_92 (pc' := 31) (ls' := [(2, .int 8), (0, .ref 2), (1, .int (x1))]) (st' := [.ref 2]) rfl ?_
  refine T_p xr_92_31 xn_92 (pc' := 32) (ls' := [(2, .int 8), (0, .ref 2), (1, .int (x1))]) (st' := [.ref 2, .ref 2]) rfl ?_
  refine T_get xr_92_32 h46 rfl (v := .int 2) rfl (pc' := 35) rfl ?_
  refine T_p xr_92_35 xn_92 (pc' := 36) (ls' := [(2, .int 8), (0, .ref 2), (1, .int (x1))]) (st' := [.int 1, .int 2, .ref 2]) rfl ?_
  refine T_p xr_92_36 xn_92 (pc' := 37) (ls' := [(2, .int 8), (0, .ref 2), (1, .int (x1))]) (st' := [.int 3, .ref 2]) rfl ?_
  refine T_put xr_92_37 h46 rfl (by decide) rfl (fs' := [.ref 3, .int 3]) rfl (pc' := 40) rfl (fun S52 h53 n54 e55 => ?_)
  have h56 := (n54 1 (by decide)).trans h45
  have h57 := (n54 530 (by decide)).trans h47
  have h58 := (n54 3 (by decide)).trans h51
  have h59 := (n54 531 (by decide)).trans h48
  have hs60 := e55.trans hs49
  refine T_p xr_92_40 xn_92 (pc' := 43) (ls' := [(2, .int 0), (0, .ref 2), (1, .int (x1))]) (st' := []) rfl ?_
  refine T_p xr_92_43 xn_92 (pc' := 3) (ls' := [(2, .int 0), (0, .ref 2), (1, .int (x1))]) (st' := []) rfl ?_
  refine T_p xr_92_3 xn_92 (pc' := 4) (ls' := [(2, .int 0), (0, .ref 2), (1, .int (x1))]) (st' := [.int 0]) rfl ?_
  refine T_b1f xr_92_4 rfl (t := 46) (pc' := 7) rfl rfl ?_
  refine T_p xr_92_7 xn_92 (pc' := 8) (ls' := [(2, .int 0), (0, .ref 2), (1, .int (x1))]) (st' := [.ref 2]) rfl ?_
  refine T_get xr_92_8 h53 rfl (v := .int 3) rfl (pc' := 11) rfl ?_
  refine T_p xr_92_11 xn_92 (pc' := 14) (ls' := [(2, .int 0), (0, .ref 2), (1, .int (x1))]) (st' := [.int 2000, .int 3]) rfl ?_
  refine T_b2f xr_92_14 rfl (t := 46) (pc' := 17) rfl rfl ?_
  refine T_p xr_92_17 xn_92 (pc' := 18) (ls' := [(2, .int 0), (0, .ref 2), (1, .int (x1))]) (st' := [.ref 2]) rfl ?_
  refine T_get xr_92_18 h53 rfl (v := .ref 3) rfl (pc' := 21) rfl ?_
  refine T_p xr_92_21 xn_92 (pc' := 22) (ls' := [(2, .int 0), (0, .ref 2), (1, .int (x1))]) (st' := [.ref 2, .ref 3]) rfl ?_
  refine T_get xr_92_22 h53 rfl (v := .int 3) rfl (pc' := 25) rfl ?_
  refine T_p xr_92_25 xn_92 (pc' := 26) (ls' := [(2, .int 0), (0, .ref 2), (1, .int (x1))]) (st' := [.int (x1), .int 3, .ref 3]) rfl ?_
  refine T_p xr_92_26 xn_92 (pc' := 27) (ls' := [(2, .int 0), (0, .ref 2), (1, .int (x1))]) (st' := [.int 0, .int (x1), .int 3, .ref 3]) rfl ?_
  refine T_p xr_92_27 xn_92 (pc' := 28) (ls' := [(2, .int 0), (0, .ref 2), (1, .int (x1))]) (st' := [.int (((x1 : Int32) >>> ((0 : Int32) &&& 31))), .int 3, .ref 3]) rfl ?_
  refine T_p xr_92_28 xn_92 (pc' := 29) (ls' := [(2, .int 0), (0, .ref 2), (1, .int (x1))]) (st' := [.int ((((x1 : Int32) >>> ((0 : Int32) &&& 31))).toInt8.toInt32), .int 3, .ref 3]) rfl ?_
  refine T_bast xr_92_29 h58 (by decide) (pc' := 30) rfl (fun S61 h62 n63 e64 => ?_)
  have h65 := (n63 1 (by decide)).trans h56
  have h66 := (n63 2 (by decide)).trans h53
  have h67 := (n63 530 (by decide)).trans h57
  have h68 := (n63 531 (by decide)).trans h59
  have hs69 := e64.trans hs60
  obtain ⟨f70, h71⟩ : ∃ z, S61.1 3 = .inl (.byte, 2000, .inl z) := ⟨_, h62⟩
  refine T_p xr_92_30 xn_92 (pc' := 31) (ls' := [(2, .int 0), (0, .ref 2), (1, .int (x1))]) (st' := [.ref 2]) rfl ?_
  refine T_p xr_92_31 xn_92 (pc' := 32) (ls' := [(2, .int 0), (0, .ref 2), (1, .int (x1))]) (st' := [.ref 2, .ref 2]) rfl ?_
  refine T_get xr_92_32 h66 rfl (v := .int 3) rfl (pc' := 35) rfl ?_
  refine T_p xr_92_35 xn_92 (pc' := 36) (ls' := [(2, .int 0), (0, .ref 2), (1, .int (x1))]) (st' := [.int 1, .int 3, .ref 2]) rfl ?_
  refine T_p xr_92_36 xn_92 (pc' := 37) (ls' := [(2, .int 0), (0, .ref 2), (1, .int (x1))]) (st' := [.int 4, .ref 2]) rfl ?_
  refine T_put xr_92_37 h66 rfl (by decide) rfl (fs' := [.ref 3, .int 4]) rfl (pc' := 40) rfl (fun S72 h73 n74 e75 => ?_)
  have h76 := (n74 1 (by decide)).trans h65
  have h77 := (n74 530 (by decide)).trans h67
  have h78 := (n74 3 (by decide)).trans h71
  have h79 := (n74 531 (by decide)).trans h68
  have hs80 := e75.trans hs69
  refine T_p xr_92_40 xn_92 (pc' := 43) (ls' := [(2, .int (-8)), (0, .ref 2), (1, .int (x1))]) (st' := []) rfl ?_
  refine T_p xr_92_43 xn_92 (pc' := 3) (ls' := [(2, .int (-8)), (0, .ref 2), (1, .int (x1))]) (st' := []) rfl ?_
  refine T_p xr_92_3 xn_92 (pc' := 4) (ls' := [(2, .int (-8)), (0, .ref 2), (1, .int (x1))]) (st' := [.int (-8)]) rfl ?_
  refine T_b1t xr_92_4 rfl (t := 46) rfl ?_
  refine T_vret xr_92_46 xf_92.2.2 ?_
  show X_T (6, xs) 113 (26, [(0, .ref 1), (1, .int (x1)), (2, .int (x2)), (3, .int (x3)), (4, .int (x4)), (5, .int (x5))], [], S72) _
  refine T_p xr_113_26 xn_113 (pc' := 27) (ls' := [(0, .ref 1), (1, .int (x1)), (2, .int (x2)), (3, .int (x3)), (4, .int (x4)), (5, .int (x5))]) (st' := [.ref 1]) rfl ?_
  refine T_get xr_113_27 h76 rfl (v := .ref 2) rfl (pc' := 30) rfl ?_
  refine T_p xr_113_30 xn_113 (pc' := 31) (ls' := [(0, .ref 1), (1, .int (x1)), (2, .int (x2)), (3, .int (x3)), (4, .int (x4)), (5, .int (x5))]) (st' := [.int (x2), .ref 2]) rfl ?_
  refine T_cv (S := S72) (q := 2) xr_113_31 xf_92.1 xf_92.2.1 xn_92 (as := [.int (x2)]) (r := []) rfl h73 (by simp [Value.category]) (by simp [Value.category]) (pc' := 34) rfl (ls' := [(0, .ref 2), (1, .int (x2))]) rfl ?_
  refine T_p xr_92_0 xn_92 (pc' := 2) (ls' := [(0, .ref 2), (1, .int (x2))]) (st' := [.int 24]) rfl ?_
  refine T_p xr_92_2 xn_92 (pc' := 3) (ls' := [(2, .int 24), (0, .ref 2), (1, .int (x2))]) (st' := []) rfl ?_
  refine T_p xr_92_3 xn_92 (pc' := 4) (ls' := [(2, .int 24), (0, .ref 2), (1, .int (x2))]) (st' := [.int 24]) rfl ?_
  refine T_b1f xr_92_4 rfl (t := 46) (pc' := 7) rfl rfl ?_
  refine T_p xr_92_7 xn_92 (pc' := 8) (ls' := [(2, .int 24), (0, .ref 2), (1, .int (x2))]) (st' := [.ref 2]) rfl ?_
  refine T_get xr_92_8 h73 rfl (v := .int 4) rfl (pc' := 11) rfl ?_
  refine T_p xr_92_11 xn_92 (pc' := 14) (ls' := [(2, .int 24), (0, .ref 2), (1, .int (x2))]) (st' := [.int 2000, .int 4]) rfl ?_
  refine T_b2f xr_92_14 rfl (t := 46) (pc' := 17) rfl rfl ?_
  refine T_p xr_92_17 xn_92 (pc' := 18) (ls' := [(2, .int 24), (0, .ref 2), (1, .int (x2))]) (st' := [.ref 2]) rfl ?_
  refine T_get xr_92_18 h73 rfl (v := .ref 3) rfl (pc' := 21) rfl ?_
  refine T_p xr_92_21 xn_92 (pc' := 22) (ls' := [(2, .int 24), (0, .ref 2), (1, .int (x2))]) (st' := [.ref 2, .ref 3]) rfl ?_
  refine T_get xr_92_22 h73 rfl (v := .int 4) rfl (pc' := 25) rfl ?_
  refine T_p xr_92_25 xn_92 (pc' := 26) (ls' := [(2, .int 24), (0, .ref 2), (1, .int (x2))]) (st' := [.int (x2), .int 4, .ref 3]) rfl ?_
  refine T_p xr_92_26 xn_92 (pc' := 27) (ls' := [(2, .int 24), (0, .ref 2), (1, .int (x2))]) (st' := [.int 24, .int (x2), .int 4, .ref 3]) rfl ?_
  refine T_p xr_92_27 xn_92 (pc' := 28) (ls' := [(2, .int 24), (0, .ref 2), (1, .int (x2))]) (st' := [.int (((x2 : Int32) >>> ((24 : Int32) &&& 31))), .int 4, .ref 3]) rfl ?_
  refine T_p xr_92_28 xn_92 (pc' := 29) (ls' := [(2, .int 24), (0, .ref 2), (1, .int (x2))]) (st' := [.int ((((x2 : Int32) >>> ((24 : Int32) &&& 31))).toInt8.toInt32), .int 4, .ref 3]) rfl ?_
  refine T_bast xr_92_29 h78 (by decide) (pc' := 30) rfl (fun S81 h82 n83 e84 => ?_)
  have h85 := (n83 1 (by decide)).trans h76
  have h86 := (n83 2 (by decide)).trans h73
  have h87 := (n83 530 (by decide)).trans h77
  have h88 := (n83 531 (by decide)).trans h79
  have hs89 := e84.trans hs80
  obtain ⟨f90, h91⟩ : ∃ z, S81.1 3 = .inl (.byte, 2000, .inl z) := ⟨_, h82⟩
  refine T_p xr_92_30 xn_92 (pc' := 31) (ls' := [(2, .int 24), (0, .ref 2), (1, .int (x2))]) (st' := [.ref 2]) rfl ?_
  refine T_p xr_92_31 xn_92 (pc' := 32) (ls' := [(2, .int 24), (0, .ref 2), (1, .int (x2))]) (st' := [.ref 2, .ref 2]) rfl ?_
  refine T_get xr_92_32 h86 rfl (v := .int 4) rfl (pc' := 35) rfl ?_
  refine T_p xr_92_35 xn_92 (pc' := 36) (ls' := [(2, .int 24), (0, .ref 2), (1, .int (x2))]) (st' := [.int 1, .int 4, .ref 2]) rfl ?_
  refine T_p xr_92_36 xn_92 (pc' := 37) (ls' := [(2, .int 24), (0, .ref 2), (1, .int (x2))]) (st' := [.int 5, .ref 2]) rfl ?_
  refine T_put xr_92_37 h86 rfl (by decide) rfl (fs' := [.ref 3, .int 5]) rfl (pc' := 40) rfl (fun S92 h93 n94 e95 => ?_)
  have h96 := (n94 1 (by decide)).trans h85
  have h97 := (n94 530 (by decide)).trans h87
  have h98 := (n94 3 (by decide)).trans h91
  have h99 := (n94 531 (by decide)).trans h88
  have hs100 := e95.trans hs89
  refine T_p xr_92_40 xn_92 (pc' := 43) (ls' := [(2, .int 16), (0, .ref 2), (1, .int (x2))]) (st' := []) rfl ?_
  refine T_p xr_92_43 xn_92 (pc' := 3) (ls' := [(2, .int 16), (0, .ref 2), (1, .int (x2))]) (st' := []) rfl ?_
  refine T_p xr_92_3 xn_92 (pc' := 4) (ls' := [(2, .int 16), (0, .ref 2), (1, .int (x2))]) (st' := [.int 16]) rfl ?_
  refine T_b1f xr_92_4 rfl (t := 46) (pc' := 7) rfl rfl ?_
  refine T_p xr_92_7 xn_92 (pc' := 8) (ls' := [(2, .int 16), (0, .ref 2), (1, .int (x2))]) (st' := [.ref 2]) rfl ?_
  refine T_get xr_92_8 h93 rfl (v := .int 5) rfl (pc' := 11) rfl ?_
  refine T_p xr_92_11 xn_92 (pc' := 14) (ls' := [(2, .int 16), (0, .ref 2), (1, .int (x2))]) (st' := [.int 2000, .int 5]) rfl ?_
  refine T_b2f xr_92_14 rfl (t := 46) (pc' := 17) rfl rfl ?_
  refine T_p xr_92_17 xn_92 (pc' := 18) (ls' := [(2, .int 16), (0, .ref 2), (1, .int (x2))]) (st' := [.ref 2]) rfl ?_
  refine T_get xr_92_18 h93 rfl (v := .ref 3) rfl (pc' := 21) rfl ?_
  refine T_p xr_92_21 xn_92 (pc' := 22) (ls' := [(2, .int 16), (0, .ref 2), (1, .int (x2))]) (st' := [.ref 2, .ref 3]) rfl ?_
  refine T_get xr_92_22 h93 rfl (v := .int 5) rfl (pc' := 25) rfl ?_
  refine T_p xr_92_25 xn_92 (pc' := 26) (ls' := [(2, .int 16), (0, .ref 2), (1, .int (x2))]) (st' := [.int (x2), .int 5, .ref 3]) rfl ?_
  refine T_p xr_92_26 xn_92 (pc' := 27) (ls' := [(2, .int 16), (0, .ref 2), (1, .int (x2))]) (st' := [.int 16, .int (x2), .int 5, .ref 3]) rfl ?_
  refine T_p xr_92_27 xn_92 (pc' := 28) (ls' := [(2, .int 16), (0, .ref 2), (1, .int (x2))]) (st' := [.int (((x2 : Int32) >>> ((16 : Int32) &&& 31))), .int 5, .ref 3]) rfl ?_
  refine T_p xr_92_28 xn_92 (pc' := 29) (ls' := [(2, .int 16), (0, .ref 2), (1, .int (x2))]) (st' := [.int ((((x2 : Int32) >>> ((16 : Int32) &&& 31))).toInt8.toInt32), .int 5, .ref 3]) rfl ?_
  refine T_bast xr_92_29 h98 (by decide) (pc' := 30) rfl (fun S101 h102 n103 e104 => ?_)
  have h105 := (n103 1 (by decide)).trans h96
  have h106 := (n103 2 (by decide)).trans h93
  have h107 := (n103 530 (by decide)).trans h97
  have h108 := (n103 531 (by decide)).trans h99
  have hs109 := e104.trans hs100
  obtain ⟨f110, h111⟩ : ∃ z, S101.1 3 = .inl (.byte, 2000, .inl z) := ⟨_, h102⟩
  refine T_p xr_92_30 xn_92 (pc' := 31) (ls' := [(2, .int 16), (0, .ref 2), (1, .int (x2))]) (st' := [.ref 2]) rfl ?_
  refine T_p xr_92_31 xn_92 (pc' := 32) (ls' := [(2, .int 16), (0, .ref 2), (1, .int (x2))]) (st' := [.ref 2, .ref 2]) rfl ?_
  refine T_get xr_92_32 h106 rfl (v := .int 5) rfl (pc' := 35) rfl ?_
  refine T_p xr_92_35 xn_92 (pc' := 36) (ls' := [(2, .int 16), (0, .ref 2), (1, .int (x2))]) (st' := [.int 1, .int 5, .ref 2]) rfl ?_
  refine T_p xr_92_36 xn_92 (pc' := 37) (ls' := [(2, .int 16), (0, .ref 2), (1, .int (x2))]) (st' := [.int 6, .ref 2]) rfl ?_
  refine T_put xr_92_37 h106 rfl (by decide) rfl (fs' := [.ref 3, .int 6]) rfl (pc' := 40) rfl (fun S112 h113 n114 e115 => ?_)
  have h116 := (n114 1 (by decide)).trans h105
  have h117 := (n114 530 (by decide)).trans h107
  have h118 := (n114 3 (by decide)).trans h111
  have h119 := (n114 531 (by decide)).trans h108
  have hs120 := e115.trans hs109
  refine T_p xr_92_40 xn_92 (pc' := 43) (ls' := [(2, .int 8), (0, .ref 2), (1, .int (x2))]) (st' := []) rfl ?_
  refine T_p xr_92_43 xn_92 (pc' := 3) (ls' := [(2, .int 8), (0, .ref 2), (1, .int (x2))]) (st' := []) rfl ?_
  refine T_p xr_92_3 xn_92 (pc' := 4) (ls' := [(2, .int 8), (0, .ref 2), (1, .int (x2))]) (st' := [.int 8]) rfl ?_
  refine T_b1f xr_92_4 rfl (t := 46) (pc' := 7) rfl rfl ?_
  refine T_p xr_92_7 xn_92 (pc' := 8) (ls' := [(2, .int 8), (0, .ref 2), (1, .int (x2))]) (st' := [.ref 2]) rfl ?_
  refine T_get xr_92_8 h113 rfl (v := .int 6) rfl (pc' := 11) rfl ?_
  refine T_p xr_92_11 xn_92 (pc' := 14) (ls' := [(2, .int 8), (0, .ref 2), (1, .int (x2))]) (st' := [.int 2000, .int 6]) rfl ?_
  refine T_b2f xr_92_14 rfl (t := 46) (pc' := 17) rfl rfl ?_
  refine T_p xr_92_17 xn_92 (pc' := 18) (ls' := [(2, .int 8), (0, .ref 2), (1, .int (x2))]) (st' := [.ref 2]) rfl ?_
  refine T_get xr_92_18 h113 rfl (v := .ref 3) rfl (pc' := 21) rfl ?_
  refine T_p xr_92_21 xn_92 (pc' := 22) (ls' := [(2, .int 8), (0, .ref 2), (1, .int (x2))]) (st' := [.ref 2, .ref 3]) rfl ?_
  refine T_get xr_92_22 h113 rfl (v := .int 6) rfl (pc' := 25) rfl ?_
  refine T_p xr_92_25 xn_92 (pc' := 26) (ls' := [(2, .int 8), (0, .ref 2), (1, .int (x2))]) (st' := [.int (x2), .int 6, .ref 3]) rfl ?_
  refine T_p xr_92_26 xn_92 (pc' := 27) (ls' := [(2, .int 8), (0, .ref 2), (1, .int (x2))]) (st' := [.int 8, .int (x2), .int 6, .ref 3]) rfl ?_
  refine T_p xr_92_27 xn_92 (pc' := 28) (ls' := [(2, .int 8), (0, .ref 2), (1, .int (x2))]) (st' := [.int (((x2 : Int32) >>> ((8 : Int32) &&& 31))), .int 6, .ref 3]) rfl ?_
  refine T_p xr_92_28 xn_92 (pc' := 29) (ls' := [(2, .int 8), (0, .ref 2), (1, .int (x2))]) (st' := [.int ((((x2 : Int32) >>> ((8 : Int32) &&& 31))).toInt8.toInt32), .int 6, .ref 3]) rfl ?_
  refine T_bast xr_92_29 h118 (by decide) (pc' := 30) rfl (fun S121 h122 n123 e124 => ?_)
  have h125 := (n123 1 (by decide)).trans h116
  have h126 := (n123 2 (by decide)).trans h113
  have h127 := (n123 530 (by decide)).trans h117
  have h128 := (n123 531 (by decide)).trans h119
  have hs129 := e124.trans hs120
  obtain ⟨f130, h131⟩ : ∃ z, S121.1 3 = .inl (.byte, 2000, .inl z) := ⟨_, h122⟩
  refine T_p xr_92_30 xn_92 (pc' := 31) (ls' := [(2, .int 8), (0, .ref 2), (1, .int (x2))]) (st' := [.ref 2]) rfl ?_
  refine T_p xr_92_31 xn_92 (pc' := 32) (ls' := [(2, .int 8), (0, .ref 2), (1, .int (x2))]) (st' := [.ref 2, .ref 2]) rfl ?_
  refine T_get xr_92_32 h126 rfl (v := .int 6) rfl (pc' := 35) rfl ?_
  refine T_p xr_92_35 xn_92 (pc' := 36) (ls' := [(2, .int 8), (0, .ref 2), (1, .int (x2))]) (st' := [.int 1, .int 6, .ref 2]) rfl ?_
  refine T_p xr_92_36 xn_92 (pc' := 37) (ls' := [(2, .int 8), (0, .ref 2), (1, .int (x2))]) (st' := [.int 7, .ref 2]) rfl ?_
  refine T_put xr_92_37 h126 rfl (by decide) rfl (fs' := [.ref 3, .int 7]) rfl (pc' := 40) rfl (fun S132 h133 n134 e135 => ?_)
  have h136 := (n134 1 (by decide)).trans h125
  have h137 := (n134 530 (by decide)).trans h127
  have h138 := (n134 3 (by decide)).trans h131
  have h139 := (n134 531 (by decide)).trans h128
  have hs140 := e135.trans hs129
  refine T_p xr_92_40 xn_92 (pc' := 43) (ls' := [(2, .int 0), (0, .ref 2), (1, .int (x2))]) (st' := []) rfl ?_
  refine T_p xr_92_43 xn_92 (pc' := 3) (ls' := [(2, .int 0), (0, .ref 2), (1, .int (x2))]) (st' := []) rfl ?_
  refine T_p xr_92_3 xn_92 (pc' := 4) (ls' := [(2, .int 0), (0, .ref 2), (1, .int (x2))]) (st' := [.int 0]) rfl ?_
  refine T_b1f xr_92_4 rfl (t := 46) (pc' := 7) rfl rfl ?_
  refine T_p xr_92_7 xn_92 (pc' := 8) (ls' := [(2, .int 0), (0, .ref 2), (1, .int (x2))]) (st' := [.ref 2]) rfl ?_
  refine T_get xr_92_8 h133 rfl (v := .int 7) rfl (pc' := 11) rfl ?_
  refine T_p xr_92_11 xn_92 (pc' := 14) (ls' := [(2, .int 0), (0, .ref 2), (1, .int (x2))]) (st' := [.int 2000, .int 7]) rfl ?_
  refine T_b2f xr_92_14 rfl (t := 46) (pc' := 17) rfl rfl ?_
  refine T_p xr_92_17 xn_92 (pc' := 18) (ls' := [(2, .int 0), (0, .ref 2), (1, .int (x2))]) (st' := [.ref 2]) rfl ?_
  refine T_get xr_92_18 h133 rfl (v := .ref 3) rfl (pc' := 21) rfl ?_
  refine T_p xr_92_21 xn_92 (pc' := 22) (ls' := [(2, .int 0), (0, .ref 2), (1, .int (x2))]) (st' := [.ref 2, .ref 3]) rfl ?_
  refine T_get xr_92_22 h133 rfl (v := .int 7) rfl (pc' := 25) rfl ?_
  refine T_p xr_92_25 xn_92 (pc' := 26) (ls' := [(2, .int 0), (0, .ref 2), (1, .int (x2))]) (st' := [.int (x2), .int 7, .ref 3]) rfl ?_
  refine T_p xr_92_26 xn_92 (pc' := 27) (ls' := [(2, .int 0), (0, .ref 2), (1, .int (x2))]) (st' := [.int 0, .int (x2), .int 7, .ref 3]) rfl ?_
  refine T_p xr_92_27 xn_92 (pc' := 28) (ls' := [(2, .int 0), (0, .ref 2), (1, .int (x2))]) (st' := [.int (((x2 : Int32) >>> ((0 : Int32) &&& 31))), .int 7, .ref 3]) rfl ?_
  refine T_p xr_92_28 xn_92 (pc' := 29) (ls' := [(2, .int 0), (0, .ref 2), (1, .int (x2))]) (st' := [.int ((((x2 : Int32) >>> ((0 : Int32) &&& 31))).toInt8.toInt32), .int 7, .ref 3]) rfl ?_
  refine T_bast xr_92_29 h138 (by decide) (pc' := 30) rfl (fun S141 h142 n143 e144 => ?_)
  have h145 := (n143 1 (by decide)).trans h136
  have h146 := (n143 2 (by decide)).trans h133
  have h147 := (n143 530 (by decide)).trans h137
  have h148 := (n143 531 (by decide)).trans h139
  have hs149 := e144.trans hs140
  obtain ⟨f150, h151⟩ : ∃ z, S141.1 3 = .inl (.byte, 2000, .inl z) := ⟨_, h142⟩
  refine T_p xr_92_30 xn_92 (pc' := 31) (ls' := [(2, .int 0), (0, .ref 2), (1, .int (x2))]) (st' := [.ref 2]) rfl ?_
  refine T_p xr_92_31 xn_92 (pc' := 32) (ls' := [(2, .int 0), (0, .ref 2), (1, .int (x2))]) (st' := [.ref 2, .ref 2]) rfl ?_
  refine T_get xr_92_32 h146 rfl (v := .int 7) rfl (pc' := 35) rfl ?_
  refine T_p xr_92_35 xn_92 (pc' := 36) (ls' := [(2, .int 0), (0, .ref 2), (1, .int (x2))]) (st' := [.int 1, .int 7, .ref 2]) rfl ?_
  refine T_p xr_92_36 xn_92 (pc' := 37) (ls' := [(2, .int 0), (0, .ref 2), (1, .int (x2))]) (st' := [.int 8, .ref 2]) rfl ?_
  refine T_put xr_92_37 h146 rfl (by decide) rfl (fs' := [.ref 3, .int 8]) rfl (pc' := 40) rfl (fun S152 h153 n154 e155 => ?_)
  have h156 := (n154 1 (by decide)).trans h145
  have h157 := (n154 530 (by decide)).trans h147
  have h158 := (n154 3 (by decide)).trans h151
  have h159 := (n154 531 (by decide)).trans h148
  have hs160 := e155.trans hs149
  refine T_p xr_92_40 xn_92 (pc' := 43) (ls' := [(2, .int (-8)), (0, .ref 2), (1, .int (x2))]) (st' := []) rfl ?_
  refine T_p xr_92_43 xn_92 (pc' := 3) (ls' := [(2, .int (-8)), (0, .ref 2), (1, .int (x2))]) (st' := []) rfl ?_
  refine T_p xr_92_3 xn_92 (pc' := 4) (ls' := [(2, .int (-8)), (0, .ref 2), (1, .int (x2))]) (st' := [.int (-8)]) rfl ?_
  refine T_b1t xr_92_4 rfl (t := 46) rfl ?_
  refine T_vret xr_92_46 xf_92.2.2 ?_
  show X_T (6, xs) 113 (34, [(0, .ref 1), (1, .int (x1)), (2, .int (x2)), (3, .int (x3)), (4, .int (x4)), (5, .int (x5))], [], S152) _
  refine T_p xr_113_34 xn_113 (pc' := 35) (ls' := [(0, .ref 1), (1, .int (x1)), (2, .int (x2)), (3, .int (x3)), (4, .int (x4)), (5, .int (x5))]) (st' := [.ref 1]) rfl ?_
  refine T_get xr_113_35 h156 rfl (v := .ref 2) rfl (pc' := 38) rfl ?_
  refine T_p xr_113_38 xn_113 (pc' := 39) (ls' := [(0, .ref 1), (1, .int (x1)), (2, .int (x2)), (3, .int (x3)), (4, .int (x4)), (5, .int (x5))]) (st' := [.int (x3), .ref 2]) rfl ?_
  refine T_cv (S := S152) (q := 2) xr_113_39 xf_92.1 xf_92.2.1 xn_92 (as := [.int (x3)]) (r := []) rfl h153 (by simp [Value.category]) (by simp [Value.category]) (pc' := 42) rfl (ls' := [(0, .ref 2), (1, .int (x3))]) rfl ?_
  refine T_p xr_92_0 xn_92 (pc' := 2) (ls' := [(0, .ref 2), (1, .int (x3))]) (st' := [.int 24]) rfl ?_
  refine T_p xr_92_2 xn_92 (pc' := 3) (ls' := [(2, .int 24), (0, .ref 2), (1, .int (x3))]) (st' := []) rfl ?_
  refine T_p xr_92_3 xn_92 (pc' := 4) (ls' := [(2, .int 24), (0, .ref 2), (1, .int (x3))]) (st' := [.int 24]) rfl ?_
  refine T_b1f xr_92_4 rfl (t := 46) (pc' := 7) rfl rfl ?_
  refine T_p xr_92_7 xn_92 (pc' := 8) (ls' := [(2, .int 24), (0, .ref 2), (1, .int (x3))]) (st' := [.ref 2]) rfl ?_
  refine T_get xr_92_8 h153 rfl (v := .int 8) rfl (pc' := 11) rfl ?_
  refine T_p xr_92_11 xn_92 (pc' := 14) (ls' := [(2, .int 24), (0, .ref 2), (1, .int (x3))]) (st' := [.int 2000, .int 8]) rfl ?_
  refine T_b2f xr_92_14 rfl (t := 46) (pc' := 17) rfl rfl ?_
  refine T_p xr_92_17 xn_92 (pc' := 18) (ls' := [(2, .int 24), (0, .ref 2), (1, .int (x3))]) (st' := [.ref 2]) rfl ?_
  refine T_get xr_92_18 h153 rfl (v := .ref 3) rfl (pc' := 21) rfl ?_
  refine T_p xr_92_21 xn_92 (pc' := 22) (ls' := [(2, .int 24), (0, .ref 2), (1, .int (x3))]) (st' := [.ref 2, .ref 3]) rfl ?_
  refine T_get xr_92_22 h153 rfl (v := .int 8) rfl (pc' := 25) rfl ?_
  refine T_p xr_92_25 xn_92 (pc' := 26) (ls' := [(2, .int 24), (0, .ref 2), (1, .int (x3))]) (st' := [.int (x3), .int 8, .ref 3]) rfl ?_
  refine T_p xr_92_26 xn_92 (pc' := 27) (ls' := [(2, .int 24), (0, .ref 2), (1, .int (x3))]) (st' := [.int 24, .int (x3), .int 8, .ref 3]) rfl ?_
  refine T_p xr_92_27 xn_92 (pc' := 28) (ls' := [(2, .int 24), (0, .ref 2), (1, .int (x3))]) (st' := [.int (((x3 : Int32) >>> ((24 : Int32) &&& 31))), .int 8, .ref 3]) rfl ?_
  refine T_p xr_92_28 xn_92 (pc' := 29) (ls' := [(2, .int 24), (0, .ref 2), (1, .int (x3))]) (st' := [.int ((((x3 : Int32) >>> ((24 : Int32) &&& 31))).toInt8.toInt32), .int 8, .ref 3]) rfl ?_
  refine T_bast xr_92_29 h158 (by decide) (pc' := 30) rfl (fun S161 h162 n163 e164 => ?_)
  have h165 := (n163 1 (by decide)).trans h156
  have h166 := (n163 2 (by decide)).trans h153
  have h167 := (n163 530 (by decide)).trans h157
  have h168 := (n163 531 (by decide)).trans h159
  have hs169 := e164.trans hs160
  obtain ⟨f170, h171⟩ : ∃ z, S161.1 3 = .inl (.byte, 2000, .inl z) := ⟨_, h162⟩
  refine T_p xr_92_30 xn_92 (pc' := 31) (ls' := [(2, .int 24), (0, .ref 2), (1, .int (x3))]) (st' := [.ref 2]) rfl ?_
  refine T_p xr_92_31 xn_92 (pc' := 32) (ls' := [(2, .int 24), (0, .ref 2), (1, .int (x3))]) (st' := [.ref 2, .ref 2]) rfl ?_
  refine T_get xr_92_32 h166 rfl (v := .int 8) rfl (pc' := 35) rfl ?_
  refine T_p xr_92_35 xn_92 (pc' := 36) (ls' := [(2, .int 24), (0, .ref 2), (1, .int (x3))]) (st' := [.int 1, .int 8, .ref 2]) rfl ?_
  refine T_p xr_92_36 xn_92 (pc' := 37) (ls' := [(2, .int 24), (0, .ref 2), (1, .int (x3))]) (st' := [.int 9, .ref 2]) rfl ?_
  refine T_put xr_92_37 h166 rfl (by decide) rfl (fs' := [.ref 3, .int 9]) rfl (pc' := 40) rfl (fun S172 h173 n174 e175 => ?_)
  have h176 := (n174 1 (by decide)).trans h165
  have h177 := (n174 530 (by decide)).trans h167
  have h178 := (n174 3 (by decide)).trans h171
  have h179 := (n174 531 (by decide)).trans h168
  have hs180 := e175.trans hs169
  refine T_p xr_92_40 xn_92 (pc' := 43) (ls' := [(2, .int 16), (0, .ref 2), (1, .int (x3))]) (st' := []) rfl ?_
  refine T_p xr_92_43 xn_92 (pc' := 3) (ls' := [(2, .int 16), (0, .ref 2), (1, .int (x3))]) (st' := []) rfl ?_
  refine T_p xr_92_3 xn_92 (pc' := 4) (ls' := [(2, .int 16), (0, .ref 2), (1, .int (x3))]) (st' := [.int 16]) rfl ?_
  refine T_b1f xr_92_4 rfl (t := 46) (pc' := 7) rfl rfl ?_
  refine T_p xr_92_7 xn_92 (pc' := 8) (ls' := [(2, .int 16), (0, .ref 2), (1, .int (x3))]) (st' := [.ref 2]) rfl ?_
  refine T_get xr_92_8 h173 rfl (v := .int 9) rfl (pc' := 11) rfl ?_
  refine T_p xr_92_11 xn_92 (pc' := 14) (ls' := [(2, .int 16), (0, .ref 2), (1, .int (x3))]) (st' := [.int 2000, .int 9]) rfl ?_
  refine T_b2f xr_92_14 rfl (t := 46) (pc' := 17) rfl rfl ?_
  refine T_p xr_92_17 xn_92 (pc' := 18) (ls' := [(2, .int 16), (0, .ref 2), (1, .int (x3))]) (st' := [.ref 2]) rfl ?_
  refine T_get xr_92_18 h173 rfl (v := .ref 3) rfl (pc' := 21) rfl ?_
  refine T_p xr_92_21 xn_92 (pc' := 22) (ls' := [(2, .int 16), (0, .ref 2), (1, .int (x3))]) (st' := [.ref 2, .ref 3]) rfl ?_
  refine T_get xr_92_22 h173 rfl (v := .int 9) rfl (pc' := 25) rfl ?_
  refine T_p xr_92_25 xn_92 (pc' := 26) (ls' := [(2, .int 16), (0, .ref 2), (1, .int (x3))]) (st' := [.int (x3), .int 9, .ref 3]) rfl ?_
  refine T_p xr_92_26 xn_92 (pc' := 27) (ls' := [(2, .int 16), (0, .ref 2), (1, .int (x3))]) (st' := [.int 16, .int (x3), .int 9, .ref 3]) rfl ?_
  refine T_p xr_92_27 xn_92 (pc' := 28) (ls' := [(2, .int 16), (0, .ref 2), (1, .int (x3))]) (st' := [.int (((x3 : Int32) >>> ((16 : Int32) &&& 31))), .int 9, .ref 3]) rfl ?_
  refine T_p xr_92_28 xn_92 (pc' := 29) (ls' := [(2, .int 16), (0, .ref 2), (1, .int (x3))]) (st' := [.int ((((x3 : Int32) >>> ((16 : Int32) &&& 31))).toInt8.toInt32), .int 9, .ref 3]) rfl ?_
  refine T_bast xr_92_29 h178 (by decide) (pc' := 30) rfl (fun S181 h182 n183 e184 => ?_)
  have h185 := (n183 1 (by decide)).trans h176
  have h186 := (n183 2 (by decide)).trans h173
  have h187 := (n183 530 (by decide)).trans h177
  have h188 := (n183 531 (by decide)).trans h179
  have hs189 := e184.trans hs180
  obtain ⟨f190, h191⟩ : ∃ z, S181.1 3 = .inl (.byte, 2000, .inl z) := ⟨_, h182⟩
  refine T_p xr_92_30 xn_92 (pc' := 31) (ls' := [(2, .int 16), (0, .ref 2), (1, .int (x3))]) (st' := [.ref 2]) rfl ?_
  refine T_p xr_92_31 xn_92 (pc' := 32) (ls' := [(2, .int 16), (0, .ref 2), (1, .int (x3))]) (st' := [.ref 2, .ref 2]) rfl ?_
  refine T_get xr_92_32 h186 rfl (v := .int 9) rfl (pc' := 35) rfl ?_
  refine T_p xr_92_35 xn_92 (pc' := 36) (ls' := [(2, .int 16), (0, .ref 2), (1, .int (x3))]) (st' := [.int 1, .int 9, .ref 2]) rfl ?_
  refine T_p xr_92_36 xn_92 (pc' := 37) (ls' := [(2, .int 16), (0, .ref 2), (1, .int (x3))]) (st' := [.int 10, .ref 2]) rfl ?_
  refine T_put xr_92_37 h186 rfl (by decide) rfl (fs' := [.ref 3, .int 10]) rfl (pc' := 40) rfl (fun S192 h193 n194 e195 => ?_)
  have h196 := (n194 1 (by decide)).trans h185
  have h197 := (n194 530 (by decide)).trans h187
  have h198 := (n194 3 (by decide)).trans h191
  have h199 := (n194 531 (by decide)).trans h188
  have hs200 := e195.trans hs189
  refine T_p xr_92_40 xn_92 (pc' := 43) (ls' := [(2, .int 8), (0, .ref 2), (1, .int (x3))]) (st' := []) rfl ?_
  refine T_p xr_92_43 xn_92 (pc' := 3) (ls' := [(2, .int 8), (0, .ref 2), (1, .int (x3))]) (st' := []) rfl ?_
  refine T_p xr_92_3 xn_92 (pc' := 4) (ls' := [(2, .int 8), (0, .ref 2), (1, .int (x3))]) (st' := [.int 8]) rfl ?_
  refine T_b1f xr_92_4 rfl (t := 46) (pc' := 7) rfl rfl ?_
  refine T_p xr_92_7 xn_92 (pc' := 8) (ls' := [(2, .int 8), (0, .ref 2), (1, .int (x3))]) (st' := [.ref 2]) rfl ?_
  refine T_get xr_92_8 h193 rfl (v := .int 10) rfl (pc' := 11) rfl ?_
  refine T_p xr_92_11 xn_92 (pc' := 14) (ls' := [(2, .int 8), (0, .ref 2), (1, .int (x3))]) (st' := [.int 2000, .int 10]) rfl ?_
  refine T_b2f xr_92_14 rfl (t := 46) (pc' := 17) rfl rfl ?_
  refine T_p xr_92_17 xn_92 (pc' := 18) (ls' := [(2, .int 8), (0, .ref 2), (1, .int (x3))]) (st' := [.ref 2]) rfl ?_
  refine T_get xr_92_18 h193 rfl (v := .ref 3) rfl (pc' := 21) rfl ?_
  refine T_p xr_92_21 xn_92 (pc' := 22) (ls' := [(2, .int 8), (0, .ref 2), (1, .int (x3))]) (st' := [.ref 2, .ref 3]) rfl ?_
  refine T_get xr_92_22 h193 rfl (v := .int 10) rfl (pc' := 25) rfl ?_
  refine T_p xr_92_25 xn_92 (pc' := 26) (ls' := [(2, .int 8), (0, .ref 2), (1, .int (x3))]) (st' := [.int (x3), .int 10, .ref 3]) rfl ?_
  refine T_p xr_92_26 xn_92 (pc' := 27) (ls' := [(2, .int 8), (0, .ref 2), (1, .int (x3))]) (st' := [.int 8, .int (x3), .int 10, .ref 3]) rfl ?_
  refine T_p xr_92_27 xn_92 (pc' := 28) (ls' := [(2, .int 8), (0, .ref 2), (1, .int (x3))]) (st' := [.int (((x3 : Int32) >>> ((8 : Int32) &&& 31))), .int 10, .ref 3]) rfl ?_
  refine T_p xr_92_28 xn_92 (pc' := 29) (ls' := [(2, .int 8), (0, .ref 2), (1, .int (x3))]) (st' := [.int ((((x3 : Int32) >>> ((8 : Int32) &&& 31))).toInt8.toInt32), .int 10, .ref 3]) rfl ?_
  refine T_bast xr_92_29 h198 (by decide) (pc' := 30) rfl (fun S201 h202 n203 e204 => ?_)
  have h205 := (n203 1 (by decide)).trans h196
  have h206 := (n203 2 (by decide)).trans h193
  have h207 := (n203 530 (by decide)).trans h197
  have h208 := (n203 531 (by decide)).trans h199
  have hs209 := e204.trans hs200
  obtain ⟨f210, h211⟩ : ∃ z, S201.1 3 = .inl (.byte, 2000, .inl z) := ⟨_, h202⟩
  refine T_p xr_92_30 xn_92 (pc' := 31) (ls' := [(2, .int 8), (0, .ref 2), (1, .int (x3))]) (st' := [.ref 2]) rfl ?_
  refine T_p xr_92_31 xn_92 (pc' := 32) (ls' := [(2, .int 8), (0, .ref 2), (1, .int (x3))]) (st' := [.ref 2, .ref 2]) rfl ?_
  refine T_get xr_92_32 h206 rfl (v := .int 10) rfl (pc' := 35) rfl ?_
  refine T_p xr_92_35 xn_92 (pc' := 36) (ls' := [(2, .int 8), (0, .ref 2), (1, .int (x3))]) (st' := [.int 1, .int 10, .ref 2]) rfl ?_
  refine T_p xr_92_36 xn_92 (pc' := 37) (ls' := [(2, .int 8), (0, .ref 2), (1, .int (x3))]) (st' := [.int 11, .ref 2]) rfl ?_
  refine T_put xr_92_37 h206 rfl (by decide) rfl (fs' := [.ref 3, .int 11]) rfl (pc' := 40) rfl (fun S212 h213 n214 e215 => ?_)
  have h216 := (n214 1 (by decide)).trans h205
  have h217 := (n214 530 (by decide)).trans h207
  have h218 := (n214 3 (by decide)).trans h211
  have h219 := (n214 531 (by decide)).trans h208
  have hs220 := e215.trans hs209
  refine T_p xr_92_40 xn_92 (pc' := 43) (ls' := [(2, .int 0), (0, .ref 2), (1, .int (x3))]) (st' := []) rfl ?_
  refine T_p xr_92_43 xn_92 (pc' := 3) (ls' := [(2, .int 0), (0, .ref 2), (1, .int (x3))]) (st' := []) rfl ?_
  refine T_p xr_92_3 xn_92 (pc' := 4) (ls' := [(2, .int 0), (0, .ref 2), (1, .int (x3))]) (st' := [.int 0]) rfl ?_
  refine T_b1f xr_92_4 rfl (t := 46) (pc' := 7) rfl rfl ?_
  refine T_p xr_92_7 xn_92 (pc' := 8) (ls' := [(2, .int 0), (0, .ref 2), (1, .int (x3))]) (st' := [.ref 2]) rfl ?_
  refine T_get xr_92_8 h213 rfl (v := .int 11) rfl (pc' := 11) rfl ?_
  refine T_p xr_92_11 xn_92 (pc' := 14) (ls' := [(2, .int 0), (0, .ref 2), (1, .int (x3))]) (st' := [.int 2000, .int 11]) rfl ?_
  refine T_b2f xr_92_14 rfl (t := 46) (pc' := 17) rfl rfl ?_
  refine T_p xr_92_17 xn_92 (pc' := 18) (ls' := [(2, .int 0), (0, .ref 2), (1, .int (x3))]) (st' := [.ref 2]) rfl ?_
  refine T_get xr_92_18 h213 rfl (v := .ref 3) rfl (pc' := 21) rfl ?_
  refine T_p xr_92_21 xn_92 (pc' := 22) (ls' := [(2, .int 0), (0, .ref 2), (1, .int (x3))]) (st' := [.ref 2, .ref 3]) rfl ?_
  refine T_get xr_92_22 h213 rfl (v := .int 11) rfl (pc' := 25) rfl ?_
  refine T_p xr_92_25 xn_92 (pc' := 26) (ls' := [(2, .int 0), (0, .ref 2), (1, .int (x3))]) (st' := [.int (x3), .int 11, .ref 3]) rfl ?_
  refine T_p xr_92_26 xn_92 (pc' := 27) (ls' := [(2, .int 0), (0, .ref 2), (1, .int (x3))]) (st' := [.int 0, .int (x3), .int 11, .ref 3]) rfl ?_
  refine T_p xr_92_27 xn_92 (pc' := 28) (ls' := [(2, .int 0), (0, .ref 2), (1, .int (x3))]) (st' := [.int (((x3 : Int32) >>> ((0 : Int32) &&& 31))), .int 11, .ref 3]) rfl ?_
  refine T_p xr_92_28 xn_92 (pc' := 29) (ls' := [(2, .int 0), (0, .ref 2), (1, .int (x3))]) (st' := [.int ((((x3 : Int32) >>> ((0 : Int32) &&& 31))).toInt8.toInt32), .int 11, .ref 3]) rfl ?_
  refine T_bast xr_92_29 h218 (by decide) (pc' := 30) rfl (fun S221 h222 n223 e224 => ?_)
  have h225 := (n223 1 (by decide)).trans h216
  have h226 := (n223 2 (by decide)).trans h213
  have h227 := (n223 530 (by decide)).trans h217
  have h228 := (n223 531 (by decide)).trans h219
  have hs229 := e224.trans hs220
  obtain ⟨f230, h231⟩ : ∃ z, S221.1 3 = .inl (.byte, 2000, .inl z) := ⟨_, h222⟩
  refine T_p xr_92_30 xn_92 (pc' := 31) (ls' := [(2, .int 0), (0, .ref 2), (1, .int (x3))]) (st' := [.ref 2]) rfl ?_
  refine T_p xr_92_31 xn_92 (pc' := 32) (ls' := [(2, .int 0), (0, .ref 2), (1, .int (x3))]) (st' := [.ref 2, .ref 2]) rfl ?_
  refine T_get xr_92_32 h226 rfl (v := .int 11) rfl (pc' := 35) rfl ?_
  refine T_p xr_92_35 xn_92 (pc' := 36) (ls' := [(2, .int 0), (0, .ref 2), (1, .int (x3))]) (st' := [.int 1, .int 11, .ref 2]) rfl ?_
  refine T_p xr_92_36 xn_92 (pc' := 37) (ls' := [(2, .int 0), (0, .ref 2), (1, .int (x3))]) (st' := [.int 12, .ref 2]) rfl ?_
  refine T_put xr_92_37 h226 rfl (by decide) rfl (fs' := [.ref 3, .int 12]) rfl (pc' := 40) rfl (fun S232 h233 n234 e235 => ?_)
  have h236 := (n234 1 (by decide)).trans h225
  have h237 := (n234 530 (by decide)).trans h227
  have h238 := (n234 3 (by decide)).trans h231
  have h239 := (n234 531 (by decide)).trans h228
  have hs240 := e235.trans hs229
  refine T_p xr_92_40 xn_92 (pc' := 43) (ls' := [(2, .int (-8)), (0, .ref 2), (1, .int (x3))]) (st' := []) rfl ?_
  refine T_p xr_92_43 xn_92 (pc' := 3) (ls' := [(2, .int (-8)), (0, .ref 2), (1, .int (x3))]) (st' := []) rfl ?_
  refine T_p xr_92_3 xn_92 (pc' := 4) (ls' := [(2, .int (-8)), (0, .ref 2), (1, .int (x3))]) (st' := [.int (-8)]) rfl ?_
  refine T_b1t xr_92_4 rfl (t := 46) rfl ?_
  refine T_vret xr_92_46 xf_92.2.2 ?_
  show X_T (6, xs) 113 (42, [(0, .ref 1), (1, .int (x1)), (2, .int (x2)), (3, .int (x3)), (4, .int (x4)), (5, .int (x5))], [], S232) _
  refine T_p xr_113_42 xn_113 (pc' := 43) (ls' := [(0, .ref 1), (1, .int (x1)), (2, .int (x2)), (3, .int (x3)), (4, .int (x4)), (5, .int (x5))]) (st' := [.ref 1]) rfl ?_
  refine T_get xr_113_43 h236 rfl (v := .ref 2) rfl (pc' := 46) rfl ?_
  refine T_p xr_113_46 xn_113 (pc' := 48) (ls' := [(0, .ref 1), (1, .int (x1)), (2, .int (x2)), (3, .int (x3)), (4, .int (x4)), (5, .int (x5))]) (st' := [.int (x4), .ref 2]) rfl ?_
  refine T_cv (S := S232) (q := 2) xr_113_48 xf_92.1 xf_92.2.1 xn_92 (as := [.int (x4)]) (r := []) rfl h233 (by simp [Value.category]) (by simp [Value.category]) (pc' := 51) rfl (ls' := [(0, .ref 2), (1, .int (x4))]) rfl ?_
  refine T_p xr_92_0 xn_92 (pc' := 2) (ls' := [(0, .ref 2), (1, .int (x4))]) (st' := [.int 24]) rfl ?_
  refine T_p xr_92_2 xn_92 (pc' := 3) (ls' := [(2, .int 24), (0, .ref 2), (1, .int (x4))]) (st' := []) rfl ?_
  refine T_p xr_92_3 xn_92 (pc' := 4) (ls' := [(2, .int 24), (0, .ref 2), (1, .int (x4))]) (st' := [.int 24]) rfl ?_
  refine T_b1f xr_92_4 rfl (t := 46) (pc' := 7) rfl rfl ?_
  refine T_p xr_92_7 xn_92 (pc' := 8) (ls' := [(2, .int 24), (0, .ref 2), (1, .int (x4))]) (st' := [.ref 2]) rfl ?_
  refine T_get xr_92_8 h233 rfl (v := .int 12) rfl (pc' := 11) rfl ?_
  refine T_p xr_92_11 xn_92 (pc' := 14) (ls' := [(2, .int 24), (0, .ref 2), (1, .int (x4))]) (st' := [.int 2000, .int 12]) rfl ?_
  refine T_b2f xr_92_14 rfl (t := 46) (pc' := 17) rfl rfl ?_
  refine T_p xr_92_17 xn_92 (pc' := 18) (ls' := [(2, .int 24), (0, .ref 2), (1, .int (x4))]) (st' := [.ref 2]) rfl ?_
  refine T_get xr_92_18 h233 rfl (v := .ref 3) rfl (pc' := 21) rfl ?_
  refine T_p xr_92_21 xn_92 (pc' := 22) (ls' := [(2, .int 24), (0, .ref 2), (1, .int (x4))]) (st' := [.ref 2, .ref 3]) rfl ?_
  refine T_get xr_92_22 h233 rfl (v := .int 12) rfl (pc' := 25) rfl ?_
  refine T_p xr_92_25 xn_92 (pc' := 26) (ls' := [(2, .int 24), (0, .ref 2), (1, .int (x4))]) (st' := [.int (x4), .int 12, .ref 3]) rfl ?_
  refine T_p xr_92_26 xn_92 (pc' := 27) (ls' := [(2, .int 24), (0, .ref 2), (1, .int (x4))]) (st' := [.int 24, .int (x4), .int 12, .ref 3]) rfl ?_
  refine T_p xr_92_27 xn_92 (pc' := 28) (ls' := [(2, .int 24), (0, .ref 2), (1, .int (x4))]) (st' := [.int (((x4 : Int32) >>> ((24 : Int32) &&& 31))), .int 12, .ref 3]) rfl ?_
  refine T_p xr_92_28 xn_92 (pc' := 29) (ls' := [(2, .int 24), (0, .ref 2), (1, .int (x4))]) (st' := [.int ((((x4 : Int32) >>> ((24 : Int32) &&& 31))).toInt8.toInt32), .int 12, .ref 3]) rfl ?_
  refine T_bast xr_92_29 h238 (by decide) (pc' := 30) rfl (fun S241 h242 n243 e244 => ?_)
  have h245 := (n243 1 (by decide)).trans h236
  have h246 := (n243 2 (by decide)).trans h233
  have h247 := (n243 530 (by decide)).trans h237
  have h248 := (n243 531 (by decide)).trans h239
  have hs249 := e244.trans hs240
  obtain ⟨f250, h251⟩ : ∃ z, S241.1 3 = .inl (.byte, 2000, .inl z) := ⟨_, h242⟩
  refine T_p xr_92_30 xn_92 (pc' := 31) (ls' := [(2, .int 24), (0, .ref 2), (1, .int (x4))]) (st' := [.ref 2]) rfl ?_
  refine T_p xr_92_31 xn_92 (pc' := 32) (ls' := [(2, .int 24), (0, .ref 2), (1, .int (x4))]) (st' := [.ref 2, .ref 2]) rfl ?_
  refine T_get xr_92_32 h246 rfl (v := .int 12) rfl (pc' := 35) rfl ?_
  refine T_p xr_92_35 xn_92 (pc' := 36) (ls' := [(2, .int 24), (0, .ref 2), (1, .int (x4))]) (st' := [.int 1, .int 12, .ref 2]) rfl ?_
  refine T_p xr_92_36 xn_92 (pc' := 37) (ls' := [(2, .int 24), (0, .ref 2), (1, .int (x4))]) (st' := [.int 13, .ref 2]) rfl ?_
  refine T_put xr_92_37 h246 rfl (by decide) rfl (fs' := [.ref 3, .int 13]) rfl (pc' := 40) rfl (fun S252 h253 n254 e255 => ?_)
  have h256 := (n254 1 (by decide)).trans h245
  have h257 := (n254 530 (by decide)).trans h247
  have h258 := (n254 3 (by decide)).trans h251
  have h259 := (n254 531 (by decide)).trans h248
  have hs260 := e255.trans hs249
  refine T_p xr_92_40 xn_92 (pc' := 43) (ls' := [(2, .int 16), (0, .ref 2), (1, .int (x4))]) (st' := []) rfl ?_
  refine T_p xr_92_43 xn_92 (pc' := 3) (ls' := [(2, .int 16), (0, .ref 2), (1, .int (x4))]) (st' := []) rfl ?_
  refine T_p xr_92_3 xn_92 (pc' := 4) (ls' := [(2, .int 16), (0, .ref 2), (1, .int (x4))]) (st' := [.int 16]) rfl ?_
  refine T_b1f xr_92_4 rfl (t := 46) (pc' := 7) rfl rfl ?_
  refine T_p xr_92_7 xn_92 (pc' := 8) (ls' := [(2, .int 16), (0, .ref 2), (1, .int (x4))]) (st' := [.ref 2]) rfl ?_
  refine T_get xr_92_8 h253 rfl (v := .int 13) rfl (pc' := 11) rfl ?_
  refine T_p xr_92_11 xn_92 (pc' := 14) (ls' := [(2, .int 16), (0, .ref 2), (1, .int (x4))]) (st' := [.int 2000, .int 13]) rfl ?_
  refine T_b2f xr_92_14 rfl (t := 46) (pc' := 17) rfl rfl ?_
  refine T_p xr_92_17 xn_92 (pc' := 18) (ls' := [(2, .int 16), (0, .ref 2), (1, .int (x4))]) (st' := [.ref 2]) rfl ?_
  refine T_get xr_92_18 h253 rfl (v := .ref 3) rfl (pc' := 21) rfl ?_
  refine T_p xr_92_21 xn_92 (pc' := 22) (ls' := [(2, .int 16), (0, .ref 2), (1, .int (x4))]) (st' := [.ref 2, .ref 3]) rfl ?_
  refine T_get xr_92_22 h253 rfl (v := .int 13) rfl (pc' := 25) rfl ?_
  refine T_p xr_92_25 xn_92 (pc' := 26) (ls' := [(2, .int 16), (0, .ref 2), (1, .int (x4))]) (st' := [.int (x4), .int 13, .ref 3]) rfl ?_
  refine T_p xr_92_26 xn_92 (pc' := 27) (ls' := [(2, .int 16), (0, .ref 2), (1, .int (x4))]) (st' := [.int 16, .int (x4), .int 13, .ref 3]) rfl ?_
  refine T_p xr_92_27 xn_92 (pc' := 28) (ls' := [(2, .int 16), (0, .ref 2), (1, .int (x4))]) (st' := [.int (((x4 : Int32) >>> ((16 : Int32) &&& 31))), .int 13, .ref 3]) rfl ?_
  refine T_p xr_92_28 xn_92 (pc' := 29) (ls' := [(2, .int 16), (0, .ref 2), (1, .int (x4))]) (st' := [.int ((((x4 : Int32) >>> ((16 : Int32) &&& 31))).toInt8.toInt32), .int 13, .ref 3]) rfl ?_
  refine T_bast xr_92_29 h258 (by decide) (pc' := 30) rfl (fun S261 h262 n263 e264 => ?_)
  have h265 := (n263 1 (by decide)).trans h256
  have h266 := (n263 2 (by decide)).trans h253
  have h267 := (n263 530 (by decide)).trans h257
  have h268 := (n263 531 (by decide)).trans h259
  have hs269 := e264.trans hs260
  obtain ⟨f270, h271⟩ : ∃ z, S261.1 3 = .inl (.byte, 2000, .inl z) := ⟨_, h262⟩
  refine T_p xr_92_30 xn_92 (pc' := 31) (ls' := [(2, .int 16), (0, .ref 2), (1, .int (x4))]) (st' := [.ref 2]) rfl ?_
  refine T_p xr_92_31 xn_92 (pc' := 32) (ls' := [(2, .int 16), (0, .ref 2), (1, .int (x4))]) (st' := [.ref 2, .ref 2]) rfl ?_
  refine T_get xr_92_32 h266 rfl (v := .int 13) rfl (pc' := 35) rfl ?_
  refine T_p xr_92_35 xn_92 (pc' := 36) (ls' := [(2, .int 16), (0, .ref 2), (1, .int (x4))]) (st' := [.int 1, .int 13, .ref 2]) rfl ?_
  refine T_p xr_92_36 xn_92 (pc' := 37) (ls' := [(2, .int 16), (0, .ref 2), (1, .int (x4))]) (st' := [.int 14, .ref 2]) rfl ?_
  refine T_put xr_92_37 h266 rfl (by decide) rfl (fs' := [.ref 3, .int 14]) rfl (pc' := 40) rfl (fun S272 h273 n274 e275 => ?_)
  have h276 := (n274 1 (by decide)).trans h265
  have h277 := (n274 530 (by decide)).trans h267
  have h278 := (n274 3 (by decide)).trans h271
  have h279 := (n274 531 (by decide)).trans h268
  have hs280 := e275.trans hs269
  refine T_p xr_92_40 xn_92 (pc' := 43) (ls' := [(2, .int 8), (0, .ref 2), (1, .int (x4))]) (st' := []) rfl ?_
  refine T_p xr_92_43 xn_92 (pc' := 3) (ls' := [(2, .int 8), (0, .ref 2), (1, .int (x4))]) (st' := []) rfl ?_
  refine T_p xr_92_3 xn_92 (pc' := 4) (ls' := [(2, .int 8), (0, .ref 2), (1, .int (x4))]) (st' := [.int 8]) rfl ?_
  refine T_b1f xr_92_4 rfl (t := 46) (pc' := 7) rfl rfl ?_
  refine T_p xr_92_7 xn_92 (pc' := 8) (ls' := [(2, .int 8), (0, .ref 2), (1, .int (x4))]) (st' := [.ref 2]) rfl ?_
  refine T_get xr_92_8 h273 rfl (v := .int 14) rfl (pc' := 11) rfl ?_
  refine T_p xr_92_11 xn_92 (pc' := 14) (ls' := [(2, .int 8), (0, .ref 2), (1, .int (x4))]) (st' := [.int 2000, .int 14]) rfl ?_
  refine T_b2f xr_92_14 rfl (t := 46) (pc' := 17) rfl rfl ?_
  refine T_p xr_92_17 xn_92 (pc' := 18) (ls' := [(2, .int 8), (0, .ref 2), (1, .int (x4))]) (st' := [.ref 2]) rfl ?_
  refine T_get xr_92_18 h273 rfl (v := .ref 3) rfl (pc' := 21) rfl ?_
  refine T_p xr_92_21 xn_92 (pc' := 22) (ls' := [(2, .int 8), (0, .ref 2), (1, .int (x4))]) (st' := [.ref 2, .ref 3]) rfl ?_
  refine T_get xr_92_22 h273 rfl (v := .int 14) rfl (pc' := 25) rfl ?_
  refine T_p xr_92_25 xn_92 (pc' := 26) (ls' := [(2, .int 8), (0, .ref 2), (1, .int (x4))]) (st' := [.int (x4), .int 14, .ref 3]) rfl ?_
  refine T_p xr_92_26 xn_92 (pc' := 27) (ls' := [(2, .int 8), (0, .ref 2), (1, .int (x4))]) (st' := [.int 8, .int (x4), .int 14, .ref 3]) rfl ?_
  refine T_p xr_92_27 xn_92 (pc' := 28) (ls' := [(2, .int 8), (0, .ref 2), (1, .int (x4))]) (st' := [.int (((x4 : Int32) >>> ((8 : Int32) &&& 31))), .int 14, .ref 3]) rfl ?_
  refine T_p xr_92_28 xn_92 (pc' := 29) (ls' := [(2, .int 8), (0, .ref 2), (1, .int (x4))]) (st' := [.int ((((x4 : Int32) >>> ((8 : Int32) &&& 31))).toInt8.toInt32), .int 14, .ref 3]) rfl ?_
  refine T_bast xr_92_29 h278 (by decide) (pc' := 30) rfl (fun S281 h282 n283 e284 => ?_)
  have h285 := (n283 1 (by decide)).trans h276
  have h286 := (n283 2 (by decide)).trans h273
  have h287 := (n283 530 (by decide)).trans h277
  have h288 := (n283 531 (by decide)).trans h279
  have hs289 := e284.trans hs280
  obtain ⟨f290, h291⟩ : ∃ z, S281.1 3 = .inl (.byte, 2000, .inl z) := ⟨_, h282⟩
  refine T_p xr_92_30 xn_92 (pc' := 31) (ls' := [(2, .int 8), (0, .ref 2), (1, .int (x4))]) (st' := [.ref 2]) rfl ?_
  refine T_p xr_92_31 xn_92 (pc' := 32) (ls' := [(2, .int 8), (0, .ref 2), (1, .int (x4))]) (st' := [.ref 2, .ref 2]) rfl ?_
  refine T_get xr_92_32 h286 rfl (v := .int 14) rfl (pc' := 35) rfl ?_
  refine T_p xr_92_35 xn_92 (pc' := 36) (ls' := [(2, .int 8), (0, .ref 2), (1, .int (x4))]) (st' := [.int 1, .int 14, .ref 2]) rfl ?_
  refine T_p xr_92_36 xn_92 (pc' := 37) (ls' := [(2, .int 8), (0, .ref 2), (1, .int (x4))]) (st' := [.int 15, .ref 2]) rfl ?_
  refine T_put xr_92_37 h286 rfl (by decide) rfl (fs' := [.ref 3, .int 15]) rfl (pc' := 40) rfl (fun S292 h293 n294 e295 => ?_)
  have h296 := (n294 1 (by decide)).trans h285
  have h297 := (n294 530 (by decide)).trans h287
  have h298 := (n294 3 (by decide)).trans h291
  have h299 := (n294 531 (by decide)).trans h288
  have hs300 := e295.trans hs289
  refine T_p xr_92_40 xn_92 (pc' := 43) (ls' := [(2, .int 0), (0, .ref 2), (1, .int (x4))]) (st' := []) rfl ?_
  refine T_p xr_92_43 xn_92 (pc' := 3) (ls' := [(2, .int 0), (0, .ref 2), (1, .int (x4))]) (st' := []) rfl ?_
  refine T_p xr_92_3 xn_92 (pc' := 4) (ls' := [(2, .int 0), (0, .ref 2), (1, .int (x4))]) (st' := [.int 0]) rfl ?_
  refine T_b1f xr_92_4 rfl (t := 46) (pc' := 7) rfl rfl ?_
  refine T_p xr_92_7 xn_92 (pc' := 8) (ls' := [(2, .int 0), (0, .ref 2), (1, .int (x4))]) (st' := [.ref 2]) rfl ?_
  refine T_get xr_92_8 h293 rfl (v := .int 15) rfl (pc' := 11) rfl ?_
  refine T_p xr_92_11 xn_92 (pc' := 14) (ls' := [(2, .int 0), (0, .ref 2), (1, .int (x4))]) (st' := [.int 2000, .int 15]) rfl ?_
  refine T_b2f xr_92_14 rfl (t := 46) (pc' := 17) rfl rfl ?_
  refine T_p xr_92_17 xn_92 (pc' := 18) (ls' := [(2, .int 0), (0, .ref 2), (1, .int (x4))]) (st' := [.ref 2]) rfl ?_
  refine T_get xr_92_18 h293 rfl (v := .ref 3) rfl (pc' := 21) rfl ?_
  refine T_p xr_92_21 xn_92 (pc' := 22) (ls' := [(2, .int 0), (0, .ref 2), (1, .int (x4))]) (st' := [.ref 2, .ref 3]) rfl ?_
  refine T_get xr_92_22 h293 rfl (v := .int 15) rfl (pc' := 25) rfl ?_
  refine T_p xr_92_25 xn_92 (pc' := 26) (ls' := [(2, .int 0), (0, .ref 2), (1, .int (x4))]) (st' := [.int (x4), .int 15, .ref 3]) rfl ?_
  refine T_p xr_92_26 xn_92 (pc' := 27) (ls' := [(2, .int 0), (0, .ref 2), (1, .int (x4))]) (st' := [.int 0, .int (x4), .int 15, .ref 3]) rfl ?_
  refine T_p xr_92_27 xn_92 (pc' := 28) (ls' := [(2, .int 0), (0, .ref 2), (1, .int (x4))]) (st' := [.int (((x4 : Int32) >>> ((0 : Int32) &&& 31))), .int 15, .ref 3]) rfl ?_
  refine T_p xr_92_28 xn_92 (pc' := 29) (ls' := [(2, .int 0), (0, .ref 2), (1, .int (x4))]) (st' := [.int ((((x4 : Int32) >>> ((0 : Int32) &&& 31))).toInt8.toInt32), .int 15, .ref 3]) rfl ?_
  refine T_bast xr_92_29 h298 (by decide) (pc' := 30) rfl (fun S301 h302 n303 e304 => ?_)
  have h305 := (n303 1 (by decide)).trans h296
  have h306 := (n303 2 (by decide)).trans h293
  have h307 := (n303 530 (by decide)).trans h297
  have h308 := (n303 531 (by decide)).trans h299
  have hs309 := e304.trans hs300
  obtain ⟨f310, h311⟩ : ∃ z, S301.1 3 = .inl (.byte, 2000, .inl z) := ⟨_, h302⟩
  refine T_p xr_92_30 xn_92 (pc' := 31) (ls' := [(2, .int 0), (0, .ref 2), (1, .int (x4))]) (st' := [.ref 2]) rfl ?_
  refine T_p xr_92_31 xn_92 (pc' := 32) (ls' := [(2, .int 0), (0, .ref 2), (1, .int (x4))]) (st' := [.ref 2, .ref 2]) rfl ?_
  refine T_get xr_92_32 h306 rfl (v := .int 15) rfl (pc' := 35) rfl ?_
  refine T_p xr_92_35 xn_92 (pc' := 36) (ls' := [(2, .int 0), (0, .ref 2), (1, .int (x4))]) (st' := [.int 1, .int 15, .ref 2]) rfl ?_
  refine T_p xr_92_36 xn_92 (pc' := 37) (ls' := [(2, .int 0), (0, .ref 2), (1, .int (x4))]) (st' := [.int 16, .ref 2]) rfl ?_
  refine T_put xr_92_37 h306 rfl (by decide) rfl (fs' := [.ref 3, .int 16]) rfl (pc' := 40) rfl (fun S312 h313 n314 e315 => ?_)
  have h316 := (n314 1 (by decide)).trans h305
  have h317 := (n314 530 (by decide)).trans h307
  have h318 := (n314 3 (by decide)).trans h311
  have h319 := (n314 531 (by decide)).trans h308
  have hs320 := e315.trans hs309
  refine T_p xr_92_40 xn_92 (pc' := 43) (ls' := [(2, .int (-8)), (0, .ref 2), (1, .int (x4))]) (st' := []) rfl ?_
  refine T_p xr_92_43 xn_92 (pc' := 3) (ls' := [(2, .int (-8)), (0, .ref 2), (1, .int (x4))]) (st' := []) rfl ?_
  refine T_p xr_92_3 xn_92 (pc' := 4) (ls' := [(2, .int (-8)), (0, .ref 2), (1, .int (x4))]) (st' := [.int (-8)]) rfl ?_
  refine T_b1t xr_92_4 rfl (t := 46) rfl ?_
  refine T_vret xr_92_46 xf_92.2.2 ?_
  show X_T (6, xs) 113 (51, [(0, .ref 1), (1, .int (x1)), (2, .int (x2)), (3, .int (x3)), (4, .int (x4)), (5, .int (x5))], [], S312) _
  refine T_p xr_113_51 xn_113 (pc' := 52) (ls' := [(0, .ref 1), (1, .int (x1)), (2, .int (x2)), (3, .int (x3)), (4, .int (x4)), (5, .int (x5))]) (st' := [.ref 1]) rfl ?_
  refine T_get xr_113_52 h316 rfl (v := .ref 2) rfl (pc' := 55) rfl ?_
  refine T_p xr_113_55 xn_113 (pc' := 57) (ls' := [(0, .ref 1), (1, .int (x1)), (2, .int (x2)), (3, .int (x3)), (4, .int (x4)), (5, .int (x5))]) (st' := [.int (x5), .ref 2]) rfl ?_
  refine T_cv (S := S312) (q := 2) xr_113_57 xf_92.1 xf_92.2.1 xn_92 (as := [.int (x5)]) (r := []) rfl h313 (by simp [Value.category]) (by simp [Value.category]) (pc' := 60) rfl (ls' := [(0, .ref 2), (1, .int (x5))]) rfl ?_
  refine T_p xr_92_0 xn_92 (pc' := 2) (ls' := [(0, .ref 2), (1, .int (x5))]) (st' := [.int 24]) rfl ?_
  refine T_p xr_92_2 xn_92 (pc' := 3) (ls' := [(2, .int 24), (0, .ref 2), (1, .int (x5))]) (st' := []) rfl ?_
  refine T_p xr_92_3 xn_92 (pc' := 4) (ls' := [(2, .int 24), (0, .ref 2), (1, .int (x5))]) (st' := [.int 24]) rfl ?_
  refine T_b1f xr_92_4 rfl (t := 46) (pc' := 7) rfl rfl ?_
  refine T_p xr_92_7 xn_92 (pc' := 8) (ls' := [(2, .int 24), (0, .ref 2), (1, .int (x5))]) (st' := [.ref 2]) rfl ?_
  refine T_get xr_92_8 h313 rfl (v := .int 16) rfl (pc' := 11) rfl ?_
  refine T_p xr_92_11 xn_92 (pc' := 14) (ls' := [(2, .int 24), (0, .ref 2), (1, .int (x5))]) (st' := [.int 2000, .int 16]) rfl ?_
  refine T_b2f xr_92_14 rfl (t := 46) (pc' := 17) rfl rfl ?_
  refine T_p xr_92_17 xn_92 (pc' := 18) (ls' := [(2, .int 24), (0, .ref 2), (1, .int (x5))]) (st' := [.ref 2]) rfl ?_
  refine T_get xr_92_18 h313 rfl (v := .ref 3) rfl (pc' := 21) rfl ?_
  refine T_p xr_92_21 xn_92 (pc' := 22) (ls' := [(2, .int 24), (0, .ref 2), (1, .int (x5))]) (st' := [.ref 2, .ref 3]) rfl ?_
  refine T_get xr_92_22 h313 rfl (v := .int 16) rfl (pc' := 25) rfl ?_
  refine T_p xr_92_25 xn_92 (pc' := 26) (ls' := [(2, .int 24), (0, .ref 2), (1, .int (x5))]) (st' := [.int (x5), .int 16, .ref 3]) rfl ?_
  refine T_p xr_92_26 xn_92 (pc' := 27) (ls' := [(2, .int 24), (0, .ref 2), (1, .int (x5))]) (st' := [.int 24, .int (x5), .int 16, .ref 3]) rfl ?_
  refine T_p xr_92_27 xn_92 (pc' := 28) (ls' := [(2, .int 24), (0, .ref 2), (1, .int (x5))]) (st' := [.int (((x5 : Int32) >>> ((24 : Int32) &&& 31))), .int 16, .ref 3]) rfl ?_
  refine T_p xr_92_28 xn_92 (pc' := 29) (ls' := [(2, .int 24), (0, .ref 2), (1, .int (x5))]) (st' := [.int ((((x5 : Int32) >>> ((24 : Int32) &&& 31))).toInt8.toInt32), .int 16, .ref 3]) rfl ?_
  refine T_bast xr_92_29 h318 (by decide) (pc' := 30) rfl (fun S321 h322 n323 e324 => ?_)
  have h325 := (n323 1 (by decide)).trans h316
  have h326 := (n323 2 (by decide)).trans h313
  have h327 := (n323 530 (by decide)).trans h317
  have h328 := (n323 531 (by decide)).trans h319
  have hs329 := e324.trans hs320
  obtain ⟨f330, h331⟩ : ∃ z, S321.1 3 = .inl (.byte, 2000, .inl z) := ⟨_, h322⟩
  refine T_p xr_92_30 xn_92 (pc' := 31) (ls' := [(2, .int 24), (0, .ref 2), (1, .int (x5))]) (st' := [.ref 2]) rfl ?_
  refine T_p xr_92_31 xn_92 (pc' := 32) (ls' := [(2, .int 24), (0, .ref 2), (1, .int (x5))]) (st' := [.ref 2, .ref 2]) rfl ?_
  refine T_get xr_92_32 h326 rfl (v := .int 16) rfl (pc' := 35) rfl ?_
  refine T_p xr_92_35 xn_92 (pc' := 36) (ls' := [(2, .int 24), (0, .ref 2), (1, .int (x5))]) (st' := [.int 1, .int 16, .ref 2]) rfl ?_
  refine T_p xr_92_36 xn_92 (pc' := 37) (ls' := [(2, .int 24), (0, .ref 2), (1, .int (x5))]) (st' := [.int 17, .ref 2]) rfl ?_
  refine T_put xr_92_37 h326 rfl (by decide) rfl (fs' := [.ref 3, .int 17]) rfl (pc' := 40) rfl (fun S332 h333 n334 e335 => ?_)
  have h336 := (n334 1 (by decide)).trans h325
  have h337 := (n334 530 (by decide)).trans h327
  have h338 := (n334 3 (by decide)).trans h331
  have h339 := (n334 531 (by decide)).trans h328
  have hs340 := e335.trans hs329
  refine T_p xr_92_40 xn_92 (pc' := 43) (ls' := [(2, .int 16), (0, .ref 2), (1, .int (x5))]) (st' := []) rfl ?_
  refine T_p xr_92_43 xn_92 (pc' := 3) (ls' := [(2, .int 16), (0, .ref 2), (1, .int (x5))]) (st' := []) rfl ?_
  refine T_p xr_92_3 xn_92 (pc' := 4) (ls' := [(2, .int 16), (0, .ref 2), (1, .int (x5))]) (st' := [.int 16]) rfl ?_
  refine T_b1f xr_92_4 rfl (t := 46) (pc' := 7) rfl rfl ?_
  refine T_p xr_92_7 xn_92 (pc' := 8) (ls' := [(2, .int 16), (0, .ref 2), (1, .int (x5))]) (st' := [.ref 2]) rfl ?_
  refine T_get xr_92_8 h333 rfl (v := .int 17) rfl (pc' := 11) rfl ?_
  refine T_p xr_92_11 xn_92 (pc' := 14) (ls' := [(2, .int 16), (0, .ref 2), (1, .int (x5))]) (st' := [.int 2000, .int 17]) rfl ?_
  refine T_b2f xr_92_14 rfl (t := 46) (pc' := 17) rfl rfl ?_
  refine T_p xr_92_17 xn_92 (pc' := 18) (ls' := [(2, .int 16), (0, .ref 2), (1, .int (x5))]) (st' := [.ref 2]) rfl ?_
  refine T_get xr_92_18 h333 rfl (v := .ref 3) rfl (pc' := 21) rfl ?_
  refine T_p xr_92_21 xn_92 (pc' := 22) (ls' := [(2, .int 16), (0, .ref 2), (1, .int (x5))]) (st' := [.ref 2, .ref 3]) rfl ?_
  refine T_get xr_92_22 h333 rfl (v := .int 17) rfl (pc' := 25) rfl ?_
  refine T_p xr_92_25 xn_92 (pc' := 26) (ls' := [(2, .int 16), (0, .ref 2), (1, .int (x5))]) (st' := [.int (x5), .int 17, .ref 3]) rfl ?_
  refine T_p xr_92_26 xn_92 (pc' := 27) (ls' := [(2, .int 16), (0, .ref 2), (1, .int (x5))]) (st' := [.int 16, .int (x5), .int 17, .ref 3]) rfl ?_
  refine T_p xr_92_27 xn_92 (pc' := 28) (ls' := [(2, .int 16), (0, .ref 2), (1, .int (x5))]) (st' := [.int (((x5 : Int32) >>> ((16 : Int32) &&& 31))), .int 17, .ref 3]) rfl ?_
  refine T_p xr_92_28 xn_92 (pc' := 29) (ls' := [(2, .int 16), (0, .ref 2), (1, .int (x5))]) (st' := [.int ((((x5 : Int32) >>> ((16 : Int32) &&& 31))).toInt8.toInt32), .int 17, .ref 3]) rfl ?_
  refine T_bast xr_92_29 h338 (by decide) (pc' := 30) rfl (fun S341 h342 n343 e344 => ?_)
  have h345 := (n343 1 (by decide)).trans h336
  have h346 := (n343 2 (by decide)).trans h333
  have h347 := (n343 530 (by decide)).trans h337
  have h348 := (n343 531 (by decide)).trans h339
  have hs349 := e344.trans hs340
  obtain ⟨f350, h351⟩ : ∃ z, S341.1 3 = .inl (.byte, 2000, .inl z) := ⟨_, h342⟩
  refine T_p xr_92_30 xn_92 (pc' := 31) (ls' := [(2, .int 16), (0, .ref 2), (1, .int (x5))]) (st' := [.ref 2]) rfl ?_
  refine T_p xr_92_31 xn_92 (pc' := 32) (ls' := [(2, .int 16), (0, .ref 2), (1, .int (x5))]) (st' := [.ref 2, .ref 2]) rfl ?_
  refine T_get xr_92_32 h346 rfl (v := .int 17) rfl (pc' := 35) rfl ?_
  refine T_p xr_92_35 xn_92 (pc' := 36) (ls' := [(2, .int 16), (0, .ref 2), (1, .int (x5))]) (st' := [.int 1, .int 17, .ref 2]) rfl ?_
  refine T_p xr_92_36 xn_92 (pc' := 37) (ls' := [(2, .int 16), (0, .ref 2), (1, .int (x5))]) (st' := [.int 18, .ref 2]) rfl ?_
  refine T_put xr_92_37 h346 rfl (by decide) rfl (fs' := [.ref 3, .int 18]) rfl (pc' := 40) rfl (fun S352 h353 n354 e355 => ?_)
  have h356 := (n354 1 (by decide)).trans h345
  have h357 := (n354 530 (by decide)).trans h347
  have h358 := (n354 3 (by decide)).trans h351
  have h359 := (n354 531 (by decide)).trans h348
  have hs360 := e355.trans hs349
  refine T_p xr_92_40 xn_92 (pc' := 43) (ls' := [(2, .int 8), (0, .ref 2), (1, .int (x5))]) (st' := []) rfl ?_
  refine T_p xr_92_43 xn_92 (pc' := 3) (ls' := [(2, .int 8), (0, .ref 2), (1, .int (x5))]) (st' := []) rfl ?_
  refine T_p xr_92_3 xn_92 (pc' := 4) (ls' := [(2, .int 8), (0, .ref 2), (1, .int (x5))]) (st' := [.int 8]) rfl ?_
  refine T_b1f xr_92_4 rfl (t := 46) (pc' := 7) rfl rfl ?_
  refine T_p xr_92_7 xn_92 (pc' := 8) (ls' := [(2, .int 8), (0, .ref 2), (1, .int (x5))]) (st' := [.ref 2]) rfl ?_
  refine T_get xr_92_8 h353 rfl (v := .int 18) rfl (pc' := 11) rfl ?_
  refine T_p xr_92_11 xn_92 (pc' := 14) (ls' := [(2, .int 8), (0, .ref 2), (1, .int (x5))]) (st' := [.int 2000, .int 18]) rfl ?_
  refine T_b2f xr_92_14 rfl (t := 46) (pc' := 17) rfl rfl ?_
  refine T_p xr_92_17 xn_92 (pc' := 18) (ls' := [(2, .int 8), (0, .ref 2), (1, .int (x5))]) (st' := [.ref 2]) rfl ?_
  refine T_get xr_92_18 h353 rfl (v := .ref 3) rfl (pc' := 21) rfl ?_
  refine T_p xr_92_21 xn_92 (pc' := 22) (ls' := [(2, .int 8), (0, .ref 2), (1, .int (x5))]) (st' := [.ref 2, .ref 3]) rfl ?_
  refine T_get xr_92_22 h353 rfl (v := .int 18) rfl (pc' := 25) rfl ?_
  refine T_p xr_92_25 xn_92 (pc' := 26) (ls' := [(2, .int 8), (0, .ref 2), (1, .int (x5))]) (st' := [.int (x5), .int 18, .ref 3]) rfl ?_
  refine T_p xr_92_26 xn_92 (pc' := 27) (ls' := [(2, .int 8), (0, .ref 2), (1, .int (x5))]) (st' := [.int 8, .int (x5), .int 18, .ref 3]) rfl ?_
  refine T_p xr_92_27 xn_92 (pc' := 28) (ls' := [(2, .int 8), (0, .ref 2), (1, .int (x5))]) (st' := [.int (((x5 : Int32) >>> ((8 : Int32) &&& 31))), .int 18, .ref 3]) rfl ?_
  refine T_p xr_92_28 xn_92 (pc' := 29) (ls' := [(2, .int 8), (0, .ref 2), (1, .int (x5))]) (st' := [.int ((((x5 : Int32) >>> ((8 : Int32) &&& 31))).toInt8.toInt32), .int 18, .ref 3]) rfl ?_
  refine T_bast xr_92_29 h358 (by decide) (pc' := 30) rfl (fun S361 h362 n363 e364 => ?_)
  have h365 := (n363 1 (by decide)).trans h356
  have h366 := (n363 2 (by decide)).trans h353
  have h367 := (n363 530 (by decide)).trans h357
  have h368 := (n363 531 (by decide)).trans h359
  have hs369 := e364.trans hs360
  obtain ⟨f370, h371⟩ : ∃ z, S361.1 3 = .inl (.byte, 2000, .inl z) := ⟨_, h362⟩
  refine T_p xr_92_30 xn_92 (pc' := 31) (ls' := [(2, .int 8), (0, .ref 2), (1, .int (x5))]) (st' := [.ref 2]) rfl ?_
  refine T_p xr_92_31 xn_92 (pc' := 32) (ls' := [(2, .int 8), (0, .ref 2), (1, .int (x5))]) (st' := [.ref 2, .ref 2]) rfl ?_
  refine T_get xr_92_32 h366 rfl (v := .int 18) rfl (pc' := 35) rfl ?_
  refine T_p xr_92_35 xn_92 (pc' := 36) (ls' := [(2, .int 8), (0, .ref 2), (1, .int (x5))]) (st' := [.int 1, .int 18, .ref 2]) rfl ?_
  refine T_p xr_92_36 xn_92 (pc' := 37) (ls' := [(2, .int 8), (0, .ref 2), (1, .int (x5))]) (st' := [.int 19, .ref 2]) rfl ?_
  refine T_put xr_92_37 h366 rfl (by decide) rfl (fs' := [.ref 3, .int 19]) rfl (pc' := 40) rfl (fun S372 h373 n374 e375 => ?_)
  have h376 := (n374 1 (by decide)).trans h365
  have h377 := (n374 530 (by decide)).trans h367
  have h378 := (n374 3 (by decide)).trans h371
  have h379 := (n374 531 (by decide)).trans h368
  have hs380 := e375.trans hs369
  refine T_p xr_92_40 xn_92 (pc' := 43) (ls' := [(2, .int 0), (0, .ref 2), (1, .int (x5))]) (st' := []) rfl ?_
  refine T_p xr_92_43 xn_92 (pc' := 3) (ls' := [(2, .int 0), (0, .ref 2), (1, .int (x5))]) (st' := []) rfl ?_
  refine T_p xr_92_3 xn_92 (pc' := 4) (ls' := [(2, .int 0), (0, .ref 2), (1, .int (x5))]) (st' := [.int 0]) rfl ?_
  refine T_b1f xr_92_4 rfl (t := 46) (pc' := 7) rfl rfl ?_
  refine T_p xr_92_7 xn_92 (pc' := 8) (ls' := [(2, .int 0), (0, .ref 2), (1, .int (x5))]) (st' := [.ref 2]) rfl ?_
  refine T_get xr_92_8 h373 rfl (v := .int 19) rfl (pc' := 11) rfl ?_
  refine T_p xr_92_11 xn_92 (pc' := 14) (ls' := [(2, .int 0), (0, .ref 2), (1, .int (x5))]) (st' := [.int 2000, .int 19]) rfl ?_
  refine T_b2f xr_92_14 rfl (t := 46) (pc' := 17) rfl rfl ?_
  refine T_p xr_92_17 xn_92 (pc' := 18) (ls' := [(2, .int 0), (0, .ref 2), (1, .int (x5))]) (st' := [.ref 2]) rfl ?_
  refine T_get xr_92_18 h373 rfl (v := .ref 3) rfl (pc' := 21) rfl ?_
  refine T_p xr_92_21 xn_92 (pc' := 22) (ls' := [(2, .int 0), (0, .ref 2), (1, .int (x5))]) (st' := [.ref 2, .ref 3]) rfl ?_
  refine T_get xr_92_22 h373 rfl (v := .int 19) rfl (pc' := 25) rfl ?_
  refine T_p xr_92_25 xn_92 (pc' := 26) (ls' := [(2, .int 0), (0, .ref 2), (1, .int (x5))]) (st' := [.int (x5), .int 19, .ref 3]) rfl ?_
  refine T_p xr_92_26 xn_92 (pc' := 27) (ls' := [(2, .int 0), (0, .ref 2), (1, .int (x5))]) (st' := [.int 0, .int (x5), .int 19, .ref 3]) rfl ?_
  refine T_p xr_92_27 xn_92 (pc' := 28) (ls' := [(2, .int 0), (0, .ref 2), (1, .int (x5))]) (st' := [.int (((x5 : Int32) >>> ((0 : Int32) &&& 31))), .int 19, .ref 3]) rfl ?_
  refine T_p xr_92_28 xn_92 (pc' := 29) (ls' := [(2, .int 0), (0, .ref 2), (1, .int (x5))]) (st' := [.int ((((x5 : Int32) >>> ((0 : Int32) &&& 31))).toInt8.toInt32), .int 19, .ref 3]) rfl ?_
  refine T_bast xr_92_29 h378 (by decide) (pc' := 30) rfl (fun S381 h382 n383 e384 => ?_)
  have h385 := (n383 1 (by decide)).trans h376
  have h386 := (n383 2 (by decide)).trans h373
  have h387 := (n383 530 (by decide)).trans h377
  have h388 := (n383 531 (by decide)).trans h379
  have hs389 := e384.trans hs380
  obtain ⟨f390, h391⟩ : ∃ z, S381.1 3 = .inl (.byte, 2000, .inl z) := ⟨_, h382⟩
  refine T_p xr_92_30 xn_92 (pc' := 31) (ls' := [(2, .int 0), (0, .ref 2), (1, .int (x5))]) (st' := [.ref 2]) rfl ?_
  refine T_p xr_92_31 xn_92 (pc' := 32) (ls' := [(2, .int 0), (0, .ref 2), (1, .int (x5))]) (st' := [.ref 2, .ref 2]) rfl ?_
  refine T_get xr_92_32 h386 rfl (v := .int 19) rfl (pc' := 35) rfl ?_
  refine T_p xr_92_35 xn_92 (pc' := 36) (ls' := [(2, .int 0), (0, .ref 2), (1, .int (x5))]) (st' := [.int 1, .int 19, .ref 2]) rfl ?_
  refine T_p xr_92_36 xn_92 (pc' := 37) (ls' := [(2, .int 0), (0, .ref 2), (1, .int (x5))]) (st' := [.int 20, .ref 2]) rfl ?_
  refine T_put xr_92_37 h386 rfl (by decide) rfl (fs' := [.ref 3, .int 20]) rfl (pc' := 40) rfl (fun S392 h393 n394 e395 => ?_)
  have h396 := (n394 1 (by decide)).trans h385
  have h397 := (n394 530 (by decide)).trans h387
  have h398 := (n394 3 (by decide)).trans h391
  have h399 := (n394 531 (by decide)).trans h388
  have hs400 := e395.trans hs389
  refine T_p xr_92_40 xn_92 (pc' := 43) (ls' := [(2, .int (-8)), (0, .ref 2), (1, .int (x5))]) (st' := []) rfl ?_
  refine T_p xr_92_43 xn_92 (pc' := 3) (ls' := [(2, .int (-8)), (0, .ref 2), (1, .int (x5))]) (st' := []) rfl ?_
  refine T_p xr_92_3 xn_92 (pc' := 4) (ls' := [(2, .int (-8)), (0, .ref 2), (1, .int (x5))]) (st' := [.int (-8)]) rfl ?_
  refine T_b1t xr_92_4 rfl (t := 46) rfl ?_
  refine T_vret xr_92_46 xf_92.2.2 ?_
  show X_T (6, xs) 113 (60, [(0, .ref 1), (1, .int (x1)), (2, .int (x2)), (3, .int (x3)), (4, .int (x4)), (5, .int (x5))], [], S392) _
  refine T_p xr_113_60 xn_113 (pc' := 61) (ls' := [(0, .ref 1), (1, .int (x1)), (2, .int (x2)), (3, .int (x3)), (4, .int (x4)), (5, .int (x5))]) (st' := [.ref 1]) rfl ?_
  refine T_get xr_113_61 h396 rfl (v := .ref 2) rfl (pc' := 64) rfl ?_
  refine T_get xr_113_64 h393 rfl (v := .int 20) rfl (pc' := 67) rfl ?_
  refine T_iret xr_113_67 xf_113.2.2 rfl ?_
  show X_T (6, xs) 203 (145, [(3, .int 0), (2, .ref 530), (1, .ref 1), (0, .ref 0)], [.int 20], S392) _
  refine T_p xr_203_145 xn_203 (pc' := 146) (ls' := [(3, .int 0), (2, .ref 530), (1, .ref 1), (0, .ref 0)]) (st' := [.ref 530, .int 20]) rfl ?_
  refine T_p xr_203_146 xn_203 (pc' := 147) (ls' := [(3, .int 0), (2, .ref 530), (1, .ref 1), (0, .ref 0)]) (st' := [.ref 0, .ref 530, .int 20]) rfl ?_
  refine T_p xr_203_147 xn_203 (pc' := 148) (ls' := [(3, .int 0), (2, .ref 530), (1, .ref 1), (0, .ref 0)]) (st' := [.int 0, .ref 0, .ref 530, .int 20]) rfl ?_
  refine T_p xr_203_148 xn_203 (pc' := 149) (ls' := [(3, .int 0), (2, .ref 530), (1, .ref 1), (0, .ref 0)]) (st' := [.int 1, .int 0, .ref 0, .ref 530, .int 20]) rfl ?_
  refine T_p xr_203_149 xn_203 (pc' := 150) (ls' := [(3, .int 0), (2, .ref 530), (1, .ref 1), (0, .ref 0)]) (st' := [.int 1, .ref 0, .ref 530, .int 20]) rfl ?_
  refine T_sald xr_203_150 (show ¬ ((1 : Int32) < 0 ∨ 6 ≤ (1 : Int32).toNatClampNeg) by decide) (x := x1) g1 (pc' := 151) rfl ?_
  refine T_p xr_203_151 xn_203 (pc' := 152) (ls' := [(3, .int 0), (2, .ref 530), (1, .ref 1), (0, .ref 0)]) (st' := [.ref 0, .int (x1), .ref 530, .int 20]) rfl ?_
  refine T_p xr_203_152 xn_203 (pc' := 153) (ls' := [(3, .int 0), (2, .ref 530), (1, .ref 1), (0, .ref 0)]) (st' := [.int 0, .ref 0, .int (x1), .ref 530, .int 20]) rfl ?_
  refine T_p xr_203_153 xn_203 (pc' := 154) (ls' := [(3, .int 0), (2, .ref 530), (1, .ref 1), (0, .ref 0)]) (st' := [.int 2, .int 0, .ref 0, .int (x1), .ref 530, .int 20]) rfl ?_
  refine T_p xr_203_154 xn_203 (pc' := 155) (ls' := [(3, .int 0), (2, .ref 530), (1, .ref 1), (0, .ref 0)]) (st' := [.int 2, .ref 0, .int (x1), .ref 530, .int 20]) rfl ?_
  refine T_sald xr_203_155 (show ¬ ((2 : Int32) < 0 ∨ 6 ≤ (2 : Int32).toNatClampNeg) by decide) (x := x2) g2 (pc' := 156) rfl ?_
  refine T_p xr_203_156 xn_203 (pc' := 157) (ls' := [(3, .int 0), (2, .ref 530), (1, .ref 1), (0, .ref 0)]) (st' := [.ref 0, .int (x2), .int (x1), .ref 530, .int 20]) rfl ?_
  refine T_p xr_203_157 xn_203 (pc' := 158) (ls' := [(3, .int 0), (2, .ref 530), (1, .ref 1), (0, .ref 0)]) (st' := [.int 0, .ref 0, .int (x2), .int (x1), .ref 530, .int 20]) rfl ?_
  refine T_p xr_203_158 xn_203 (pc' := 159) (ls' := [(3, .int 0), (2, .ref 530), (1, .ref 1), (0, .ref 0)]) (st' := [.int 3, .int 0, .ref 0, .int (x2), .int (x1), .ref 530, .int 20]) rfl ?_
  refine T_p xr_203_159 xn_203 (pc' := 160) (ls' := [(3, .int 0), (2, .ref 530), (1, .ref 1), (0, .ref 0)]) (st' := [.int 3, .ref 0, .int (x2), .int (x1), .ref 530, .int 20]) rfl ?_
  refine T_sald xr_203_160 (show ¬ ((3 : Int32) < 0 ∨ 6 ≤ (3 : Int32).toNatClampNeg) by decide) (x := x3) g3 (pc' := 161) rfl ?_
  refine T_p xr_203_161 xn_203 (pc' := 162) (ls' := [(3, .int 0), (2, .ref 530), (1, .ref 1), (0, .ref 0)]) (st' := [.ref 0, .int (x3), .int (x2), .int (x1), .ref 530, .int 20]) rfl ?_
  refine T_p xr_203_162 xn_203 (pc' := 163) (ls' := [(3, .int 0), (2, .ref 530), (1, .ref 1), (0, .ref 0)]) (st' := [.int 0, .ref 0, .int (x3), .int (x2), .int (x1), .ref 530, .int 20]) rfl ?_
  refine T_p xr_203_163 xn_203 (pc' := 164) (ls' := [(3, .int 0), (2, .ref 530), (1, .ref 1), (0, .ref 0)]) (st' := [.int 4, .int 0, .ref 0, .int (x3), .int (x2), .int (x1), .ref 530, .int 20]) rfl ?_
  refine T_p xr_203_164 xn_203 (pc' := 165) (ls' := [(3, .int 0), (2, .ref 530), (1, .ref 1), (0, .ref 0)]) (st' := [.int 4, .ref 0, .int (x3), .int (x2), .int (x1), .ref 530, .int 20]) rfl ?_
  refine T_sald xr_203_165 (show ¬ ((4 : Int32) < 0 ∨ 6 ≤ (4 : Int32).toNatClampNeg) by decide) (x := x4) g4 (pc' := 166) rfl ?_
  refine T_p xr_203_166 xn_203 (pc' := 167) (ls' := [(3, .int 0), (2, .ref 530), (1, .ref 1), (0, .ref 0)]) (st' := [.ref 0, .int (x4), .int (x3), .int (x2), .int (x1), .ref 530, .int 20]) rfl ?_
  refine T_p xr_203_167 xn_203 (pc' := 168) (ls' := [(3, .int 0), (2, .ref 530), (1, .ref 1), (0, .ref 0)]) (st' := [.int 0, .ref 0, .int (x4), .int (x3), .int (x2), .int (x1), .ref 530, .int 20]) rfl ?_
  refine T_p xr_203_168 xn_203 (pc' := 169) (ls' := [(3, .int 0), (2, .ref 530), (1, .ref 1), (0, .ref 0)]) (st' := [.int 5, .int 0, .ref 0, .int (x4), .int (x3), .int (x2), .int (x1), .ref 530, .int 20]) rfl ?_
  refine T_p xr_203_169 xn_203 (pc' := 170) (ls' := [(3, .int 0), (2, .ref 530), (1, .ref 1), (0, .ref 0)]) (st' := [.int 5, .ref 0, .int (x4), .int (x3), .int (x2), .int (x1), .ref 530, .int 20]) rfl ?_
  refine T_sald xr_203_170 (show ¬ ((5 : Int32) < 0 ∨ 6 ≤ (5 : Int32).toNatClampNeg) by decide) (x := x5) g5 (pc' := 171) rfl ?_
  refine T_cv (S := S392) (q := 530) xr_203_171 xf_201.1 xf_201.2.1 xn_201 (as := [.int (x1), .int (x2), .int (x3), .int (x4), .int (x5)]) (r := [.int 20]) rfl h397 (by simp [Value.category]) (by simp [Value.category]) (pc' := 174) rfl (ls' := [(0, .ref 530), (1, .int (x1)), (2, .int (x2)), (3, .int (x3)), (4, .int (x4)), (5, .int (x5))]) rfl ?_
  refine T_p xr_201_0 xn_201 (pc' := 1) (ls' := [(0, .ref 530), (1, .int (x1)), (2, .int (x2)), (3, .int (x3)), (4, .int (x4)), (5, .int (x5))]) (st' := [.ref 530]) rfl ?_
  refine T_get xr_201_1 h397 rfl (v := .int 0) rfl (pc' := 4) rfl ?_
  refine T_p xr_201_4 xn_201 (pc' := 6) (ls' := [(0, .ref 530), (1, .int (x1)), (2, .int (x2)), (3, .int (x3)), (4, .int (x4)), (5, .int (x5))]) (st' := [.int 20, .int 0]) rfl ?_
  refine T_p xr_201_6 xn_201 (pc' := 7) (ls' := [(0, .ref 530), (1, .int (x1)), (2, .int (x2)), (3, .int (x3)), (4, .int (x4)), (5, .int (x5))]) (st' := [.int 20]) rfl ?_
  refine T_p xr_201_7 xn_201 (pc' := 10) (ls' := [(0, .ref 530), (1, .int (x1)), (2, .int (x2)), (3, .int (x3)), (4, .int (x4)), (5, .int (x5))]) (st' := [.int 2000, .int 20]) rfl ?_
  refine T_b2t xr_201_10 rfl (t := 15) rfl ?_
  refine T_p xr_201_15 xn_201 (pc' := 16) (ls' := [(0, .ref 530), (1, .int (x1)), (2, .int (x2)), (3, .int (x3)), (4, .int (x4)), (5, .int (x5))]) (st' := [.int 0]) rfl ?_
  refine T_p xr_201_16 xn_201 (pc' := 18) (ls' := [(6, .int 0), (0, .ref 530), (1, .int (x1)), (2, .int (x2)), (3, .int (x3)), (4, .int (x4)), (5, .int (x5))]) (st' := []) rfl ?_
  refine T_p xr_201_18 xn_201 (pc' := 20) (ls' := [(6, .int 0), (0, .ref 530), (1, .int (x1)), (2, .int (x2)), (3, .int (x3)), (4, .int (x4)), (5, .int (x5))]) (st' := [.int 0]) rfl ?_
  refine T_p xr_201_20 xn_201 (pc' := 22) (ls' := [(6, .int 0), (0, .ref 530), (1, .int (x1)), (2, .int (x2)), (3, .int (x3)), (4, .int (x4)), (5, .int (x5))]) (st' := [.int 20, .int 0]) rfl ?_
  refine T_b2f xr_201_22 rfl (t := 105) (pc' := 25) rfl rfl ?_
  refine T_p xr_201_25 xn_201 (pc' := 27) (ls' := [(6, .int 0), (0, .ref 530), (1, .int (x1)), (2, .int (x2)), (3, .int (x3)), (4, .int (x4)), (5, .int (x5))]) (st' := [.int 0]) rfl ?_
  refine T_p xr_201_27 xn_201 (pc' := 28) (ls' := [(6, .int 0), (0, .ref 530), (1, .int (x1)), (2, .int (x2)), (3, .int (x3)), (4, .int (x4)), (5, .int (x5))]) (st' := [.int 4, .int 0]) rfl ?_
  refine T_b2f xr_201_28 rfl (t := 35) (pc' := 31) rfl rfl ?_
  refine T_p xr_201_31 xn_201 (pc' := 32) (ls' := [(6, .int 0), (0, .ref 530), (1, .int (x1)), (2, .int (x2)), (3, .int (x3)), (4, .int (x4)), (5, .int (x5))]) (st' := [.int (x1)]) rfl ?_
  refine T_p xr_201_32 xn_201 (pc' := 71) (ls' := [(6, .int 0), (0, .ref 530), (1, .int (x1)), (2, .int (x2)), (3, .int (x3)), (4, .int (x4)), (5, .int (x5))]) (st' := [.int (x1)]) rfl ?_
  refine T_p xr_201_71 xn_201 (pc' := 73) (ls' := [(7, .int (x1)), (6, .int 0), (0, .ref 530), (1, .int (x1)), (2, .int (x2)), (3, .int (x3)), (4, .int (x4)), (5, .int (x5))]) (st' := []) rfl ?_
  refine T_p xr_201_73 xn_201 (pc' := 74) (ls' := [(7, .int (x1)), (6, .int 0), (0, .ref 530), (1, .int (x1)), (2, .int (x2)), (3, .int (x3)), (4, .int (x4)), (5, .int (x5))]) (st' := [.ref 530]) rfl ?_
  refine T_get xr_201_74 h397 rfl (v := .ref 531) rfl (pc' := 77) rfl ?_
  refine T_p xr_201_77 xn_201 (pc' := 78) (ls' := [(7, .int (x1)), (6, .int 0), (0, .ref 530), (1, .int (x1)), (2, .int (x2)), (3, .int (x3)), (4, .int (x4)), (5, .int (x5))]) (st' := [.ref 530, .ref 531]) rfl ?_
  refine T_get xr_201_78 h397 rfl (v := .int 0) rfl (pc' := 81) rfl ?_
  refine T_p xr_201_81 xn_201 (pc' := 83) (ls' := [(7, .int (x1)), (6, .int 0), (0, .ref 530), (1, .int (x1)), (2, .int (x2)), (3, .int (x3)), (4, .int (x4)), (5, .int (x5))]) (st' := [.int 0, .int 0, .ref 531]) rfl ?_
  refine T_p xr_201_83 xn_201 (pc' := 84) (ls' := [(7, .int (x1)), (6, .int 0), (0, .ref 530), (1, .int (x1)), (2, .int (x2)), (3, .int (x3)), (4, .int (x4)), (5, .int (x5))]) (st' := [.int 0, .ref 531]) rfl ?_
  refine T_p xr_201_84 xn_201 (pc' := 86) (ls' := [(7, .int (x1)), (6, .int 0), (0, .ref 530), (1, .int (x1)), (2, .int (x2)), (3, .int (x3)), (4, .int (x4)), (5, .int (x5))]) (st' := [.int (x1), .int 0, .ref 531]) rfl ?_
  refine T_p xr_201_86 xn_201 (pc' := 88) (ls' := [(7, .int (x1)), (6, .int 0), (0, .ref 530), (1, .int (x1)), (2, .int (x2)), (3, .int (x3)), (4, .int (x4)), (5, .int (x5))]) (st' := [.int 24, .int (x1), .int 0, .ref 531]) rfl ?_
  refine T_p xr_201_88 xn_201 (pc' := 90) (ls' := [(7, .int (x1)), (6, .int 0), (0, .ref 530), (1, .int (x1)), (2, .int (x2)), (3, .int (x3)), (4, .int (x4)), (5, .int (x5))]) (st' := [.int 8, .int 24, .int (x1), .int 0, .ref 531]) rfl ?_
  refine T_p xr_201_90 xn_201 (pc' := 92) (ls' := [(7, .int (x1)), (6, .int 0), (0, .ref 530), (1, .int (x1)), (2, .int (x2)), (3, .int (x3)), (4, .int (x4)), (5, .int (x5))]) (st' := [.int 0, .int 8, .int 24, .int (x1), .int 0, .ref 531]) rfl ?_
  refine T_p xr_201_92 xn_201 (pc' := 93) (ls' := [(7, .int (x1)), (6, .int 0), (0, .ref 530), (1, .int (x1)), (2, .int (x2)), (3, .int (x3)), (4, .int (x4)), (5, .int (x5))]) (st' := [.int 3, .int 0, .int 8, .int 24, .int (x1), .int 0, .ref 531]) rfl ?_
  refine T_p xr_201_93 xn_201 (pc' := 94) (ls' := [(7, .int (x1)), (6, .int 0), (0, .ref 530), (1, .int (x1)), (2, .int (x2)), (3, .int (x3)), (4, .int (x4)), (5, .int (x5))]) (st' := [.int 0, .int 8, .int 24, .int (x1), .int 0, .ref 531]) rfl ?_
  refine T_p xr_201_94 xn_201 (pc' := 95) (ls' := [(7, .int (x1)), (6, .int 0), (0, .ref 530), (1, .int (x1)), (2, .int (x2)), (3, .int (x3)), (4, .int (x4)), (5, .int (x5))]) (st' := [.int 0, .int 24, .int (x1), .int 0, .ref 531]) rfl ?_
  refine T_p xr_201_95 xn_201 (pc' := 96) (ls' := [(7, .int (x1)), (6, .int 0), (0, .ref 530), (1, .int (x1)), (2, .int (x2)), (3, .int (x3)), (4, .int (x4)), (5, .int (x5))]) (st' := [.int 24, .int (x1), .int 0, .ref 531]) rfl ?_
  refine T_p xr_201_96 xn_201 (pc' := 97) (ls' := [(7, .int (x1)), (6, .int 0), (0, .ref 530), (1, .int (x1)), (2, .int (x2)), (3, .int (x3)), (4, .int (x4)), (5, .int (x5))]) (st' := [.int (((x1 : Int32) >>> ((24 : Int32) &&& 31))), .int 0, .ref 531]) rfl ?_
  refine T_p xr_201_97 xn_201 (pc' := 98) (ls' := [(7, .int (x1)), (6, .int 0), (0, .ref 530), (1, .int (x1)), (2, .int (x2)), (3, .int (x3)), (4, .int (x4)), (5, .int (x5))]) (st' := [.int ((((x1 : Int32) >>> ((24 : Int32) &&& 31))).toInt8.toInt32), .int 0, .ref 531]) rfl ?_
  refine T_bast xr_201_98 h399 (by decide) (pc' := 99) rfl (fun S401 h402 n403 e404 => ?_)
  have h405 := (n403 1 (by decide)).trans h396
  have h406 := (n403 2 (by decide)).trans h393
  have h407 := (n403 530 (by decide)).trans h397
  have h408 := (n403 3 (by decide)).trans h398
  have hs409 := e404.trans hs400
  obtain ⟨f410, h411⟩ : ∃ z, S401.1 531 = .inl (.byte, 2020, .inl z) := ⟨_, h402⟩
  refine T_p xr_201_99 xn_201 (pc' := 102) (ls' := [(6, .int 1), (7, .int (x1)), (0, .ref 530), (1, .int (x1)), (2, .int (x2)), (3, .int (x3)), (4, .int (x4)), (5, .int (x5))]) (st' := []) rfl ?_
  refine T_p xr_201_102 xn_201 (pc' := 18) (ls' := [(6, .int 1), (7, .int (x1)), (0, .ref 530), (1, .int (x1)), (2, .int (x2)), (3, .int (x3)), (4, .int (x4)), (5, .int (x5))]) (st' := []) rfl ?_
  refine T_p xr_201_18 xn_201 (pc' := 20) (ls' := [(6, .int 1), (7, .int (x1)), (0, .ref 530), (1, .int (x1)), (2, .int (x2)), (3, .int (x3)), (4, .int (x4)), (5, .int (x5))]) (st' := [.int 1]) rfl ?_
  refine T_p xr_201_20 xn_201 (pc' := 22) (ls' := [(6, .int 1), (7, .int (x1)), (0, .ref 530), (1, .int (x1)), (2, .int (x2)), (3, .int (x3)), (4, .int (x4)), (5, .int (x5))]) (st' := [.int 20, .int 1]) rfl ?_
  refine T_b2f xr_201_22 rfl (t := 105) (pc' := 25) rfl rfl ?_
  refine T_p xr_201_25 xn_201 (pc' := 27) (ls' := [(6, .int 1), (7, .int (x1)), (0, .ref 530), (1, .int (x1)), (2, .int (x2)), (3, .int (x3)), (4, .int (x4)), (5, .int (x5))]) (st' := [.int 1]) rfl ?_
  refine T_p xr_201_27 xn_201 (pc' := 28) (ls' := [(6, .int 1), (7, .int (x1)), (0, .ref 530), (1, .int (x1)), (2, .int (x2)), (3, .int (x3)), (4, .int (x4)), (5, .int (x5))]) (st' := [.int 4, .int 1]) rfl ?_
  refine T_b2f xr_201_28 rfl (t := 35) (pc' := 31) rfl rfl ?_
  refine T_p xr_201_31 xn_201 (pc' := 32) (ls' := [(6, .int 1), (7, .int (x1)), (0, .ref 530), (1, .int (x1)), (2, .int (x2)), (3, .int (x3)), (4, .int (x4)), (5, .int (x5))]) (st' := [.int (x1)]) rfl ?_
  refine T_p xr_201_32 xn_201 (pc' := 71) (ls' := [(6, .int 1), (7, .int (x1)), (0, .ref 530), (1, .int (x1)), (2, .int (x2)), (3, .int (x3)), (4, .int (x4)), (5, .int (x5))]) (st' := [.int (x1)]) rfl ?_
  refine T_p xr_201_71 xn_201 (pc' := 73) (ls' := [(7, .int (x1)), (6, .int 1), (0, .ref 530), (1, .int (x1)), (2, .int (x2)), (3, .int (x3)), (4, .int (x4)), (5, .int (x5))]) (st' := []) rfl ?_
  refine T_p xr_201_73 xn_201 (pc' := 74) (ls' := [(7, .int (x1)), (6, .int 1), (0, .ref 530), (1, .int (x1)), (2, .int (x2)), (3, .int (x3)), (4, .int (x4)), (5, .int (x5))]) (st' := [.ref 530]) rfl ?_
  refine T_get xr_201_74 h407 rfl (v := .ref 531) rfl (pc' := 77) rfl ?_
  refine T_p xr_201_77 xn_201 (pc' := 78) (ls' := [(7, .int (x1)), (6, .int 1), (0, .ref 530), (1, .int (x1)), (2, .int (x2)), (3, .int (x3)), (4, .int (x4)), (5, .int (x5))]) (st' := [.ref 530, .ref 531]) rfl ?_
  refine T_get xr_201_78 h407 rfl (v := .int 0) rfl (pc' := 81) rfl ?_
  refine T_p xr_201_81 xn_201 (pc' := 83) (ls' := [(7, .int (x1)), (6, .int 1), (0, .ref 530), (1, .int (x1)), (2, .int (x2)), (3, .int (x3)), (4, .int (x4)), (5, .int (x5))]) (st' := [.int 1, .int 0, .ref 531]) rfl ?_
  refine T_p xr_201_83 xn_201 (pc' := 84) (ls' := [(7, .int (x1)), (6, .int 1), (0, .ref 530), (1, .int (x1)), (2, .int (x2)), (3, .int (x3)), (4, .int (x4)), (5, .int (x5))]) (st' := [.int 1, .ref 531]) rfl ?_
  refine T_p xr_201_84 xn_201 (pc' := 86) (ls' := [(7, .int (x1)), (6, .int 1), (0, .ref 530), (1, .int (x1)), (2, .int (x2)), (3, .int (x3)), (4, .int (x4)), (5, .int (x5))]) (st' := [.int (x1), .int 1, .ref 531]) rfl ?_
  refine T_p xr_201_86 xn_201 (pc' := 88) (ls' := [(7, .int (x1)), (6, .int 1), (0, .ref 530), (1, .int (x1)), (2, .int (x2)), (3, .int (x3)), (4, .int (x4)), (5, .int (x5))]) (st' := [.int 24, .int (x1), .int 1, .ref 531]) rfl ?_
  refine T_p xr_201_88 xn_201 (pc' := 90) (ls' := [(7, .int (x1)), (6, .int 1), (0, .ref 530), (1, .int (x1)), (2, .int (x2)), (3, .int (x3)), (4, .int (x4)), (5, .int (x5))]) (st' := [.int 8, .int 24, .int (x1), .int 1, .ref 531]) rfl ?_
  refine T_p xr_201_90 xn_201 (pc' := 92) (ls' := [(7, .int (x1)), (6, .int 1), (0, .ref 530), (1, .int (x1)), (2, .int (x2)), (3, .int (x3)), (4, .int (x4)), (5, .int (x5))]) (st' := [.int 1, .int 8, .int 24, .int (x1), .int 1, .ref 531]) rfl ?_
  refine T_p xr_201_92 xn_201 (pc' := 93) (ls' := [(7, .int (x1)), (6, .int 1), (0, .ref 530), (1, .int (x1)), (2, .int (x2)), (3, .int (x3)), (4, .int (x4)), (5, .int (x5))]) (st' := [.int 3, .int 1, .int 8, .int 24, .int (x1), .int 1, .ref 531]) rfl ?_
  refine T_p xr_201_93 xn_201 (pc' := 94) (ls' := [(7, .int (x1)), (6, .int 1), (0, .ref 530), (1, .int (x1)), (2, .int (x2)), (3, .int (x3)), (4, .int (x4)), (5, .int (x5))]) (st' := [.int 1, .int 8, .int 24, .int (x1), .int 1, .ref 531]) rfl ?_
  refine T_p xr_201_94 xn_201 (pc' := 95) (ls' := [(7, .int (x1)), (6, .int 1), (0, .ref 530), (1, .int (x1)), (2, .int (x2)), (3, .int (x3)), (4, .int (x4)), (5, .int (x5))]) (st' := [.int 8, .int 24, .int (x1), .int 1, .ref 531]) rfl ?_
  refine T_p xr_201_95 xn_201 (pc' := 96) (ls' := [(7, .int (x1)), (6, .int 1), (0, .ref 530), (1, .int (x1)), (2, .int (x2)), (3, .int (x3)), (4, .int (x4)), (5, .int (x5))]) (st' := [.int 16, .int (x1), .int 1, .ref 531]) rfl ?_
  refine T_p xr_201_96 xn_201 (pc' := 97) (ls' := [(7, .int (x1)), (6, .int 1), (0, .ref 530), (1, .int (x1)), (2, .int (x2)), (3, .int (x3)), (4, .int (x4)), (5, .int (x5))]) (st' := [.int (((x1 : Int32) >>> ((16 : Int32) &&& 31))), .int 1, .ref 531]) rfl ?_
  refine T_p xr_201_97 xn_201 (pc' := 98) (ls' := [(7, .int (x1)), (6, .int 1), (0, .ref 530), (1, .int (x1)), (2, .int (x2)), (3, .int (x3)), (4, .int (x4)), (5, .int (x5))]) (st' := [.int ((((x1 : Int32) >>> ((16 : Int32) &&& 31))).toInt8.toInt32), .int 1, .ref 531]) rfl ?_
  refine T_bast xr_201_98 h411 (by decide) (pc' := 99) rfl (fun S412 h413 n414 e415 => ?_)
  have h416 := (n414 1 (by decide)).trans h405
  have h417 := (n414 2 (by decide)).trans h406
  have h418 := (n414 530 (by decide)).trans h407
  have h419 := (n414 3 (by decide)).trans h408
  have hs420 := e415.trans hs409
  obtain ⟨f421, h422⟩ : ∃ z, S412.1 531 = .inl (.byte, 2020, .inl z) := ⟨_, h413⟩
  refine T_p xr_201_99 xn_201 (pc' := 102) (ls' := [(6, .int 2), (7, .int (x1)), (0, .ref 530), (1, .int (x1)), (2, .int (x2)), (3, .int (x3)), (4, .int (x4)), (5, .int (x5))]) (st' := []) rfl ?_
  refine T_p xr_201_102 xn_201 (pc' := 18) (ls' := [(6, .int 2), (7, .int (x1)), (0, .ref 530), (1, .int (x1)), (2, .int (x2)), (3, .int (x3)), (4, .int (x4)), (5, .int (x5))]) (st' := []) rfl ?_
  refine T_p xr_201_18 xn_201 (pc' := 20) (ls' := [(6, .int 2), (7, .int (x1)), (0, .ref 530), (1, .int (x1)), (2, .int (x2)), (3, .int (x3)), (4, .int (x4)), (5, .int (x5))]) (st' := [.int 2]) rfl ?_
  refine T_p xr_201_20 xn_201 (pc' := 22) (ls' := [(6, .int 2), (7, .int (x1)), (0, .ref 530), (1, .int (x1)), (2, .int (x2)), (3, .int (x3)), (4, .int (x4)), (5, .int (x5))]) (st' := [.int 20, .int 2]) rfl ?_
  refine T_b2f xr_201_22 rfl (t := 105) (pc' := 25) rfl rfl ?_
  refine T_p xr_201_25 xn_201 (pc' := 27) (ls' := [(6, .int 2), (7, .int (x1)), (0, .ref 530), (1, .int (x1)), (2, .int (x2)), (3, .int (x3)), (4, .int (x4)), (5, .int (x5))]) (st' := [.int 2]) rfl ?_
  refine T_p xr_201_27 xn_201 (pc' := 28) (ls' := [(6, .int 2), (7, .int (x1)), (0, .ref 530), (1, .int (x1)), (2, .int (x2)), (3, .int (x3)), (4, .int (x4)), (5, .int (x5))]) (st' := [.int 4, .int 2]) rfl ?_
  refine T_b2f xr_201_28 rfl (t := 35) (pc' := 31) rfl rfl ?_
  refine T_p xr_201_31 xn_201 (pc' := 32) (ls' := [(6, .int 2), (7, .int (x1)), (0, .ref 530), (1, .int (x1)), (2, .int (x2)), (3, .int (x3)), (4, .int (x4)), (5, .int (x5))]) (st' := [.int (x1)]) rfl ?_
  refine T_p xr_201_32 xn_201 (pc' := 71) (ls' := [(6, .int 2), (7, .int (x1)), (0, .ref 530), (1, .int (x1)), (2, .int (x2)), (3, .int (x3)), (4, .int (x4)), (5, .int (x5))]) (st' := [.int (x1)]) rfl ?_
  refine T_p xr_201_71 xn_201 (pc' := 73) (ls' := [(7, .int (x1)), (6, .int 2), (0, .ref 530), (1, .int (x1)), (2, .int (x2)), (3, .int (x3)), (4, .int (x4)), (5, .int (x5))]) (st' := []) rfl ?_
  refine T_p xr_201_73 xn_201 (pc' := 74) (ls' := [(7, .int (x1)), (6, .int 2), (0, .ref 530), (1, .int (x1)), (2, .int (x2)), (3, .int (x3)), (4, .int (x4)), (5, .int (x5))]) (st' := [.ref 530]) rfl ?_
  refine T_get xr_201_74 h418 rfl (v := .ref 531) rfl (pc' := 77) rfl ?_
  refine T_p xr_201_77 xn_201 (pc' := 78) (ls' := [(7, .int (x1)), (6, .int 2), (0, .ref 530), (1, .int (x1)), (2, .int (x2)), (3, .int (x3)), (4, .int (x4)), (5, .int (x5))]) (st' := [.ref 530, .ref 531]) rfl ?_
  refine T_get xr_201_78 h418 rfl (v := .int 0) rfl (pc' := 81) rfl ?_
  refine T_p xr_201_81 xn_201 (pc' := 83) (ls' := [(7, .int (x1)), (6, .int 2), (0, .ref 530), (1, .int (x1)), (2, .int (x2)), (3, .int (x3)), (4, .int (x4)), (5, .int (x5))]) (st' := [.int 2, .int 0, .ref 531]) rfl ?_
  refine T_p xr_201_83 xn_201 (pc' := 84) (ls' := [(7, .int (x1)), (6, .int 2), (0, .ref 530), (1, .int (x1)), (2, .int (x2)), (3, .int (x3)), (4, .int (x4)), (5, .int (x5))]) (st' := [.int 2, .ref 531]) rfl ?_
  refine T_p xr_201_84 xn_201 (pc' := 86) (ls' := [(7, .int (x1)), (6, .int 2), (0, .ref 530), (1, .int (x1)), (2, .int (x2)), (3, .int (x3)), (4, .int (x4)), (5, .int (x5))]) (st' := [.int (x1), .int 2, .ref 531]) rfl ?_
  refine T_p xr_201_86 xn_201 (pc' := 88) (ls' := [(7, .int (x1)), (6, .int 2), (0, .ref 530), (1, .int (x1)), (2, .int (x2)), (3, .int (x3)), (4, .int (x4)), (5, .int (x5))]) (st' := [.int 24, .int (x1), .int 2, .ref 531]) rfl ?_
  refine T_p xr_201_88 xn_201 (pc' := 90) (ls' := [(7, .int (x1)), (6, .int 2), (0, .ref 530), (1, .int (x1)), (2, .int (x2)), (3, .int (x3)), (4, .int (x4)), (5, .int (x5))]) (st' := [.int 8, .int 24, .int (x1), .int 2, .ref 531]) rfl ?_
  refine T_p xr_201_90 xn_201 (pc' := 92) (ls' := [(7, .int (x1)), (6, .int 2), (0, .ref 530), (1, .int (x1)), (2, .int (x2)), (3, .int (x3)), (4, .int (x4)), (5, .int (x5))]) (st' := [.int 2, .int 8, .int 24, .int (x1), .int 2, .ref 531]) rfl ?_
  refine T_p xr_201_92 xn_201 (pc' := 93) (ls' := [(7, .int (x1)), (6, .int 2), (0, .ref 530), (1, .int (x1)), (2, .int (x2)), (3, .int (x3)), (4, .int (x4)), (5, .int (x5))]) (st' := [.int 3, .int 2, .int 8, .int 24, .int (x1), .int 2, .ref 531]) rfl ?_
  refine T_p xr_201_93 xn_201 (pc' := 94) (ls' := [(7, .int (x1)), (6, .int 2), (0, .ref 530), (1, .int (x1)), (2, .int (x2)), (3, .int (x3)), (4, .int (x4)), (5, .int (x5))]) (st' := [.int 2, .int 8, .int 24, .int (x1), .int 2, .ref 531]) rfl ?_
  refine T_p xr_201_94 xn_201 (pc' := 95) (ls' := [(7, .int (x1)), (6, .int 2), (0, .ref 530), (1, .int (x1)), (2, .int (x2)), (3, .int (x3)), (4, .int (x4)), (5, .int (x5))]) (st' := [.int 16, .int 24, .int (x1), .int 2, .ref 531]) rfl ?_
  refine T_p xr_201_95 xn_201 (pc' := 96) (ls' := [(7, .int (x1)), (6, .int 2), (0, .ref 530), (1, .int (x1)), (2, .int (x2)), (3, .int (x3)), (4, .int (x4)), (5, .int (x5))]) (st' := [.int 8, .int (x1), .int 2, .ref 531]) rfl ?_
  refine T_p xr_201_96 xn_201 (pc' := 97) (ls' := [(7, .int (x1)), (6, .int 2), (0, .ref 530), (1, .int (x1)), (2, .int (x2)), (3, .int (x3)), (4, .int (x4)), (5, .int (x5))]) (st' := [.int (((x1 : Int32) >>> ((8 : Int32) &&& 31))), .int 2, .ref 531]) rfl ?_
  refine T_p xr_201_97 xn_201 (pc' := 98) (ls' := [(7, .int (x1)), (6, .int 2), (0, .ref 530), (1, .int (x1)), (2, .int (x2)), (3, .int (x3)), (4, .int (x4)), (5, .int (x5))]) (st' := [.int ((((x1 : Int32) >>> ((8 : Int32) &&& 31))).toInt8.toInt32), .int 2, .ref 531]) rfl ?_
  refine T_bast xr_201_98 h422 (by decide) (pc' := 99) rfl (fun S423 h424 n425 e426 => ?_)
  have h427 := (n425 1 (by decide)).trans h416
  have h428 := (n425 2 (by decide)).trans h417
  have h429 := (n425 530 (by decide)).trans h418
  have h430 := (n425 3 (by decide)).trans h419
  have hs431 := e426.trans hs420
  obtain ⟨f432, h433⟩ : ∃ z, S423.1 531 = .inl (.byte, 2020, .inl z) := ⟨_, h424⟩
  refine T_p xr_201_99 xn_201 (pc' := 102) (ls' := [(6, .int 3), (7, .int (x1)), (0, .ref 530), (1, .int (x1)), (2, .int (x2)), (3, .int (x3)), (4, .int (x4)), (5, .int (x5))]) (st' := []) rfl ?_
  refine T_p xr_201_102 xn_201 (pc' := 18) (ls' := [(6, .int 3), (7, .int (x1)), (0, .ref 530), (1, .int (x1)), (2, .int (x2)), (3, .int (x3)), (4, .int (x4)), (5, .int (x5))]) (st' := []) rfl ?_
  refine T_p xr_201_18 xn_201 (pc' := 20) (ls' := [(6, .int 3), (7, .int (x1)), (0, .ref 530), (1, .int (x1)), (2, .int (x2)), (3, .int (x3)), (4, .int (x4)), (5, .int (x5))]) (st' := [.int 3]) rfl ?_
  refine T_p xr_201_20 xn_201 (pc' := 22) (ls' := [(6, .int 3), (7, .int (x1)), (0, .ref 530), (1, .int (x1)), (2, .int (x2)), (3, .int (x3)), (4, .int (x4)), (5, .int (x5))]) (st' := [.int 20, .int 3]) rfl ?_
  refine T_b2f xr_201_22 rfl (t := 105) (pc' := 25) rfl rfl ?_
  refine T_p xr_201_25 xn_201 (pc' := 27) (ls' := [(6, .int 3), (7, .int (x1)), (0, .ref 530), (1, .int (x1)), (2, .int (x2)), (3, .int (x3)), (4, .int (x4)), (5, .int (x5))]) (st' := [.int 3]) rfl ?_
  refine T_p xr_201_27 xn_201 (pc' := 28) (ls' := [(6, .int 3), (7, .int (x1)), (0, .ref 530), (1, .int (x1)), (2, .int (x2)), (3, .int (x3)), (4, .int (x4)), (5, .int (x5))]) (st' := [.int 4, .int 3]) rfl ?_
  refine T_b2f xr_201_28 rfl (t := 35) (pc' := 31) rfl rfl ?_
  refine T_p xr_201_31 xn_201 (pc' := 32) (ls' := [(6, .int 3), (7, .int (x1)), (0, .ref 530), (1, .int (x1)), (2, .int (x2)), (3, .int (x3)), (4, .int (x4)), (5, .int (x5))]) (st' := [.int (x1)]) rfl ?_
  refine T_p xr_201_32 xn_201 (pc' := 71) (ls' := [(6, .int 3), (7, .int (x1)), (0, .ref 530), (1, .int (x1)), (2, .int (x2)), (3, .int (x3)), (4, .int (x4)), (5, .int (x5))]) (st' := [.int (x1)]) rfl ?_
  refine T_p xr_201_71 xn_201 (pc' := 73) (ls' := [(7, .int (x1)), (6, .int 3), (0, .ref 530), (1, .int (x1)), (2, .int (x2)), (3, .int (x3)), (4, .int (x4)), (5, .int (x5))]) (st' := []) rfl ?_
  refine T_p xr_201_73 xn_201 (pc' := 74) (ls' := [(7, .int (x1)), (6, .int 3), (0, .ref 530), (1, .int (x1)), (2, .int (x2)), (3, .int (x3)), (4, .int (x4)), (5, .int (x5))]) (st' := [.ref 530]) rfl ?_
  refine T_get xr_201_74 h429 rfl (v := .ref 531) rfl (pc' := 77) rfl ?_
  refine T_p xr_201_77 xn_201 (pc' := 78) (ls' := [(7, .int (x1)), (6, .int 3), (0, .ref 530), (1, .int (x1)), (2, .int (x2)), (3, .int (x3)), (4, .int (x4)), (5, .int (x5))]) (st' := [.ref 530, .ref 531]) rfl ?_
  refine T_get xr_201_78 h429 rfl (v := .int 0) rfl (pc' := 81) rfl ?_
  refine T_p xr_201_81 xn_201 (pc' := 83) (ls' := [(7, .int (x1)), (6, .int 3), (0, .ref 530), (1, .int (x1)), (2, .int (x2)), (3, .int (x3)), (4, .int (x4)), (5, .int (x5))]) (st' := [.int 3, .int 0, .ref 531]) rfl ?_
  refine T_p xr_201_83 xn_201 (pc' := 84) (ls' := [(7, .int (x1)), (6, .int 3), (0, .ref 530), (1, .int (x1)), (2, .int (x2)), (3, .int (x3)), (4, .int (x4)), (5, .int (x5))]) (st' := [.int 3, .ref 531]) rfl ?_
  refine T_p xr_201_84 xn_201 (pc' := 86) (ls' := [(7, .int (x1)), (6, .int 3), (0, .ref 530), (1, .int (x1)), (2, .int (x2)), (3, .int (x3)), (4, .int (x4)), (5, .int (x5))]) (st' := [.int (x1), .int 3, .ref 531]) rfl ?_
  refine T_p xr_201_86 xn_201 (pc' := 88) (ls' := [(7, .int (x1)), (6, .int 3), (0, .ref 530), (1, .int (x1)), (2, .int (x2)), (3, .int (x3)), (4, .int (x4)), (5, .int (x5))]) (st' := [.int 24, .int (x1), .int 3, .ref 531]) rfl ?_
  refine T_p xr_201_88 xn_201 (pc' := 90) (ls' := [(7, .int (x1)), (6, .int 3), (0, .ref 530), (1, .int (x1)), (2, .int (x2)), (3, .int (x3)), (4, .int (x4)), (5, .int (x5))]) (st' := [.int 8, .int 24, .int (x1), .int 3, .ref 531]) rfl ?_
  refine T_p xr_201_90 xn_201 (pc' := 92) (ls' := [(7, .int (x1)), (6, .int 3), (0, .ref 530), (1, .int (x1)), (2, .int (x2)), (3, .int (x3)), (4, .int (x4)), (5, .int (x5))]) (st' := [.int 3, .int 8, .int 24, .int (x1), .int 3, .ref 531]) rfl ?_
  refine T_p xr_201_92 xn_201 (pc' := 93) (ls' := [(7, .int (x1)), (6, .int 3), (0, .ref 530), (1, .int (x1)), (2, .int (x2)), (3, .int (x3)), (4, .int (x4)), (5, .int (x5))]) (st' := [.int 3, .int 3, .int 8, .int 24, .int (x1), .int 3, .ref 531]) rfl ?_
  refine T_p xr_201_93 xn_201 (pc' := 94) (ls' := [(7, .int (x1)), (6, .int 3), (0, .ref 530), (1, .int (x1)), (2, .int (x2)), (3, .int (x3)), (4, .int (x4)), (5, .int (x5))]) (st' := [.int 3, .int 8, .int 24, .int (x1), .int 3, .ref 531]) rfl ?_
  refine T_p xr_201_94 xn_201 (pc' := 95) (ls' := [(7, .int (x1)), (6, .int 3), (0, .ref 530), (1, .int (x1)), (2, .int (x2)), (3, .int (x3)), (4, .int (x4)), (5, .int (x5))]) (st' := [.int 24, .int 24, .int (x1), .int 3, .ref 531]) rfl ?_
  refine T_p xr_201_95 xn_201 (pc' := 96) (ls' := [(7, .int (x1)), (6, .int 3), (0, .ref 530), (1, .int (x1)), (2, .int (x2)), (3, .int (x3)), (4, .int (x4)), (5, .int (x5))]) (st' := [.int 0, .int (x1), .int 3, .ref 531]) rfl ?_
  refine T_p xr_201_96 xn_201 (pc' := 97) (ls' := [(7, .int (x1)), (6, .int 3), (0, .ref 530), (1, .int (x1)), (2, .int (x2)), (3, .int (x3)), (4, .int (x4)), (5, .int (x5))]) (st' := [.int (((x1 : Int32) >>> ((0 : Int32) &&& 31))), .int 3, .ref 531]) rfl ?_
  refine T_p xr_201_97 xn_201 (pc' := 98) (ls' := [(7, .int (x1)), (6, .int 3), (0, .ref 530), (1, .int (x1)), (2, .int (x2)), (3, .int (x3)), (4, .int (x4)), (5, .int (x5))]) (st' := [.int ((((x1 : Int32) >>> ((0 : Int32) &&& 31))).toInt8.toInt32), .int 3, .ref 531]) rfl ?_
  refine T_bast xr_201_98 h433 (by decide) (pc' := 99) rfl (fun S434 h435 n436 e437 => ?_)
  have h438 := (n436 1 (by decide)).trans h427
  have h439 := (n436 2 (by decide)).trans h428
  have h440 := (n436 530 (by decide)).trans h429
  have h441 := (n436 3 (by decide)).trans h430
  have hs442 := e437.trans hs431
  obtain ⟨f443, h444⟩ : ∃ z, S434.1 531 = .inl (.byte, 2020, .inl z) := ⟨_, h435⟩
  refine T_p xr_201_99 xn_201 (pc' := 102) (ls' := [(6, .int 4), (7, .int (x1)), (0, .ref 530), (1, .int (x1)), (2, .int (x2)), (3, .int (x3)), (4, .int (x4)), (5, .int (x5))]) (st' := []) rfl ?_
  refine T_p xr_201_102 xn_201 (pc' := 18) (ls' := [(6, .int 4), (7, .int (x1)), (0, .ref 530), (1, .int (x1)), (2, .int (x2)), (3, .int (x3)), (4, .int (x4)), (5, .int (x5))]) (st' := []) rfl ?_
  refine T_p xr_201_18 xn_201 (pc' := 20) (ls' := [(6, .int 4), (7, .int (x1)), (0, .ref 530), (1, .int (x1)), (2, .int (x2)), (3, .int (x3)), (4, .int (x4)), (5, .int (x5))]) (st' := [.int 4]) rfl ?_
  refine T_p xr_201_20 xn_201 (pc' := 22) (ls' := [(6, .int 4), (7, .int (x1)), (0, .ref 530), (1, .int (x1)), (2, .int (x2)), (3, .int (x3)), (4, .int (x4)), (5, .int (x5))]) (st' := [.int 20, .int 4]) rfl ?_
  refine T_b2f xr_201_22 rfl (t := 105) (pc' := 25) rfl rfl ?_
  refine T_p xr_201_25 xn_201 (pc' := 27) (ls' := [(6, .int 4), (7, .int (x1)), (0, .ref 530), (1, .int (x1)), (2, .int (x2)), (3, .int (x3)), (4, .int (x4)), (5, .int (x5))]) (st' := [.int 4]) rfl ?_
  refine T_p xr_201_27 xn_201 (pc' := 28) (ls' := [(6, .int 4), (7, .int (x1)), (0, .ref 530), (1, .int (x1)), (2, .int (x2)), (3, .int (x3)), (4, .int (x4)), (5, .int (x5))]) (st' := [.int 4, .int 4]) rfl ?_
  refine T_b2t xr_201_28 rfl (t := 35) rfl ?_
  refine T_p xr_201_35 xn_201 (pc' := 37) (ls' := [(6, .int 4), (7, .int (x1)), (0, .ref 530), (1, .int (x1)), (2, .int (x2)), (3, .int (x3)), (4, .int (x4)), (5, .int (x5))]) (st' := [.int 4]) rfl ?_
  refine T_p xr_201_37 xn_201 (pc' := 39) (ls' := [(6, .int 4), (7, .int (x1)), (0, .ref 530), (1, .int (x1)), (2, .int (x2)), (3, .int (x3)), (4, .int (x4)), (5, .int (x5))]) (st' := [.int 8, .int 4]) rfl ?_
  refine T_b2f xr_201_39 rfl (t := 46) (pc' := 42) rfl rfl ?_
  refine T_p xr_201_42 xn_201 (pc' := 43) (ls' := [(6, .int 4), (7, .int (x1)), (0, .ref 530), (1, .int (x1)), (2, .int (x2)), (3, .int (x3)), (4, .int (x4)), (5, .int (x5))]) (st' := [.int (x2)]) rfl ?_
  refine T_p xr_201_43 xn_201 (pc' := 71) (ls' := [(6, .int 4), (7, .int (x1)), (0, .ref 530), (1, .int (x1)), (2, .int (x2)), (3, .int (x3)), (4, .int (x4)), (5, .int (x5))]) (st' := [.int (x2)]) rfl ?_
  refine T_p xr_201_71 xn_201 (pc' := 73) (ls' := [(7, .int (x2)), (6, .int 4), (0, .ref 530), (1, .int (x1)), (2, .int (x2)), (3, .int (x3)), (4, .int (x4)), (5, .int (x5))]) (st' := []) rfl ?_
  refine T_p xr_201_73 xn_201 (pc' := 74) (ls' := [(7, .int (x2)), (6, .int 4), (0, .ref 530), (1, .int (x1)), (2, .int (x2)), (3, .int (x3)), (4, .int (x4)), (5, .int (x5))]) (st' := [.ref 530]) rfl ?_
  refine T_get xr_201_74 h440 rfl (v := .ref 531) rfl (pc' := 77) rfl ?_
  refine T_p xr_201_77 xn_201 (pc' := 78) (ls' := [(7, .int (x2)), (6, .int 4), (0, .ref 530), (1, .int (x1)), (2, .int (x2)), (3, .int (x3)), (4, .int (x4)), (5, .int (x5))]) (st' := [.ref 530, .ref 531]) rfl ?_
  refine T_get xr_201_78 h440 rfl (v := .int 0) rfl (pc' := 81) rfl ?_
  refine T_p xr_201_81 xn_201 (pc' := 83) (ls' := [(7, .int (x2)), (6, .int 4), (0, .ref 530), (1, .int (x1)), (2, .int (x2)), (3, .int (x3)), (4, .int (x4)), (5, .int (x5))]) (st' := [.int 4, .int 0, .ref 531]) rfl ?_
  refine T_p xr_201_83 xn_201 (pc' := 84) (ls' := [(7, .int (x2)), (6, .int 4), (0, .ref 530), (1, .int (x1)), (2, .int (x2)), (3, .int (x3)), (4, .int (x4)), (5, .int (x5))]) (st' := [.int 4, .ref 531]) rfl ?_
  refine T_p xr_201_84 xn_201 (pc' := 86) (ls' := [(7, .int (x2)), (6, .int 4), (0, .ref 530), (1, .int (x1)), (2, .int (x2)), (3, .int (x3)), (4, .int (x4)), (5, .int (x5))]) (st' := [.int (x2), .int 4, .ref 531]) rfl ?_
  refine T_p xr_201_86 xn_201 (pc' := 88) (ls' := [(7, .int (x2)), (6, .int 4), (0, .ref 530), (1, .int (x1)), (2, .int (x2)), (3, .int (x3)), (4, .int (x4)), (5, .int (x5))]) (st' := [.int 24, .int (x2), .int 4, .ref 531]) rfl ?_
  refine T_p xr_201_88 xn_201 (pc' := 90) (ls' := [(7, .int (x2)), (6, .int 4), (0, .ref 530), (1, .int (x1)), (2, .int (x2)), (3, .int (x3)), (4, .int (x4)), (5, .int (x5))]) (st' := [.int 8, .int 24, .int (x2), .int 4, .ref 531]) rfl ?_
  refine T_p xr_201_90 xn_201 (pc' := 92) (ls' := [(7, .int (x2)), (6, .int 4), (0, .ref 530), (1, .int (x1)), (2, .int (x2)), (3, .int (x3)), (4, .int (x4)), (5, .int (x5))]) (st' := [.int 4, .int 8, .int 24, .int (x2), .int 4, .ref 531]) rfl ?_
  refine T_p xr_201_92 xn_201 (pc' := 93) (ls' := [(7, .int (x2)), (6, .int 4), (0, .ref 530), (1, .int (x1)), (2, .int (x2)), (3, .int (x3)), (4, .int (x4)), (5, .int (x5))]) (st' := [.int 3, .int 4, .int 8, .int 24, .int (x2), .int 4, .ref 531]) rfl ?_
  refine T_p xr_201_93 xn_201 (pc' := 94) (ls' := [(7, .int (x2)), (6, .int 4), (0, .ref 530), (1, .int (x1)), (2, .int (x2)), (3, .int (x3)), (4, .int (x4)), (5, .int (x5))]) (st' := [.int 0, .int 8, .int 24, .int (x2), .int 4, .ref 531]) rfl ?_
  refine T_p xr_201_94 xn_201 (pc' := 95) (ls' := [(7, .int (x2)), (6, .int 4), (0, .ref 530), (1, .int (x1)), (2, .int (x2)), (3, .int (x3)), (4, .int (x4)), (5, .int (x5))]) (st' := [.int 0, .int 24, .int (x2), .int 4, .ref 531]) rfl ?_
  refine T_p xr_201_95 xn_201 (pc' := 96) (ls' := [(7, .int (x2)), (6, .int 4), (0, .ref 530), (1, .int (x1)), (2, .int (x2)), (3, .int (x3)), (4, .int (x4)), (5, .int (x5))]) (st' := [.int 24, .int (x2), .int 4, .ref 531]) rfl ?_
  refine T_p xr_201_96 xn_201 (pc' := 97) (ls' := [(7, .int (x2)), (6, .int 4), (0, .ref 530), (1, .int (x1)), (2, .int (x2)), (3, .int (x3)), (4, .int (x4)), (5, .int (x5))]) (st' := [.int (((x2 : Int32) >>> ((24 : Int32) &&& 31))), .int 4, .ref 531]) rfl ?_
  refine T_p xr_201_97 xn_201 (pc' := 98) (ls' := [(7, .int (x2)), (6, .int 4), (0, .ref 530), (1, .int (x1)), (2, .int (x2)), (3, .int (x3)), (4, .int (x4)), (5, .int (x5))]) (st' := [.int ((((x2 : Int32) >>> ((24 : Int32) &&& 31))).toInt8.toInt32), .int 4, .ref 531]) rfl ?_
  refine T_bast xr_201_98 h444 (by decide) (pc' := 99) rfl (fun S445 h446 n447 e448 => ?_)
  have h449 := (n447 1 (by decide)).trans h438
  have h450 := (n447 2 (by decide)).trans h439
  have h451 := (n447 530 (by decide)).trans h440
  have h452 := (n447 3 (by decide)).trans h441
  have hs453 := e448.trans hs442
  obtain ⟨f454, h455⟩ : ∃ z, S445.1 531 = .inl (.byte, 2020, .inl z) := ⟨_, h446⟩
  refine T_p xr_201_99 xn_201 (pc' := 102) (ls' := [(6, .int 5), (7, .int (x2)), (0, .ref 530), (1, .int (x1)), (2, .int (x2)), (3, .int (x3)), (4, .int (x4)), (5, .int (x5))]) (st' := []) rfl ?_
  refine T_p xr_201_102 xn_201 (pc' := 18) (ls' := [(6, .int 5), (7, .int (x2)), (0, .ref 530), (1, .int (x1)), (2, .int (x2)), (3, .int (x3)), (4, .int (x4)), (5, .int (x5))]) (st' := []) rfl ?_
  refine T_p xr_201_18 xn_201 (pc' := 20) (ls' := [(6, .int 5), (7, .int (x2)), (0, .ref 530), (1, .int (x1)), (2, .int (x2)), (3, .int (x3)), (4, .int (x4)), (5, .int (x5))]) (st' := [.int 5]) rfl ?_
  refine T_p xr_201_20 xn_201 (pc' := 22) (ls' := [(6, .int 5), (7, .int (x2)), (0, .ref 530), (1, .int (x1)), (2, .int (x2)), (3, .int (x3)), (4, .int (x4)), (5, .int (x5))]) (st' := [.int 20, .int 5]) rfl ?_
  refine T_b2f xr_201_22 rfl (t := 105) (pc' := 25) rfl rfl ?_
  refine T_p xr_201_25 xn_201 (pc' := 27) (ls' := [(6, .int 5), (7, .int (x2)), (0, .ref 530), (1, .int (x1)), (2, .int (x2)), (3, .int (x3)), (4, .int (x4)), (5, .int (x5))]) (st' := [.int 5]) rfl ?_
  refine T_p xr_201_27 xn_201 (pc' := 28) (ls' := [(6, .int 5), (7, .int (x2)), (0, .ref 530), (1, .int (x1)), (2, .int (x2)), (3, .int (x3)), (4, .int (x4)), (5, .int (x5))]) (st' := [.int 4, .int 5]) rfl ?_
  refine T_b2t xr_201_28 rfl (t := 35) rfl ?_
  refine T_p xr_201_35 xn_201 (pc' := 37) (ls' := [(6, .int 5), (7, .int (x2)), (0, .ref 530), (1, .int (x1)), (2, .int (x2)), (3, .int (x3)), (4, .int (x4)), (5, .int (x5))]) (st' := [.int 5]) rfl ?_
  refine T_p xr_201_37 xn_201 (pc' := 39) (ls' := [(6, .int 5), (7, .int (x2)), (0, .ref 530), (1, .int (x1)), (2, .int (x2)), (3, .int (x3)), (4, .int (x4)), (5, .int (x5))]) (st' := [.int 8, .int 5]) rfl ?_
  refine T_b2f xr_201_39 rfl (t := 46) (pc' := 42) rfl rfl ?_
  refine T_p xr_201_42 xn_201 (pc' := 43) (ls' := [(6, .int 5), (7, .int (x2)), (0, .ref 530), (1, .int (x1)), (2, .int (x2)), (3, .int (x3)), (4, .int (x4)), (5, .int (x5))]) (st' := [.int (x2)]) rfl ?_
  refine T_p xr_201_43 xn_201 (pc' := 71) (ls' := [(6, .int 5), (7, .int (x2)), (0, .ref 530), (1, .int (x1)), (2, .int (x2)), (3, .int (x3)), (4, .int (x4)), (5, .int (x5))]) (st' := [.int (x2)]) rfl ?_
  refine T_p xr_201_71 xn_201 (pc' := 73) (ls' := [(7, .int (x2)), (6, .int 5), (0, .ref 530), (1, .int (x1)), (2, .int (x2)), (3, .int (x3)), (4, .int (x4)), (5, .int (x5))]) (st' := []) rfl ?_
  refine T_p xr_201_73 xn_201 (pc' := 74) (ls' := [(7, .int (x2)), (6, .int 5), (0, .ref 530), (1, .int (x1)), (2, .int (x2)), (3, .int (x3)), (4, .int (x4)), (5, .int (x5))]) (st' := [.ref 530]) rfl ?_
  refine T_get xr_201_74 h451 rfl (v := .ref 531) rfl (pc' := 77) rfl ?_
  refine T_p xr_201_77 xn_201 (pc' := 78) (ls' := [(7, .int (x2)), (6, .int 5), (0, .ref 530), (1, .int (x1)), (2, .int (x2)), (3, .int (x3)), (4, .int (x4)), (5, .int (x5))]) (st' := [.ref 530, .ref 531]) rfl ?_
  refine T_get xr_201_78 h451 rfl (v := .int 0) rfl (pc' := 81) rfl ?_
  refine T_p xr_201_81 xn_201 (pc' := 83) (ls' := [(7, .int (x2)), (6, .int 5), (0, .ref 530), (1, .int (x1)), (2, .int (x2)), (3, .int (x3)), (4, .int (x4)), (5, .int (x5))]) (st' := [.int 5, .int 0, .ref 531]) rfl ?_
  refine T_p xr_201_83 xn_201 (pc' := 84) (ls' := [(7, .int (x2)), (6, .int 5), (0, .ref 530), (1, .int (x1)), (2, .int (x2)), (3, .int (x3)), (4, .int (x4)), (5, .int (x5))]) (st' := [.int 5, .ref 531]) rfl ?_
  refine T_p xr_201_84 xn_201 (pc' := 86) (ls' := [(7, .int (x2)), (6, .int 5), (0, .ref 530), (1, .int (x1)), (2, .int (x2)), (3, .int (x3)), (4, .int (x4)), (5, .int (x5))]) (st' := [.int (x2), .int 5, .ref 531]) rfl ?_
  refine T_p xr_201_86 xn_201 (pc' := 88) (ls' := [(7, .int (x2)), (6, .int 5), (0, .ref 530), (1, .int (x1)), (2, .int (x2)), (3, .int (x3)), (4, .int (x4)), (5, .int (x5))]) (st' := [.int 24, .int (x2), .int 5, .ref 531]) rfl ?_
  refine T_p xr_201_88 xn_201 (pc' := 90) (ls' := [(7, .int (x2)), (6, .int 5), (0, .ref 530), (1, .int (x1)), (2, .int (x2)), (3, .int (x3)), (4, .int (x4)), (5, .int (x5))]) (st' := [.int 8, .int 24, .int (x2), .int 5, .ref 531]) rfl ?_
  refine T_p xr_201_90 xn_201 (pc' := 92) (ls' := [(7, .int (x2)), (6, .int 5), (0, .ref 530), (1, .int (x1)), (2, .int (x2)), (3, .int (x3)), (4, .int (x4)), (5, .int (x5))]) (st' := [.int 5, .int 8, .int 24, .int (x2), .int 5, .ref 531]) rfl ?_
  refine T_p xr_201_92 xn_201 (pc' := 93) (ls' := [(7, .int (x2)), (6, .int 5), (0, .ref 530), (1, .int (x1)), (2, .int (x2)), (3, .int (x3)), (4, .int (x4)), (5, .int (x5))]) (st' := [.int 3, .int 5, .int 8, .int 24, .int (x2), .int 5, .ref 531]) rfl ?_
  refine T_p xr_201_93 xn_201 (pc' := 94) (ls' := [(7, .int (x2)), (6, .int 5), (0, .ref 530), (1, .int (x1)), (2, .int (x2)), (3, .int (x3)), (4, .int (x4)), (5, .int (x5))]) (st' := [.int 1, .int 8, .int 24, .int (x2), .int 5, .ref 531]) rfl ?_
  refine T_p xr_201_94 xn_201 (pc' := 95) (ls' := [(7, .int (x2)), (6, .int 5), (0, .ref 530), (1, .int (x1)), (2, .int (x2)), (3, .int (x3)), (4, .int (x4)), (5, .int (x5))]) (st' := [.int 8, .int 24, .int (x2), .int 5, .ref 531]) rfl ?_
  refine T_p xr_201_95 xn_201 (pc' := 96) (ls' := [(7, .int (x2)), (6, .int 5), (0, .ref 530), (1, .int (x1)), (2, .int (x2)), (3, .int (x3)), (4, .int (x4)), (5, .int (x5))]) (st' := [.int 16, .int (x2), .int 5, .ref 531]) rfl ?_
  refine T_p xr_201_96 xn_201 (pc' := 97) (ls' := [(7, .int (x2)), (6, .int 5), (0, .ref 530), (1, .int (x1)), (2, .int (x2)), (3, .int (x3)), (4, .int (x4)), (5, .int (x5))]) (st' := [.int (((x2 : Int32) >>> ((16 : Int32) &&& 31))), .int 5, .ref 531]) rfl ?_
  refine T_p xr_201_97 xn_201 (pc' := 98) (ls' := [(7, .int (x2)), (6, .int 5), (0, .ref 530), (1, .int (x1)), (2, .int (x2)), (3, .int (x3)), (4, .int (x4)), (5, .int (x5))]) (st' := [.int ((((x2 : Int32) >>> ((16 : Int32) &&& 31))).toInt8.toInt32), .int 5, .ref 531]) rfl ?_
  refine T_bast xr_201_98 h455 (by decide) (pc' := 99) rfl (fun S456 h457 n458 e459 => ?_)
  have h460 := (n458 1 (by decide)).trans h449
  have h461 := (n458 2 (by decide)).trans h450
  have h462 := (n458 530 (by decide)).trans h451
  have h463 := (n458 3 (by decide)).trans h452
  have hs464 := e459.trans hs453
  obtain ⟨f465, h466⟩ : ∃ z, S456.1 531 = .inl (.byte, 2020, .inl z) := ⟨_, h457⟩
  refine T_p xr_201_99 xn_201 (pc' := 102) (ls' := [(6, .int 6), (7, .int (x2)), (0, .ref 530), (1, .int (x1)), (2, .int (x2)), (3, .int (x3)), (4, .int (x4)), (5, .int (x5))]) (st' := []) rfl ?_
  refine T_p xr_201_102 xn_201 (pc' := 18) (ls' := [(6, .int 6), (7, .int (x2)), (0, .ref 530), (1, .int (x1)), (2, .int (x2)), (3, .int (x3)), (4, .int (x4)), (5, .int (x5))]) (st' := []) rfl ?_
  refine T_p xr_201_18 xn_201 (pc' := 20) (ls' := [(6, .int 6), (7, .int (x2)), (0, .ref 530), (1, .int (x1)), (2, .int (x2)), (3, .int (x3)), (4, .int (x4)), (5, .int (x5))]) (st' := [.int 6]) rfl ?_
  refine T_p xr_201_20 xn_201 (pc' := 22) (ls' := [(6, .int 6), (7, .int (x2)), (0, .ref 530), (1, .int (x1)), (2, .int (x2)), (3, .int (x3)), (4, .int (x4)), (5, .int (x5))]) (st' := [.int 20, .int 6]) rfl ?_
  refine T_b2f xr_201_22 rfl (t := 105) (pc' := 25) rfl rfl ?_
  refine T_p xr_201_25 xn_201 (pc' := 27) (ls' := [(6, .int 6), (7, .int (x2)), (0, .ref 530), (1, .int (x1)), (2, .int (x2)), (3, .int (x3)), (4, .int (x4)), (5, .int (x5))]) (st' := [.int 6]) rfl ?_
  refine T_p xr_201_27 xn_201 (pc' := 28) (ls' := [(6, .int 6), (7, .int (x2)), (0, .ref 530), (1, .int (x1)), (2, .int (x2)), (3, .int (x3)), (4, .int (x4)), (5, .int (x5))]) (st' := [.int 4, .int 6]) rfl ?_
  refine T_b2t xr_201_28 rfl (t := 35) rfl ?_
  refine T_p xr_201_35 xn_201 (pc' := 37) (ls' := [(6, .int 6), (7, .int (x2)), (0, .ref 530), (1, .int (x1)), (2, .int (x2)), (3, .int (x3)), (4, .int (x4)), (5, .int (x5))]) (st' := [.int 6]) rfl ?_
  refine T_p xr_201_37 xn_201 (pc' := 39) (ls' := [(6, .int 6), (7, .int (x2)), (0, .ref 530), (1, .int (x1)), (2, .int (x2)), (3, .int (x3)), (4, .int (x4)), (5, .int (x5))]) (st' := [.int 8, .int 6]) rfl ?_
  refine T_b2f xr_201_39 rfl (t := 46) (pc' := 42) rfl rfl ?_
  refine T_p xr_201_42 xn_201 (pc' := 43) (ls' := [(6, .int 6), (7, .int (x2)), (0, .ref 530), (1, .int (x1)), (2, .int (x2)), (3, .int (x3)), (4, .int (x4)), (5, .int (x5))]) (st' := [.int (x2)]) rfl ?_
  refine T_p xr_201_43 xn_201 (pc' := 71) (ls' := [(6, .int 6), (7, .int (x2)), (0, .ref 530), (1, .int (x1)), (2, .int (x2)), (3, .int (x3)), (4, .int (x4)), (5, .int (x5))]) (st' := [.int (x2)]) rfl ?_
  refine T_p xr_201_71 xn_201 (pc' := 73) (ls' := [(7, .int (x2)), (6, .int 6), (0, .ref 530), (1, .int (x1)), (2, .int (x2)), (3, .int (x3)), (4, .int (x4)), (5, .int (x5))]) (st' := []) rfl ?_
  refine T_p xr_201_73 xn_201 (pc' := 74) (ls' := [(7, .int (x2)), (6, .int 6), (0, .ref 530), (1, .int (x1)), (2, .int (x2)), (3, .int (x3)), (4, .int (x4)), (5, .int (x5))]) (st' := [.ref 530]) rfl ?_
  refine T_get xr_201_74 h462 rfl (v := .ref 531) rfl (pc' := 77) rfl ?_
  refine T_p xr_201_77 xn_201 (pc' := 78) (ls' := [(7, .int (x2)), (6, .int 6), (0, .ref 530), (1, .int (x1)), (2, .int (x2)), (3, .int (x3)), (4, .int (x4)), (5, .int (x5))]) (st' := [.ref 530, .ref 531]) rfl ?_
  refine T_get xr_201_78 h462 rfl (v := .int 0) rfl (pc' := 81) rfl ?_
  refine T_p xr_201_81 xn_201 (pc' := 83) (ls' := [(7, .int (x2)), (6, .int 6), (0, .ref 530), (1, .int (x1)), (2, .int (x2)), (3, .int (x3)), (4, .int (x4)), (5, .int (x5))]) (st' := [.int 6, .int 0, .ref 531]) rfl ?_
  refine T_p xr_201_83 xn_201 (pc' := 84) (ls' := [(7, .int (x2)), (6, .int 6), (0, .ref 530), (1, .int (x1)), (2, .int (x2)), (3, .int (x3)), (4, .int (x4)), (5, .int (x5))]) (st' := [.int 6, .ref 531]) rfl ?_
  refine T_p xr_201_84 xn_201 (pc' := 86) (ls' := [(7, .int (x2)), (6, .int 6), (0, .ref 530), (1, .int (x1)), (2, .int (x2)), (3, .int (x3)), (4, .int (x4)), (5, .int (x5))]) (st' := [.int (x2), .int 6, .ref 531]) rfl ?_
  refine T_p xr_201_86 xn_201 (pc' := 88) (ls' := [(7, .int (x2)), (6, .int 6), (0, .ref 530), (1, .int (x1)), (2, .int (x2)), (3, .int (x3)), (4, .int (x4)), (5, .int (x5))]) (st' := [.int 24, .int (x2), .int 6, .ref 531]) rfl ?_
  refine T_p xr_201_88 xn_201 (pc' := 90) (ls' := [(7, .int (x2)), (6, .int 6), (0, .ref 530), (1, .int (x1)), (2, .int (x2)), (3, .int (x3)), (4, .int (x4)), (5, .int (x5))]) (st' := [.int 8, .int 24, .int (x2), .int 6, .ref 531]) rfl ?_
  refine T_p xr_201_90 xn_201 (pc' := 92) (ls' := [(7, .int (x2)), (6, .int 6), (0, .ref 530), (1, .int (x1)), (2, .int (x2)), (3, .int (x3)), (4, .int (x4)), (5, .int (x5))]) (st' := [.int 6, .int 8, .int 24, .int (x2), .int 6, .ref 531]) rfl ?_
  refine T_p xr_201_92 xn_201 (pc' := 93) (ls' := [(7, .int (x2)), (6, .int 6), (0, .ref 530), (1, .int (x1)), (2, .int (x2)), (3, .int (x3)), (4, .int (x4)), (5, .int (x5))]) (st' := [.int 3, .int 6, .int 8, .int 24, .int (x2), .int 6, .ref 531]) rfl ?_
  refine T_p xr_201_93 xn_201 (pc' := 94) (ls' := [(7, .int (x2)), (6, .int 6), (0, .ref 530), (1, .int (x1)), (2, .int (x2)), (3, .int (x3)), (4, .int (x4)), (5, .int (x5))]) (st' := [.int 2, .int 8, .int 24, .int (x2), .int 6, .ref 531]) rfl ?_
  refine T_p xr_201_94 xn_201 (pc' := 95) (ls' := [(7, .int (x2)), (6, .int 6), (0, .ref 530), (1, .int (x1)), (2, .int (x2)), (3, .int (x3)), (4, .int (x4)), (5, .int (x5))]) (st' := [.int 16, .int 24, .int (x2), .int 6, .ref 531]) rfl ?_
  refine T_p xr_201_95 xn_201 (pc' := 96) (ls' := [(7, .int (x2)), (6, .int 6), (0, .ref 530), (1, .int (x1)), (2, .int (x2)), (3, .int (x3)), (4, .int (x4)), (5, .int (x5))]) (st' := [.int 8, .int (x2), .int 6, .ref 531]) rfl ?_
  refine T_p xr_201_96 xn_201 (pc' := 97) (ls' := [(7, .int (x2)), (6, .int 6), (0, .ref 530), (1, .int (x1)), (2, .int (x2)), (3, .int (x3)), (4, .int (x4)), (5, .int (x5))]) (st' := [.int (((x2 : Int32) >>> ((8 : Int32) &&& 31))), .int 6, .ref 531]) rfl ?_
  refine T_p xr_201_97 xn_201 (pc' := 98) (ls' := [(7, .int (x2)), (6, .int 6), (0, .ref 530), (1, .int (x1)), (2, .int (x2)), (3, .int (x3)), (4, .int (x4)), (5, .int (x5))]) (st' := [.int ((((x2 : Int32) >>> ((8 : Int32) &&& 31))).toInt8.toInt32), .int 6, .ref 531]) rfl ?_
  refine T_bast xr_201_98 h466 (by decide) (pc' := 99) rfl (fun S467 h468 n469 e470 => ?_)
  have h471 := (n469 1 (by decide)).trans h460
  have h472 := (n469 2 (by decide)).trans h461
  have h473 := (n469 530 (by decide)).trans h462
  have h474 := (n469 3 (by decide)).trans h463
  have hs475 := e470.trans hs464
  obtain ⟨f476, h477⟩ : ∃ z, S467.1 531 = .inl (.byte, 2020, .inl z) := ⟨_, h468⟩
  refine T_p xr_201_99 xn_201 (pc' := 102) (ls' := [(6, .int 7), (7, .int (x2)), (0, .ref 530), (1, .int (x1)), (2, .int (x2)), (3, .int (x3)), (4, .int (x4)), (5, .int (x5))]) (st' := []) rfl ?_
  refine T_p xr_201_102 xn_201 (pc' := 18) (ls' := [(6, .int 7), (7, .int (x2)), (0, .ref 530), (1, .int (x1)), (2, .int (x2)), (3, .int (x3)), (4, .int (x4)), (5, .int (x5))]) (st' := []) rfl ?_
  refine T_p xr_201_18 xn_201 (pc' := 20) (ls' := [(6, .int 7), (7, .int (x2)), (0, .ref 530), (1, .int (x1)), (2, .int (x2)), (3, .int (x3)), (4, .int (x4)), (5, .int (x5))]) (st' := [.int 7]) rfl ?_
  refine T_p xr_201_20 xn_201 (pc' := 22) (ls' := [(6, .int 7), (7, .int (x2)), (0, .ref 530), (1, .int (x1)), (2, .int (x2)), (3, .int (x3)), (4, .int (x4)), (5, .int (x5))]) (st' := [.int 20, .int 7]) rfl ?_
  refine T_b2f xr_201_22 rfl (t := 105) (pc' := 25) rfl rfl ?_
  refine T_p xr_201_25 xn_201 (pc' := 27) (ls' := [(6, .int 7), (7, .int (x2)), (0, .ref 530), (1, .int (x1)), (2, .int (x2)), (3, .int (x3)), (4, .int (x4)), (5, .int (x5))]) (st' := [.int 7]) rfl ?_
  refine T_p xr_201_27 xn_201 (pc' := 28) (ls' := [(6, .int 7), (7, .int (x2)), (0, .ref 530), (1, .int (x1)), (2, .int (x2)), (3, .int (x3)), (4, .int (x4)), (5, .int (x5))]) (st' := [.int 4, .int 7]) rfl ?_
  refine T_b2t xr_201_28 rfl (t := 35) rfl ?_
  refine T_p xr_201_35 xn_201 (pc' := 37) (ls' := [(6, .int 7), (7, .int (x2)), (0, .ref 530), (1, .int (x1)), (2, .int (x2)), (3, .int (x3)), (4, .int (x4)), (5, .int (x5))]) (st' := [.int 7]) rfl ?_
  refine T_p xr_201_37 xn_201 (pc' := 39) (ls' := [(6, .int 7), (7, .int (x2)), (0, .ref 530), (1, .int (x1)), (2, .int (x2)), (3, .int (x3)), (4, .int (x4)), (5, .int (x5))]) (st' := [.int 8, .int 7]) rfl ?_
  refine T_b2f xr_201_39 rfl (t := 46) (pc' := 42) rfl rfl ?_
  refine T_p xr_201_42 xn_201 (pc' := 43) (ls' := [(6, .int 7), (7, .int (x2)), (0, .ref 530), (1, .int (x1)), (2, .int (x2)), (3, .int (x3)), (4, .int (x4)), (5, .int (x5))]) (st' := [.int (x2)]) rfl ?_
  refine T_p xr_201_43 xn_201 (pc' := 71) (ls' := [(6, .int 7), (7, .int (x2)), (0, .ref 530), (1, .int (x1)), (2, .int (x2)), (3, .int (x3)), (4, .int (x4)), (5, .int (x5))]) (st' := [.int (x2)]) rfl ?_
  refine T_p xr_201_71 xn_201 (pc' := 73) (ls' := [(7, .int (x2)), (6, .int 7), (0, .ref 530), (1, .int (x1)), (2, .int (x2)), (3, .int (x3)), (4, .int (x4)), (5, .int (x5))]) (st' := []) rfl ?_
  refine T_p xr_201_73 xn_201 (pc' := 74) (ls' := [(7, .int (x2)), (6, .int 7), (0, .ref 530), (1, .int (x1)), (2, .int (x2)), (3, .int (x3)), (4, .int (x4)), (5, .int (x5))]) (st' := [.ref 530]) rfl ?_
  refine T_get xr_201_74 h473 rfl (v := .ref 531) rfl (pc' := 77) rfl ?_
  refine T_p xr_201_77 xn_201 (pc' := 78) (ls' := [(7, .int (x2)), (6, .int 7), (0, .ref 530), (1, .int (x1)), (2, .int (x2)), (3, .int (x3)), (4, .int (x4)), (5, .int (x5))]) (st' := [.ref 530, .ref 531]) rfl ?_
  refine T_get xr_201_78 h473 rfl (v := .int 0) rfl (pc' := 81) rfl ?_
  refine T_p xr_201_81 xn_201 (pc' := 83) (ls' := [(7, .int (x2)), (6, .int 7), (0, .ref 530), (1, .int (x1)), (2, .int (x2)), (3, .int (x3)), (4, .int (x4)), (5, .int (x5))]) (st' := [.int 7, .int 0, .ref 531]) rfl ?_
  refine T_p xr_201_83 xn_201 (pc' := 84) (ls' := [(7, .int (x2)), (6, .int 7), (0, .ref 530), (1, .int (x1)), (2, .int (x2)), (3, .int (x3)), (4, .int (x4)), (5, .int (x5))]) (st' := [.int 7, .ref 531]) rfl ?_
  refine T_p xr_201_84 xn_201 (pc' := 86) (ls' := [(7, .int (x2)), (6, .int 7), (0, .ref 530), (1, .int (x1)), (2, .int (x2)), (3, .int (x3)), (4, .int (x4)), (5, .int (x5))]) (st' := [.int (x2), .int 7, .ref 531]) rfl ?_
  refine T_p xr_201_86 xn_201 (pc' := 88) (ls' := [(7, .int (x2)), (6, .int 7), (0, .ref 530), (1, .int (x1)), (2, .int (x2)), (3, .int (x3)), (4, .int (x4)), (5, .int (x5))]) (st' := [.int 24, .int (x2), .int 7, .ref 531]) rfl ?_
  refine T_p xr_201_88 xn_201 (pc' := 90) (ls' := [(7, .int (x2)), (6, .int 7), (0, .ref 530), (1, .int (x1)), (2, .int (x2)), (3, .int (x3)), (4, .int (x4)), (5, .int (x5))]) (st' := [.int 8, .int 24, .int (x2), .int 7, .ref 531]) rfl ?_
  refine T_p xr_201_90 xn_201 (pc' := 92) (ls' := [(7, .int (x2)), (6, .int 7), (0, .ref 530), (1, .int (x1)), (2, .int (x2)), (3, .int (x3)), (4, .int (x4)), (5, .int (x5))]) (st' := [.int 7, .int 8, .int 24, .int (x2), .int 7, .ref 531]) rfl ?_
  refine T_p xr_201_92 xn_201 (pc' := 93) (ls' := [(7, .int (x2)), (6, .int 7), (0, .ref 530), (1, .int (x1)), (2, .int (x2)), (3, .int (x3)), (4, .int (x4)), (5, .int (x5))]) (st' := [.int 3, .int 7, .int 8, .int 24, .int (x2), .int 7, .ref 531]) rfl ?_
  refine T_p xr_201_93 xn_201 (pc' := 94) (ls' := [(7, .int (x2)), (6, .int 7), (0, .ref 530), (1, .int (x1)), (2, .int (x2)), (3, .int (x3)), (4, .int (x4)), (5, .int (x5))]) (st' := [.int 3, .int 8, .int 24, .int (x2), .int 7, .ref 531]) rfl ?_
  refine T_p xr_201_94 xn_201 (pc' := 95) (ls' := [(7, .int (x2)), (6, .int 7), (0, .ref 530), (1, .int (x1)), (2, .int (x2)), (3, .int (x3)), (4, .int (x4)), (5, .int (x5))]) (st' := [.int 24, .int 24, .int (x2), .int 7, .ref 531]) rfl ?_
  refine T_p xr_201_95 xn_201 (pc' := 96) (ls' := [(7, .int (x2)), (6, .int 7), (0, .ref 530), (1, .int (x1)), (2, .int (x2)), (3, .int (x3)), (4, .int (x4)), (5, .int (x5))]) (st' := [.int 0, .int (x2), .int 7, .ref 531]) rfl ?_
  refine T_p xr_201_96 xn_201 (pc' := 97) (ls' := [(7, .int (x2)), (6, .int 7), (0, .ref 530), (1, .int (x1)), (2, .int (x2)), (3, .int (x3)), (4, .int (x4)), (5, .int (x5))]) (st' := [.int (((x2 : Int32) >>> ((0 : Int32) &&& 31))), .int 7, .ref 531]) rfl ?_
  refine T_p xr_201_97 xn_201 (pc' := 98) (ls' := [(7, .int (x2)), (6, .int 7), (0, .ref 530), (1, .int (x1)), (2, .int (x2)), (3, .int (x3)), (4, .int (x4)), (5, .int (x5))]) (st' := [.int ((((x2 : Int32) >>> ((0 : Int32) &&& 31))).toInt8.toInt32), .int 7, .ref 531]) rfl ?_
  refine T_bast xr_201_98 h477 (by decide) (pc' := 99) rfl (fun S478 h479 n480 e481 => ?_)
  have h482 := (n480 1 (by decide)).trans h471
  have h483 := (n480 2 (by decide)).trans h472
  have h484 := (n480 530 (by decide)).trans h473
  have h485 := (n480 3 (by decide)).trans h474
  have hs486 := e481.trans hs475
  obtain ⟨f487, h488⟩ : ∃ z, S478.1 531 = .inl (.byte, 2020, .inl z) := ⟨_, h479⟩
  refine T_p xr_201_99 xn_201 (pc' := 102) (ls' := [(6, .int 8), (7, .int (x2)), (0, .ref 530), (1, .int (x1)), (2, .int (x2)), (3, .int (x3)), (4, .int (x4)), (5, .int (x5))]) (st' := []) rfl ?_
  refine T_p xr_201_102 xn_201 (pc' := 18) (ls' := [(6, .int 8), (7, .int (x2)), (0, .ref 530), (1, .int (x1)), (2, .int (x2)), (3, .int (x3)), (4, .int (x4)), (5, .int (x5))]) (st' := []) rfl ?_
  refine T_p xr_201_18 xn_201 (pc' := 20) (ls' := [(6, .int 8), (7, .int (x2)), (0, .ref 530), (1, .int (x1)), (2, .int (x2)), (3, .int (x3)), (4, .int (x4)), (5, .int (x5))]) (st' := [.int 8]) rfl ?_
  refine T_p xr_201_20 xn_201 (pc' := 22) (ls' := [(6, .int 8), (7, .int (x2)), (0, .ref 530), (1, .int (x1)), (2, .int (x2)), (3, .int (x3)), (4, .int (x4)), (5, .int (x5))]) (st' := [.int 20, .int 8]) rfl ?_
  refine T_b2f xr_201_22 rfl (t := 105) (pc' := 25) rfl rfl ?_
  refine T_p xr_201_25 xn_201 (pc' := 27) (ls' := [(6, .int 8), (7, .int (x2)), (0, .ref 530), (1, .int (x1)), (2, .int (x2)), (3, .int (x3)), (4, .int (x4)), (5, .int (x5))]) (st' := [.int 8]) rfl ?_
  refine T_p xr_201_27 xn_201 (pc' := 28) (ls' := [(6, .int 8), (7, .int (x2)), (0, .ref 530), (1, .int (x1)), (2, .int (x2)), (3, .int (x3)), (4, .int (x4)), (5, .int (x5))]) (st' := [.int 4, .int 8]) rfl ?_
  refine T_b2t xr_201_28 rfl (t := 35) rfl ?_
  refine T_p xr_201_35 xn_201 (pc' := 37) (ls' := [(6, .int 8), (7, .int (x2)), (0, .ref 530), (1, .int (x1)), (2, .int (x2)), (3, .int (x3)), (4, .int (x4)), (5, .int (x5))]) (st' := [.int 8]) rfl ?_
  refine T_p xr_201_37 xn_201 (pc' := 39) (ls' := [(6, .int 8), (7, .int (x2)), (0, .ref 530), (1, .int (x1)), (2, .int (x2)), (3, .int (x3)), (4, .int (x4)), (5, .int (x5))]) (st' := [.int 8, .int 8]) rfl ?_
  refine T_b2t xr_201_39 rfl (t := 46) rfl ?_
  refine T_p xr_201_46 xn_201 (pc' := 48) (ls' := [(6, .int 8), (7, .int (x2)), (0, .ref 530), (1, .int (x1)), (2, .int (x2)), (3, .int (x3)), (4, .int (x4)), (5, .int (x5))]) (st' := [.int 8]) rfl ?_
  refine T_p xr_201_48 xn_201 (pc' := 50) (ls' := [(6, .int 8), (7, .int (x2)), (0, .ref 530), (1, .int (x1)), (2, .int (x2)), (3, .int (x3)), (4, .int (x4)), (5, .int (x5))]) (st' := [.int 12, .int 8]) rfl ?_
  refine T_b2f xr_201_50 rfl (t := 57) (pc' := 53) rfl rfl ?_
  refine T_p xr_201_53 xn_201 (pc' := 54) (ls' := [(6, .int 8), (7, .int (x2)), (0, .ref 530), (1, .int (x1)), (2, .int (x2)), (3, .int (x3)), (4, .int (x4)), (5, .int (x5))]) (st' := [.int (x3)]) rfl ?_
  refine T_p xr_201_54 xn_201 (pc' := 71) (ls' := [(6, .int 8), (7, .int (x2)), (0, .ref 530), (1, .int (x1)), (2, .int (x2)), (3, .int (x3)), (4, .int (x4)), (5, .int (x5))]) (st' := [.int (x3)]) rfl ?_
  refine T_p xr_201_71 xn_201 (pc' := 73) (ls' := [(7, .int (x3)), (6, .int 8), (0, .ref 530), (1, .int (x1)), (2, .int (x2)), (3, .int (x3)), (4, .int (x4)), (5, .int (x5))]) (st' := []) rfl ?_
  refine T_p xr_201_73 xn_201 (pc' := 74) (ls' := [(7, .int (x3)), (6, .int 8), (0, .ref 530), (1, .int (x1)), (2, .int (x2)), (3, .int (x3)), (4, .int (x4)), (5, .int (x5))]) (st' := [.ref 530]) rfl ?_
  refine T_get xr_201_74 h484 rfl (v := .ref 531) rfl (pc' := 77) rfl ?_
  refine T_p xr_201_77 xn_201 (pc' := 78) (ls' := [(7, .int (x3)), (6, .int 8), (0, .ref 530), (1, .int (x1)), (2, .int (x2)), (3, .int (x3)), (4, .int (x4)), (5, .int (x5))]) (st' := [.ref 530, .ref 531]) rfl ?_
  refine T_get xr_201_78 h484 rfl (v := .int 0) rfl (pc' := 81) rfl ?_
  refine T_p xr_201_81 xn_201 (pc' := 83) (ls' := [(7, .int (x3)), (6, .int 8), (0, .ref 530), (1, .int (x1)), (2, .int (x2)), (3, .int (x3)), (4, .int (x4)), (5, .int (x5))]) (st' := [.int 8, .int 0, .ref 531]) rfl ?_
  refine T_p xr_201_83 xn_201 (pc' := 84) (ls' := [(7, .int (x3)), (6, .int 8), (0, .ref 530), (1, .int (x1)), (2, .int (x2)), (3, .int (x3)), (4, .int (x4)), (5, .int (x5))]) (st' := [.int 8, .ref 531]) rfl ?_
  refine T_p xr_201_84 xn_201 (pc' := 86) (ls' := [(7, .int (x3)), (6, .int 8), (0, .ref 530), (1, .int (x1)), (2, .int (x2)), (3, .int (x3)), (4, .int (x4)), (5, .int (x5))]) (st' := [.int (x3), .int 8, .ref 531]) rfl ?_
  refine T_p xr_201_86 xn_201 (pc' := 88) (ls' := [(7, .int (x3)), (6, .int 8), (0, .ref 530), (1, .int (x1)), (2, .int (x2)), (3, .int (x3)), (4, .int (x4)), (5, .int (x5))]) (st' := [.int 24, .int (x3), .int 8, .ref 531]) rfl ?_
  refine T_p xr_201_88 xn_201 (pc' := 90) (ls' := [(7, .int (x3)), (6, .int 8), (0, .ref 530), (1, .int (x1)), (2, .int (x2)), (3, .int (x3)), (4, .int (x4)), (5, .int (x5))]) (st' := [.int 8, .int 24, .int (x3), .int 8, .ref 531]) rfl ?_
  refine T_p xr_201_90 xn_201 (pc' := 92) (ls' := [(7, .int (x3)), (6, .int 8), (0, .ref 530), (1, .int (x1)), (2, .int (x2)), (3, .int (x3)), (4, .int (x4)), (5, .int (x5))]) (st' := [.int 8, .int 8, .int 24, .int (x3), .int 8, .ref 531]) rfl ?_
  refine T_p xr_201_92 xn_201 (pc' := 93) (ls' := [(7, .int (x3)), (6, .int 8), (0, .ref 530), (1, .int (x1)), (2, .int (x2)), (3, .int (x3)), (4, .int (x4)), (5, .int (x5))]) (st' := [.int 3, .int 8, .int 8, .int 24, .int (x3), .int 8, .ref 531]) rfl ?_
  refine T_p xr_201_93 xn_201 (pc' := 94) (ls' := [(7, .int (x3)), (6, .int 8), (0, .ref 530), (1, .int (x1)), (2, .int (x2)), (3, .int (x3)), (4, .int (x4)), (5, .int (x5))]) (st' := [.int 0, .int 8, .int 24, .int (x3), .int 8, .ref 531]) rfl ?_
  refine T_p xr_201_94 xn_201 (pc' := 95) (ls' := [(7, .int (x3)), (6, .int 8), (0, .ref 530), (1, .int (x1)), (2, .int (x2)), (3, .int (x3)), (4, .int (x4)), (5, .int (x5))]) (st' := [.int 0, .int 24, .int (x3), .int 8, .ref 531]) rfl ?_
  refine T_p xr_201_95 xn_201 (pc' := 96) (ls' := [(7, .int (x3)), (6, .int 8), (0, .ref 530), (1, .int (x1)), (2, .int (x2)), (3, .int (x3)), (4, .int (x4)), (5, .int (x5))]) (st' := [.int 24, .int (x3), .int 8, .ref 531]) rfl ?_
  refine T_p xr_201_96 xn_201 (pc' := 97) (ls' := [(7, .int (x3)), (6, .int 8), (0, .ref 530), (1, .int (x1)), (2, .int (x2)), (3, .int (x3)), (4, .int (x4)), (5, .int (x5))]) (st' := [.int (((x3 : Int32) >>> ((24 : Int32) &&& 31))), .int 8, .ref 531]) rfl ?_
  refine T_p xr_201_97 xn_201 (pc' := 98) (ls' := [(7, .int (x3)), (6, .int 8), (0, .ref 530), (1, .int (x1)), (2, .int (x2)), (3, .int (x3)), (4, .int (x4)), (5, .int (x5))]) (st' := [.int ((((x3 : Int32) >>> ((24 : Int32) &&& 31))).toInt8.toInt32), .int 8, .ref 531]) rfl ?_
  refine T_bast xr_201_98 h488 (by decide) (pc' := 99) rfl (fun S489 h490 n491 e492 => ?_)
  have h493 := (n491 1 (by decide)).trans h482
  have h494 := (n491 2 (by decide)).trans h483
  have h495 := (n491 530 (by decide)).trans h484
  have h496 := (n491 3 (by decide)).trans h485
  have hs497 := e492.trans hs486
  obtain ⟨f498, h499⟩ : ∃ z, S489.1 531 = .inl (.byte, 2020, .inl z) := ⟨_, h490⟩
  refine T_p xr_201_99 xn_201 (pc' := 102) (ls' := [(6, .int 9), (7, .int (x3)), (0, .ref 530), (1, .int (x1)), (2, .int (x2)), (3, .int (x3)), (4, .int (x4)), (5, .int (x5))]) (st' := []) rfl ?_
  refine T_p xr_201_102 xn_201 (pc' := 18) (ls' := [(6, .int 9), (7, .int (x3)), (0, .ref 530), (1, .int (x1)), (2, .int (x2)), (3, .int (x3)), (4, .int (x4)), (5, .int (x5))]) (st' := []) rfl ?_
  refine T_p xr_201_18 xn_201 (pc' := 20) (ls' := [(6, .int 9), (7, .int (x3)), (0, .ref 530), (1, .int (x1)), (2, .int (x2)), (3, .int (x3)), (4, .int (x4)), (5, .int (x5))]) (st' := [.int 9]) rfl ?_
  refine T_p xr_201_20 xn_201 (pc' := 22) (ls' := [(6, .int 9), (7, .int (x3)), (0, .ref 530), (1, .int (x1)), (2, .int (x2)), (3, .int (x3)), (4, .int (x4)), (5, .int (x5))]) (st' := [.int 20, .int 9]) rfl ?_
  refine T_b2f xr_201_22 rfl (t := 105) (pc' := 25) rfl rfl ?_
  refine T_p xr_201_25 xn_201 (pc' := 27) (ls' := [(6, .int 9), (7, .int (x3)), (0, .ref 530), (1, .int (x1)), (2, .int (x2)), (3, .int (x3)), (4, .int (x4)), (5, .int (x5))]) (st' := [.int 9]) rfl ?_
  refine T_p xr_201_27 xn_201 (pc' := 28) (ls' := [(6, .int 9), (7, .int (x3)), (0, .ref 530), (1, .int (x1)), (2, .int (x2)), (3, .int (x3)), (4, .int (x4)), (5, .int (x5))]) (st' := [.int 4, .int 9]) rfl ?_
  refine T_b2t xr_201_28 rfl (t := 35) rfl ?_
  refine T_p xr_201_35 xn_201 (pc' := 37) (ls' := [(6, .int 9), (7, .int (x3)), (0, .ref 530), (1, .int (x1)), (2, .int (x2)), (3, .int (x3)), (4, .int (x4)), (5, .int (x5))]) (st' := [.int 9]) rfl ?_
  refine T_p xr_201_37 xn_201 (pc' := 39) (ls' := [(6, .int 9), (7, .int (x3)), (0, .ref 530), (1, .int (x1)), (2, .int (x2)), (3, .int (x3)), (4, .int (x4)), (5, .int (x5))]) (st' := [.int 8, .int 9]) rfl ?_
  refine T_b2t xr_201_39 rfl (t := 46) rfl ?_
  refine T_p xr_201_46 xn_201 (pc' := 48) (ls' := [(6, .int 9), (7, .int (x3)), (0, .ref 530), (1, .int (x1)), (2, .int (x2)), (3, .int (x3)), (4, .int (x4)), (5, .int (x5))]) (st' := [.int 9]) rfl ?_
  refine T_p xr_201_48 xn_201 (pc' := 50) (ls' := [(6, .int 9), (7, .int (x3)), (0, .ref 530), (1, .int (x1)), (2, .int (x2)), (3, .int (x3)), (4, .int (x4)), (5, .int (x5))]) (st' := [.int 12, .int 9]) rfl ?_
  refine T_b2f xr_201_50 rfl (t := 57) (pc' := 53) rfl rfl ?_
  refine T_p xr_201_53 xn_201 (pc' := 54) (ls' := [(6, .int 9), (7, .int (x3)), (0, .ref 530), (1, .int (x1)), (2, .int (x2)), (3, .int (x3)), (4, .int (x4)), (5, .int (x5))]) (st' := [.int (x3)]) rfl ?_
  refine T_p xr_201_54 xn_201 (pc' := 71) (ls' := [(6, .int 9), (7, .int (x3)), (0, .ref 530), (1, .int (x1)), (2, .int (x2)), (3, .int (x3)), (4, .int (x4)), (5, .int (x5))]) (st' := [.int (x3)]) rfl ?_
  refine T_p xr_201_71 xn_201 (pc' := 73) (ls' := [(7, .int (x3)), (6, .int 9), (0, .ref 530), (1, .int (x1)), (2, .int (x2)), (3, .int (x3)), (4, .int (x4)), (5, .int (x5))]) (st' := []) rfl ?_
  refine T_p xr_201_73 xn_201 (pc' := 74) (ls' := [(7, .int (x3)), (6, .int 9), (0, .ref 530), (1, .int (x1)), (2, .int (x2)), (3, .int (x3)), (4, .int (x4)), (5, .int (x5))]) (st' := [.ref 530]) rfl ?_
  refine T_get xr_201_74 h495 rfl (v := .ref 531) rfl (pc' := 77) rfl ?_
  refine T_p xr_201_77 xn_201 (pc' := 78) (ls' := [(7, .int (x3)), (6, .int 9), (0, .ref 530), (1, .int (x1)), (2, .int (x2)), (3, .int (x3)), (4, .int (x4)), (5, .int (x5))]) (st' := [.ref 530, .ref 531]) rfl ?_
  refine T_get xr_201_78 h495 rfl (v := .int 0) rfl (pc' := 81) rfl ?_
  refine T_p xr_201_81 xn_201 (pc' := 83) (ls' := [(7, .int (x3)), (6, .int 9), (0, .ref 530), (1, .int (x1)), (2, .int (x2)), (3, .int (x3)), (4, .int (x4)), (5, .int (x5))]) (st' := [.int 9, .int 0, .ref 531]) rfl ?_
  refine T_p xr_201_83 xn_201 (pc' := 84) (ls' := [(7, .int (x3)), (6, .int 9), (0, .ref 530), (1, .int (x1)), (2, .int (x2)), (3, .int (x3)), (4, .int (x4)), (5, .int (x5))]) (st' := [.int 9, .ref 531]) rfl ?_
  refine T_p xr_201_84 xn_201 (pc' := 86) (ls' := [(7, .int (x3)), (6, .int 9), (0, .ref 530), (1, .int (x1)), (2, .int (x2)), (3, .int (x3)), (4, .int (x4)), (5, .int (x5))]) (st' := [.int (x3), .int 9, .ref 531]) rfl ?_
  refine T_p xr_201_86 xn_201 (pc' := 88) (ls' := [(7, .int (x3)), (6, .int 9), (0, .ref 530), (1, .int (x1)), (2, .int (x2)), (3, .int (x3)), (4, .int (x4)), (5, .int (x5))]) (st' := [.int 24, .int (x3), .int 9, .ref 531]) rfl ?_
  refine T_p xr_201_88 xn_201 (pc' := 90) (ls' := [(7, .int (x3)), (6, .int 9), (0, .ref 530), (1, .int (x1)), (2, .int (x2)), (3, .int (x3)), (4, .int (x4)), (5, .int (x5))]) (st' := [.int 8, .int 24, .int (x3), .int 9, .ref 531]) rfl ?_
  refine T_p xr_201_90 xn_201 (pc' := 92) (ls' := [(7, .int (x3)), (6, .int 9), (0, .ref 530), (1, .int (x1)), (2, .int (x2)), (3, .int (x3)), (4, .int (x4)), (5, .int (x5))]) (st' := [.int 9, .int 8, .int 24, .int (x3), .int 9, .ref 531]) rfl ?_
  refine T_p xr_201_92 xn_201 (pc' := 93) (ls' := [(7, .int (x3)), (6, .int 9), (0, .ref 530), (1, .int (x1)), (2, .int (x2)), (3, .int (x3)), (4, .int (x4)), (5, .int (x5))]) (st' := [.int 3, .int 9, .int 8, .int 24, .int (x3), .int 9, .ref 531]) rfl ?_
  refine T_p xr_201_93 xn_201 (pc' := 94) (ls' := [(7, .int (x3)), (6, .int 9), (0, .ref 530), (1, .int (x1)), (2, .int (x2)), (3, .int (x3)), (4, .int (x4)), (5, .int (x5))]) (st' := [.int 1, .int 8, .int 24, .int (x3), .int 9, .ref 531]) rfl ?_
  refine T_p xr_201_94 xn_201 (pc' := 95) (ls' := [(7, .int (x3)), (6, .int 9), (0, .ref 530), (1, .int (x1)), (2, .int (x2)), (3, .int (x3)), (4, .int (x4)), (5, .int (x5))]) (st' := [.int 8, .int 24, .int (x3), .int 9, .ref 531]) rfl ?_
  refine T_p xr_201_95 xn_201 (pc' := 96) (ls' := [(7, .int (x3)), (6, .int 9), (0, .ref 530), (1, .int (x1)), (2, .int (x2)), (3, .int (x3)), (4, .int (x4)), (5, .int (x5))]) (st' := [.int 16, .int (x3), .int 9, .ref 531]) rfl ?_
  refine T_p xr_201_96 xn_201 (pc' := 97) (ls' := [(7, .int (x3)), (6, .int 9), (0, .ref 530), (1, .int (x1)), (2, .int (x2)), (3, .int (x3)), (4, .int (x4)), (5, .int (x5))]) (st' := [.int (((x3 : Int32) >>> ((16 : Int32) &&& 31))), .int 9, .ref 531]) rfl ?_
  refine T_p xr_201_97 xn_201 (pc' := 98) (ls' := [(7, .int (x3)), (6, .int 9), (0, .ref 530), (1, .int (x1)), (2, .int (x2)), (3, .int (x3)), (4, .int (x4)), (5, .int (x5))]) (st' := [.int ((((x3 : Int32) >>> ((16 : Int32) &&& 31))).toInt8.toInt32), .int 9, .ref 531]) rfl ?_
  refine T_bast xr_201_98 h499 (by decide) (pc' := 99) rfl (fun S500 h501 n502 e503 => ?_)
  have h504 := (n502 1 (by decide)).trans h493
  have h505 := (n502 2 (by decide)).trans h494
  have h506 := (n502 530 (by decide)).trans h495
  have h507 := (n502 3 (by decide)).trans h496
  have hs508 := e503.trans hs497
  obtain ⟨f509, h510⟩ : ∃ z, S500.1 531 = .inl (.byte, 2020, .inl z) := ⟨_, h501⟩
  refine T_p xr_201_99 xn_201 (pc' := 102) (ls' := [(6, .int 10), (7, .int (x3)), (0, .ref 530), (1, .int (x1)), (2, .int (x2)), (3, .int (x3)), (4, .int (x4)), (5, .int (x5))]) (st' := []) rfl ?_
  refine T_p xr_201_102 xn_201 (pc' := 18) (ls' := [(6, .int 10), (7, .int (x3)), (0, .ref 530), (1, .int (x1)), (2, .int (x2)), (3, .int (x3)), (4, .int (x4)), (5, .int (x5))]) (st' := []) rfl ?_
  refine T_p xr_201_18 xn_201 (pc' := 20) (ls' := [(6, .int 10), (7, .int (x3)), (0, .ref 530), (1, .int (x1)), (2, .int (x2)), (3, .int (x3)), (4, .int (x4)), (5, .int (x5))]) (st' := [.int 10]) rfl ?_
  refine T_p xr_201_20 xn_201 (pc' := 22) (ls' := [(6, .int 10), (7, .int (x3)), (0, .ref 530), (1, .int (x1)), (2, .int (x2)), (3, .int (x3)), (4, .int (x4)), (5, .int (x5))]) (st' := [.int 20, .int 10]) rfl ?_
  refine T_b2f xr_201_22 rfl (t := 105) (pc' := 25) rfl rfl ?_
  refine T_p xr_201_25 xn_201 (pc' := 27) (ls' := [(6, .int 10), (7, .int (x3)), (0, .ref 530), (1, .int (x1)), (2, .int (x2)), (3, .int (x3)), (4, .int (x4)), (5, .int (x5))]) (st' := [.int 10]) rfl ?_
  refine T_p xr_201_27 xn_201 (pc' := 28) (ls' := [(6, .int 10), (7, .int (x3)), (0, .ref 530), (1, .int (x1)), (2, .int (x2)), (3, .int (x3)), (4, .int (x4)), (5, .int (x5))]) (st' := [.int 4, .int 10]) rfl ?_
  refine T_b2t xr_201_28 rfl (t := 35) rfl ?_
  refine T_p xr_201_35 xn_201 (pc' := 37) (ls' := [(6, .int 10), (7, .int (x3)), (0, .ref 530), (1, .int (x1)), (2, .int (x2)), (3, .int (x3)), (4, .int (x4)), (5, .int (x5))]) (st' := [.int 10]) rfl ?_
  refine T_p xr_201_37 xn_201 (pc' := 39) (ls' := [(6, .int 10), (7, .int (x3)), (0, .ref 530), (1, .int (x1)), (2, .int (x2)), (3, .int (x3)), (4, .int (x4)), (5, .int (x5))]) (st' := [.int 8, .int 10]) rfl ?_
  refine T_b2t xr_201_39 rfl (t := 46) rfl ?_
  refine T_p xr_201_46 xn_201 (pc' := 48) (ls' := [(6, .int 10), (7, .int (x3)), (0, .ref 530), (1, .int (x1)), (2, .int (x2)), (3, .int (x3)), (4, .int (x4)), (5, .int (x5))]) (st' := [.int 10]) rfl ?_
  refine T_p xr_201_48 xn_201 (pc' := 50) (ls' := [(6, .int 10), (7, .int (x3)), (0, .ref 530), (1, .int (x1)), (2, .int (x2)), (3, .int (x3)), (4, .int (x4)), (5, .int (x5))]) (st' := [.int 12, .int 10]) rfl ?_
  refine T_b2f xr_201_50 rfl (t := 57) (pc' := 53) rfl rfl ?_
  refine T_p xr_201_53 xn_201 (pc' := 54) (ls' := [(6, .int 10), (7, .int (x3)), (0, .ref 530), (1, .int (x1)), (2, .int (x2)), (3, .int (x3)), (4, .int (x4)), (5, .int (x5))]) (st' := [.int (x3)]) rfl ?_
  refine T_p xr_201_54 xn_201 (pc' := 71) (ls' := [(6, .int 10), (7, .int (x3)), (0, .ref 530), (1, .int (x1)), (2, .int (x2)), (3, .int (x3)), (4, .int (x4)), (5, .int (x5))]) (st' := [.int (x3)]) rfl ?_
  refine T_p xr_201_71 xn_201 (pc' := 73) (ls' := [(7, .int (x3)), (6, .int 10), (0, .ref 530), (1, .int (x1)), (2, .int (x2)), (3, .int (x3)), (4, .int (x4)), (5, .int (x5))]) (st' := []) rfl ?_
  refine T_p xr_201_73 xn_201 (pc' := 74) (ls' := [(7, .int (x3)), (6, .int 10), (0, .ref 530), (1, .int (x1)), (2, .int (x2)), (3, .int (x3)), (4, .int (x4)), (5, .int (x5))]) (st' := [.ref 530]) rfl ?_
  refine T_get xr_201_74 h506 rfl (v := .ref 531) rfl (pc' := 77) rfl ?_
  refine T_p xr_201_77 xn_201 (pc' := 78) (ls' := [(7, .int (x3)), (6, .int 10), (0, .ref 530), (1, .int (x1)), (2, .int (x2)), (3, .int (x3)), (4, .int (x4)), (5, .int (x5))]) (st' := [.ref 530, .ref 531]) rfl ?_
  refine T_get xr_201_78 h506 rfl (v := .int 0) rfl (pc' := 81) rfl ?_
  refine T_p xr_201_81 xn_201 (pc' := 83) (ls' := [(7, .int (x3)), (6, .int 10), (0, .ref 530), (1, .int (x1)), (2, .int (x2)), (3, .int (x3)), (4, .int (x4)), (5, .int (x5))]) (st' := [.int 10, .int 0, .ref 531]) rfl ?_
  refine T_p xr_201_83 xn_201 (pc' := 84) (ls' := [(7, .int (x3)), (6, .int 10), (0, .ref 530), (1, .int (x1)), (2, .int (x2)), (3, .int (x3)), (4, .int (x4)), (5, .int (x5))]) (st' := [.int 10, .ref 531]) rfl ?_
  refine T_p xr_201_84 xn_201 (pc' := 86) (ls' := [(7, .int (x3)), (6, .int 10), (0, .ref 530), (1, .int (x1)), (2, .int (x2)), (3, .int (x3)), (4, .int (x4)), (5, .int (x5))]) (st' := [.int (x3), .int 10, .ref 531]) rfl ?_
  refine T_p xr_201_86 xn_201 (pc' := 88) (ls' := [(7, .int (x3)), (6, .int 10), (0, .ref 530), (1, .int (x1)), (2, .int (x2)), (3, .int (x3)), (4, .int (x4)), (5, .int (x5))]) (st' := [.int 24, .int (x3), .int 10, .ref 531]) rfl ?_
  refine T_p xr_201_88 xn_201 (pc' := 90) (ls' := [(7, .int (x3)), (6, .int 10), (0, .ref 530), (1, .int (x1)), (2, .int (x2)), (3, .int (x3)), (4, .int (x4)), (5, .int (x5))]) (st' := [.int 8, .int 24, .int (x3), .int 10, .ref 531]) rfl ?_
  refine T_p xr_201_90 xn_201 (pc' := 92) (ls' := [(7, .int (x3)), (6, .int 10), (0, .ref 530), (1, .int (x1)), (2, .int (x2)), (3, .int (x3)), (4, .int (x4)), (5, .int (x5))]) (st' := [.int 10, .int 8, .int 24, .int (x3), .int 10, .ref 531]) rfl ?_
  refine T_p xr_201_92 xn_201 (pc' := 93) (ls' := [(7, .int (x3)), (6, .int 10), (0, .ref 530), (1, .int (x1)), (2, .int (x2)), (3, .int (x3)), (4, .int (x4)), (5, .int (x5))]) (st' := [.int 3, .int 10, .int 8, .int 24, .int (x3), .int 10, .ref 531]) rfl ?_
  refine T_p xr_201_93 xn_201 (pc' := 94) (ls' := [(7, .int (x3)), (6, .int 10), (0, .ref 530), (1, .int (x1)), (2, .int (x2)), (3, .int (x3)), (4, .int (x4)), (5, .int (x5))]) (st' := [.int 2, .int 8, .int 24, .int (x3), .int 10, .ref 531]) rfl ?_
  refine T_p xr_201_94 xn_201 (pc' := 95) (ls' := [(7, .int (x3)), (6, .int 10), (0, .ref 530), (1, .int (x1)), (2, .int (x2)), (3, .int (x3)), (4, .int (x4)), (5, .int (x5))]) (st' := [.int 16, .int 24, .int (x3), .int 10, .ref 531]) rfl ?_
  refine T_p xr_201_95 xn_201 (pc' := 96) (ls' := [(7, .int (x3)), (6, .int 10), (0, .ref 530), (1, .int (x1)), (2, .int (x2)), (3, .int (x3)), (4, .int (x4)), (5, .int (x5))]) (st' := [.int 8, .int (x3), .int 10, .ref 531]) rfl ?_
  refine T_p xr_201_96 xn_201 (pc' := 97) (ls' := [(7, .int (x3)), (6, .int 10), (0, .ref 530), (1, .int (x1)), (2, .int (x2)), (3, .int (x3)), (4, .int (x4)), (5, .int (x5))]) (st' := [.int (((x3 : Int32) >>> ((8 : Int32) &&& 31))), .int 10, .ref 531]) rfl ?_
  refine T_p xr_201_97 xn_201 (pc' := 98) (ls' := [(7, .int (x3)), (6, .int 10), (0, .ref 530), (1, .int (x1)), (2, .int (x2)), (3, .int (x3)), (4, .int (x4)), (5, .int (x5))]) (st' := [.int ((((x3 : Int32) >>> ((8 : Int32) &&& 31))).toInt8.toInt32), .int 10, .ref 531]) rfl ?_
  refine T_bast xr_201_98 h510 (by decide) (pc' := 99) rfl (fun S511 h512 n513 e514 => ?_)
  have h515 := (n513 1 (by decide)).trans h504
  have h516 := (n513 2 (by decide)).trans h505
  have h517 := (n513 530 (by decide)).trans h506
  have h518 := (n513 3 (by decide)).trans h507
  have hs519 := e514.trans hs508
  obtain ⟨f520, h521⟩ : ∃ z, S511.1 531 = .inl (.byte, 2020, .inl z) := ⟨_, h512⟩
  refine T_p xr_201_99 xn_201 (pc' := 102) (ls' := [(6, .int 11), (7, .int (x3)), (0, .ref 530), (1, .int (x1)), (2, .int (x2)), (3, .int (x3)), (4, .int (x4)), (5, .int (x5))]) (st' := []) rfl ?_
  refine T_p xr_201_102 xn_201 (pc' := 18) (ls' := [(6, .int 11), (7, .int (x3)), (0, .ref 530), (1, .int (x1)), (2, .int (x2)), (3, .int (x3)), (4, .int (x4)), (5, .int (x5))]) (st' := []) rfl ?_
  refine T_p xr_201_18 xn_201 (pc' := 20) (ls' := [(6, .int 11), (7, .int (x3)), (0, .ref 530), (1, .int (x1)), (2, .int (x2)), (3, .int (x3)), (4, .int (x4)), (5, .int (x5))]) (st' := [.int 11]) rfl ?_
  refine T_p xr_201_20 xn_201 (pc' := 22) (ls' := [(6, .int 11), (7, .int (x3)), (0, .ref 530), (1, .int (x1)), (2, .int (x2)), (3, .int (x3)), (4, .int (x4)), (5, .int (x5))]) (st' := [.int 20, .int 11]) rfl ?_
  refine T_b2f xr_201_22 rfl (t := 105) (pc' := 25) rfl rfl ?_
  refine T_p xr_201_25 xn_201 (pc' := 27) (ls' := [(6, .int 11), (7, .int (x3)), (0, .ref 530), (1, .int (x1)), (2, .int (x2)), (3, .int (x3)), (4, .int (x4)), (5, .int (x5))]) (st' := [.int 11]) rfl ?_
  refine T_p xr_201_27 xn_201 (pc' := 28) (ls' := [(6, .int 11), (7, .int (x3)), (0, .ref 530), (1, .int (x1)), (2, .int (x2)), (3, .int (x3)), (4, .int (x4)), (5, .int (x5))]) (st' := [.int 4, .int 11]) rfl ?_
  refine T_b2t xr_201_28 rfl (t := 35) rfl ?_
  refine T_p xr_201_35 xn_201 (pc' := 37) (ls' := [(6, .int 11), (7, .int (x3)), (0, .ref 530), (1, .int (x1)), (2, .int (x2)), (3, .int (x3)), (4, .int (x4)), (5, .int (x5))]) (st' := [.int 11]) rfl ?_
  refine T_p xr_201_37 xn_201 (pc' := 39) (ls' := [(6, .int 11), (7, .int (x3)), (0, .ref 530), (1, .int (x1)), (2, .int (x2)), (3, .int (x3)), (4, .int (x4)), (5, .int (x5))]) (st' := [.int 8, .int 11]) rfl ?_
  refine T_b2t xr_201_39 rfl (t := 46) rfl ?_
  refine T_p xr_201_46 xn_201 (pc' := 48) (ls' := [(6, .int 11), (7, .int (x3)), (0, .ref 530), (1, .int (x1)), (2, .int (x2)), (3, .int (x3)), (4, .int (x4)), (5, .int (x5))]) (st' := [.int 11]) rfl ?_
  refine T_p xr_201_48 xn_201 (pc' := 50) (ls' := [(6, .int 11), (7, .int (x3)), (0, .ref 530), (1, .int (x1)), (2, .int (x2)), (3, .int (x3)), (4, .int (x4)), (5, .int (x5))]) (st' := [.int 12, .int 11]) rfl ?_
  refine T_b2f xr_201_50 rfl (t := 57) (pc' := 53) rfl rfl ?_
  refine T_p xr_201_53 xn_201 (pc' := 54) (ls' := [(6, .int 11), (7, .int (x3)), (0, .ref 530), (1, .int (x1)), (2, .int (x2)), (3, .int (x3)), (4, .int (x4)), (5, .int (x5))]) (st' := [.int (x3)]) rfl ?_
  refine T_p xr_201_54 xn_201 (pc' := 71) (ls' := [(6, .int 11), (7, .int (x3)), (0, .ref 530), (1, .int (x1)), (2, .int (x2)), (3, .int (x3)), (4, .int (x4)), (5, .int (x5))]) (st' := [.int (x3)]) rfl ?_
  refine T_p xr_201_71 xn_201 (pc' := 73) (ls' := [(7, .int (x3)), (6, .int 11), (0, .ref 530), (1, .int (x1)), (2, .int (x2)), (3, .int (x3)), (4, .int (x4)), (5, .int (x5))]) (st' := []) rfl ?_
  refine T_p xr_201_73 xn_201 (pc' := 74) (ls' := [(7, .int (x3)), (6, .int 11), (0, .ref 530), (1, .int (x1)), (2, .int (x2)), (3, .int (x3)), (4, .int (x4)), (5, .int (x5))]) (st' := [.ref 530]) rfl ?_
  refine T_get xr_201_74 h517 rfl (v := .ref 531) rfl (pc' := 77) rfl ?_
  refine T_p xr_201_77 xn_201 (pc' := 78) (ls' := [(7, .int (x3)), (6, .int 11), (0, .ref 530), (1, .int (x1)), (2, .int (x2)), (3, .int (x3)), (4, .int (x4)), (5, .int (x5))]) (st' := [.ref 530, .ref 531]) rfl ?_
  refine T_get xr_201_78 h517 rfl (v := .int 0) rfl (pc' := 81) rfl ?_
  refine T_p xr_201_81 xn_201 (pc' := 83) (ls' := [(7, .int (x3)), (6, .int 11), (0, .ref 530), (1, .int (x1)), (2, .int (x2)), (3, .int (x3)), (4, .int (x4)), (5, .int (x5))]) (st' := [.int 11, .int 0, .ref 531]) rfl ?_
  refine T_p xr_201_83 xn_201 (pc' := 84) (ls' := [(7, .int (x3)), (6, .int 11), (0, .ref 530), (1, .int (x1)), (2, .int (x2)), (3, .int (x3)), (4, .int (x4)), (5, .int (x5))]) (st' := [.int 11, .ref 531]) rfl ?_
  refine T_p xr_201_84 xn_201 (pc' := 86) (ls' := [(7, .int (x3)), (6, .int 11), (0, .ref 530), (1, .int (x1)), (2, .int (x2)), (3, .int (x3)), (4, .int (x4)), (5, .int (x5))]) (st' := [.int (x3), .int 11, .ref 531]) rfl ?_
  refine T_p xr_201_86 xn_201 (pc' := 88) (ls' := [(7, .int (x3)), (6, .int 11), (0, .ref 530), (1, .int (x1)), (2, .int (x2)), (3, .int (x3)), (4, .int (x4)), (5, .int (x5))]) (st' := [.int 24, .int (x3), .int 11, .ref 531]) rfl ?_
  refine T_p xr_201_88 xn_201 (pc' := 90) (ls' := [(7, .int (x3)), (6, .int 11), (0, .ref 530), (1, .int (x1)), (2, .int (x2)), (3, .int (x3)), (4, .int (x4)), (5, .int (x5))]) (st' := [.int 8, .int 24, .int (x3), .int 11, .ref 531]) rfl ?_
  refine T_p xr_201_90 xn_201 (pc' := 92) (ls' := [(7, .int (x3)), (6, .int 11), (0, .ref 530), (1, .int (x1)), (2, .int (x2)), (3, .int (x3)), (4, .int (x4)), (5, .int (x5))]) (st' := [.int 11, .int 8, .int 24, .int (x3), .int 11, .ref 531]) rfl ?_
  refine T_p xr_201_92 xn_201 (pc' := 93) (ls' := [(7, .int (x3)), (6, .int 11), (0, .ref 530), (1, .int (x1)), (2, .int (x2)), (3, .int (x3)), (4, .int (x4)), (5, .int (x5))]) (st' := [.int 3, .int 11, .int 8, .int 24, .int (x3), .int 11, .ref 531]) rfl ?_
  refine T_p xr_201_93 xn_201 (pc' := 94) (ls' := [(7, .int (x3)), (6, .int 11), (0, .ref 530), (1, .int (x1)), (2, .int (x2)), (3, .int (x3)), (4, .int (x4)), (5, .int (x5))]) (st' := [.int 3, .int 8, .int 24, .int (x3), .int 11, .ref 531]) rfl ?_
  refine T_p xr_201_94 xn_201 (pc' := 95) (ls' := [(7, .int (x3)), (6, .int 11), (0, .ref 530), (1, .int (x1)), (2, .int (x2)), (3, .int (x3)), (4, .int (x4)), (5, .int (x5))]) (st' := [.int 24, .int 24, .int (x3), .int 11, .ref 531]) rfl ?_
  refine T_p xr_201_95 xn_201 (pc' := 96) (ls' := [(7, .int (x3)), (6, .int 11), (0, .ref 530), (1, .int (x1)), (2, .int (x2)), (3, .int (x3)), (4, .int (x4)), (5, .int (x5))]) (st' := [.int 0, .int (x3), .int 11, .ref 531]) rfl ?_
  refine T_p xr_201_96 xn_201 (pc' := 97) (ls' := [(7, .int (x3)), (6, .int 11), (0, .ref 530), (1, .int (x1)), (2, .int (x2)), (3, .int (x3)), (4, .int (x4)), (5, .int (x5))]) (st' := [.int (((x3 : Int32) >>> ((0 : Int32) &&& 31))), .int 11, .ref 531]) rfl ?_
  refine T_p xr_201_97 xn_201 (pc' := 98) (ls' := [(7, .int (x3)), (6, .int 11), (0, .ref 530), (1, .int (x1)), (2, .int (x2)), (3, .int (x3)), (4, .int (x4)), (5, .int (x5))]) (st' := [.int ((((x3 : Int32) >>> ((0 : Int32) &&& 31))).toInt8.toInt32), .int 11, .ref 531]) rfl ?_
  refine T_bast xr_201_98 h521 (by decide) (pc' := 99) rfl (fun S522 h523 n524 e525 => ?_)
  have h526 := (n524 1 (by decide)).trans h515
  have h527 := (n524 2 (by decide)).trans h516
  have h528 := (n524 530 (by decide)).trans h517
  have h529 := (n524 3 (by decide)).trans h518
  have hs530 := e525.trans hs519
  obtain ⟨f531, h532⟩ : ∃ z, S522.1 531 = .inl (.byte, 2020, .inl z) := ⟨_, h523⟩
  refine T_p xr_201_99 xn_201 (pc' := 102) (ls' := [(6, .int 12), (7, .int (x3)), (0, .ref 530), (1, .int (x1)), (2, .int (x2)), (3, .int (x3)), (4, .int (x4)), (5, .int (x5))]) (st' := []) rfl ?_
  refine T_p xr_201_102 xn_201 (pc' := 18) (ls' := [(6, .int 12), (7, .int (x3)), (0, .ref 530), (1, .int (x1)), (2, .int (x2)), (3, .int (x3)), (4, .int (x4)), (5, .int (x5))]) (st' := []) rfl ?_
  refine T_p xr_201_18 xn_201 (pc' := 20) (ls' := [(6, .int 12), (7, .int (x3)), (0, .ref 530), (1, .int (x1)), (2, .int (x2)), (3, .int (x3)), (4, .int (x4)), (5, .int (x5))]) (st' := [.int 12]) rfl ?_
  refine T_p xr_201_20 xn_201 (pc' := 22) (ls' := [(6, .int 12), (7, .int (x3)), (0, .ref 530), (1, .int (x1)), (2, .int (x2)), (3, .int (x3)), (4, .int (x4)), (5, .int (x5))]) (st' := [.int 20, .int 12]) rfl ?_
  refine T_b2f xr_201_22 rfl (t := 105) (pc' := 25) rfl rfl ?_
  refine T_p xr_201_25 xn_201 (pc' := 27) (ls' := [(6, .int 12), (7, .int (x3)), (0, .ref 530), (1, .int (x1)), (2, .int (x2)), (3, .int (x3)), (4, .int (x4)), (5, .int (x5))]) (st' := [.int 12]) rfl ?_
  refine T_p xr_201_27 xn_201 (pc' := 28) (ls' := [(6, .int 12), (7, .int (x3)), (0, .ref 530), (1, .int (x1)), (2, .int (x2)), (3, .int (x3)), (4, .int (x4)), (5, .int (x5))]) (st' := [.int 4, .int 12]) rfl ?_
  refine T_b2t xr_201_28 rfl (t := 35) rfl ?_
  refine T_p xr_201_35 xn_201 (pc' := 37) (ls' := [(6, .int 12), (7, .int (x3)), (0, .ref 530), (1, .int (x1)), (2, .int (x2)), (3, .int (x3)), (4, .int (x4)), (5, .int (x5))]) (st' := [.int 12]) rfl ?_
  refine T_p xr_201_37 xn_201 (pc' := 39) (ls' := [(6, .int 12), (7, .int (x3)), (0, .ref 530), (1, .int (x1)), (2, .int (x2)), (3, .int (x3)), (4, .int (x4)), (5, .int (x5))]) (st' := [.int 8, .int 12]) rfl ?_
  refine T_b2t xr_201_39 rfl (t := 46) rfl ?_
  refine T_p xr_201_46 xn_201 (pc' := 48) (ls' := [(6, .int 12), (7, .int (x3)), (0, .ref 530), (1, .int (x1)), (2, .int (x2)), (3, .int (x3)), (4, .int (x4)), (5, .int (x5))]) (st' := [.int 12]) rfl ?_
  refine T_p xr_201_48 xn_201 (pc' := 50) (ls' := [(6, .int 12), (7, .int (x3)), (0, .ref 530), (1, .int (x1)), (2, .int (x2)), (3, .int (x3)), (4, .int (x4)), (5, .int (x5))]) (st' := [.int 12, .int 12]) rfl ?_
  refine T_b2t xr_201_50 rfl (t := 57) rfl ?_
  refine T_p xr_201_57 xn_201 (pc' := 59) (ls' := [(6, .int 12), (7, .int (x3)), (0, .ref 530), (1, .int (x1)), (2, .int (x2)), (3, .int (x3)), (4, .int (x4)), (5, .int (x5))]) (st' := [.int 12]) rfl ?_
  refine T_p xr_201_59 xn_201 (pc' := 61) (ls' := [(6, .int 12), (7, .int (x3)), (0, .ref 530), (1, .int (x1)), (2, .int (x2)), (3, .int (x3)), (4, .int (x4)), (5, .int (x5))]) (st' := [.int 16, .int 12]) rfl ?_
  refine T_b2f xr_201_61 rfl (t := 69) (pc' := 64) rfl rfl ?_
  refine T_p xr_201_64 xn_201 (pc' := 66) (ls' := [(6, .int 12), (7, .int (x3)), (0, .ref 530), (1, .int (x1)), (2, .int (x2)), (3, .int (x3)), (4, .int (x4)), (5, .int (x5))]) (st' := [.int (x4)]) rfl ?_
  refine T_p xr_201_66 xn_201 (pc' := 71) (ls' := [(6, .int 12), (7, .int (x3)), (0, .ref 530), (1, .int (x1)), (2, .int (x2)), (3, .int (x3)), (4, .int (x4)), (5, .int (x5))]) (st' := [.int (x4)]) rfl ?_
  refine T_p xr_201_71 xn_201 (pc' := 73) (ls' := [(7, .int (x4)), (6, .int 12), (0, .ref 530), (1, .int (x1)), (2, .int (x2)), (3, .int (x3)), (4, .int (x4)), (5, .int (x5))]) (st' := []) rfl ?_
  refine T_p xr_201_73 xn_201 (pc' := 74) (ls' := [(7, .int (x4)), (6, .int 12), (0, .ref 530), (1, .int (x1)), (2, .int (x2)), (3, .int (x3)), (4, .int (x4)), (5, .int (x5))]) (st' := [.ref 530]) rfl ?_
  refine T_get xr_201_74 h528 rfl (v := .ref 531) rfl (pc' := 77) rfl ?_
  refine T_p xr_201_77 xn_201 (pc' := 78) (ls' := [(7, .int (x4)), (6, .int 12), (0, .ref 530), (1, .int (x1)), (2, .int (x2)), (3, .int (x3)), (4, .int (x4)), (5, .int (x5))]) (st' := [.ref 530, .ref 531]) rfl ?_
  refine T_get xr_201_78 h528 rfl (v := .int 0) rfl (pc' := 81) rfl ?_
  refine T_p xr_201_81 xn_201 (pc' := 83) (ls' := [(7, .int (x4)), (6, .int 12), (0, .ref 530), (1, .int (x1)), (2, .int (x2)), (3, .int (x3)), (4, .int (x4)), (5, .int (x5))]) (st' := [.int 12, .int 0, .ref 531]) rfl ?_
  refine T_p xr_201_83 xn_201 (pc' := 84) (ls' := [(7, .int (x4)), (6, .int 12), (0, .ref 530), (1, .int (x1)), (2, .int (x2)), (3, .int (x3)), (4, .int (x4)), (5, .int (x5))]) (st' := [.int 12, .ref 531]) rfl ?_
  refine T_p xr_201_84 xn_201 (pc' := 86) (ls' := [(7, .int (x4)), (6, .int 12), (0, .ref 530), (1, .int (x1)), (2, .int (x2)), (3, .int (x3)), (4, .int (x4)), (5, .int (x5))]) (st' := [.int (x4), .int 12, .ref 531]) rfl ?_
  refine T_p xr_201_86 xn_201 (pc' := 88) (ls' := [(7, .int (x4)), (6, .int 12), (0, .ref 530), (1, .int (x1)), (2, .int (x2)), (3, .int (x3)), (4, .int (x4)), (5, .int (x5))]) (st' := [.int 24, .int (x4), .int 12, .ref 531]) rfl ?_
  refine T_p xr_201_88 xn_201 (pc' := 90) (ls' := [(7, .int (x4)), (6, .int 12), (0, .ref 530), (1, .int (x1)), (2, .int (x2)), (3, .int (x3)), (4, .int (x4)), (5, .int (x5))]) (st' := [.int 8, .int 24, .int (x4), .int 12, .ref 531]) rfl ?_
  refine T_p xr_201_90 xn_201 (pc' := 92) (ls' := [(7, .int (x4)), (6, .int 12), (0, .ref 530), (1, .int (x1)), (2, .int (x2)), (3, .int (x3)), (4, .int (x4)), (5, .int (x5))]) (st' := [.int 12, .int 8, .int 24, .int (x4), .int 12, .ref 531]) rfl ?_
  refine T_p xr_201_92 xn_201 (pc' := 93) (ls' := [(7, .int (x4)), (6, .int 12), (0, .ref 530), (1, .int (x1)), (2, .int (x2)), (3, .int (x3)), (4, .int (x4)), (5, .int (x5))]) (st' := [.int 3, .int 12, .int 8, .int 24, .int (x4), .int 12, .ref 531]) rfl ?_
  refine T_p xr_201_93 xn_201 (pc' := 94) (ls' := [(7, .int (x4)), (6, .int 12), (0, .ref 530), (1, .int (x1)), (2, .int (x2)), (3, .int (x3)), (4, .int (x4)), (5, .int (x5))]) (st' := [.int 0, .int 8, .int 24, .int (x4), .int 12, .ref 531]) rfl ?_
  refine T_p xr_201_94 xn_201 (pc' := 95) (ls' := [(7, .int (x4)), (6, .int 12), (0, .ref 530), (1, .int (x1)), (2, .int (x2)), (3, .int (x3)), (4, .int (x4)), (5, .int (x5))]) (st' := [.int 0, .int 24, .int (x4), .int 12, .ref 531]) rfl ?_
  refine T_p xr_201_95 xn_201 (pc' := 96) (ls' := [(7, .int (x4)), (6, .int 12), (0, .ref 530), (1, .int (x1)), (2, .int (x2)), (3, .int (x3)), (4, .int (x4)), (5, .int (x5))]) (st' := [.int 24, .int (x4), .int 12, .ref 531]) rfl ?_
  refine T_p xr_201_96 xn_201 (pc' := 97) (ls' := [(7, .int (x4)), (6, .int 12), (0, .ref 530), (1, .int (x1)), (2, .int (x2)), (3, .int (x3)), (4, .int (x4)), (5, .int (x5))]) (st' := [.int (((x4 : Int32) >>> ((24 : Int32) &&& 31))), .int 12, .ref 531]) rfl ?_
  refine T_p xr_201_97 xn_201 (pc' := 98) (ls' := [(7, .int (x4)), (6, .int 12), (0, .ref 530), (1, .int (x1)), (2, .int (x2)), (3, .int (x3)), (4, .int (x4)), (5, .int (x5))]) (st' := [.int ((((x4 : Int32) >>> ((24 : Int32) &&& 31))).toInt8.toInt32), .int 12, .ref 531]) rfl ?_
  refine T_bast xr_201_98 h532 (by decide) (pc' := 99) rfl (fun S533 h534 n535 e536 => ?_)
  have h537 := (n535 1 (by decide)).trans h526
  have h538 := (n535 2 (by decide)).trans h527
  have h539 := (n535 530 (by decide)).trans h528
  have h540 := (n535 3 (by decide)).trans h529
  have hs541 := e536.trans hs530
  obtain ⟨f542, h543⟩ : ∃ z, S533.1 531 = .inl (.byte, 2020, .inl z) := ⟨_, h534⟩
  refine T_p xr_201_99 xn_201 (pc' := 102) (ls' := [(6, .int 13), (7, .int (x4)), (0, .ref 530), (1, .int (x1)), (2, .int (x2)), (3, .int (x3)), (4, .int (x4)), (5, .int (x5))]) (st' := []) rfl ?_
  refine T_p xr_201_102 xn_201 (pc' := 18) (ls' := [(6, .int 13), (7, .int (x4)), (0, .ref 530), (1, .int (x1)), (2, .int (x2)), (3, .int (x3)), (4, .int (x4)), (5, .int (x5))]) (st' := []) rfl ?_
  refine T_p xr_201_18 xn_201 (pc' := 20) (ls' := [(6, .int 13), (7, .int (x4)), (0, .ref 530), (1, .int (x1)), (2, .int (x2)), (3, .int (x3)), (4, .int (x4)), (5, .int (x5))]) (st' := [.int 13]) rfl ?_
  refine T_p xr_201_20 xn_201 (pc' := 22) (ls' := [(6, .int 13), (7, .int (x4)), (0, .ref 530), (1, .int (x1)), (2, .int (x2)), (3, .int (x3)), (4, .int (x4)), (5, .int (x5))]) (st' := [.int 20, .int 13]) rfl ?_
  refine T_b2f xr_201_22 rfl (t := 105) (pc' := 25) rfl rfl ?_
  refine T_p xr_201_25 xn_201 (pc' := 27) (ls' := [(6, .int 13), (7, .int (x4)), (0, .ref 530), (1, .int (x1)), (2, .int (x2)), (3, .int (x3)), (4, .int (x4)), (5, .int (x5))]) (st' := [.int 13]) rfl ?_
  refine T_p xr_201_27 xn_201 (pc' := 28) (ls' := [(6, .int 13), (7, .int (x4)), (0, .ref 530), (1, .int (x1)), (2, .int (x2)), (3, .int (x3)), (4, .int (x4)), (5, .int (x5))]) (st' := [.int 4, .int 13]) rfl ?_
  refine T_b2t xr_201_28 rfl (t := 35) rfl ?_
  refine T_p xr_201_35 xn_201 (pc' := 37) (ls' := [(6, .int 13), (7, .int (x4)), (0, .ref 530), (1, .int (x1)), (2, .int (x2)), (3, .int (x3)), (4, .int (x4)), (5, .int (x5))]) (st' := [.int 13]) rfl ?_
  refine T_p xr_201_37 xn_201 (pc' := 39) (ls' := [(6, .int 13), (7, .int (x4)), (0, .ref 530), (1, .int (x1)), (2, .int (x2)), (3, .int (x3)), (4, .int (x4)), (5, .int (x5))]) (st' := [.int 8, .int 13]) rfl ?_
  refine T_b2t xr_201_39 rfl (t := 46) rfl ?_
  refine T_p xr_201_46 xn_201 (pc' := 48) (ls' := [(6, .int 13), (7, .int (x4)), (0, .ref 530), (1, .int (x1)), (2, .int (x2)), (3, .int (x3)), (4, .int (x4)), (5, .int (x5))]) (st' := [.int 13]) rfl ?_
  refine T_p xr_201_48 xn_201 (pc' := 50) (ls' := [(6, .int 13), (7, .int (x4)), (0, .ref 530), (1, .int (x1)), (2, .int (x2)), (3, .int (x3)), (4, .int (x4)), (5, .int (x5))]) (st' := [.int 12, .int 13]) rfl ?_
  refine T_b2t xr_201_50 rfl (t := 57) rfl ?_
  refine T_p xr_201_57 xn_201 (pc' := 59) (ls' := [(6, .int 13), (7, .int (x4)), (0, .ref 530), (1, .int (x1)), (2, .int (x2)), (3, .int (x3)), (4, .int (x4)), (5, .int (x5))]) (st' := [.int 13]) rfl ?_
  refine T_p xr_201_59 xn_201 (pc' := 61) (ls' := [(6, .int 13), (7, .int (x4)), (0, .ref 530), (1, .int (x1)), (2, .int (x2)), (3, .int (x3)), (4, .int (x4)), (5, .int (x5))]) (st' := [.int 16, .int 13]) rfl ?_
  refine T_b2f xr_201_61 rfl (t := 69) (pc' := 64) rfl rfl ?_
  refine T_p xr_201_64 xn_201 (pc' := 66) (ls' := [(6, .int 13), (7, .int (x4)), (0, .ref 530), (1, .int (x1)), (2, .int (x2)), (3, .int (x3)), (4, .int (x4)), (5, .int (x5))]) (st' := [.int (x4)]) rfl ?_
  refine T_p xr_201_66 xn_201 (pc' := 71) (ls' := [(6, .int 13), (7, .int (x4)), (0, .ref 530), (1, .int (x1)), (2, .int (x2)), (3, .int (x3)), (4, .int (x4)), (5, .int (x5))]) (st' := [.int (x4)]) rfl ?_
  refine T_p xr_201_71 xn_201 (pc' := 73) (ls' := [(7, .int (x4)), (6, .int 13), (0, .ref 530), (1, .int (x1)), (2, .int (x2)), (3, .int (x3)), (4, .int (x4)), (5, .int (x5))]) (st' := []) rfl ?_
  refine T_p xr_201_73 xn_201 (pc' := 74) (ls' := [(7, .int (x4)), (6, .int 13), (0, .ref 530), (1, .int (x1)), (2, .int (x2)), (3, .int (x3)), (4, .int (x4)), (5, .int (x5))]) (st' := [.ref 530]) rfl ?_
  refine T_get xr_201_74 h539 rfl (v := .ref 531) rfl (pc' := 77) rfl ?_
  refine T_p xr_201_77 xn_201 (pc' := 78) (ls' := [(7, .int (x4)), (6, .int 13), (0, .ref 530), (1, .int (x1)), (2, .int (x2)), (3, .int (x3)), (4, .int (x4)), (5, .int (x5))]) (st' := [.ref 530, .ref 531]) rfl ?_
  refine T_get xr_201_78 h539 rfl (v := .int 0) rfl (pc' := 81) rfl ?_
  refine T_p xr_201_81 xn_201 (pc' := 83) (ls' := [(7, .int (x4)), (6, .int 13), (0, .ref 530), (1, .int (x1)), (2, .int (x2)), (3, .int (x3)), (4, .int (x4)), (5, .int (x5))]) (st' := [.int 13, .int 0, .ref 531]) rfl ?_
  refine T_p xr_201_83 xn_201 (pc' := 84) (ls' := [(7, .int (x4)), (6, .int 13), (0, .ref 530), (1, .int (x1)), (2, .int (x2)), (3, .int (x3)), (4, .int (x4)), (5, .int (x5))]) (st' := [.int 13, .ref 531]) rfl ?_
  refine T_p xr_201_84 xn_201 (pc' := 86) (ls' := [(7, .int (x4)), (6, .int 13), (0, .ref 530), (1, .int (x1)), (2, .int (x2)), (3, .int (x3)), (4, .int (x4)), (5, .int (x5))]) (st' := [.int (x4), .int 13, .ref 531]) rfl ?_
  refine T_p xr_201_86 xn_201 (pc' := 88) (ls' := [(7, .int (x4)), (6, .int 13), (0, .ref 530), (1, .int (x1)), (2, .int (x2)), (3, .int (x3)), (4, .int (x4)), (5, .int (x5))]) (st' := [.int 24, .int (x4), .int 13, .ref 531]) rfl ?_
  refine T_p xr_201_88 xn_201 (pc' := 90) (ls' := [(7, .int (x4)), (6, .int 13), (0, .ref 530), (1, .int (x1)), (2, .int (x2)), (3, .int (x3)), (4, .int (x4)), (5, .int (x5))]) (st' := [.int 8, .int 24, .int (x4), .int 13, .ref 531]) rfl ?_
  refine T_p xr_201_90 xn_201 (pc' := 92) (ls' := [(7, .int (x4)), (6, .int 13), (0, .ref 530), (1, .int (x1)), (2, .int (x2)), (3, .int (x3)), (4, .int (x4)), (5, .int (x5))]) (st' := [.int 13, .int 8, .int 24, .int (x4), .int 13, .ref 531]) rfl ?_
  refine T_p xr_201_92 xn_201 (pc' := 93) (ls' := [(7, .int (x4)), (6, .int 13), (0, .ref 530), (1, .int (x1)), (2, .int (x2)), (3, .int (x3)), (4, .int (x4)), (5, .int (x5))]) (st' := [.int 3, .int 13, .int 8, .int 24, .int (x4), .int 13, .ref 531]) rfl ?_
  refine T_p xr_201_93 xn_201 (pc' := 94) (ls' := [(7, .int (x4)), (6, .int 13), (0, .ref 530), (1, .int (x1)), (2, .int (x2)), (3, .int (x3)), (4, .int (x4)), (5, .int (x5))]) (st' := [.int 1, .int 8, .int 24, .int (x4), .int 13, .ref 531]) rfl ?_
  refine T_p xr_201_94 xn_201 (pc' := 95) (ls' := [(7, .int (x4)), (6, .int 13), (0, .ref 530), (1, .int (x1)), (2, .int (x2)), (3, .int (x3)), (4, .int (x4)), (5, .int (x5))]) (st' := [.int 8, .int 24, .int (x4), .int 13, .ref 531]) rfl ?_
  refine T_p xr_201_95 xn_201 (pc' := 96) (ls' := [(7, .int (x4)), (6, .int 13), (0, .ref 530), (1, .int (x1)), (2, .int (x2)), (3, .int (x3)), (4, .int (x4)), (5, .int (x5))]) (st' := [.int 16, .int (x4), .int 13, .ref 531]) rfl ?_
  refine T_p xr_201_96 xn_201 (pc' := 97) (ls' := [(7, .int (x4)), (6, .int 13), (0, .ref 530), (1, .int (x1)), (2, .int (x2)), (3, .int (x3)), (4, .int (x4)), (5, .int (x5))]) (st' := [.int (((x4 : Int32) >>> ((16 : Int32) &&& 31))), .int 13, .ref 531]) rfl ?_
  refine T_p xr_201_97 xn_201 (pc' := 98) (ls' := [(7, .int (x4)), (6, .int 13), (0, .ref 530), (1, .int (x1)), (2, .int (x2)), (3, .int (x3)), (4, .int (x4)), (5, .int (x5))]) (st' := [.int ((((x4 : Int32) >>> ((16 : Int32) &&& 31))).toInt8.toInt32), .int 13, .ref 531]) rfl ?_
  refine T_bast xr_201_98 h543 (by decide) (pc' := 99) rfl (fun S544 h545 n546 e547 => ?_)
  have h548 := (n546 1 (by decide)).trans h537
  have h549 := (n546 2 (by decide)).trans h538
  have h550 := (n546 530 (by decide)).trans h539
  have h551 := (n546 3 (by decide)).trans h540
  have hs552 := e547.trans hs541
  obtain ⟨f553, h554⟩ : ∃ z, S544.1 531 = .inl (.byte, 2020, .inl z) := ⟨_, h545⟩
  refine T_p xr_201_99 xn_201 (pc' := 102) (ls' := [(6, .int 14), (7, .int (x4)), (0, .ref 530), (1, .int (x1)), (2, .int (x2)), (3, .int (x3)), (4, .int (x4)), (5, .int (x5))]) (st' := []) rfl ?_
  refine T_p xr_201_102 xn_201 (pc' := 18) (ls' := [(6, .int 14), (7, .int (x4)), (0, .ref 530), (1, .int (x1)), (2, .int (x2)), (3, .int (x3)), (4, .int (x4)), (5, .int (x5))]) (st' := []) rfl ?_
  refine T_p xr_201_18 xn_201 (pc' := 20) (ls' := [(6, .int 14), (7, .int (x4)), (0, .ref 530), (1, .int (x1)), (2, .int (x2)), (3, .int (x3)), (4, .int (x4)), (5, .int (x5))]) (st' := [.int 14]) rfl ?_
  refine T_p xr_201_20 xn_201 (pc' := 22) (ls' := [(6, .int 14), (7, .int (x4)), (0, .ref 530), (1, .int (x1)), (2, .int (x2)), (3, .int (x3)), (4, .int (x4)), (5, .int (x5))]) (st' := [.int 20, .int 14]) rfl ?_
  refine T_b2f xr_201_22 rfl (t := 105) (pc' := 25) rfl rfl ?_
  refine T_p xr_201_25 xn_201 (pc' := 27) (ls' := [(6, .int 14), (7, .int (x4)), (0, .ref 530), (1, .int (x1)), (2, .int (x2)), (3, .int (x3)), (4, .int (x4)), (5, .int (x5))]) (st' := [.int 14]) rfl ?_
  refine T_p xr_201_27 xn_201 (pc' := 28) (ls' := [(6, .int 14), (7, .int (x4)), (0, .ref 530), (1, .int (x1)), (2, .int (x2)), (3, .int (x3)), (4, .int (x4)), (5, .int (x5))]) (st' := [.int 4, .int 14]) rfl ?_
  refine T_b2t xr_201_28 rfl (t := 35) rfl ?_
  refine T_p xr_201_35 xn_201 (pc' := 37) (ls' := [(6, .int 14), (7, .int (x4)), (0, .ref 530), (1, .int (x1)), (2, .int (x2)), (3, .int (x3)), (4, .int (x4)), (5, .int (x5))]) (st' := [.int 14]) rfl ?_
  refine T_p xr_201_37 xn_201 (pc' := 39) (ls' := [(6, .int 14), (7, .int (x4)), (0, .ref 530), (1, .int (x1)), (2, .int (x2)), (3, .int (x3)), (4, .int (x4)), (5, .int (x5))]) (st' := [.int 8, .int 14]) rfl ?_
  refine T_b2t xr_201_39 rfl (t := 46) rfl ?_
  refine T_p xr_201_46 xn_201 (pc' := 48) (ls' := [(6, .int 14), (7, .int (x4)), (0, .ref 530), (1, .int (x1)), (2, .int (x2)), (3, .int (x3)), (4, .int (x4)), (5, .int (x5))]) (st' := [.int 14]) rfl ?_
  refine T_p xr_201_48 xn_201 (pc' := 50) (ls' := [(6, .int 14), (7, .int (x4)), (0, .ref 530), (1, .int (x1)), (2, .int (x2)), (3, .int (x3)), (4, .int (x4)), (5, .int (x5))]) (st' := [.int 12, .int 14]) rfl ?_
  refine T_b2t xr_201_50 rfl (t := 57) rfl ?_
  refine T_p xr_201_57 xn_201 (pc' := 59) (ls' := [(6, .int 14), (7, .int (x4)), (0, .ref 530), (1, .int (x1)), (2, .int (x2)), (3, .int (x3)), (4, .int (x4)), (5, .int (x5))]) (st' := [.int 14]) rfl ?_
  refine T_p xr_201_59 xn_201 (pc' := 61) (ls' := [(6, .int 14), (7, .int (x4)), (0, .ref 530), (1, .int (x1)), (2, .int (x2)), (3, .int (x3)), (4, .int (x4)), (5, .int (x5))]) (st' := [.int 16, .int 14]) rfl ?_
  refine T_b2f xr_201_61 rfl (t := 69) (pc' := 64) rfl rfl ?_
  refine T_p xr_201_64 xn_201 (pc' := 66) (ls' := [(6, .int 14), (7, .int (x4)), (0, .ref 530), (1, .int (x1)), (2, .int (x2)), (3, .int (x3)), (4, .int (x4)), (5, .int (x5))]) (st' := [.int (x4)]) rfl ?_
  refine T_p xr_201_66 xn_201 (pc' := 71) (ls' := [(6, .int 14), (7, .int (x4)), (0, .ref 530), (1, .int (x1)), (2, .int (x2)), (3, .int (x3)), (4, .int (x4)), (5, .int (x5))]) (st' := [.int (x4)]) rfl ?_
  refine T_p xr_201_71 xn_201 (pc' := 73) (ls' := [(7, .int (x4)), (6, .int 14), (0, .ref 530), (1, .int (x1)), (2, .int (x2)), (3, .int (x3)), (4, .int (x4)), (5, .int (x5))]) (st' := []) rfl ?_
  refine T_p xr_201_73 xn_201 (pc' := 74) (ls' := [(7, .int (x4)), (6, .int 14), (0, .ref 530), (1, .int (x1)), (2, .int (x2)), (3, .int (x3)), (4, .int (x4)), (5, .int (x5))]) (st' := [.ref 530]) rfl ?_
  refine T_get xr_201_74 h550 rfl (v := .ref 531) rfl (pc' := 77) rfl ?_
  refine T_p xr_201_77 xn_201 (pc' := 78) (ls' := [(7, .int (x4)), (6, .int 14), (0, .ref 530), (1, .int (x1)), (2, .int (x2)), (3, .int (x3)), (4, .int (x4)), (5, .int (x5))]) (st' := [.ref 530, .ref 531]) rfl ?_
  refine T_get xr_201_78 h550 rfl (v := .int 0) rfl (pc' := 81) rfl ?_
  refine T_p xr_201_81 xn_201 (pc' := 83) (ls' := [(7, .int (x4)), (6, .int 14), (0, .ref 530), (1, .int (x1)), (2, .int (x2)), (3, .int (x3)), (4, .int (x4)), (5, .int (x5))]) (st' := [.int 14, .int 0, .ref 531]) rfl ?_
  refine T_p xr_201_83 xn_201 (pc' := 84) (ls' := [(7, .int (x4)), (6, .int 14), (0, .ref 530), (1, .int (x1)), (2, .int (x2)), (3, .int (x3)), (4, .int (x4)), (5, .int (x5))]) (st' := [.int 14, .ref 531]) rfl ?_
  refine T_p xr_201_84 xn_201 (pc' := 86) (ls' := [(7, .int (x4)), (6, .int 14), (0, .ref 530), (1, .int (x1)), (2, .int (x2)), (3, .int (x3)), (4, .int (x4)), (5, .int (x5))]) (st' := [.int (x4), .int 14, .ref 531]) rfl ?_
  refine T_p xr_201_86 xn_201 (pc' := 88) (ls' := [(7, .int (x4)), (6, .int 14), (0, .ref 530), (1, .int (x1)), (2, .int (x2)), (3, .int (x3)), (4, .int (x4)), (5, .int (x5))]) (st' := [.int 24, .int (x4), .int 14, .ref 531]) rfl ?_
  refine T_p xr_201_88 xn_201 (pc' := 90) (ls' := [(7, .int (x4)), (6, .int 14), (0, .ref 530), (1, .int (x1)), (2, .int (x2)), (3, .int (x3)), (4, .int (x4)), (5, .int (x5))]) (st' := [.int 8, .int 24, .int (x4), .int 14, .ref 531]) rfl ?_
  refine T_p xr_201_90 xn_201 (pc' := 92) (ls' := [(7, .int (x4)), (6, .int 14), (0, .ref 530), (1, .int (x1)), (2, .int (x2)), (3, .int (x3)), (4, .int (x4)), (5, .int (x5))]) (st' := [.int 14, .int 8, .int 24, .int (x4), .int 14, .ref 531]) rfl ?_
  refine T_p xr_201_92 xn_201 (pc' := 93) (ls' := [(7, .int (x4)), (6, .int 14), (0, .ref 530), (1, .int (x1)), (2, .int (x2)), (3, .int (x3)), (4, .int (x4)), (5, .int (x5))]) (st' := [.int 3, .int 14, .int 8, .int 24, .int (x4), .int 14, .ref 531]) rfl ?_
  refine T_p xr_201_93 xn_201 (pc' := 94) (ls' := [(7, .int (x4)), (6, .int 14), (0, .ref 530), (1, .int (x1)), (2, .int (x2)), (3, .int (x3)), (4, .int (x4)), (5, .int (x5))]) (st' := [.int 2, .int 8, .int 24, .int (x4), .int 14, .ref 531]) rfl ?_
  refine T_p xr_201_94 xn_201 (pc' := 95) (ls' := [(7, .int (x4)), (6, .int 14), (0, .ref 530), (1, .int (x1)), (2, .int (x2)), (3, .int (x3)), (4, .int (x4)), (5, .int (x5))]) (st' := [.int 16, .int 24, .int (x4), .int 14, .ref 531]) rfl ?_
  refine T_p xr_201_95 xn_201 (pc' := 96) (ls' := [(7, .int (x4)), (6, .int 14), (0, .ref 530), (1, .int (x1)), (2, .int (x2)), (3, .int (x3)), (4, .int (x4)), (5, .int (x5))]) (st' := [.int 8, .int (x4), .int 14, .ref 531]) rfl ?_
  refine T_p xr_201_96 xn_201 (pc' := 97) (ls' := [(7, .int (x4)), (6, .int 14), (0, .ref 530), (1, .int (x1)), (2, .int (x2)), (3, .int (x3)), (4, .int (x4)), (5, .int (x5))]) (st' := [.int (((x4 : Int32) >>> ((8 : Int32) &&& 31))), .int 14, .ref 531]) rfl ?_
  refine T_p xr_201_97 xn_201 (pc' := 98) (ls' := [(7, .int (x4)), (6, .int 14), (0, .ref 530), (1, .int (x1)), (2, .int (x2)), (3, .int (x3)), (4, .int (x4)), (5, .int (x5))]) (st' := [.int ((((x4 : Int32) >>> ((8 : Int32) &&& 31))).toInt8.toInt32), .int 14, .ref 531]) rfl ?_
  refine T_bast xr_201_98 h554 (by decide) (pc' := 99) rfl (fun S555 h556 n557 e558 => ?_)
  have h559 := (n557 1 (by decide)).trans h548
  have h560 := (n557 2 (by decide)).trans h549
  have h561 := (n557 530 (by decide)).trans h550
  have h562 := (n557 3 (by decide)).trans h551
  have hs563 := e558.trans hs552
  obtain ⟨f564, h565⟩ : ∃ z, S555.1 531 = .inl (.byte, 2020, .inl z) := ⟨_, h556⟩
  refine T_p xr_201_99 xn_201 (pc' := 102) (ls' := [(6, .int 15), (7, .int (x4)), (0, .ref 530), (1, .int (x1)), (2, .int (x2)), (3, .int (x3)), (4, .int (x4)), (5, .int (x5))]) (st' := []) rfl ?_
  refine T_p xr_201_102 xn_201 (pc' := 18) (ls' := [(6, .int 15), (7, .int (x4)), (0, .ref 530), (1, .int (x1)), (2, .int (x2)), (3, .int (x3)), (4, .int (x4)), (5, .int (x5))]) (st' := []) rfl ?_
  refine T_p xr_201_18 xn_201 (pc' := 20) (ls' := [(6, .int 15), (7, .int (x4)), (0, .ref 530), (1, .int (x1)), (2, .int (x2)), (3, .int (x3)), (4, .int (x4)), (5, .int (x5))]) (st' := [.int 15]) rfl ?_
  refine T_p xr_201_20 xn_201 (pc' := 22) (ls' := [(6, .int 15), (7, .int (x4)), (0, .ref 530), (1, .int (x1)), (2, .int (x2)), (3, .int (x3)), (4, .int (x4)), (5, .int (x5))]) (st' := [.int 20, .int 15]) rfl ?_
  refine T_b2f xr_201_22 rfl (t := 105) (pc' := 25) rfl rfl ?_
  refine T_p xr_201_25 xn_201 (pc' := 27) (ls' := [(6, .int 15), (7, .int (x4)), (0, .ref 530), (1, .int (x1)), (2, .int (x2)), (3, .int (x3)), (4, .int (x4)), (5, .int (x5))]) (st' := [.int 15]) rfl ?_
  refine T_p xr_201_27 xn_201 (pc' := 28) (ls' := [(6, .int 15), (7, .int (x4)), (0, .ref 530), (1, .int (x1)), (2, .int (x2)), (3, .int (x3)), (4, .int (x4)), (5, .int (x5))]) (st' := [.int 4, .int 15]) rfl ?_
  refine T_b2t xr_201_28 rfl (t := 35) rfl ?_
  refine T_p xr_201_35 xn_201 (pc' := 37) (ls' := [(6, .int 15), (7, .int (x4)), (0, .ref 530), (1, .int (x1)), (2, .int (x2)), (3, .int (x3)), (4, .int (x4)), (5, .int (x5))]) (st' := [.int 15]) rfl ?_
  refine T_p xr_201_37 xn_201 (pc' := 39) (ls' := [(6, .int 15), (7, .int (x4)), (0, .ref 530), (1, .int (x1)), (2, .int (x2)), (3, .int (x3)), (4, .int (x4)), (5, .int (x5))]) (st' := [.int 8, .int 15]) rfl ?_
  refine T_b2t xr_201_39 rfl (t := 46) rfl ?_
  refine T_p xr_201_46 xn_201 (pc' := 48) (ls' := [(6, .int 15), (7, .int (x4)), (0, .ref 530), (1, .int (x1)), (2, .int (x2)), (3, .int (x3)), (4, .int (x4)), (5, .int (x5))]) (st' := [.int 15]) rfl ?_
  refine T_p xr_201_48 xn_201 (pc' := 50) (ls' := [(6, .int 15), (7, .int (x4)), (0, .ref 530), (1, .int (x1)), (2, .int (x2)), (3, .int (x3)), (4, .int (x4)), (5, .int (x5))]) (st' := [.int 12, .int 15]) rfl ?_
  refine T_b2t xr_201_50 rfl (t := 57) rfl ?_
  refine T_p xr_201_57 xn_201 (pc' := 59) (ls' := [(6, .int 15), (7, .int (x4)), (0, .ref 530), (1, .int (x1)), (2, .int (x2)), (3, .int (x3)), (4, .int (x4)), (5, .int (x5))]) (st' := [.int 15]) rfl ?_
  refine T_p xr_201_59 xn_201 (pc' := 61) (ls' := [(6, .int 15), (7, .int (x4)), (0, .ref 530), (1, .int (x1)), (2, .int (x2)), (3, .int (x3)), (4, .int (x4)), (5, .int (x5))]) (st' := [.int 16, .int 15]) rfl ?_
  refine T_b2f xr_201_61 rfl (t := 69) (pc' := 64) rfl rfl ?_
  refine T_p xr_201_64 xn_201 (pc' := 66) (ls' := [(6, .int 15), (7, .int (x4)), (0, .ref 530), (1, .int (x1)), (2, .int (x2)), (3, .int (x3)), (4, .int (x4)), (5, .int (x5))]) (st' := [.int (x4)]) rfl ?_
  refine T_p xr_201_66 xn_201 (pc' := 71) (ls' := [(6, .int 15), (7, .int (x4)), (0, .ref 530), (1, .int (x1)), (2, .int (x2)), (3, .int (x3)), (4, .int (x4)), (5, .int (x5))]) (st' := [.int (x4)]) rfl ?_
  refine T_p xr_201_71 xn_201 (pc' := 73) (ls' := [(7, .int (x4)), (6, .int 15), (0, .ref 530), (1, .int (x1)), (2, .int (x2)), (3, .int (x3)), (4, .int (x4)), (5, .int (x5))]) (st' := []) rfl ?_
  refine T_p xr_201_73 xn_201 (pc' := 74) (ls' := [(7, .int (x4)), (6, .int 15), (0, .ref 530), (1, .int (x1)), (2, .int (x2)), (3, .int (x3)), (4, .int (x4)), (5, .int (x5))]) (st' := [.ref 530]) rfl ?_
  refine T_get xr_201_74 h561 rfl (v := .ref 531) rfl (pc' := 77) rfl ?_
  refine T_p xr_201_77 xn_201 (pc' := 78) (ls' := [(7, .int (x4)), (6, .int 15), (0, .ref 530), (1, .int (x1)), (2, .int (x2)), (3, .int (x3)), (4, .int (x4)), (5, .int (x5))]) (st' := [.ref 530, .ref 531]) rfl ?_
  refine T_get xr_201_78 h561 rfl (v := .int 0) rfl (pc' := 81) rfl ?_
  refine T_p xr_201_81 xn_201 (pc' := 83) (ls' := [(7, .int (x4)), (6, .int 15), (0, .ref 530), (1, .int (x1)), (2, .int (x2)), (3, .int (x3)), (4, .int (x4)), (5, .int (x5))]) (st' := [.int 15, .int 0, .ref 531]) rfl ?_
  refine T_p xr_201_83 xn_201 (pc' := 84) (ls' := [(7, .int (x4)), (6, .int 15), (0, .ref 530), (1, .int (x1)), (2, .int (x2)), (3, .int (x3)), (4, .int (x4)), (5, .int (x5))]) (st' := [.int 15, .ref 531]) rfl ?_
  refine T_p xr_201_84 xn_201 (pc' := 86) (ls' := [(7, .int (x4)), (6, .int 15), (0, .ref 530), (1, .int (x1)), (2, .int (x2)), (3, .int (x3)), (4, .int (x4)), (5, .int (x5))]) (st' := [.int (x4), .int 15, .ref 531]) rfl ?_
  refine T_p xr_201_86 xn_201 (pc' := 88) (ls' := [(7, .int (x4)), (6, .int 15), (0, .ref 530), (1, .int (x1)), (2, .int (x2)), (3, .int (x3)), (4, .int (x4)), (5, .int (x5))]) (st' := [.int 24, .int (x4), .int 15, .ref 531]) rfl ?_
  refine T_p xr_201_88 xn_201 (pc' := 90) (ls' := [(7, .int (x4)), (6, .int 15), (0, .ref 530), (1, .int (x1)), (2, .int (x2)), (3, .int (x3)), (4, .int (x4)), (5, .int (x5))]) (st' := [.int 8, .int 24, .int (x4), .int 15, .ref 531]) rfl ?_
  refine T_p xr_201_90 xn_201 (pc' := 92) (ls' := [(7, .int (x4)), (6, .int 15), (0, .ref 530), (1, .int (x1)), (2, .int (x2)), (3, .int (x3)), (4, .int (x4)), (5, .int (x5))]) (st' := [.int 15, .int 8, .int 24, .int (x4), .int 15, .ref 531]) rfl ?_
  refine T_p xr_201_92 xn_201 (pc' := 93) (ls' := [(7, .int (x4)), (6, .int 15), (0, .ref 530), (1, .int (x1)), (2, .int (x2)), (3, .int (x3)), (4, .int (x4)), (5, .int (x5))]) (st' := [.int 3, .int 15, .int 8, .int 24, .int (x4), .int 15, .ref 531]) rfl ?_
  refine T_p xr_201_93 xn_201 (pc' := 94) (ls' := [(7, .int (x4)), (6, .int 15), (0, .ref 530), (1, .int (x1)), (2, .int (x2)), (3, .int (x3)), (4, .int (x4)), (5, .int (x5))]) (st' := [.int 3, .int 8, .int 24, .int (x4), .int 15, .ref 531]) rfl ?_
  refine T_p xr_201_94 xn_201 (pc' := 95) (ls' := [(7, .int (x4)), (6, .int 15), (0, .ref 530), (1, .int (x1)), (2, .int (x2)), (3, .int (x3)), (4, .int (x4)), (5, .int (x5))]) (st' := [.int 24, .int 24, .int (x4), .int 15, .ref 531]) rfl ?_
  refine T_p xr_201_95 xn_201 (pc' := 96) (ls' := [(7, .int (x4)), (6, .int 15), (0, .ref 530), (1, .int (x1)), (2, .int (x2)), (3, .int (x3)), (4, .int (x4)), (5, .int (x5))]) (st' := [.int 0, .int (x4), .int 15, .ref 531]) rfl ?_
  refine T_p xr_201_96 xn_201 (pc' := 97) (ls' := [(7, .int (x4)), (6, .int 15), (0, .ref 530), (1, .int (x1)), (2, .int (x2)), (3, .int (x3)), (4, .int (x4)), (5, .int (x5))]) (st' := [.int (((x4 : Int32) >>> ((0 : Int32) &&& 31))), .int 15, .ref 531]) rfl ?_
  refine T_p xr_201_97 xn_201 (pc' := 98) (ls' := [(7, .int (x4)), (6, .int 15), (0, .ref 530), (1, .int (x1)), (2, .int (x2)), (3, .int (x3)), (4, .int (x4)), (5, .int (x5))]) (st' := [.int ((((x4 : Int32) >>> ((0 : Int32) &&& 31))).toInt8.toInt32), .int 15, .ref 531]) rfl ?_
  refine T_bast xr_201_98 h565 (by decide) (pc' := 99) rfl (fun S566 h567 n568 e569 => ?_)
  have h570 := (n568 1 (by decide)).trans h559
  have h571 := (n568 2 (by decide)).trans h560
  have h572 := (n568 530 (by decide)).trans h561
  have h573 := (n568 3 (by decide)).trans h562
  have hs574 := e569.trans hs563
  obtain ⟨f575, h576⟩ : ∃ z, S566.1 531 = .inl (.byte, 2020, .inl z) := ⟨_, h567⟩
  refine T_p xr_201_99 xn_201 (pc' := 102) (ls' := [(6, .int 16), (7, .int (x4)), (0, .ref 530), (1, .int (x1)), (2, .int (x2)), (3, .int (x3)), (4, .int (x4)), (5, .int (x5))]) (st' := []) rfl ?_
  refine T_p xr_201_102 xn_201 (pc' := 18) (ls' := [(6, .int 16), (7, .int (x4)), (0, .ref 530), (1, .int (x1)), (2, .int (x2)), (3, .int (x3)), (4, .int (x4)), (5, .int (x5))]) (st' := []) rfl ?_
  refine T_p xr_201_18 xn_201 (pc' := 20) (ls' := [(6, .int 16), (7, .int (x4)), (0, .ref 530), (1, .int (x1)), (2, .int (x2)), (3, .int (x3)), (4, .int (x4)), (5, .int (x5))]) (st' := [.int 16]) rfl ?_
  refine T_p xr_201_20 xn_201 (pc' := 22) (ls' := [(6, .int 16), (7, .int (x4)), (0, .ref 530), (1, .int (x1)), (2, .int (x2)), (3, .int (x3)), (4, .int (x4)), (5, .int (x5))]) (st' := [.int 20, .int 16]) rfl ?_
  refine T_b2f xr_201_22 rfl (t := 105) (pc' := 25) rfl rfl ?_
  refine T_p xr_201_25 xn_201 (pc' := 27) (ls' := [(6, .int 16), (7, .int (x4)), (0, .ref 530), (1, .int (x1)), (2, .int (x2)), (3, .int (x3)), (4, .int (x4)), (5, .int (x5))]) (st' := [.int 16]) rfl ?_
  refine T_p xr_201_27 xn_201 (pc' := 28) (ls' := [(6, .int 16), (7, .int (x4)), (0, .ref 530), (1, .int (x1)), (2, .int (x2)), (3, .int (x3)), (4, .int (x4)), (5, .int (x5))]) (st' := [.int 4, .int 16]) rfl ?_
  refine T_b2t xr_201_28 rfl (t := 35) rfl ?_
  refine T_p xr_201_35 xn_201 (pc' := 37) (ls' := [(6, .int 16), (7, .int (x4)), (0, .ref 530), (1, .int (x1)), (2, .int (x2)), (3, .int (x3)), (4, .int (x4)), (5, .int (x5))]) (st' := [.int 16]) rfl ?_
  refine T_p xr_201_37 xn_201 (pc' := 39) (ls' := [(6, .int 16), (7, .int (x4)), (0, .ref 530), (1, .int (x1)), (2, .int (x2)), (3, .int (x3)), (4, .int (x4)), (5, .int (x5))]) (st' := [.int 8, .int 16]) rfl ?_
  refine T_b2t xr_201_39 rfl (t := 46) rfl ?_
  refine T_p xr_201_46 xn_201 (pc' := 48) (ls' := [(6, .int 16), (7, .int (x4)), (0, .ref 530), (1, .int (x1)), (2, .int (x2)), (3, .int (x3)), (4, .int (x4)), (5, .int (x5))]) (st' := [.int 16]) rfl ?_
  refine T_p xr_201_48 xn_201 (pc' := 50) (ls' := [(6, .int 16), (7, .int (x4)), (0, .ref 530), (1, .int (x1)), (2, .int (x2)), (3, .int (x3)), (4, .int (x4)), (5, .int (x5))]) (st' := [.int 12, .int 16]) rfl ?_
  refine T_b2t xr_201_50 rfl (t := 57) rfl ?_
  refine T_p xr_201_57 xn_201 (pc' := 59) (ls' := [(6, .int 16), (7, .int (x4)), (0, .ref 530), (1, .int (x1)), (2, .int (x2)), (3, .int (x3)), (4, .int (x4)), (5, .int (x5))]) (st' := [.int 16]) rfl ?_
  refine T_p xr_201_59 xn_201 (pc' := 61) (ls' := [(6, .int 16), (7, .int (x4)), (0, .ref 530), (1, .int (x1)), (2, .int (x2)), (3, .int (x3)), (4, .int (x4)), (5, .int (x5))]) (st' := [.int 16, .int 16]) rfl ?_
  refine T_b2t xr_201_61 rfl (t := 69) rfl ?_
  refine T_p xr_201_69 xn_201 (pc' := 71) (ls' := [(6, .int 16), (7, .int (x4)), (0, .ref 530), (1, .int (x1)), (2, .int (x2)), (3, .int (x3)), (4, .int (x4)), (5, .int (x5))]) (st' := [.int (x5)]) rfl ?_
  refine T_p xr_201_71 xn_201 (pc' := 73) (ls' := [(7, .int (x5)), (6, .int 16), (0, .ref 530), (1, .int (x1)), (2, .int (x2)), (3, .int (x3)), (4, .int (x4)), (5, .int (x5))]) (st' := []) rfl ?_
  refine T_p xr_201_73 xn_201 (pc' := 74) (ls' := [(7, .int (x5)), (6, .int 16), (0, .ref 530), (1, .int (x1)), (2, .int (x2)), (3, .int (x3)), (4, .int (x4)), (5, .int (x5))]) (st' := [.ref 530]) rfl ?_
  refine T_get xr_201_74 h572 rfl (v := .ref 531) rfl (pc' := 77) rfl ?_
  refine T_p xr_201_77 xn_201 (pc' := 78) (ls' := [(7, .int (x5)), (6, .int 16), (0, .ref 530), (1, .int (x1)), (2, .int (x2)), (3, .int (x3)), (4, .int (x4)), (5, .int (x5))]) (st' := [.ref 530, .ref 531]) rfl ?_
  refine T_get xr_201_78 h572 rfl (v := .int 0) rfl (pc' := 81) rfl ?_
  refine T_p xr_201_81 xn_201 (pc' := 83) (ls' := [(7, .int (x5)), (6, .int 16), (0, .ref 530), (1, .int (x1)), (2, .int (x2)), (3, .int (x3)), (4, .int (x4)), (5, .int (x5))]) (st' := [.int 16, .int 0, .ref 531]) rfl ?_
  refine T_p xr_201_83 xn_201 (pc' := 84) (ls' := [(7, .int (x5)), (6, .int 16), (0, .ref 530), (1, .int (x1)), (2, .int (x2)), (3, .int (x3)), (4, .int (x4)), (5, .int (x5))]) (st' := [.int 16, .ref 531]) rfl ?_
  refine T_p xr_201_84 xn_201 (pc' := 86) (ls' := [(7, .int (x5)), (6, .int 16), (0, .ref 530), (1, .int (x1)), (2, .int (x2)), (3, .int (x3)), (4, .int (x4)), (5, .int (x5))]) (st' := [.int (x5), .int 16, .ref 531]) rfl ?_
  refine T_p xr_201_86 xn_201 (pc' := 88) (ls' := [(7, .int (x5)), (6, .int 16), (0, .ref 530), (1, .int (x1)), (2, .int (x2)), (3, .int (x3)), (4, .int (x4)), (5, .int (x5))]) (st' := [.int 24, .int (x5), .int 16, .ref 531]) rfl ?_
  refine T_p xr_201_88 xn_201 (pc' := 90) (ls' := [(7, .int (x5)), (6, .int 16), (0, .ref 530), (1, .int (x1)), (2, .int (x2)), (3, .int (x3)), (4, .int (x4)), (5, .int (x5))]) (st' := [.int 8, .int 24, .int (x5), .int 16, .ref 531]) rfl ?_
  refine T_p xr_201_90 xn_201 (pc' := 92) (ls' := [(7, .int (x5)), (6, .int 16), (0, .ref 530), (1, .int (x1)), (2, .int (x2)), (3, .int (x3)), (4, .int (x4)), (5, .int (x5))]) (st' := [.int 16, .int 8, .int 24, .int (x5), .int 16, .ref 531]) rfl ?_
  refine T_p xr_201_92 xn_201 (pc' := 93) (ls' := [(7, .int (x5)), (6, .int 16), (0, .ref 530), (1, .int (x1)), (2, .int (x2)), (3, .int (x3)), (4, .int (x4)), (5, .int (x5))]) (st' := [.int 3, .int 16, .int 8, .int 24, .int (x5), .int 16, .ref 531]) rfl ?_
  refine T_p xr_201_93 xn_201 (pc' := 94) (ls' := [(7, .int (x5)), (6, .int 16), (0, .ref 530), (1, .int (x1)), (2, .int (x2)), (3, .int (x3)), (4, .int (x4)), (5, .int (x5))]) (st' := [.int 0, .int 8, .int 24, .int (x5), .int 16, .ref 531]) rfl ?_
  refine T_p xr_201_94 xn_201 (pc' := 95) (ls' := [(7, .int (x5)), (6, .int 16), (0, .ref 530), (1, .int (x1)), (2, .int (x2)), (3, .int (x3)), (4, .int (x4)), (5, .int (x5))]) (st' := [.int 0, .int 24, .int (x5), .int 16, .ref 531]) rfl ?_
  refine T_p xr_201_95 xn_201 (pc' := 96) (ls' := [(7, .int (x5)), (6, .int 16), (0, .ref 530), (1, .int (x1)), (2, .int (x2)), (3, .int (x3)), (4, .int (x4)), (5, .int (x5))]) (st' := [.int 24, .int (x5), .int 16, .ref 531]) rfl ?_
  refine T_p xr_201_96 xn_201 (pc' := 97) (ls' := [(7, .int (x5)), (6, .int 16), (0, .ref 530), (1, .int (x1)), (2, .int (x2)), (3, .int (x3)), (4, .int (x4)), (5, .int (x5))]) (st' := [.int (((x5 : Int32) >>> ((24 : Int32) &&& 31))), .int 16, .ref 531]) rfl ?_
  refine T_p xr_201_97 xn_201 (pc' := 98) (ls' := [(7, .int (x5)), (6, .int 16), (0, .ref 530), (1, .int (x1)), (2, .int (x2)), (3, .int (x3)), (4, .int (x4)), (5, .int (x5))]) (st' := [.int ((((x5 : Int32) >>> ((24 : Int32) &&& 31))).toInt8.toInt32), .int 16, .ref 531]) rfl ?_
  refine T_bast xr_201_98 h576 (by decide) (pc' := 99) rfl (fun S577 h578 n579 e580 => ?_)
  have h581 := (n579 1 (by decide)).trans h570
  have h582 := (n579 2 (by decide)).trans h571
  have h583 := (n579 530 (by decide)).trans h572
  have h584 := (n579 3 (by decide)).trans h573
  have hs585 := e580.trans hs574
  obtain ⟨f586, h587⟩ : ∃ z, S577.1 531 = .inl (.byte, 2020, .inl z) := ⟨_, h578⟩
  refine T_p xr_201_99 xn_201 (pc' := 102) (ls' := [(6, .int 17), (7, .int (x5)), (0, .ref 530), (1, .int (x1)), (2, .int (x2)), (3, .int (x3)), (4, .int (x4)), (5, .int (x5))]) (st' := []) rfl ?_
  refine T_p xr_201_102 xn_201 (pc' := 18) (ls' := [(6, .int 17), (7, .int (x5)), (0, .ref 530), (1, .int (x1)), (2, .int (x2)), (3, .int (x3)), (4, .int (x4)), (5, .int (x5))]) (st' := []) rfl ?_
  refine T_p xr_201_18 xn_201 (pc' := 20) (ls' := [(6, .int 17), (7, .int (x5)), (0, .ref 530), (1, .int (x1)), (2, .int (x2)), (3, .int (x3)), (4, .int (x4)), (5, .int (x5))]) (st' := [.int 17]) rfl ?_
  refine T_p xr_201_20 xn_201 (pc' := 22) (ls' := [(6, .int 17), (7, .int (x5)), (0, .ref 530), (1, .int (x1)), (2, .int (x2)), (3, .int (x3)), (4, .int (x4)), (5, .int (x5))]) (st' := [.int 20, .int 17]) rfl ?_
  refine T_b2f xr_201_22 rfl (t := 105) (pc' := 25) rfl rfl ?_
  refine T_p xr_201_25 xn_201 (pc' := 27) (ls' := [(6, .int 17), (7, .int (x5)), (0, .ref 530), (1, .int (x1)), (2, .int (x2)), (3, .int (x3)), (4, .int (x4)), (5, .int (x5))]) (st' := [.int 17]) rfl ?_
  refine T_p xr_201_27 xn_201 (pc' := 28) (ls' := [(6, .int 17), (7, .int (x5)), (0, .ref 530), (1, .int (x1)), (2, .int (x2)), (3, .int (x3)), (4, .int (x4)), (5, .int (x5))]) (st' := [.int 4, .int 17]) rfl ?_
  refine T_b2t xr_201_28 rfl (t := 35) rfl ?_
  refine T_p xr_201_35 xn_201 (pc' := 37) (ls' := [(6, .int 17), (7, .int (x5)), (0, .ref 530), (1, .int (x1)), (2, .int (x2)), (3, .int (x3)), (4, .int (x4)), (5, .int (x5))]) (st' := [.int 17]) rfl ?_
  refine T_p xr_201_37 xn_201 (pc' := 39) (ls' := [(6, .int 17), (7, .int (x5)), (0, .ref 530), (1, .int (x1)), (2, .int (x2)), (3, .int (x3)), (4, .int (x4)), (5, .int (x5))]) (st' := [.int 8, .int 17]) rfl ?_
  refine T_b2t xr_201_39 rfl (t := 46) rfl ?_
  refine T_p xr_201_46 xn_201 (pc' := 48) (ls' := [(6, .int 17), (7, .int (x5)), (0, .ref 530), (1, .int (x1)), (2, .int (x2)), (3, .int (x3)), (4, .int (x4)), (5, .int (x5))]) (st' := [.int 17]) rfl ?_
  refine T_p xr_201_48 xn_201 (pc' := 50) (ls' := [(6, .int 17), (7, .int (x5)), (0, .ref 530), (1, .int (x1)), (2, .int (x2)), (3, .int (x3)), (4, .int (x4)), (5, .int (x5))]) (st' := [.int 12, .int 17]) rfl ?_
  refine T_b2t xr_201_50 rfl (t := 57) rfl ?_
  refine T_p xr_201_57 xn_201 (pc' := 59) (ls' := [(6, .int 17), (7, .int (x5)), (0, .ref 530), (1, .int (x1)), (2, .int (x2)), (3, .int (x3)), (4, .int (x4)), (5, .int (x5))]) (st' := [.int 17]) rfl ?_
  refine T_p xr_201_59 xn_201 (pc' := 61) (ls' := [(6, .int 17), (7, .int (x5)), (0, .ref 530), (1, .int (x1)), (2, .int (x2)), (3, .int (x3)), (4, .int (x4)), (5, .int (x5))]) (st' := [.int 16, .int 17]) rfl ?_
  refine T_b2t xr_201_61 rfl (t := 69) rfl ?_
  refine T_p xr_201_69 xn_201 (pc' := 71) (ls' := [(6, .int 17), (7, .int (x5)), (0, .ref 530), (1, .int (x1)), (2, .int (x2)), (3, .int (x3)), (4, .int (x4)), (5, .int (x5))]) (st' := [.int (x5)]) rfl ?_
  refine T_p xr_201_71 xn_201 (pc' := 73) (ls' := [(7, .int (x5)), (6, .int 17), (0, .ref 530), (1, .int (x1)), (2, .int (x2)), (3, .int (x3)), (4, .int (x4)), (5, .int (x5))]) (st' := []) rfl ?_
  refine T_p xr_201_73 xn_201 (pc' := 74) (ls' := [(7, .int (x5)), (6, .int 17), (0, .ref 530), (1, .int (x1)), (2, .int (x2)), (3, .int (x3)), (4, .int (x4)), (5, .int (x5))]) (st' := [.ref 530]) rfl ?_
  refine T_get xr_201_74 h583 rfl (v := .ref 531) rfl (pc' := 77) rfl ?_
  refine T_p xr_201_77 xn_201 (pc' := 78) (ls' := [(7, .int (x5)), (6, .int 17), (0, .ref 530), (1, .int (x1)), (2, .int (x2)), (3, .int (x3)), (4, .int (x4)), (5, .int (x5))]) (st' := [.ref 530, .ref 531]) rfl ?_
  refine T_get xr_201_78 h583 rfl (v := .int 0) rfl (pc' := 81) rfl ?_
  refine T_p xr_201_81 xn_201 (pc' := 83) (ls' := [(7, .int (x5)), (6, .int 17), (0, .ref 530), (1, .int (x1)), (2, .int (x2)), (3, .int (x3)), (4, .int (x4)), (5, .int (x5))]) (st' := [.int 17, .int 0, .ref 531]) rfl ?_
  refine T_p xr_201_83 xn_201 (pc' := 84) (ls' := [(7, .int (x5)), (6, .int 17), (0, .ref 530), (1, .int (x1)), (2, .int (x2)), (3, .int (x3)), (4, .int (x4)), (5, .int (x5))]) (st' := [.int 17, .ref 531]) rfl ?_
  refine T_p xr_201_84 xn_201 (pc' := 86) (ls' := [(7, .int (x5)), (6, .int 17), (0, .ref 530), (1, .int (x1)), (2, .int (x2)), (3, .int (x3)), (4, .int (x4)), (5, .int (x5))]) (st' := [.int (x5), .int 17, .ref 531]) rfl ?_
  refine T_p xr_201_86 xn_201 (pc' := 88) (ls' := [(7, .int (x5)), (6, .int 17), (0, .ref 530), (1, .int (x1)), (2, .int (x2)), (3, .int (x3)), (4, .int (x4)), (5, .int (x5))]) (st' := [.int 24, .int (x5), .int 17, .ref 531]) rfl ?_
  refine T_p xr_201_88 xn_201 (pc' := 90) (ls' := [(7, .int (x5)), (6, .int 17), (0, .ref 530), (1, .int (x1)), (2, .int (x2)), (3, .int (x3)), (4, .int (x4)), (5, .int (x5))]) (st' := [.int 8, .int 24, .int (x5), .int 17, .ref 531]) rfl ?_
  refine T_p xr_201_90 xn_201 (pc' := 92) (ls' := [(7, .int (x5)), (6, .int 17), (0, .ref 530), (1, .int (x1)), (2, .int (x2)), (3, .int (x3)), (4, .int (x4)), (5, .int (x5))]) (st' := [.int 17, .int 8, .int 24, .int (x5), .int 17, .ref 531]) rfl ?_
  refine T_p xr_201_92 xn_201 (pc' := 93) (ls' := [(7, .int (x5)), (6, .int 17), (0, .ref 530), (1, .int (x1)), (2, .int (x2)), (3, .int (x3)), (4, .int (x4)), (5, .int (x5))]) (st' := [.int 3, .int 17, .int 8, .int 24, .int (x5), .int 17, .ref 531]) rfl ?_
  refine T_p xr_201_93 xn_201 (pc' := 94) (ls' := [(7, .int (x5)), (6, .int 17), (0, .ref 530), (1, .int (x1)), (2, .int (x2)), (3, .int (x3)), (4, .int (x4)), (5, .int (x5))]) (st' := [.int 1, .int 8, .int 24, .int (x5), .int 17, .ref 531]) rfl ?_
  refine T_p xr_201_94 xn_201 (pc' := 95) (ls' := [(7, .int (x5)), (6, .int 17), (0, .ref 530), (1, .int (x1)), (2, .int (x2)), (3, .int (x3)), (4, .int (x4)), (5, .int (x5))]) (st' := [.int 8, .int 24, .int (x5), .int 17, .ref 531]) rfl ?_
  refine T_p xr_201_95 xn_201 (pc' := 96) (ls' := [(7, .int (x5)), (6, .int 17), (0, .ref 530), (1, .int (x1)), (2, .int (x2)), (3, .int (x3)), (4, .int (x4)), (5, .int (x5))]) (st' := [.int 16, .int (x5), .int 17, .ref 531]) rfl ?_
  refine T_p xr_201_96 xn_201 (pc' := 97) (ls' := [(7, .int (x5)), (6, .int 17), (0, .ref 530), (1, .int (x1)), (2, .int (x2)), (3, .int (x3)), (4, .int (x4)), (5, .int (x5))]) (st' := [.int (((x5 : Int32) >>> ((16 : Int32) &&& 31))), .int 17, .ref 531]) rfl ?_
  refine T_p xr_201_97 xn_201 (pc' := 98) (ls' := [(7, .int (x5)), (6, .int 17), (0, .ref 530), (1, .int (x1)), (2, .int (x2)), (3, .int (x3)), (4, .int (x4)), (5, .int (x5))]) (st' := [.int ((((x5 : Int32) >>> ((16 : Int32) &&& 31))).toInt8.toInt32), .int 17, .ref 531]) rfl ?_
  refine T_bast xr_201_98 h587 (by decide) (pc' := 99) rfl (fun S588 h589 n590 e591 => ?_)
  have h592 := (n590 1 (by decide)).trans h581
  have h593 := (n590 2 (by decide)).trans h582
  have h594 := (n590 530 (by decide)).trans h583
  have h595 := (n590 3 (by decide)).trans h584
  have hs596 := e591.trans hs585
  obtain ⟨f597, h598⟩ : ∃ z, S588.1 531 = .inl (.byte, 2020, .inl z) := ⟨_, h589⟩
  refine T_p xr_201_99 xn_201 (pc' := 102) (ls' := [(6, .int 18), (7, .int (x5)), (0, .ref 530), (1, .int (x1)), (2, .int (x2)), (3, .int (x3)), (4, .int (x4)), (5, .int (x5))]) (st' := []) rfl ?_
  refine T_p xr_201_102 xn_201 (pc' := 18) (ls' := [(6, .int 18), (7, .int (x5)), (0, .ref 530), (1, .int (x1)), (2, .int (x2)), (3, .int (x3)), (4, .int (x4)), (5, .int (x5))]) (st' := []) rfl ?_
  refine T_p xr_201_18 xn_201 (pc' := 20) (ls' := [(6, .int 18), (7, .int (x5)), (0, .ref 530), (1, .int (x1)), (2, .int (x2)), (3, .int (x3)), (4, .int (x4)), (5, .int (x5))]) (st' := [.int 18]) rfl ?_
  refine T_p xr_201_20 xn_201 (pc' := 22) (ls' := [(6, .int 18), (7, .int (x5)), (0, .ref 530), (1, .int (x1)), (2, .int (x2)), (3, .int (x3)), (4, .int (x4)), (5, .int (x5))]) (st' := [.int 20, .int 18]) rfl ?_
  refine T_b2f xr_201_22 rfl (t := 105) (pc' := 25) rfl rfl ?_
  refine T_p xr_201_25 xn_201 (pc' := 27) (ls' := [(6, .int 18), (7, .int (x5)), (0, .ref 530), (1, .int (x1)), (2, .int (x2)), (3, .int (x3)), (4, .int (x4)), (5, .int (x5))]) (st' := [.int 18]) rfl ?_
  refine T_p xr_201_27 xn_201 (pc' := 28) (ls' := [(6, .int 18), (7, .int (x5)), (0, .ref 530), (1, .int (x1)), (2, .int (x2)), (3, .int (x3)), (4, .int (x4)), (5, .int (x5))]) (st' := [.int 4, .int 18]) rfl ?_
  refine T_b2t xr_201_28 rfl (t := 35) rfl ?_
  refine T_p xr_201_35 xn_201 (pc' := 37) (ls' := [(6, .int 18), (7, .int (x5)), (0, .ref 530), (1, .int (x1)), (2, .int (x2)), (3, .int (x3)), (4, .int (x4)), (5, .int (x5))]) (st' := [.int 18]) rfl ?_
  refine T_p xr_201_37 xn_201 (pc' := 39) (ls' := [(6, .int 18), (7, .int (x5)), (0, .ref 530), (1, .int (x1)), (2, .int (x2)), (3, .int (x3)), (4, .int (x4)), (5, .int (x5))]) (st' := [.int 8, .int 18]) rfl ?_
  refine T_b2t xr_201_39 rfl (t := 46) rfl ?_
  refine T_p xr_201_46 xn_201 (pc' := 48) (ls' := [(6, .int 18), (7, .int (x5)), (0, .ref 530), (1, .int (x1)), (2, .int (x2)), (3, .int (x3)), (4, .int (x4)), (5, .int (x5))]) (st' := [.int 18]) rfl ?_
  refine T_p xr_201_48 xn_201 (pc' := 50) (ls' := [(6, .int 18), (7, .int (x5)), (0, .ref 530), (1, .int (x1)), (2, .int (x2)), (3, .int (x3)), (4, .int (x4)), (5, .int (x5))]) (st' := [.int 12, .int 18]) rfl ?_
  refine T_b2t xr_201_50 rfl (t := 57) rfl ?_
  refine T_p xr_201_57 xn_201 (pc' := 59) (ls' := [(6, .int 18), (7, .int (x5)), (0, .ref 530), (1, .int (x1)), (2, .int (x2)), (3, .int (x3)), (4, .int (x4)), (5, .int (x5))]) (st' := [.int 18]) rfl ?_
  refine T_p xr_201_59 xn_201 (pc' := 61) (ls' := [(6, .int 18), (7, .int (x5)), (0, .ref 530), (1, .int (x1)), (2, .int (x2)), (3, .int (x3)), (4, .int (x4)), (5, .int (x5))]) (st' := [.int 16, .int 18]) rfl ?_
  refine T_b2t xr_201_61 rfl (t := 69) rfl ?_
  refine T_p xr_201_69 xn_201 (pc' := 71) (ls' := [(6, .int 18), (7, .int (x5)), (0, .ref 530), (1, .int (x1)), (2, .int (x2)), (3, .int (x3)), (4, .int (x4)), (5, .int (x5))]) (st' := [.int (x5)]) rfl ?_
  refine T_p xr_201_71 xn_201 (pc' := 73) (ls' := [(7, .int (x5)), (6, .int 18), (0, .ref 530), (1, .int (x1)), (2, .int (x2)), (3, .int (x3)), (4, .int (x4)), (5, .int (x5))]) (st' := []) rfl ?_
  refine T_p xr_201_73 xn_201 (pc' := 74) (ls' := [(7, .int (x5)), (6, .int 18), (0, .ref 530), (1, .int (x1)), (2, .int (x2)), (3, .int (x3)), (4, .int (x4)), (5, .int (x5))]) (st' := [.ref 530]) rfl ?_
  refine T_get xr_201_74 h594 rfl (v := .ref 531) rfl (pc' := 77) rfl ?_
  refine T_p xr_201_77 xn_201 (pc' := 78) (ls' := [(7, .int (x5)), (6, .int 18), (0, .ref 530), (1, .int (x1)), (2, .int (x2)), (3, .int (x3)), (4, .int (x4)), (5, .int (x5))]) (st' := [.ref 530, .ref 531]) rfl ?_
  refine T_get xr_201_78 h594 rfl (v := .int 0) rfl (pc' := 81) rfl ?_
  refine T_p xr_201_81 xn_201 (pc' := 83) (ls' := [(7, .int (x5)), (6, .int 18), (0, .ref 530), (1, .int (x1)), (2, .int (x2)), (3, .int (x3)), (4, .int (x4)), (5, .int (x5))]) (st' := [.int 18, .int 0, .ref 531]) rfl ?_
  refine T_p xr_201_83 xn_201 (pc' := 84) (ls' := [(7, .int (x5)), (6, .int 18), (0, .ref 530), (1, .int (x1)), (2, .int (x2)), (3, .int (x3)), (4, .int (x4)), (5, .int (x5))]) (st' := [.int 18, .ref 531]) rfl ?_
  refine T_p xr_201_84 xn_201 (pc' := 86) (ls' := [(7, .int (x5)), (6, .int 18), (0, .ref 530), (1, .int (x1)), (2, .int (x2)), (3, .int (x3)), (4, .int (x4)), (5, .int (x5))]) (st' := [.int (x5), .int 18, .ref 531]) rfl ?_
  refine T_p xr_201_86 xn_201 (pc' := 88) (ls' := [(7, .int (x5)), (6, .int 18), (0, .ref 530), (1, .int (x1)), (2, .int (x2)), (3, .int (x3)), (4, .int (x4)), (5, .int (x5))]) (st' := [.int 24, .int (x5), .int 18, .ref 531]) rfl ?_
  refine T_p xr_201_88 xn_201 (pc' := 90) (ls' := [(7, .int (x5)), (6, .int 18), (0, .ref 530), (1, .int (x1)), (2, .int (x2)), (3, .int (x3)), (4, .int (x4)), (5, .int (x5))]) (st' := [.int 8, .int 24, .int (x5), .int 18, .ref 531]) rfl ?_
  refine T_p xr_201_90 xn_201 (pc' := 92) (ls' := [(7, .int (x5)), (6, .int 18), (0, .ref 530), (1, .int (x1)), (2, .int (x2)), (3, .int (x3)), (4, .int (x4)), (5, .int (x5))]) (st' := [.int 18, .int 8, .int 24, .int (x5), .int 18, .ref 531]) rfl ?_
  refine T_p xr_201_92 xn_201 (pc' := 93) (ls' := [(7, .int (x5)), (6, .int 18), (0, .ref 530), (1, .int (x1)), (2, .int (x2)), (3, .int (x3)), (4, .int (x4)), (5, .int (x5))]) (st' := [.int 3, .int 18, .int 8, .int 24, .int (x5), .int 18, .ref 531]) rfl ?_
  refine T_p xr_201_93 xn_201 (pc' := 94) (ls' := [(7, .int (x5)), (6, .int 18), (0, .ref 530), (1, .int (x1)), (2, .int (x2)), (3, .int (x3)), (4, .int (x4)), (5, .int (x5))]) (st' := [.int 2, .int 8, .int 24, .int (x5), .int 18, .ref 531]) rfl ?_
  refine T_p xr_201_94 xn_201 (pc' := 95) (ls' := [(7, .int (x5)), (6, .int 18), (0, .ref 530), (1, .int (x1)), (2, .int (x2)), (3, .int (x3)), (4, .int (x4)), (5, .int (x5))]) (st' := [.int 16, .int 24, .int (x5), .int 18, .ref 531]) rfl ?_
  refine T_p xr_201_95 xn_201 (pc' := 96) (ls' := [(7, .int (x5)), (6, .int 18), (0, .ref 530), (1, .int (x1)), (2, .int (x2)), (3, .int (x3)), (4, .int (x4)), (5, .int (x5))]) (st' := [.int 8, .int (x5), .int 18, .ref 531]) rfl ?_
  refine T_p xr_201_96 xn_201 (pc' := 97) (ls' := [(7, .int (x5)), (6, .int 18), (0, .ref 530), (1, .int (x1)), (2, .int (x2)), (3, .int (x3)), (4, .int (x4)), (5, .int (x5))]) (st' := [.int (((x5 : Int32) >>> ((8 : Int32) &&& 31))), .int 18, .ref 531]) rfl ?_
  refine T_p xr_201_97 xn_201 (pc' := 98) (ls' := [(7, .int (x5)), (6, .int 18), (0, .ref 530), (1, .int (x1)), (2, .int (x2)), (3, .int (x3)), (4, .int (x4)), (5, .int (x5))]) (st' := [.int ((((x5 : Int32) >>> ((8 : Int32) &&& 31))).toInt8.toInt32), .int 18, .ref 531]) rfl ?_
  refine T_bast xr_201_98 h598 (by decide) (pc' := 99) rfl (fun S599 h600 n601 e602 => ?_)
  have h603 := (n601 1 (by decide)).trans h592
  have h604 := (n601 2 (by decide)).trans h593
  have h605 := (n601 530 (by decide)).trans h594
  have h606 := (n601 3 (by decide)).trans h595
  have hs607 := e602.trans hs596
  obtain ⟨f608, h609⟩ : ∃ z, S599.1 531 = .inl (.byte, 2020, .inl z) := ⟨_, h600⟩
  refine T_p xr_201_99 xn_201 (pc' := 102) (ls' := [(6, .int 19), (7, .int (x5)), (0, .ref 530), (1, .int (x1)), (2, .int (x2)), (3, .int (x3)), (4, .int (x4)), (5, .int (x5))]) (st' := []) rfl ?_
  refine T_p xr_201_102 xn_201 (pc' := 18) (ls' := [(6, .int 19), (7, .int (x5)), (0, .ref 530), (1, .int (x1)), (2, .int (x2)), (3, .int (x3)), (4, .int (x4)), (5, .int (x5))]) (st' := []) rfl ?_
  refine T_p xr_201_18 xn_201 (pc' := 20) (ls' := [(6, .int 19), (7, .int (x5)), (0, .ref 530), (1, .int (x1)), (2, .int (x2)), (3, .int (x3)), (4, .int (x4)), (5, .int (x5))]) (st' := [.int 19]) rfl ?_
  refine T_p xr_201_20 xn_201 (pc' := 22) (ls' := [(6, .int 19), (7, .int (x5)), (0, .ref 530), (1, .int (x1)), (2, .int (x2)), (3, .int (x3)), (4, .int (x4)), (5, .int (x5))]) (st' := [.int 20, .int 19]) rfl ?_
  refine T_b2f xr_201_22 rfl (t := 105) (pc' := 25) rfl rfl ?_
  refine T_p xr_201_25 xn_201 (pc' := 27) (ls' := [(6, .int 19), (7, .int (x5)), (0, .ref 530), (1, .int (x1)), (2, .int (x2)), (3, .int (x3)), (4, .int (x4)), (5, .int (x5))]) (st' := [.int 19]) rfl ?_
  refine T_p xr_201_27 xn_201 (pc' := 28) (ls' := [(6, .int 19), (7, .int (x5)), (0, .ref 530), (1, .int (x1)), (2, .int (x2)), (3, .int (x3)), (4, .int (x4)), (5, .int (x5))]) (st' := [.int 4, .int 19]) rfl ?_
  refine T_b2t xr_201_28 rfl (t := 35) rfl ?_
  refine T_p xr_201_35 xn_201 (pc' := 37) (ls' := [(6, .int 19), (7, .int (x5)), (0, .ref 530), (1, .int (x1)), (2, .int (x2)), (3, .int (x3)), (4, .int (x4)), (5, .int (x5))]) (st' := [.int 19]) rfl ?_
  refine T_p xr_201_37 xn_201 (pc' := 39) (ls' := [(6, .int 19), (7, .int (x5)), (0, .ref 530), (1, .int (x1)), (2, .int (x2)), (3, .int (x3)), (4, .int (x4)), (5, .int (x5))]) (st' := [.int 8, .int 19]) rfl ?_
  refine T_b2t xr_201_39 rfl (t := 46) rfl ?_
  refine T_p xr_201_46 xn_201 (pc' := 48) (ls' := [(6, .int 19), (7, .int (x5)), (0, .ref 530), (1, .int (x1)), (2, .int (x2)), (3, .int (x3)), (4, .int (x4)), (5, .int (x5))]) (st' := [.int 19]) rfl ?_
  refine T_p xr_201_48 xn_201 (pc' := 50) (ls' := [(6, .int 19), (7, .int (x5)), (0, .ref 530), (1, .int (x1)), (2, .int (x2)), (3, .int (x3)), (4, .int (x4)), (5, .int (x5))]) (st' := [.int 12, .int 19]) rfl ?_
  refine T_b2t xr_201_50 rfl (t := 57) rfl ?_
  refine T_p xr_201_57 xn_201 (pc' := 59) (ls' := [(6, .int 19), (7, .int (x5)), (0, .ref 530), (1, .int (x1)), (2, .int (x2)), (3, .int (x3)), (4, .int (x4)), (5, .int (x5))]) (st' := [.int 19]) rfl ?_
  refine T_p xr_201_59 xn_201 (pc' := 61) (ls' := [(6, .int 19), (7, .int (x5)), (0, .ref 530), (1, .int (x1)), (2, .int (x2)), (3, .int (x3)), (4, .int (x4)), (5, .int (x5))]) (st' := [.int 16, .int 19]) rfl ?_
  refine T_b2t xr_201_61 rfl (t := 69) rfl ?_
  refine T_p xr_201_69 xn_201 (pc' := 71) (ls' := [(6, .int 19), (7, .int (x5)), (0, .ref 530), (1, .int (x1)), (2, .int (x2)), (3, .int (x3)), (4, .int (x4)), (5, .int (x5))]) (st' := [.int (x5)]) rfl ?_
  refine T_p xr_201_71 xn_201 (pc' := 73) (ls' := [(7, .int (x5)), (6, .int 19), (0, .ref 530), (1, .int (x1)), (2, .int (x2)), (3, .int (x3)), (4, .int (x4)), (5, .int (x5))]) (st' := []) rfl ?_
  refine T_p xr_201_73 xn_201 (pc' := 74) (ls' := [(7, .int (x5)), (6, .int 19), (0, .ref 530), (1, .int (x1)), (2, .int (x2)), (3, .int (x3)), (4, .int (x4)), (5, .int (x5))]) (st' := [.ref 530]) rfl ?_
  refine T_get xr_201_74 h605 rfl (v := .ref 531) rfl (pc' := 77) rfl ?_
  refine T_p xr_201_77 xn_201 (pc' := 78) (ls' := [(7, .int (x5)), (6, .int 19), (0, .ref 530), (1, .int (x1)), (2, .int (x2)), (3, .int (x3)), (4, .int (x4)), (5, .int (x5))]) (st' := [.ref 530, .ref 531]) rfl ?_
  refine T_get xr_201_78 h605 rfl (v := .int 0) rfl (pc' := 81) rfl ?_
  refine T_p xr_201_81 xn_201 (pc' := 83) (ls' := [(7, .int (x5)), (6, .int 19), (0, .ref 530), (1, .int (x1)), (2, .int (x2)), (3, .int (x3)), (4, .int (x4)), (5, .int (x5))]) (st' := [.int 19, .int 0, .ref 531]) rfl ?_
  refine T_p xr_201_83 xn_201 (pc' := 84) (ls' := [(7, .int (x5)), (6, .int 19), (0, .ref 530), (1, .int (x1)), (2, .int (x2)), (3, .int (x3)), (4, .int (x4)), (5, .int (x5))]) (st' := [.int 19, .ref 531]) rfl ?_
  refine T_p xr_201_84 xn_201 (pc' := 86) (ls' := [(7, .int (x5)), (6, .int 19), (0, .ref 530), (1, .int (x1)), (2, .int (x2)), (3, .int (x3)), (4, .int (x4)), (5, .int (x5))]) (st' := [.int (x5), .int 19, .ref 531]) rfl ?_
  refine T_p xr_201_86 xn_201 (pc' := 88) (ls' := [(7, .int (x5)), (6, .int 19), (0, .ref 530), (1, .int (x1)), (2, .int (x2)), (3, .int (x3)), (4, .int (x4)), (5, .int (x5))]) (st' := [.int 24, .int (x5), .int 19, .ref 531]) rfl ?_
  refine T_p xr_201_88 xn_201 (pc' := 90) (ls' := [(7, .int (x5)), (6, .int 19), (0, .ref 530), (1, .int (x1)), (2, .int (x2)), (3, .int (x3)), (4, .int (x4)), (5, .int (x5))]) (st' := [.int 8, .int 24, .int (x5), .int 19, .ref 531]) rfl ?_
  refine T_p xr_201_90 xn_201 (pc' := 92) (ls' := [(7, .int (x5)), (6, .int 19), (0, .ref 530), (1, .int (x1)), (2, .int (x2)), (3, .int (x3)), (4, .int (x4)), (5, .int (x5))]) (st' := [.int 19, .int 8, .int 24, .int (x5), .int 19, .ref 531]) rfl ?_
  refine T_p xr_201_92 xn_201 (pc' := 93) (ls' := [(7, .int (x5)), (6, .int 19), (0, .ref 530), (1, .int (x1)), (2, .int (x2)), (3, .int (x3)), (4, .int (x4)), (5, .int (x5))]) (st' := [.int 3, .int 19, .int 8, .int 24, .int (x5), .int 19, .ref 531]) rfl ?_
  refine T_p xr_201_93 xn_201 (pc' := 94) (ls' := [(7, .int (x5)), (6, .int 19), (0, .ref 530), (1, .int (x1)), (2, .int (x2)), (3, .int (x3)), (4, .int (x4)), (5, .int (x5))]) (st' := [.int 3, .int 8, .int 24, .int (x5), .int 19, .ref 531]) rfl ?_
  refine T_p xr_201_94 xn_201 (pc' := 95) (ls' := [(7, .int (x5)), (6, .int 19), (0, .ref 530), (1, .int (x1)), (2, .int (x2)), (3, .int (x3)), (4, .int (x4)), (5, .int (x5))]) (st' := [.int 24, .int 24, .int (x5), .int 19, .ref 531]) rfl ?_
  refine T_p xr_201_95 xn_201 (pc' := 96) (ls' := [(7, .int (x5)), (6, .int 19), (0, .ref 530), (1, .int (x1)), (2, .int (x2)), (3, .int (x3)), (4, .int (x4)), (5, .int (x5))]) (st' := [.int 0, .int (x5), .int 19, .ref 531]) rfl ?_
  refine T_p xr_201_96 xn_201 (pc' := 97) (ls' := [(7, .int (x5)), (6, .int 19), (0, .ref 530), (1, .int (x1)), (2, .int (x2)), (3, .int (x3)), (4, .int (x4)), (5, .int (x5))]) (st' := [.int (((x5 : Int32) >>> ((0 : Int32) &&& 31))), .int 19, .ref 531]) rfl ?_
  refine T_p xr_201_97 xn_201 (pc' := 98) (ls' := [(7, .int (x5)), (6, .int 19), (0, .ref 530), (1, .int (x1)), (2, .int (x2)), (3, .int (x3)), (4, .int (x4)), (5, .int (x5))]) (st' := [.int ((((x5 : Int32) >>> ((0 : Int32) &&& 31))).toInt8.toInt32), .int 19, .ref 531]) rfl ?_
  refine T_bast xr_201_98 h609 (by decide) (pc' := 99) rfl (fun S610 h611 n612 e613 => ?_)
  have h614 := (n612 1 (by decide)).trans h603
  have h615 := (n612 2 (by decide)).trans h604
  have h616 := (n612 530 (by decide)).trans h605
  have h617 := (n612 3 (by decide)).trans h606
  have hs618 := e613.trans hs607
  obtain ⟨f619, h620⟩ : ∃ z, S610.1 531 = .inl (.byte, 2020, .inl z) := ⟨_, h611⟩
  refine T_p xr_201_99 xn_201 (pc' := 102) (ls' := [(6, .int 20), (7, .int (x5)), (0, .ref 530), (1, .int (x1)), (2, .int (x2)), (3, .int (x3)), (4, .int (x4)), (5, .int (x5))]) (st' := []) rfl ?_
  refine T_p xr_201_102 xn_201 (pc' := 18) (ls' := [(6, .int 20), (7, .int (x5)), (0, .ref 530), (1, .int (x1)), (2, .int (x2)), (3, .int (x3)), (4, .int (x4)), (5, .int (x5))]) (st' := []) rfl ?_
  refine T_p xr_201_18 xn_201 (pc' := 20) (ls' := [(6, .int 20), (7, .int (x5)), (0, .ref 530), (1, .int (x1)), (2, .int (x2)), (3, .int (x3)), (4, .int (x4)), (5, .int (x5))]) (st' := [.int 20]) rfl ?_
  refine T_p xr_201_20 xn_201 (pc' := 22) (ls' := [(6, .int 20), (7, .int (x5)), (0, .ref 530), (1, .int (x1)), (2, .int (x2)), (3, .int (x3)), (4, .int (x4)), (5, .int (x5))]) (st' := [.int 20, .int 20]) rfl ?_
  refine T_b2t xr_201_22 rfl (t := 105) rfl ?_
  refine T_p xr_201_105 xn_201 (pc' := 106) (ls' := [(6, .int 20), (7, .int (x5)), (0, .ref 530), (1, .int (x1)), (2, .int (x2)), (3, .int (x3)), (4, .int (x4)), (5, .int (x5))]) (st' := [.ref 530]) rfl ?_
  refine T_p xr_201_106 xn_201 (pc' := 107) (ls' := [(6, .int 20), (7, .int (x5)), (0, .ref 530), (1, .int (x1)), (2, .int (x2)), (3, .int (x3)), (4, .int (x4)), (5, .int (x5))]) (st' := [.ref 530, .ref 530]) rfl ?_
  refine T_get xr_201_107 h616 rfl (v := .int 0) rfl (pc' := 110) rfl ?_
  refine T_p xr_201_110 xn_201 (pc' := 112) (ls' := [(6, .int 20), (7, .int (x5)), (0, .ref 530), (1, .int (x1)), (2, .int (x2)), (3, .int (x3)), (4, .int (x4)), (5, .int (x5))]) (st' := [.int 20, .int 0, .ref 530]) rfl ?_
  refine T_p xr_201_112 xn_201 (pc' := 113) (ls' := [(6, .int 20), (7, .int (x5)), (0, .ref 530), (1, .int (x1)), (2, .int (x2)), (3, .int (x3)), (4, .int (x4)), (5, .int (x5))]) (st' := [.int 20, .ref 530]) rfl ?_
  refine T_put xr_201_113 h616 rfl (by decide) rfl (fs' := [.ref 531, .int 20, .ref 532, .int 0, .int 0, .int 0, .int (-1), .int 0, .int 0, .int 0, .int 0, .int 0, .long 0, .ref 533, .ref 534, .ref 535, .ref 536, .ref 537, .ref 538, .ref 539, .ref 540, .ref 541, .ref 542, .ref 543, .ref 544, .ref 545, .ref 546, .ref 547, .int 0, .int 1, .int 0, .int 0, .int 1, .int 0, .ref 548, .ref 549, .ref 550, .ref 551, .int 0, .ref 552, .ref 553, .ref 554, .ref 555, .ref 556, .ref 557, .ref 558, .ref 559, .ref 560, .ref 561, .int 0, .ref 562, .ref 563, .ref 564, .ref 565, .ref 566, .ref 567, .ref 568, .ref 569, .int 0, .ref 570, .ref 571, .ref 572, .ref 573, .ref 574, .ref 575, .ref 576, .ref 577, .ref 578, .int 0, .int 0, .int 0, .ref 579]) rfl (pc' := 116) rfl (fun S621 h622 n623 e624 => ?_)
  have h625 := (n623 1 (by decide)).trans h614
  have h626 := (n623 2 (by decide)).trans h615
  have h627 := (n623 3 (by decide)).trans h617
  have h628 := (n623 531 (by decide)).trans h620
  have hs629 := e624.trans hs618
  refine T_p xr_201_116 xn_201 (pc' := 117) (ls' := [(6, .int 20), (7, .int (x5)), (0, .ref 530), (1, .int (x1)), (2, .int (x2)), (3, .int (x3)), (4, .int (x4)), (5, .int (x5))]) (st' := [.ref 530]) rfl ?_
  refine T_get xr_201_117 h622 rfl (v := .int 20) rfl (pc' := 120) rfl ?_
  refine T_iret xr_201_120 xf_201.2.2 rfl ?_
  show X_T (6, xs) 203 (174, [(3, .int 0), (2, .ref 530), (1, .ref 1), (0, .ref 0)], [.int 20, .int 20], S621) _
  refine T_b2t xr_203_174 rfl (t := 588) rfl ?_
  refine T_p xr_203_588 xn_203 (pc' := 591) (ls' := [(3, .int 6), (2, .ref 530), (1, .ref 1), (0, .ref 0)]) (st' := []) rfl ?_
  refine T_p xr_203_591 xn_203 (pc' := 18) (ls' := [(3, .int 6), (2, .ref 530), (1, .ref 1), (0, .ref 0)]) (st' := []) rfl ?_
  refine T_p xr_203_18 xn_203 (pc' := 19) (ls' := [(3, .int 6), (2, .ref 530), (1, .ref 1), (0, .ref 0)]) (st' := [.int 6]) rfl ?_
  refine T_p xr_203_19 xn_203 (pc' := 20) (ls' := [(3, .int 6), (2, .ref 530), (1, .ref 1), (0, .ref 0)]) (st' := [.ref 0, .int 6]) rfl ?_
  refine T_slen xr_203_20 (x := 6) rfl (pc' := 21) rfl ?_
  refine T_p xr_203_21 xn_203 (pc' := 23) (ls' := [(3, .int 6), (2, .ref 530), (1, .ref 1), (0, .ref 0)]) (st' := [.int 6, .int 6, .int 6]) rfl ?_
  refine T_p xr_203_23 xn_203 (pc' := 24) (ls' := [(3, .int 6), (2, .ref 530), (1, .ref 1), (0, .ref 0)]) (st' := [.int 0, .int 6]) rfl ?_
  refine T_b2t xr_203_24 rfl (t := 594) rfl ?_
  refine T_p xr_203_594 xn_203 (pc' := 595) (ls' := [(3, .int 6), (2, .ref 530), (1, .ref 1), (0, .ref 0)]) (st' := [.int 1]) rfl ?_
  exact T_iret xr_203_595 xf_203.2.2 rfl ⟨rfl, hs629⟩
theorem X_op0 (xs : Nat → Int32) : X_T (6, xs) 203 (116, [(3, .int 0), (2, .ref 530), (1, .ref 1), (0, .ref 0)], [], X_Sb) (fun v S => v = some (.int 1) ∧ S.2 = (580, 263990)) := by
  obtain ⟨z3, hz3⟩ := X_fa3
  obtain ⟨z531, hz531⟩ := X_fa531
  exact X_opx0 xs _ _ _ _ _ rfl rfl rfl rfl rfl X_Sb X_Sb2 X_fo1 X_fo2 X_fo530 z3 hz3 z531 hz531
