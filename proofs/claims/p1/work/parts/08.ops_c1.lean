theorem X_opx1 (xs : Nat → Int32) (x1 : Int32) (g1 : xs 1 = x1) (S0 : X_S) (hS2 : S0.2 = (580, 263990)) (w1 : S0.1 1 = .inr (10, [.ref 2, .ref 4, .ref 250, .ref 496, .ref 501, .ref 504, .ref 511, .ref 517, .ref 527])) (w2 : S0.1 2 = .inr (7, [.ref 3, .int 0])) (w530 : S0.1 530 = .inr (11, [.ref 531, .int 0, .ref 532, .int 0, .int 0, .int 0, .int (-1), .int 0, .int 0, .int 0, .int 0, .int 0, .long 0, .ref 533, .ref 534, .ref 535, .ref 536, .ref 537, .ref 538, .ref 539, .ref 540, .ref 541, .ref 542, .ref 543, .ref 544, .ref 545, .ref 546, .ref 547, .int 0, .int 1, .int 0, .int 0, .int 1, .int 0, .ref 548, .ref 549, .ref 550, .ref 551, .int 0, .ref 552, .ref 553, .ref 554, .ref 555, .ref 556, .ref 557, .ref 558, .ref 559, .ref 560, .ref 561, .int 0, .ref 562, .ref 563, .ref 564, .ref 565, .ref 566, .ref 567, .ref 568, .ref 569, .int 0, .ref 570, .ref 571, .ref 572, .ref 573, .ref 574, .ref 575, .ref 576, .ref 577, .ref 578, .int 0, .int 0, .int 0, .ref 579])) : X_T (6, xs) 203 (179, [(3, .int 0), (2, .ref 530), (1, .ref 1), (0, .ref 0)], [], S0) (fun v S => v = some (.int 1) ∧ S.2 = (580, 263990)) := by
  refine T_p xr_203_179 xn_203 (pc' := 180) (ls' := [(3, .int 0), (2, .ref 530), (1, .ref 1), (0, .ref 0)]) (st' := [.ref 1]) rfl ?_
  refine T_p xr_203_180 xn_203 (pc' := 181) (ls' := [(3, .int 0), (2, .ref 530), (1, .ref 1), (0, .ref 0)]) (st' := [.ref 0, .ref 1]) rfl ?_
  refine T_p xr_203_181 xn_203 (pc' := 182) (ls' := [(3, .int 0), (2, .ref 530), (1, .ref 1), (0, .ref 0)]) (st' := [.int 0, .ref 0, .ref 1]) rfl ?_
  refine T_p xr_203_182 xn_203 (pc' := 183) (ls' := [(3, .int 0), (2, .ref 530), (1, .ref 1), (0, .ref 0)]) (st' := [.int 1, .int 0, .ref 0, .ref 1]) rfl ?_
  refine T_p xr_203_183 xn_203 (pc' := 184) (ls' := [(3, .int 0), (2, .ref 530), (1, .ref 1), (0, .ref 0)]) (st' := [.int 1, .ref 0, .ref 1]) rfl ?_
  refine T_sald xr_203_184 (show ¬ ((1 : Int32) < 0 ∨ 6 ≤ (1 : Int32).toNatClampNeg) by decide) (x := x1) g1 (pc' := 185) rfl ?_
  refine T_cv (S := S0) (q := 1) xr_203_185 xf_114.1 xf_114.2.1 xn_114 (as := [.int (x1)]) (r := []) rfl w1 (by simp [Value.category]) (by simp [Value.category]) (pc' := 188) rfl (ls' := [(0, .ref 1), (1, .int (x1))]) rfl ?_
  refine T_p xr_114_0 xn_114 (pc' := 1) (ls' := [(0, .ref 1), (1, .int (x1))]) (st' := [.int (x1)]) rfl ?_
  refine T_b1 xr_114_1 (t := 15) (pc' := 4) rfl rfl (fun c1 => ?_) (fun c1 => ?_)
  · skip
    refine T_p xr_114_15 xn_114 (pc' := 16) (ls' := [(0, .ref 1), (1, .int (x1))]) (st' := [.int (-1)]) rfl ?_
    refine T_iret xr_114_16 xf_114.2.2 rfl ?_
    show X_T (6, xs) 203 (188, [(3, .int 0), (2, .ref 530), (1, .ref 1), (0, .ref 0)], [.int (-1)], S0) _
    refine T_p xr_203_188 xn_203 (pc' := 189) (ls' := [(3, .int 0), (2, .ref 530), (1, .ref 1), (0, .ref 0)]) (st' := [.ref 530, .int (-1)]) rfl ?_
    refine T_p xr_203_189 xn_203 (pc' := 190) (ls' := [(3, .int 0), (2, .ref 530), (1, .ref 1), (0, .ref 0)]) (st' := [.ref 0, .ref 530, .int (-1)]) rfl ?_
    refine T_p xr_203_190 xn_203 (pc' := 191) (ls' := [(3, .int 0), (2, .ref 530), (1, .ref 1), (0, .ref 0)]) (st' := [.int 0, .ref 0, .ref 530, .int (-1)]) rfl ?_
    refine T_p xr_203_191 xn_203 (pc' := 192) (ls' := [(3, .int 0), (2, .ref 530), (1, .ref 1), (0, .ref 0)]) (st' := [.int 1, .int 0, .ref 0, .ref 530, .int (-1)]) rfl ?_
    refine T_p xr_203_192 xn_203 (pc' := 193) (ls' := [(3, .int 0), (2, .ref 530), (1, .ref 1), (0, .ref 0)]) (st' := [.int 1, .ref 0, .ref 530, .int (-1)]) rfl ?_
    refine T_sald xr_203_193 (show ¬ ((1 : Int32) < 0 ∨ 6 ≤ (1 : Int32).toNatClampNeg) by decide) (x := x1) g1 (pc' := 194) rfl ?_
    refine T_cv (S := S0) (q := 530) xr_203_194 xf_202.1 xf_202.2.1 xn_202 (as := [.int (x1)]) (r := [.int (-1)]) rfl w530 (by simp [Value.category]) (by simp [Value.category]) (pc' := 197) rfl (ls' := [(0, .ref 530), (1, .int (x1))]) rfl ?_
    refine T_p xr_202_0 xn_202 (pc' := 1) (ls' := [(0, .ref 530), (1, .int (x1))]) (st' := [.int (x1)]) rfl ?_
    refine T_b1t xr_202_1 c1 (t := 12) rfl ?_
    refine T_p xr_202_12 xn_202 (pc' := 13) (ls' := [(0, .ref 530), (1, .int (x1))]) (st' := [.int (-1)]) rfl ?_
    refine T_iret xr_202_13 xf_202.2.2 rfl ?_
    show X_T (6, xs) 203 (197, [(3, .int 0), (2, .ref 530), (1, .ref 1), (0, .ref 0)], [.int (-1), .int (-1)], S0) _
    refine T_b2t xr_203_197 rfl (t := 588) rfl ?_
    refine T_p xr_203_588 xn_203 (pc' := 591) (ls' := [(3, .int 6), (2, .ref 530), (1, .ref 1), (0, .ref 0)]) (st' := []) rfl ?_
    refine T_p xr_203_591 xn_203 (pc' := 18) (ls' := [(3, .int 6), (2, .ref 530), (1, .ref 1), (0, .ref 0)]) (st' := []) rfl ?_
    refine T_p xr_203_18 xn_203 (pc' := 19) (ls' := [(3, .int 6), (2, .ref 530), (1, .ref 1), (0, .ref 0)]) (st' := [.int 6]) rfl ?_
    refine T_p xr_203_19 xn_203 (pc' := 20) (ls' := [(3, .int 6), (2, .ref 530), (1, .ref 1), (0, .ref 0)]) (st' := [.ref 0, .int 6]) rfl ?_
    refine T_slen xr_203_20 (x := 6) rfl (pc' := 21) rfl ?_
    refine T_p xr_203_21 xn_203 (pc' := 23) (ls' := [(3, .int 6), (2, .ref 530), (1, .ref 1), (0, .ref 0)]) (st' := [.int 6, .int 6, .int 6]) rfl ?_
    refine T_p xr_203_23 xn_203 (pc' := 24) (ls' := [(3, .int 6), (2, .ref 530), (1, .ref 1), (0, .ref 0)]) (st' := [.int 0, .int 6]) rfl ?_
    refine T_b2t xr_203_24 rfl (t := 594) rfl ?_
    refine T_p xr_203_594 xn_203 (pc' := 595) (ls' := [(3, .int 6), (2, .ref 530), (1, .ref 1), (0, .ref 0)]) (st' := [.int 1]) rfl ?_
    exact T_iret xr_203_595 xf_203.2.2 rfl ⟨rfl, hS2⟩
  · skip
    refine T_p xr_114_4 xn_114 (pc' := 5) (ls' := [(0, .ref 1), (1, .int (x1))]) (st' := [.int (x1)]) rfl ?_
    refine T_p xr_114_5 xn_114 (pc' := 6) (ls' := [(0, .ref 1), (1, .int (x1))]) (st' := [.ref 1, .int (x1)]) rfl ?_
    refine T_get xr_114_6 w1 rfl (v := .ref 2) rfl (pc' := 9) rfl ?_
    refine T_get xr_114_9 w2 rfl (v := .int 0) rfl (pc' := 12) rfl ?_
    refine T_b2 xr_114_12 (t := 17) (pc' := 15) rfl rfl (fun c2 => ?_) (fun c2 => ?_)
    · skip
      have c3 : X_cd .lt 0 x1 = false := by rw [X_cd_le] at c2; simpa using c2
      refine T_p xr_114_17 xn_114 (pc' := 18) (ls' := [(0, .ref 1), (1, .int (x1))]) (st' := [.ref 1]) rfl ?_
      refine T_get xr_114_18 w1 rfl (v := .ref 2) rfl (pc' := 21) rfl ?_
      refine T_p xr_114_21 xn_114 (pc' := 22) (ls' := [(0, .ref 1), (1, .int (x1))]) (st' := [.int (x1), .ref 2]) rfl ?_
      refine T_put xr_114_22 w2 rfl (by decide) rfl (fs' := [.ref 3, .int (x1)]) rfl (pc' := 25) rfl (fun S4 h5 n6 e7 => ?_)
      have h8 := (n6 1 (by decide)).trans w1
      have h9 := (n6 530 (by decide)).trans w530
      have hs10 := e7.trans hS2
      refine T_p xr_114_25 xn_114 (pc' := 26) (ls' := [(0, .ref 1), (1, .int (x1))]) (st' := [.int (x1)]) rfl ?_
      refine T_iret xr_114_26 xf_114.2.2 rfl ?_
      show X_T (6, xs) 203 (188, [(3, .int 0), (2, .ref 530), (1, .ref 1), (0, .ref 0)], [.int (x1)], S4) _
      refine T_p xr_203_188 xn_203 (pc' := 189) (ls' := [(3, .int 0), (2, .ref 530), (1, .ref 1), (0, .ref 0)]) (st' := [.ref 530, .int (x1)]) rfl ?_
      refine T_p xr_203_189 xn_203 (pc' := 190) (ls' := [(3, .int 0), (2, .ref 530), (1, .ref 1), (0, .ref 0)]) (st' := [.ref 0, .ref 530, .int (x1)]) rfl ?_
      refine T_p xr_203_190 xn_203 (pc' := 191) (ls' := [(3, .int 0), (2, .ref 530), (1, .ref 1), (0, .ref 0)]) (st' := [.int 0, .ref 0, .ref 530, .int (x1)]) rfl ?_
      refine T_p xr_203_191 xn_203 (pc' := 192) (ls' := [(3, .int 0), (2, .ref 530), (1, .ref 1), (0, .ref 0)]) (st' := [.int 1, .int 0, .ref 0, .ref 530, .int (x1)]) rfl ?_
      refine T_p xr_203_192 xn_203 (pc' := 193) (ls' := [(3, .int 0), (2, .ref 530), (1, .ref 1), (0, .ref 0)]) (st' := [.int 1, .ref 0, .ref 530, .int (x1)]) rfl ?_
      refine T_sald xr_203_193 (show ¬ ((1 : Int32) < 0 ∨ 6 ≤ (1 : Int32).toNatClampNeg) by decide) (x := x1) g1 (pc' := 194) rfl ?_
      refine T_cv (S := S4) (q := 530) xr_203_194 xf_202.1 xf_202.2.1 xn_202 (as := [.int (x1)]) (r := [.int (x1)]) rfl h9 (by simp [Value.category]) (by simp [Value.category]) (pc' := 197) rfl (ls' := [(0, .ref 530), (1, .int (x1))]) rfl ?_
      refine T_p xr_202_0 xn_202 (pc' := 1) (ls' := [(0, .ref 530), (1, .int (x1))]) (st' := [.int (x1)]) rfl ?_
      refine T_b1f xr_202_1 c1 (t := 12) (pc' := 4) rfl rfl ?_
      refine T_p xr_202_4 xn_202 (pc' := 5) (ls' := [(0, .ref 530), (1, .int (x1))]) (st' := [.int (x1)]) rfl ?_
      refine T_p xr_202_5 xn_202 (pc' := 6) (ls' := [(0, .ref 530), (1, .int (x1))]) (st' := [.ref 530, .int (x1)]) rfl ?_
      refine T_get xr_202_6 h9 rfl (v := .int 0) rfl (pc' := 9) rfl ?_
      refine T_b2t xr_202_9 (by rw [X_cd_le, c3]; rfl) (t := 14) rfl ?_
      refine T_p xr_202_14 xn_202 (pc' := 15) (ls' := [(0, .ref 530), (1, .int (x1))]) (st' := [.ref 530]) rfl ?_
      refine T_p xr_202_15 xn_202 (pc' := 16) (ls' := [(0, .ref 530), (1, .int (x1))]) (st' := [.int (x1), .ref 530]) rfl ?_
      refine T_put xr_202_16 h9 rfl (by decide) rfl (fs' := [.ref 531, .int (x1), .ref 532, .int 0, .int 0, .int 0, .int (-1), .int 0, .int 0, .int 0, .int 0, .int 0, .long 0, .ref 533, .ref 534, .ref 535, .ref 536, .ref 537, .ref 538, .ref 539, .ref 540, .ref 541, .ref 542, .ref 543, .ref 544, .ref 545, .ref 546, .ref 547, .int 0, .int 1, .int 0, .int 0, .int 1, .int 0, .ref 548, .ref 549, .ref 550, .ref 551, .int 0, .ref 552, .ref 553, .ref 554, .ref 555, .ref 556, .ref 557, .ref 558, .ref 559, .ref 560, .ref 561, .int 0, .ref 562, .ref 563, .ref 564, .ref 565, .ref 566, .ref 567, .ref 568, .ref 569, .int 0, .ref 570, .ref 571, .ref 572, .ref 573, .ref 574, .ref 575, .ref 576, .ref 577, .ref 578, .int 0, .int 0, .int 0, .ref 579]) rfl (pc' := 19) rfl (fun S11 h12 n13 e14 => ?_)
      have h15 := (n13 1 (by decide)).trans h8
      have h16 := (n13 2 (by decide)).trans h5
      have hs17 := e14.trans hs10
      refine T_p xr_202_19 xn_202 (pc' := 20) (ls' := [(0, .ref 530), (1, .int (x1))]) (st' := [.int (x1)]) rfl ?_
      refine T_iret xr_202_20 xf_202.2.2 rfl ?_
      show X_T (6, xs) 203 (197, [(3, .int 0), (2, .ref 530), (1, .ref 1), (0, .ref 0)], [.int (x1), .int (x1)], S11) _
      refine T_b2t xr_203_197 (by simp [X_cd]) (t := 588) rfl ?_
      refine T_p xr_203_588 xn_203 (pc' := 591) (ls' := [(3, .int 6), (2, .ref 530), (1, .ref 1), (0, .ref 0)]) (st' := []) rfl ?_
      refine T_p xr_203_591 xn_203 (pc' := 18) (ls' := [(3, .int 6), (2, .ref 530), (1, .ref 1), (0, .ref 0)]) (st' := []) rfl ?_
      refine T_p xr_203_18 xn_203 (pc' := 19) (ls' := [(3, .int 6), (2, .ref 530), (1, .ref 1), (0, .ref 0)]) (st' := [.int 6]) rfl ?_
      refine T_p xr_203_19 xn_203 (pc' := 20) (ls' := [(3, .int 6), (2, .ref 530), (1, .ref 1), (0, .ref 0)]) (st' := [.ref 0, .int 6]) rfl ?_
      refine T_slen xr_203_20 (x := 6) rfl (pc' := 21) rfl ?_
      refine T_p xr_203_21 xn_203 (pc' := 23) (ls' := [(3, .int 6), (2, .ref 530), (1, .ref 1), (0, .ref 0)]) (st' := [.int 6, .int 6, .int 6]) rfl ?_
      refine T_p xr_203_23 xn_203 (pc' := 24) (ls' := [(3, .int 6), (2, .ref 530), (1, .ref 1), (0, .ref 0)]) (st' := [.int 0, .int 6]) rfl ?_
      refine T_b2t xr_203_24 rfl (t := 594) rfl ?_
      refine T_p xr_203_594 xn_203 (pc' := 595) (ls' := [(3, .int 6), (2, .ref 530), (1, .ref 1), (0, .ref 0)]) (st' := [.int 1]) rfl ?_
      exact T_iret xr_203_595 xf_203.2.2 rfl ⟨rfl, hs17⟩
    · skip
      have c18 : X_cd .lt 0 x1 = true := by rw [X_cd_le] at c2; simpa using c2
      refine T_p xr_114_15 xn_114 (pc' := 16) (ls' := [(0, .ref 1), (1, .int (x1))]) (st' := [.int (-1)]) rfl ?_
      refine T_iret xr_114_16 xf_114.2.2 rfl ?_
      show X_T (6, xs) 203 (188, [(3, .int 0), (2, .ref 530), (1, .ref 1), (0, .ref 0)], [.int (-1)], S0) _
      refine T_p xr_203_188 xn_203 (pc' := 189) (ls' := [(3, .int 0), (2, .ref 530), (1, .ref 1), (0, .ref 0)]) (st' := [.ref 530, .int (-1)]) rfl ?_
      refine T_p xr_203_189 xn_203 (pc' := 190) (ls' := [(3, .int 0), (2, .ref 530), (1, .ref 1), (0, .ref 0)]) (st' := [.ref 0, .ref 530, .int (-1)]) rfl ?_
      refine T_p xr_203_190 xn_203 (pc' := 191) (ls' := [(3, .int 0), (2, .ref 530), (1, .ref 1), (0, .ref 0)]) (st' := [.int 0, .ref 0, .ref 530, .int (-1)]) rfl ?_
      refine T_p xr_203_191 xn_203 (pc' := 192) (ls' := [(3, .int 0), (2, .ref 530), (1, .ref 1), (0, .ref 0)]) (st' := [.int 1, .int 0, .ref 0, .ref 530, .int (-1)]) rfl ?_
      refine T_p xr_203_192 xn_203 (pc' := 193) (ls' := [(3, .int 0), (2, .ref 530), (1, .ref 1), (0, .ref 0)]) (st' := [.int 1, .ref 0, .ref 530, .int (-1)]) rfl ?_
      refine T_sald xr_203_193 (show ¬ ((1 : Int32) < 0 ∨ 6 ≤ (1 : Int32).toNatClampNeg) by decide) (x := x1) g1 (pc' := 194) rfl ?_
      refine T_cv (S := S0) (q := 530) xr_203_194 xf_202.1 xf_202.2.1 xn_202 (as := [.int (x1)]) (r := [.int (-1)]) rfl w530 (by simp [Value.category]) (by simp [Value.category]) (pc' := 197) rfl (ls' := [(0, .ref 530), (1, .int (x1))]) rfl ?_
      refine T_p xr_202_0 xn_202 (pc' := 1) (ls' := [(0, .ref 530), (1, .int (x1))]) (st' := [.int (x1)]) rfl ?_
      refine T_b1f xr_202_1 c1 (t := 12) (pc' := 4) rfl rfl ?_
      refine T_p xr_202_4 xn_202 (pc' := 5) (ls' := [(0, .ref 530), (1, .int (x1))]) (st' := [.int (x1)]) rfl ?_
      refine T_p xr_202_5 xn_202 (pc' := 6) (ls' := [(0, .ref 530), (1, .int (x1))]) (st' := [.ref 530, .int (x1)]) rfl ?_
      refine T_get xr_202_6 w530 rfl (v := .int 0) rfl (pc' := 9) rfl ?_
      refine T_b2f xr_202_9 (by rw [X_cd_le, c18]; rfl) (t := 14) (pc' := 12) rfl rfl ?_
      refine T_p xr_202_12 xn_202 (pc' := 13) (ls' := [(0, .ref 530), (1, .int (x1))]) (st' := [.int (-1)]) rfl ?_
      refine T_iret xr_202_13 xf_202.2.2 rfl ?_
      show X_T (6, xs) 203 (197, [(3, .int 0), (2, .ref 530), (1, .ref 1), (0, .ref 0)], [.int (-1), .int (-1)], S0) _
      refine T_b2t xr_203_197 rfl (t := 588) rfl ?_
      refine T_p xr_203_588 xn_203 (pc' := 591) (ls' := [(3, .int 6), (2, .ref 530), (1, .ref 1), (0, .ref 0)]) (st' := []) rfl ?_
      refine T_p xr_203_591 xn_203 (pc' := 18) (ls' := [(3, .int 6), (2, .ref 530), (1, .ref 1), (0, .ref 0)]) (st' := []) rfl ?_
      refine T_p xr_203_18 xn_203 (pc' := 19) (ls' := [(3, .int 6), (2, .ref 530), (1, .ref 1), (0, .ref 0)]) (st' := [.int 6]) rfl ?_
      refine T_p xr_203_19 xn_203 (pc' := 20) (ls' := [(3, .int 6), (2, .ref 530), (1, .ref 1), (0, .ref 0)]) (st' := [.ref 0, .int 6]) rfl ?_
      refine T_slen xr_203_20 (x := 6) rfl (pc' := 21) rfl ?_
      refine T_p xr_203_21 xn_203 (pc' := 23) (ls' := [(3, .int 6), (2, .ref 530), (1, .ref 1), (0, .ref 0)]) (st' := [.int 6, .int 6, .int 6]) rfl ?_
      refine T_p xr_203_23 xn_203 (pc' := 24) (ls' := [(3, .int 6), (2, .ref 530), (1, .ref 1), (0, .ref 0)]) (st' := [.int 0, .int 6]) rfl ?_
      refine T_b2t xr_203_24 rfl (t := 594) rfl ?_
      refine T_p xr_203_594 xn_203 (pc' := 595) (ls' := [(3, .int 6), (2, .ref 530), (1, .ref 1), (0, .ref 0)]) (st' := [.int 1]) rfl ?_
      exact T_iret xr_203_595 xf_203.2.2 rfl ⟨rfl, hS2⟩
theorem X_op1 (xs : Nat → Int32) : X_T (6, xs) 203 (179, [(3, .int 0), (2, .ref 530), (1, .ref 1), (0, .ref 0)], [], X_Sb) (fun v S => v = some (.int 1) ∧ S.2 = (580, 263990)) := by
  exact X_opx1 xs _ rfl X_Sb X_Sb2 X_fo1 X_fo2 X_fo530
theorem X_op2 (xs : Nat → Int32) : X_T (6, xs) 203 (202, [(3, .int 0), (2, .ref 530), (1, .ref 1), (0, .ref 0)], [], X_Sb) (fun v S => v = some (.int 1) ∧ S.2 = (580, 263990)) := by
  refine T_p xr_203_202 xn_203 (pc' := 203) (ls' := [(3, .int 0), (2, .ref 530), (1, .ref 1), (0, .ref 0)]) (st' := [.ref 1]) rfl ?_
  refine T_cv (S := X_Sb) (q := 1) xr_203_203 xf_115.1 xf_115.2.1 xn_115 (as := []) (r := []) rfl X_fo1 (by simp [Value.category]) (by simp [Value.category]) (pc' := 206) rfl (ls' := [(0, .ref 1)]) rfl ?_
  refine T_sc (by decide) ⟨_, _, _, (X_out_eq X_E2a).1, ?_⟩
  show X_T (6, xs) 203 (206, [(3, .int 0), (2, .ref 530), (1, .ref 1), (0, .ref 0)], [.int 0], (X_out X_R2a)) _
  refine T_p xr_203_206 xn_203 (pc' := 207) (ls' := [(3, .int 0), (2, .ref 530), (1, .ref 1), (0, .ref 0)]) (st' := [.ref 530, .int 0]) rfl ?_
  obtain ⟨fm, hm⟩ : ∃ fm, (X_out X_R2a).1 530 = .inr (11, fm) := X_ob_ex X_E2o X_E2c
  refine T_cv (S := (X_out X_R2a)) (q := 530) xr_203_207 xf_162.1 xf_162.2.1 xn_162 (as := []) (r := [.int 0]) rfl hm (by simp [Value.category]) (by simp [Value.category]) (pc' := 210) rfl (ls' := [(0, .ref 530)]) rfl ?_
  refine T_sc (by decide) ⟨_, _, _, (X_out_eq X_E2b).1, ?_⟩
  show X_T (6, xs) 203 (210, [(3, .int 0), (2, .ref 530), (1, .ref 1), (0, .ref 0)], [.int 0, .int 0], (X_out X_R2b)) _
  refine T_b2t xr_203_210 rfl (t := 588) rfl ?_
  refine T_p xr_203_588 xn_203 (pc' := 591) (ls' := [(3, .int 6), (2, .ref 530), (1, .ref 1), (0, .ref 0)]) (st' := []) rfl ?_
  refine T_p xr_203_591 xn_203 (pc' := 18) (ls' := [(3, .int 6), (2, .ref 530), (1, .ref 1), (0, .ref 0)]) (st' := []) rfl ?_
  refine T_p xr_203_18 xn_203 (pc' := 19) (ls' := [(3, .int 6), (2, .ref 530), (1, .ref 1), (0, .ref 0)]) (st' := [.int 6]) rfl ?_
  refine T_p xr_203_19 xn_203 (pc' := 20) (ls' := [(3, .int 6), (2, .ref 530), (1, .ref 1), (0, .ref 0)]) (st' := [.ref 0, .int 6]) rfl ?_
  refine T_slen xr_203_20 (x := 6) rfl (pc' := 21) rfl ?_
  refine T_p xr_203_21 xn_203 (pc' := 23) (ls' := [(3, .int 6), (2, .ref 530), (1, .ref 1), (0, .ref 0)]) (st' := [.int 6, .int 6, .int 6]) rfl ?_
  refine T_p xr_203_23 xn_203 (pc' := 24) (ls' := [(3, .int 6), (2, .ref 530), (1, .ref 1), (0, .ref 0)]) (st' := [.int 0, .int 6]) rfl ?_
  refine T_b2t xr_203_24 rfl (t := 594) rfl ?_
  refine T_p xr_203_594 xn_203 (pc' := 595) (ls' := [(3, .int 6), (2, .ref 530), (1, .ref 1), (0, .ref 0)]) (st' := [.int 1]) rfl ?_
  exact T_iret xr_203_595 xf_203.2.2 rfl ⟨rfl, (X_out_eq X_E2b).2⟩
theorem X_opx3 (xs : Nat → Int32) (x1 : Int32) (g1 : xs 1 = x1) (S0 : X_S) (hS2 : S0.2 = (580, 263990)) (w1 : S0.1 1 = .inr (10, [.ref 2, .ref 4, .ref 250, .ref 496, .ref 501, .ref 504, .ref 511, .ref 517, .ref 527])) (w496 : S0.1 496 = .inr (4, [.ref 497, .ref 250, .int 0, .int (-1)])) (w530 : S0.1 530 = .inr (11, [.ref 531, .int 0, .ref 532, .int 0, .int 0, .int 0, .int (-1), .int 0, .int 0, .int 0, .int 0, .int 0, .long 0, .ref 533, .ref 534, .ref 535, .ref 536, .ref 537, .ref 538, .ref 539, .ref 540, .ref 541, .ref 542, .ref 543, .ref 544, .ref 545, .ref 546, .ref 547, .int 0, .int 1, .int 0, .int 0, .int 1, .int 0, .ref 548, .ref 549, .ref 550, .ref 551, .int 0, .ref 552, .ref 553, .ref 554, .ref 555, .ref 556, .ref 557, .ref 558, .ref 559, .ref 560, .ref 561, .int 0, .ref 562, .ref 563, .ref 564, .ref 565, .ref 566, .ref 567, .ref 568, .ref 569, .int 0, .ref 570, .ref 571, .ref 572, .ref 573, .ref 574, .ref 575, .ref 576, .ref 577, .ref 578, .int 0, .int 0, .int 0, .ref 579])) : X_T (6, xs) 203 (215, [(3, .int 0), (2, .ref 530), (1, .ref 1), (0, .ref 0)], [], S0) (fun v S => v = some (.int 1) ∧ S.2 = (580, 263990)) := by
  refine T_p xr_203_215 xn_203 (pc' := 216) (ls' := [(3, .int 0), (2, .ref 530), (1, .ref 1), (0, .ref 0)]) (st' := [.ref 1]) rfl ?_
  refine T_p xr_203_216 xn_203 (pc' := 217) (ls' := [(3, .int 0), (2, .ref 530), (1, .ref 1), (0, .ref 0)]) (st' := [.ref 0, .ref 1]) rfl ?_
  refine T_p xr_203_217 xn_203 (pc' := 218) (ls' := [(3, .int 0), (2, .ref 530), (1, .ref 1), (0, .ref 0)]) (st' := [.int 0, .ref 0, .ref 1]) rfl ?_
  refine T_p xr_203_218 xn_203 (pc' := 219) (ls' := [(3, .int 0), (2, .ref 530), (1, .ref 1), (0, .ref 0)]) (st' := [.int 1, .int 0, .ref 0, .ref 1]) rfl ?_
  refine T_p xr_203_219 xn_203 (pc' := 220) (ls' := [(3, .int 0), (2, .ref 530), (1, .ref 1), (0, .ref 0)]) (st' := [.int 1, .ref 0, .ref 1]) rfl ?_
  refine T_sald xr_203_220 (show ¬ ((1 : Int32) < 0 ∨ 6 ≤ (1 : Int32).toNatClampNeg) by decide) (x := x1) g1 (pc' := 221) rfl ?_
  refine T_cv (S := S0) (q := 1) xr_203_221 xf_116.1 xf_116.2.1 xn_116 (as := [.int (x1)]) (r := []) rfl w1 (by simp [Value.category]) (by simp [Value.category]) (pc' := 224) rfl (ls' := [(0, .ref 1), (1, .int (x1))]) rfl ?_
  refine T_p xr_116_0 xn_116 (pc' := 1) (ls' := [(0, .ref 1), (1, .int (x1))]) (st' := [.int (x1)]) rfl ?_
  refine T_b1 xr_116_1 (t := 12) (pc' := 4) rfl rfl (fun c1 => ?_) (fun c1 => ?_)
  · skip
    have c2 : X_cd .eq x1 0 = false := by rw [X_cd_ne] at c1; simpa using c1
    refine T_p xr_116_12 xn_116 (pc' := 13) (ls' := [(0, .ref 1), (1, .int (x1))]) (st' := [.int (x1)]) rfl ?_
    refine T_p xr_116_13 xn_116 (pc' := 14) (ls' := [(0, .ref 1), (1, .int (x1))]) (st' := [.int 1, .int (x1)]) rfl ?_
    refine T_b2 xr_116_14 (t := 27) (pc' := 17) rfl rfl (fun c3 => ?_) (fun c3 => ?_)
    · skip
      have c4 : X_cd .eq x1 1 = false := by rw [X_cd_ne] at c3; simpa using c3
      refine T_p xr_116_27 xn_116 (pc' := 28) (ls' := [(0, .ref 1), (1, .int (x1))]) (st' := [.int (-1)]) rfl ?_
      refine T_iret xr_116_28 xf_116.2.2 rfl ?_
      show X_T (6, xs) 203 (224, [(3, .int 0), (2, .ref 530), (1, .ref 1), (0, .ref 0)], [.int (-1)], S0) _
      refine T_p xr_203_224 xn_203 (pc' := 225) (ls' := [(3, .int 0), (2, .ref 530), (1, .ref 1), (0, .ref 0)]) (st' := [.ref 530, .int (-1)]) rfl ?_
      refine T_p xr_203_225 xn_203 (pc' := 226) (ls' := [(3, .int 0), (2, .ref 530), (1, .ref 1), (0, .ref 0)]) (st' := [.ref 0, .ref 530, .int (-1)]) rfl ?_
      refine T_p xr_203_226 xn_203 (pc' := 227) (ls' := [(3, .int 0), (2, .ref 530), (1, .ref 1), (0, .ref 0)]) (st' := [.int 0, .ref 0, .ref 530, .int (-1)]) rfl ?_
      refine T_p xr_203_227 xn_203 (pc' := 228) (ls' := [(3, .int 0), (2, .ref 530), (1, .ref 1), (0, .ref 0)]) (st' := [.int 1, .int 0, .ref 0, .ref 530, .int (-1)]) rfl ?_
      refine T_p xr_203_228 xn_203 (pc' := 229) (ls' := [(3, .int 0), (2, .ref 530), (1, .ref 1), (0, .ref 0)]) (st' := [.int 1, .ref 0, .ref 530, .int (-1)]) rfl ?_
      refine T_sald xr_203_229 (show ¬ ((1 : Int32) < 0 ∨ 6 ≤ (1 : Int32).toNatClampNeg) by decide) (x := x1) g1 (pc' := 230) rfl ?_
      refine T_cv (S := S0) (q := 530) xr_203_230 xf_163.1 xf_163.2.1 xn_163 (as := [.int (x1)]) (r := [.int (-1)]) rfl w530 (by simp [Value.category]) (by simp [Value.category]) (pc' := 233) rfl (ls' := [(0, .ref 530), (1, .int (x1))]) rfl ?_
      refine T_p xr_163_0 xn_163 (pc' := 1) (ls' := [(0, .ref 530), (1, .int (x1))]) (st' := [.int (x1)]) rfl ?_
      refine T_b1t xr_163_1 (by rw [X_cd_ne, c2]; rfl) (t := 11) rfl ?_
      refine T_p xr_163_11 xn_163 (pc' := 12) (ls' := [(0, .ref 530), (1, .int (x1))]) (st' := [.int (x1)]) rfl ?_
      refine T_p xr_163_12 xn_163 (pc' := 13) (ls' := [(0, .ref 530), (1, .int (x1))]) (st' := [.int 1, .int (x1)]) rfl ?_
      refine T_b2t xr_163_13 (by rw [X_cd_ne, c4]; rfl) (t := 23) rfl ?_
      refine T_p xr_163_23 xn_163 (pc' := 24) (ls' := [(0, .ref 530), (1, .int (x1))]) (st' := [.int (-1)]) rfl ?_
      refine T_iret xr_163_24 xf_163.2.2 rfl ?_
      show X_T (6, xs) 203 (233, [(3, .int 0), (2, .ref 530), (1, .ref 1), (0, .ref 0)], [.int (-1), .int (-1)], S0) _
      refine T_b2t xr_203_233 rfl (t := 588) rfl ?_
      refine T_p xr_203_588 xn_203 (pc' := 591) (ls' := [(3, .int 6), (2, .ref 530), (1, .ref 1), (0, .ref 0)]) (st' := []) rfl ?_
      refine T_p xr_203_591 xn_203 (pc' := 18) (ls' := [(3, .int 6), (2, .ref 530), (1, .ref 1), (0, .ref 0)]) (st' := []) rfl ?_
      refine T_p xr_203_18 xn_203 (pc' := 19) (ls' := [(3, .int 6), (2, .ref 530), (1, .ref 1), (0, .ref 0)]) (st' := [.int 6]) rfl ?_
      refine T_p xr_203_19 xn_203 (pc' := 20) (ls' := [(3, .int 6), (2, .ref 530), (1, .ref 1), (0, .ref 0)]) (st' := [.ref 0, .int 6]) rfl ?_
      refine T_slen xr_203_20 (x := 6) rfl (pc' := 21) rfl ?_
      refine T_p xr_203_21 xn_203 (pc' := 23) (ls' := [(3, .int 6), (2, .ref 530), (1, .ref 1), (0, .ref 0)]) (st' := [.int 6, .int 6, .int 6]) rfl ?_
      refine T_p xr_203_23 xn_203 (pc' := 24) (ls' := [(3, .int 6), (2, .ref 530), (1, .ref 1), (0, .ref 0)]) (st' := [.int 0, .int 6]) rfl ?_
      refine T_b2t xr_203_24 rfl (t := 594) rfl ?_
      refine T_p xr_203_594 xn_203 (pc' := 595) (ls' := [(3, .int 6), (2, .ref 530), (1, .ref 1), (0, .ref 0)]) (st' := [.int 1]) rfl ?_
      exact T_iret xr_203_595 xf_203.2.2 rfl ⟨rfl, hS2⟩
    · skip
      have c5 : X_cd .eq x1 1 = true := by rw [X_cd_ne] at c3; simpa using c3
      refine T_p xr_116_17 xn_116 (pc' := 18) (ls' := [(0, .ref 1), (1, .int (x1))]) (st' := [.ref 1]) rfl ?_
      refine T_get xr_116_18 w1 rfl (v := .ref 496) rfl (pc' := 21) rfl ?_
      refine T_get xr_116_21 w496 rfl (v := .int (-1)) rfl (pc' := 24) rfl ?_
      refine T_p xr_116_24 xn_116 (pc' := 28) (ls' := [(0, .ref 1), (1, .int (x1))]) (st' := [.int (-1)]) rfl ?_
      refine T_iret xr_116_28 xf_116.2.2 rfl ?_
      show X_T (6, xs) 203 (224, [(3, .int 0), (2, .ref 530), (1, .ref 1), (0, .ref 0)], [.int (-1)], S0) _
      refine T_p xr_203_224 xn_203 (pc' := 225) (ls' := [(3, .int 0), (2, .ref 530), (1, .ref 1), (0, .ref 0)]) (st' := [.ref 530, .int (-1)]) rfl ?_
      refine T_p xr_203_225 xn_203 (pc' := 226) (ls' := [(3, .int 0), (2, .ref 530), (1, .ref 1), (0, .ref 0)]) (st' := [.ref 0, .ref 530, .int (-1)]) rfl ?_
      refine T_p xr_203_226 xn_203 (pc' := 227) (ls' := [(3, .int 0), (2, .ref 530), (1, .ref 1), (0, .ref 0)]) (st' := [.int 0, .ref 0, .ref 530, .int (-1)]) rfl ?_
      refine T_p xr_203_227 xn_203 (pc' := 228) (ls' := [(3, .int 0), (2, .ref 530), (1, .ref 1), (0, .ref 0)]) (st' := [.int 1, .int 0, .ref 0, .ref 530, .int (-1)]) rfl ?_
      refine T_p xr_203_228 xn_203 (pc' := 229) (ls' := [(3, .int 0), (2, .ref 530), (1, .ref 1), (0, .ref 0)]) (st' := [.int 1, .ref 0, .ref 530, .int (-1)]) rfl ?_
      refine T_sald xr_203_229 (show ¬ ((1 : Int32) < 0 ∨ 6 ≤ (1 : Int32).toNatClampNeg) by decide) (x := x1) g1 (pc' := 230) rfl ?_
      refine T_cv (S := S0) (q := 530) xr_203_230 xf_163.1 xf_163.2.1 xn_163 (as := [.int (x1)]) (r := [.int (-1)]) rfl w530 (by simp [Value.category]) (by simp [Value.category]) (pc' := 233) rfl (ls' := [(0, .ref 530), (1, .int (x1))]) rfl ?_
      refine T_p xr_163_0 xn_163 (pc' := 1) (ls' := [(0, .ref 530), (1, .int (x1))]) (st' := [.int (x1)]) rfl ?_
      refine T_b1t xr_163_1 (by rw [X_cd_ne, c2]; rfl) (t := 11) rfl ?_
      refine T_p xr_163_11 xn_163 (pc' := 12) (ls' := [(0, .ref 530), (1, .int (x1))]) (st' := [.int (x1)]) rfl ?_
      refine T_p xr_163_12 xn_163 (pc' := 13) (ls' := [(0, .ref 530), (1, .int (x1))]) (st' := [.int 1, .int (x1)]) rfl ?_
      refine T_b2f xr_163_13 (by rw [X_cd_ne, c5]; rfl) (t := 23) (pc' := 16) rfl rfl ?_
      refine T_p xr_163_16 xn_163 (pc' := 17) (ls' := [(0, .ref 530), (1, .int (x1))]) (st' := [.ref 530]) rfl ?_
      refine T_get xr_163_17 w530 rfl (v := .int (-1)) rfl (pc' := 20) rfl ?_
      refine T_p xr_163_20 xn_163 (pc' := 24) (ls' := [(0, .ref 530), (1, .int (x1))]) (st' := [.int (-1)]) rfl ?_
      refine T_iret xr_163_24 xf_163.2.2 rfl ?_
      show X_T (6, xs) 203 (233, [(3, .int 0), (2, .ref 530), (1, .ref 1), (0, .ref 0)], [.int (-1), .int (-1)], S0) _
      refine T_b2t xr_203_233 rfl (t := 588) rfl ?_
      refine T_p xr_203_588 xn_203 (pc' := 591) (ls' := [(3, .int 6), (2, .ref 530), (1, .ref 1), (0, .ref 0)]) (st' := []) rfl ?_
      refine T_p xr_203_591 xn_203 (pc' := 18) (ls' := [(3, .int 6), (2, .ref 530), (1, .ref 1), (0, .ref 0)]) (st' := []) rfl ?_
      refine T_p xr_203_18 xn_203 (pc' := 19) (ls' := [(3, .int 6), (2, .ref 530), (1, .ref 1), (0, .ref 0)]) (st' := [.int 6]) rfl ?_
      refine T_p xr_203_19 xn_203 (pc' := 20) (ls' := [(3, .int 6), (2, .ref 530), (1, .ref 1), (0, .ref 0)]) (st' := [.ref 0, .int 6]) rfl ?_
      refine T_slen xr_203_20 (x := 6) rfl (pc' := 21) rfl ?_
      refine T_p xr_203_21 xn_203 (pc' := 23) (ls' := [(3, .int 6), (2, .ref 530), (1, .ref 1), (0, .ref 0)]) (st' := [.int 6, .int 6, .int 6]) rfl ?_
      refine T_p xr_203_23 xn_203 (pc' := 24) (ls' := [(3, .int 6), (2, .ref 530), (1, .ref 1), (0, .ref 0)]) (st' := [.int 0, .int 6]) rfl ?_
      refine T_b2t xr_203_24 rfl (t := 594) rfl ?_
      refine T_p xr_203_594 xn_203 (pc' := 595) (ls' := [(3, .int 6), (2, .ref 530), (1, .ref 1), (0, .ref 0)]) (st' := [.int 1]) rfl ?_
      exact T_iret xr_203_595 xf_203.2.2 rfl ⟨rfl, hS2⟩
  · skip
    have c6 : X_cd .eq x1 0 = true := by rw [X_cd_ne] at c1; simpa using c1
    refine T_p xr_116_4 xn_116 (pc' := 5) (ls' := [(0, .ref 1), (1, .int (x1))]) (st' := [.ref 1]) rfl ?_
    refine T_get xr_116_5 w1 rfl (v := .ref 496) rfl (pc' := 8) rfl ?_
    refine T_get xr_116_8 w496 rfl (v := .int 0) rfl (pc' := 11) rfl ?_
    refine T_iret xr_116_11 xf_116.2.2 rfl ?_
    show X_T (6, xs) 203 (224, [(3, .int 0), (2, .ref 530), (1, .ref 1), (0, .ref 0)], [.int 0], S0) _
    refine T_p xr_203_224 xn_203 (pc' := 225) (ls' := [(3, .int 0), (2, .ref 530), (1, .ref 1), (0, .ref 0)]) (st' := [.ref 530, .int 0]) rfl ?_
    refine T_p xr_203_225 xn_203 (pc' := 226) (ls' := [(3, .int 0), (2, .ref 530), (1, .ref 1), (0, .ref 0)]) (st' := [.ref 0, .ref 530, .int 0]) rfl ?_
    refine T_p xr_203_226 xn_203 (pc' := 227) (ls' := [(3, .int 0), (2, .ref 530), (1, .ref 1), (0, .ref 0)]) (st' := [.int 0, .ref 0, .ref 530, .int 0]) rfl ?_
    refine T_p xr_203_227 xn_203 (pc' := 228) (ls' := [(3, .int 0), (2, .ref 530), (1, .ref 1), (0, .ref 0)]) (st' := [.int 1, .int 0, .ref 0, .ref 530, .int 0]) rfl ?_
    refine T_p xr_203_228 xn_203 (pc' := 229) (ls' := [(3, .int 0), (2, .ref 530), (1, .ref 1), (0, .ref 0)]) (st' := [.int 1, .ref 0, .ref 530, .int 0]) rfl ?_
    refine T_sald xr_203_229 (show ¬ ((1 : Int32) < 0 ∨ 6 ≤ (1 : Int32).toNatClampNeg) by decide) (x := x1) g1 (pc' := 230) rfl ?_
    refine T_cv (S := S0) (q := 530) xr_203_230 xf_163.1 xf_163.2.1 xn_163 (as := [.int (x1)]) (r := [.int 0]) rfl w530 (by simp [Value.category]) (by simp [Value.category]) (pc' := 233) rfl (ls' := [(0, .ref 530), (1, .int (x1))]) rfl ?_
    refine T_p xr_163_0 xn_163 (pc' := 1) (ls' := [(0, .ref 530), (1, .int (x1))]) (st' := [.int (x1)]) rfl ?_
    refine T_b1f xr_163_1 (by rw [X_cd_ne, c6]; rfl) (t := 11) (pc' := 4) rfl rfl ?_
    refine T_p xr_163_4 xn_163 (pc' := 5) (ls' := [(0, .ref 530), (1, .int (x1))]) (st' := [.ref 530]) rfl ?_
    refine T_get xr_163_5 w530 rfl (v := .int 0) rfl (pc' := 8) rfl ?_
    refine T_p xr_163_8 xn_163 (pc' := 24) (ls' := [(0, .ref 530), (1, .int (x1))]) (st' := [.int 0]) rfl ?_
    refine T_iret xr_163_24 xf_163.2.2 rfl ?_
    show X_T (6, xs) 203 (233, [(3, .int 0), (2, .ref 530), (1, .ref 1), (0, .ref 0)], [.int 0, .int 0], S0) _
    refine T_b2t xr_203_233 rfl (t := 588) rfl ?_
    refine T_p xr_203_588 xn_203 (pc' := 591) (ls' := [(3, .int 6), (2, .ref 530), (1, .ref 1), (0, .ref 0)]) (st' := []) rfl ?_
    refine T_p xr_203_591 xn_203 (pc' := 18) (ls' := [(3, .int 6), (2, .ref 530), (1, .ref 1), (0, .ref 0)]) (st' := []) rfl ?_
    refine T_p xr_203_18 xn_203 (pc' := 19) (ls' := [(3, .int 6), (2, .ref 530), (1, .ref 1), (0, .ref 0)]) (st' := [.int 6]) rfl ?_
    refine T_p xr_203_19 xn_203 (pc' := 20) (ls' := [(3, .int 6), (2, .ref 530), (1, .ref 1), (0, .ref 0)]) (st' := [.ref 0, .int 6]) rfl ?_
    refine T_slen xr_203_20 (x := 6) rfl (pc' := 21) rfl ?_
    refine T_p xr_203_21 xn_203 (pc' := 23) (ls' := [(3, .int 6), (2, .ref 530), (1, .ref 1), (0, .ref 0)]) (st' := [.int 6, .int 6, .int 6]) rfl ?_
    refine T_p xr_203_23 xn_203 (pc' := 24) (ls' := [(3, .int 6), (2, .ref 530), (1, .ref 1), (0, .ref 0)]) (st' := [.int 0, .int 6]) rfl ?_
    refine T_b2t xr_203_24 rfl (t := 594) rfl ?_
    refine T_p xr_203_594 xn_203 (pc' := 595) (ls' := [(3, .int 6), (2, .ref 530), (1, .ref 1), (0, .ref 0)]) (st' := [.int 1]) rfl ?_
    exact T_iret xr_203_595 xf_203.2.2 rfl ⟨rfl, hS2⟩
theorem X_op3 (xs : Nat → Int32) : X_T (6, xs) 203 (215, [(3, .int 0), (2, .ref 530), (1, .ref 1), (0, .ref 0)], [], X_Sb) (fun v S => v = some (.int 1) ∧ S.2 = (580, 263990)) := by
  exact X_opx3 xs _ rfl X_Sb X_Sb2 X_fo1 X_fo496 X_fo530
theorem X_opx4 (xs : Nat → Int32) (x1 : Int32) (g1 : xs 1 = x1) (S0 : X_S) (hS2 : S0.2 = (580, 263990)) (w1 : S0.1 1 = .inr (10, [.ref 2, .ref 4, .ref 250, .ref 496, .ref 501, .ref 504, .ref 511, .ref 517, .ref 527])) (w2 : S0.1 2 = .inr (7, [.ref 3, .int 0])) (w4 : S0.1 4 = .inr (0, [.int 0, .int 1, .int 0, .ref 5, .ref 6, .ref 7, .ref 8, .ref 9])) (w501 : S0.1 501 = .inr (6, [.int 0, .ref 502, .ref 503])) (w504 : S0.1 504 = .inr (5, [.int 0, .ref 505, .ref 506, .ref 507, .ref 508, .ref 509, .ref 510])) (w530 : S0.1 530 = .inr (11, [.ref 531, .int 0, .ref 532, .int 0, .int 0, .int 0, .int (-1), .int 0, .int 0, .int 0, .int 0, .int 0, .long 0, .ref 533, .ref 534, .ref 535, .ref 536, .ref 537, .ref 538, .ref 539, .ref 540, .ref 541, .ref 542, .ref 543, .ref 544, .ref 545, .ref 546, .ref 547, .int 0, .int 1, .int 0, .int 0, .int 1, .int 0, .ref 548, .ref 549, .ref 550, .ref 551, .int 0, .ref 552, .ref 553, .ref 554, .ref 555, .ref 556, .ref 557, .ref 558, .ref 559, .ref 560, .ref 561, .int 0, .ref 562, .ref 563, .ref 564, .ref 565, .ref 566, .ref 567, .ref 568, .ref 569, .int 0, .ref 570, .ref 571, .ref 572, .ref 573, .ref 574, .ref 575, .ref 576, .ref 577, .ref 578, .int 0, .int 0, .int 0, .ref 579])) : X_T (6, xs) 203 (238, [(3, .int 0), (2, .ref 530), (1, .ref 1), (0, .ref 0)], [], S0) (fun v S => v = some (.int 1) ∧ S.2 = (580, 263990)) := by
  rcases X_sw (x := x1) (n := 5) with hs | hs
  · skip
    refine T_p xr_203_238 xn_203 (pc' := 239) (ls' := [(3, .int 0), (2, .ref 530), (1, .ref 1), (0, .ref 0)]) (st' := [.ref 1]) rfl ?_
    refine T_p xr_203_239 xn_203 (pc' := 240) (ls' := [(3, .int 0), (2, .ref 530), (1, .ref 1), (0, .ref 0)]) (st' := [.ref 0, .ref 1]) rfl ?_
    refine T_p xr_203_240 xn_203 (pc' := 241) (ls' := [(3, .int 0), (2, .ref 530), (1, .ref 1), (0, .ref 0)]) (st' := [.int 0, .ref 0, .ref 1]) rfl ?_
    refine T_p xr_203_241 xn_203 (pc' := 242) (ls' := [(3, .int 0), (2, .ref 530), (1, .ref 1), (0, .ref 0)]) (st' := [.int 1, .int 0, .ref 0, .ref 1]) rfl ?_
    refine T_p xr_203_242 xn_203 (pc' := 243) (ls' := [(3, .int 0), (2, .ref 530), (1, .ref 1), (0, .ref 0)]) (st' := [.int 1, .ref 0, .ref 1]) rfl ?_
    refine T_sald xr_203_243 (show ¬ ((1 : Int32) < 0 ∨ 6 ≤ (1 : Int32).toNatClampNeg) by decide) (x := x1) g1 (pc' := 244) rfl ?_
    refine T_cv (S := S0) (q := 1) xr_203_244 xf_117.1 xf_117.2.1 xn_117 (as := [.int (x1)]) (r := []) rfl w1 (by simp [Value.category]) (by simp [Value.category]) (pc' := 247) rfl (ls' := [(0, .ref 1), (1, .int (x1))]) rfl ?_
    refine T_p xr_117_0 xn_117 (pc' := 1) (ls' := [(0, .ref 1), (1, .int (x1))]) (st' := [.int (x1)]) rfl ?_
    refine T_p xr_117_1 xn_117 (pc' := 88) (ls' := [(0, .ref 1), (1, .int (x1))]) (st' := []) (X_swo (row := (0, (.nop, 0), (0, 0, 0))) (lo := 0) (hi := 5) hs rfl) ?_
    refine T_p xr_117_88 xn_117 (pc' := 89) (ls' := [(0, .ref 1), (1, .int (x1))]) (st' := [.int (-1)]) rfl ?_
    refine T_iret xr_117_89 xf_117.2.2 rfl ?_
    show X_T (6, xs) 203 (247, [(3, .int 0), (2, .ref 530), (1, .ref 1), (0, .ref 0)], [.int (-1)], S0) _
    refine T_p xr_203_247 xn_203 (pc' := 248) (ls' := [(3, .int 0), (2, .ref 530), (1, .ref 1), (0, .ref 0)]) (st' := [.ref 530, .int (-1)]) rfl ?_
    refine T_p xr_203_248 xn_203 (pc' := 249) (ls' := [(3, .int 0), (2, .ref 530), (1, .ref 1), (0, .ref 0)]) (st' := [.ref 0, .ref 530, .int (-1)]) rfl ?_
    refine T_p xr_203_249 xn_203 (pc' := 250) (ls' := [(3, .int 0), (2, .ref 530), (1, .ref 1), (0, .ref 0)]) (st' := [.int 0, .ref 0, .ref 530, .int (-1)]) rfl ?_
    refine T_p xr_203_250 xn_203 (pc' := 251) (ls' := [(3, .int 0), (2, .ref 530), (1, .ref 1), (0, .ref 0)]) (st' := [.int 1, .int 0, .ref 0, .ref 530, .int (-1)]) rfl ?_
    refine T_p xr_203_251 xn_203 (pc' := 252) (ls' := [(3, .int 0), (2, .ref 530), (1, .ref 1), (0, .ref 0)]) (st' := [.int 1, .ref 0, .ref 530, .int (-1)]) rfl ?_
    refine T_sald xr_203_252 (show ¬ ((1 : Int32) < 0 ∨ 6 ≤ (1 : Int32).toNatClampNeg) by decide) (x := x1) g1 (pc' := 253) rfl ?_
    refine T_cv (S := S0) (q := 530) xr_203_253 xf_164.1 xf_164.2.1 xn_164 (as := [.int (x1)]) (r := [.int (-1)]) rfl w530 (by simp [Value.category]) (by simp [Value.category]) (pc' := 256) rfl (ls' := [(0, .ref 530), (1, .int (x1))]) rfl ?_
    refine T_p xr_164_0 xn_164 (pc' := 1) (ls' := [(0, .ref 530), (1, .int (x1))]) (st' := [.int (x1)]) rfl ?_
    refine T_p xr_164_1 xn_164 (pc' := 70) (ls' := [(0, .ref 530), (1, .int (x1))]) (st' := []) (X_swo (row := (0, (.nop, 0), (0, 0, 0))) (lo := 0) (hi := 5) hs rfl) ?_
    refine T_p xr_164_70 xn_164 (pc' := 71) (ls' := [(0, .ref 530), (1, .int (x1))]) (st' := [.int (-1)]) rfl ?_
    refine T_iret xr_164_71 xf_164.2.2 rfl ?_
    show X_T (6, xs) 203 (256, [(3, .int 0), (2, .ref 530), (1, .ref 1), (0, .ref 0)], [.int (-1), .int (-1)], S0) _
    refine T_b2t xr_203_256 rfl (t := 588) rfl ?_
    refine T_p xr_203_588 xn_203 (pc' := 591) (ls' := [(3, .int 6), (2, .ref 530), (1, .ref 1), (0, .ref 0)]) (st' := []) rfl ?_
    refine T_p xr_203_591 xn_203 (pc' := 18) (ls' := [(3, .int 6), (2, .ref 530), (1, .ref 1), (0, .ref 0)]) (st' := []) rfl ?_
    refine T_p xr_203_18 xn_203 (pc' := 19) (ls' := [(3, .int 6), (2, .ref 530), (1, .ref 1), (0, .ref 0)]) (st' := [.int 6]) rfl ?_
    refine T_p xr_203_19 xn_203 (pc' := 20) (ls' := [(3, .int 6), (2, .ref 530), (1, .ref 1), (0, .ref 0)]) (st' := [.ref 0, .int 6]) rfl ?_
    refine T_slen xr_203_20 (x := 6) rfl (pc' := 21) rfl ?_
    refine T_p xr_203_21 xn_203 (pc' := 23) (ls' := [(3, .int 6), (2, .ref 530), (1, .ref 1), (0, .ref 0)]) (st' := [.int 6, .int 6, .int 6]) rfl ?_
    refine T_p xr_203_23 xn_203 (pc' := 24) (ls' := [(3, .int 6), (2, .ref 530), (1, .ref 1), (0, .ref 0)]) (st' := [.int 0, .int 6]) rfl ?_
    refine T_b2t xr_203_24 rfl (t := 594) rfl ?_
    refine T_p xr_203_594 xn_203 (pc' := 595) (ls' := [(3, .int 6), (2, .ref 530), (1, .ref 1), (0, .ref 0)]) (st' := [.int 1]) rfl ?_
    exact T_iret xr_203_595 xf_203.2.2 rfl ⟨rfl, hS2⟩
  · obtain ⟨m, hm, hs⟩ := hs
    match m, hm, hs with
    | 0, _, hs =>
      have hs : x1 = 0 := hs
      subst hs
      refine T_p xr_203_238 xn_203 (pc' := 239) (ls' := [(3, .int 0), (2, .ref 530), (1, .ref 1), (0, .ref 0)]) (st' := [.ref 1]) rfl ?_
      refine T_p xr_203_239 xn_203 (pc' := 240) (ls' := [(3, .int 0), (2, .ref 530), (1, .ref 1), (0, .ref 0)]) (st' := [.ref 0, .ref 1]) rfl ?_
      refine T_p xr_203_240 xn_203 (pc' := 241) (ls' := [(3, .int 0), (2, .ref 530), (1, .ref 1), (0, .ref 0)]) (st' := [.int 0, .ref 0, .ref 1]) rfl ?_
      refine T_p xr_203_241 xn_203 (pc' := 242) (ls' := [(3, .int 0), (2, .ref 530), (1, .ref 1), (0, .ref 0)]) (st' := [.int 1, .int 0, .ref 0, .ref 1]) rfl ?_
      refine T_p xr_203_242 xn_203 (pc' := 243) (ls' := [(3, .int 0), (2, .ref 530), (1, .ref 1), (0, .ref 0)]) (st' := [.int 1, .ref 0, .ref 1]) rfl ?_
      refine T_sald xr_203_243 (show ¬ ((1 : Int32) < 0 ∨ 6 ≤ (1 : Int32).toNatClampNeg) by decide) (x := 0) g1 (pc' := 244) rfl ?_
      refine T_cv (S := S0) (q := 1) xr_203_244 xf_117.1 xf_117.2.1 xn_117 (as := [.int 0]) (r := []) rfl w1 (by simp [Value.category]) (by simp [Value.category]) (pc' := 247) rfl (ls' := [(0, .ref 1), (1, .int 0)]) rfl ?_
      refine T_p xr_117_0 xn_117 (pc' := 1) (ls' := [(0, .ref 1), (1, .int 0)]) (st' := [.int 0]) rfl ?_
      refine T_p xr_117_1 xn_117 (pc' := 40) (ls' := [(0, .ref 1), (1, .int 0)]) (st' := []) rfl ?_
      refine T_p xr_117_40 xn_117 (pc' := 41) (ls' := [(0, .ref 1), (1, .int 0)]) (st' := [.ref 1]) rfl ?_
      refine T_get xr_117_41 w1 rfl (v := .ref 4) rfl (pc' := 44) rfl ?_
      refine T_get xr_117_44 w4 rfl (v := .int 0) rfl (pc' := 47) rfl ?_
      refine T_iret xr_117_47 xf_117.2.2 rfl ?_
      show X_T (6, xs) 203 (247, [(3, .int 0), (2, .ref 530), (1, .ref 1), (0, .ref 0)], [.int 0], S0) _
      refine T_p xr_203_247 xn_203 (pc' := 248) (ls' := [(3, .int 0), (2, .ref 530), (1, .ref 1), (0, .ref 0)]) (st' := [.ref 530, .int 0]) rfl ?_
      refine T_p xr_203_248 xn_203 (pc' := 249) (ls' := [(3, .int 0), (2, .ref 530), (1, .ref 1), (0, .ref 0)]) (st' := [.ref 0, .ref 530, .int 0]) rfl ?_
      refine T_p xr_203_249 xn_203 (pc' := 250) (ls' := [(3, .int 0), (2, .ref 530), (1, .ref 1), (0, .ref 0)]) (st' := [.int 0, .ref 0, .ref 530, .int 0]) rfl ?_
      refine T_p xr_203_250 xn_203 (pc' := 251) (ls' := [(3, .int 0), (2, .ref 530), (1, .ref 1), (0, .ref 0)]) (st' := [.int 1, .int 0, .ref 0, .ref 530, .int 0]) rfl ?_
      refine T_p xr_203_251 xn_203 (pc' := 252) (ls' := [(3, .int 0), (2, .ref 530), (1, .ref 1), (0, .ref 0)]) (st' := [.int 1, .ref 0, .ref 530, .int 0]) rfl ?_
      refine T_sald xr_203_252 (show ¬ ((1 : Int32) < 0 ∨ 6 ≤ (1 : Int32).toNatClampNeg) by decide) (x := 0) g1 (pc' := 253) rfl ?_
      refine T_cv (S := S0) (q := 530) xr_203_253 xf_164.1 xf_164.2.1 xn_164 (as := [.int 0]) (r := [.int 0]) rfl w530 (by simp [Value.category]) (by simp [Value.category]) (pc' := 256) rfl (ls' := [(0, .ref 530), (1, .int 0)]) rfl ?_
      refine T_p xr_164_0 xn_164 (pc' := 1) (ls' := [(0, .ref 530), (1, .int 0)]) (st' := [.int 0]) rfl ?_
      refine T_p xr_164_1 xn_164 (pc' := 40) (ls' := [(0, .ref 530), (1, .int 0)]) (st' := []) rfl ?_
      refine T_p xr_164_40 xn_164 (pc' := 41) (ls' := [(0, .ref 530), (1, .int 0)]) (st' := [.ref 530]) rfl ?_
      refine T_get xr_164_41 w530 rfl (v := .int 0) rfl (pc' := 44) rfl ?_
      refine T_iret xr_164_44 xf_164.2.2 rfl ?_
      show X_T (6, xs) 203 (256, [(3, .int 0), (2, .ref 530), (1, .ref 1), (0, .ref 0)], [.int 0, .int 0], S0) _
      refine T_b2t xr_203_256 rfl (t := 588) rfl ?_
      refine T_p xr_203_588 xn_203 (pc' := 591) (ls' := [(3, .int 6), (2, .ref 530), (1, .ref 1), (0, .ref 0)]) (st' := []) rfl ?_
      refine T_p xr_203_591 xn_203 (pc' := 18) (ls' := [(3, .int 6), (2, .ref 530), (1, .ref 1), (0, .ref 0)]) (st' := []) rfl ?_
      refine T_p xr_203_18 xn_203 (pc' := 19) (ls' := [(3, .int 6), (2, .ref 530), (1, .ref 1), (0, .ref 0)]) (st' := [.int 6]) rfl ?_
      refine T_p xr_203_19 xn_203 (pc' := 20) (ls' := [(3, .int 6), (2, .ref 530), (1, .ref 1), (0, .ref 0)]) (st' := [.ref 0, .int 6]) rfl ?_
      refine T_slen xr_203_20 (x := 6) rfl (pc' := 21) rfl ?_
      refine T_p xr_203_21 xn_203 (pc' := 23) (ls' := [(3, .int 6), (2, .ref 530), (1, .ref 1), (0, .ref 0)]) (st' := [.int 6, .int 6, .int 6]) rfl ?_
      refine T_p xr_203_23 xn_203 (pc' := 24) (ls' := [(3, .int 6), (2, .ref 530), (1, .ref 1), (0, .ref 0)]) (st' := [.int 0, .int 6]) rfl ?_
      refine T_b2t xr_203_24 rfl (t := 594) rfl ?_
      refine T_p xr_203_594 xn_203 (pc' := 595) (ls' := [(3, .int 6), (2, .ref 530), (1, .ref 1), (0, .ref 0)]) (st' := [.int 1]) rfl ?_
      exact T_iret xr_203_595 xf_203.2.2 rfl ⟨rfl, hS2⟩
    | 1, _, hs =>
      have hs : x1 = 1 := hs
      subst hs
      refine T_p xr_203_238 xn_203 (pc' := 239) (ls' := [(3, .int 0), (2, .ref 530), (1, .ref 1), (0, .ref 0)]) (st' := [.ref 1]) rfl ?_
      refine T_p xr_203_239 xn_203 (pc' := 240) (ls' := [(3, .int 0), (2, .ref 530), (1, .ref 1), (0, .ref 0)]) (st' := [.ref 0, .ref 1]) rfl ?_
      refine T_p xr_203_240 xn_203 (pc' := 241) (ls' := [(3, .int 0), (2, .ref 530), (1, .ref 1), (0, .ref 0)]) (st' := [.int 0, .ref 0, .ref 1]) rfl ?_
      refine T_p xr_203_241 xn_203 (pc' := 242) (ls' := [(3, .int 0), (2, .ref 530), (1, .ref 1), (0, .ref 0)]) (st' := [.int 1, .int 0, .ref 0, .ref 1]) rfl ?_
      refine T_p xr_203_242 xn_203 (pc' := 243) (ls' := [(3, .int 0), (2, .ref 530), (1, .ref 1), (0, .ref 0)]) (st' := [.int 1, .ref 0, .ref 1]) rfl ?_
      refine T_sald xr_203_243 (show ¬ ((1 : Int32) < 0 ∨ 6 ≤ (1 : Int32).toNatClampNeg) by decide) (x := 1) g1 (pc' := 244) rfl ?_
      refine T_cv (S := S0) (q := 1) xr_203_244 xf_117.1 xf_117.2.1 xn_117 (as := [.int 1]) (r := []) rfl w1 (by simp [Value.category]) (by simp [Value.category]) (pc' := 247) rfl (ls' := [(0, .ref 1), (1, .int 1)]) rfl ?_
      refine T_p xr_117_0 xn_117 (pc' := 1) (ls' := [(0, .ref 1), (1, .int 1)]) (st' := [.int 1]) rfl ?_
      refine T_p xr_117_1 xn_117 (pc' := 48) (ls' := [(0, .ref 1), (1, .int 1)]) (st' := []) rfl ?_
      refine T_p xr_117_48 xn_117 (pc' := 49) (ls' := [(0, .ref 1), (1, .int 1)]) (st' := [.ref 1]) rfl ?_
      refine T_get xr_117_49 w1 rfl (v := .ref 4) rfl (pc' := 52) rfl ?_
      refine T_get xr_117_52 w4 rfl (v := .int 1) rfl (pc' := 55) rfl ?_
      refine T_iret xr_117_55 xf_117.2.2 rfl ?_
      show X_T (6, xs) 203 (247, [(3, .int 0), (2, .ref 530), (1, .ref 1), (0, .ref 0)], [.int 1], S0) _
      refine T_p xr_203_247 xn_203 (pc' := 248) (ls' := [(3, .int 0), (2, .ref 530), (1, .ref 1), (0, .ref 0)]) (st' := [.ref 530, .int 1]) rfl ?_
      refine T_p xr_203_248 xn_203 (pc' := 249) (ls' := [(3, .int 0), (2, .ref 530), (1, .ref 1), (0, .ref 0)]) (st' := [.ref 0, .ref 530, .int 1]) rfl ?_
      refine T_p xr_203_249 xn_203 (pc' := 250) (ls' := [(3, .int 0), (2, .ref 530), (1, .ref 1), (0, .ref 0)]) (st' := [.int 0, .ref 0, .ref 530, .int 1]) rfl ?_
      refine T_p xr_203_250 xn_203 (pc' := 251) (ls' := [(3, .int 0), (2, .ref 530), (1, .ref 1), (0, .ref 0)]) (st' := [.int 1, .int 0, .ref 0, .ref 530, .int 1]) rfl ?_
      refine T_p xr_203_251 xn_203 (pc' := 252) (ls' := [(3, .int 0), (2, .ref 530), (1, .ref 1), (0, .ref 0)]) (st' := [.int 1, .ref 0, .ref 530, .int 1]) rfl ?_
      refine T_sald xr_203_252 (show ¬ ((1 : Int32) < 0 ∨ 6 ≤ (1 : Int32).toNatClampNeg) by decide) (x := 1) g1 (pc' := 253) rfl ?_
      refine T_cv (S := S0) (q := 530) xr_203_253 xf_164.1 xf_164.2.1 xn_164 (as := [.int 1]) (r := [.int 1]) rfl w530 (by simp [Value.category]) (by simp [Value.category]) (pc' := 256) rfl (ls' := [(0, .ref 530), (1, .int 1)]) rfl ?_
      refine T_p xr_164_0 xn_164 (pc' := 1) (ls' := [(0, .ref 530), (1, .int 1)]) (st' := [.int 1]) rfl ?_
      refine T_p xr_164_1 xn_164 (pc' := 45) (ls' := [(0, .ref 530), (1, .int 1)]) (st' := []) rfl ?_
      refine T_p xr_164_45 xn_164 (pc' := 46) (ls' := [(0, .ref 530), (1, .int 1)]) (st' := [.ref 530]) rfl ?_
      refine T_get xr_164_46 w530 rfl (v := .int 1) rfl (pc' := 49) rfl ?_
      refine T_iret xr_164_49 xf_164.2.2 rfl ?_
      show X_T (6, xs) 203 (256, [(3, .int 0), (2, .ref 530), (1, .ref 1), (0, .ref 0)], [.int 1, .int 1], S0) _
      refine T_b2t xr_203_256 rfl (t := 588) rfl ?_
      refine T_p xr_203_588 xn_203 (pc' := 591) (ls' := [(3, .int 6), (2, .ref 530), (1, .ref 1), (0, .ref 0)]) (st' := []) rfl ?_
      refine T_p xr_203_591 xn_203 (pc' := 18) (ls' := [(3, .int 6), (2, .ref 530), (1, .ref 1), (0, .ref 0)]) (st' := []) rfl ?_
      refine T_p xr_203_18 xn_203 (pc' := 19) (ls' := [(3, .int 6), (2, .ref 530), (1, .ref 1), (0, .ref 0)]) (st' := [.int 6]) rfl ?_
      refine T_p xr_203_19 xn_203 (pc' := 20) (ls' := [(3, .int 6), (2, .ref 530), (1, .ref 1), (0, .ref 0)]) (st' := [.ref 0, .int 6]) rfl ?_
      refine T_slen xr_203_20 (x := 6) rfl (pc' := 21) rfl ?_
      refine T_p xr_203_21 xn_203 (pc' := 23) (ls' := [(3, .int 6), (2, .ref 530), (1, .ref 1), (0, .ref 0)]) (st' := [.int 6, .int 6, .int 6]) rfl ?_
      refine T_p xr_203_23 xn_203 (pc' := 24) (ls' := [(3, .int 6), (2, .ref 530), (1, .ref 1), (0, .ref 0)]) (st' := [.int 0, .int 6]) rfl ?_
      refine T_b2t xr_203_24 rfl (t := 594) rfl ?_
      refine T_p xr_203_594 xn_203 (pc' := 595) (ls' := [(3, .int 6), (2, .ref 530), (1, .ref 1), (0, .ref 0)]) (st' := [.int 1]) rfl ?_
      exact T_iret xr_203_595 xf_203.2.2 rfl ⟨rfl, hS2⟩
    | 2, _, hs =>
      have hs : x1 = 2 := hs
      subst hs
      refine T_p xr_203_238 xn_203 (pc' := 239) (ls' := [(3, .int 0), (2, .ref 530), (1, .ref 1), (0, .ref 0)]) (st' := [.ref 1]) rfl ?_
      refine T_p xr_203_239 xn_203 (pc' := 240) (ls' := [(3, .int 0), (2, .ref 530), (1, .ref 1), (0, .ref 0)]) (st' := [.ref 0, .ref 1]) rfl ?_
      refine T_p xr_203_240 xn_203 (pc' := 241) (ls' := [(3, .int 0), (2, .ref 530), (1, .ref 1), (0, .ref 0)]) (st' := [.int 0, .ref 0, .ref 1]) rfl ?_
      refine T_p xr_203_241 xn_203 (pc' := 242) (ls' := [(3, .int 0), (2, .ref 530), (1, .ref 1), (0, .ref 0)]) (st' := [.int 1, .int 0, .ref 0, .ref 1]) rfl ?_
      refine T_p xr_203_242 xn_203 (pc' := 243) (ls' := [(3, .int 0), (2, .ref 530), (1, .ref 1), (0, .ref 0)]) (st' := [.int 1, .ref 0, .ref 1]) rfl ?_
      refine T_sald xr_203_243 (show ¬ ((1 : Int32) < 0 ∨ 6 ≤ (1 : Int32).toNatClampNeg) by decide) (x := 2) g1 (pc' := 244) rfl ?_
      refine T_cv (S := S0) (q := 1) xr_203_244 xf_117.1 xf_117.2.1 xn_117 (as := [.int 2]) (r := []) rfl w1 (by simp [Value.category]) (by simp [Value.category]) (pc' := 247) rfl (ls' := [(0, .ref 1), (1, .int 2)]) rfl ?_
      refine T_p xr_117_0 xn_117 (pc' := 1) (ls' := [(0, .ref 1), (1, .int 2)]) (st' := [.int 2]) rfl ?_
      refine T_p xr_117_1 xn_117 (pc' := 56) (ls' := [(0, .ref 1), (1, .int 2)]) (st' := []) rfl ?_
      refine T_p xr_117_56 xn_117 (pc' := 57) (ls' := [(0, .ref 1), (1, .int 2)]) (st' := [.ref 1]) rfl ?_
      refine T_get xr_117_57 w1 rfl (v := .ref 4) rfl (pc' := 60) rfl ?_
      refine T_get xr_117_60 w4 rfl (v := .int 0) rfl (pc' := 63) rfl ?_
      refine T_iret xr_117_63 xf_117.2.2 rfl ?_
      show X_T (6, xs) 203 (247, [(3, .int 0), (2, .ref 530), (1, .ref 1), (0, .ref 0)], [.int 0], S0) _
      refine T_p xr_203_247 xn_203 (pc' := 248) (ls' := [(3, .int 0), (2, .ref 530), (1, .ref 1), (0, .ref 0)]) (st' := [.ref 530, .int 0]) rfl ?_
      refine T_p xr_203_248 xn_203 (pc' := 249) (ls' := [(3, .int 0), (2, .ref 530), (1, .ref 1), (0, .ref 0)]) (st' := [.ref 0, .ref 530, .int 0]) rfl ?_
      refine T_p xr_203_249 xn_203 (pc' := 250) (ls' := [(3, .int 0), (2, .ref 530), (1, .ref 1), (0, .ref 0)]) (st' := [.int 0, .ref 0, .ref 530, .int 0]) rfl ?_
      refine T_p xr_203_250 xn_203 (pc' := 251) (ls' := [(3, .int 0), (2, .ref 530), (1, .ref 1), (0, .ref 0)]) (st' := [.int 1, .int 0, .ref 0, .ref 530, .int 0]) rfl ?_
      refine T_p xr_203_251 xn_203 (pc' := 252) (ls' := [(3, .int 0), (2, .ref 530), (1, .ref 1), (0, .ref 0)]) (st' := [.int 1, .ref 0, .ref 530, .int 0]) rfl ?_
      refine T_sald xr_203_252 (show ¬ ((1 : Int32) < 0 ∨ 6 ≤ (1 : Int32).toNatClampNeg) by decide) (x := 2) g1 (pc' := 253) rfl ?_
      refine T_cv (S := S0) (q := 530) xr_203_253 xf_164.1 xf_164.2.1 xn_164 (as := [.int 2]) (r := [.int 0]) rfl w530 (by simp [Value.category]) (by simp [Value.category]) (pc' := 256) rfl (ls' := [(0, .ref 530), (1, .int 2)]) rfl ?_
      refine T_p xr_164_0 xn_164 (pc' := 1) (ls' := [(0, .ref 530), (1, .int 2)]) (st' := [.int 2]) rfl ?_
      refine T_p xr_164_1 xn_164 (pc' := 50) (ls' := [(0, .ref 530), (1, .int 2)]) (st' := []) rfl ?_
      refine T_p xr_164_50 xn_164 (pc' := 51) (ls' := [(0, .ref 530), (1, .int 2)]) (st' := [.ref 530]) rfl ?_
      refine T_get xr_164_51 w530 rfl (v := .int 0) rfl (pc' := 54) rfl ?_
      refine T_iret xr_164_54 xf_164.2.2 rfl ?_
      show X_T (6, xs) 203 (256, [(3, .int 0), (2, .ref 530), (1, .ref 1), (0, .ref 0)], [.int 0, .int 0], S0) _
      refine T_b2t xr_203_256 rfl (t := 588) rfl ?_
      refine T_p xr_203_588 xn_203 (pc' := 591) (ls' := [(3, .int 6), (2, .ref 530), (1, .ref 1), (0, .ref 0)]) (st' := []) rfl ?_
      refine T_p xr_203_591 xn_203 (pc' := 18) (ls' := [(3, .int 6), (2, .ref 530), (1, .ref 1), (0, .ref 0)]) (st' := []) rfl ?_
      refine T_p xr_203_18 xn_203 (pc' := 19) (ls' := [(3, .int 6), (2, .ref 530), (1, .ref 1), (0, .ref 0)]) (st' := [.int 6]) rfl ?_
      refine T_p xr_203_19 xn_203 (pc' := 20) (ls' := [(3, .int 6), (2, .ref 530), (1, .ref 1), (0, .ref 0)]) (st' := [.ref 0, .int 6]) rfl ?_
      refine T_slen xr_203_20 (x := 6) rfl (pc' := 21) rfl ?_
      refine T_p xr_203_21 xn_203 (pc' := 23) (ls' := [(3, .int 6), (2, .ref 530), (1, .ref 1), (0, .ref 0)]) (st' := [.int 6, .int 6, .int 6]) rfl ?_
      refine T_p xr_203_23 xn_203 (pc' := 24) (ls' := [(3, .int 6), (2, .ref 530), (1, .ref 1), (0, .ref 0)]) (st' := [.int 0, .int 6]) rfl ?_
      refine T_b2t xr_203_24 rfl (t := 594) rfl ?_
      refine T_p xr_203_594 xn_203 (pc' := 595) (ls' := [(3, .int 6), (2, .ref 530), (1, .ref 1), (0, .ref 0)]) (st' := [.int 1]) rfl ?_
      exact T_iret xr_203_595 xf_203.2.2 rfl ⟨rfl, hS2⟩
    | 3, _, hs =>
      have hs : x1 = 3 := hs
      subst hs
      refine T_p xr_203_238 xn_203 (pc' := 239) (ls' := [(3, .int 0), (2, .ref 530), (1, .ref 1), (0, .ref 0)]) (st' := [.ref 1]) rfl ?_
      refine T_p xr_203_239 xn_203 (pc' := 240) (ls' := [(3, .int 0), (2, .ref 530), (1, .ref 1), (0, .ref 0)]) (st' := [.ref 0, .ref 1]) rfl ?_
      refine T_p xr_203_240 xn_203 (pc' := 241) (ls' := [(3, .int 0), (2, .ref 530), (1, .ref 1), (0, .ref 0)]) (st' := [.int 0, .ref 0, .ref 1]) rfl ?_
      refine T_p xr_203_241 xn_203 (pc' := 242) (ls' := [(3, .int 0), (2, .ref 530), (1, .ref 1), (0, .ref 0)]) (st' := [.int 1, .int 0, .ref 0, .ref 1]) rfl ?_
      refine T_p xr_203_242 xn_203 (pc' := 243) (ls' := [(3, .int 0), (2, .ref 530), (1, .ref 1), (0, .ref 0)]) (st' := [.int 1, .ref 0, .ref 1]) rfl ?_
      refine T_sald xr_203_243 (show ¬ ((1 : Int32) < 0 ∨ 6 ≤ (1 : Int32).toNatClampNeg) by decide) (x := 3) g1 (pc' := 244) rfl ?_
      refine T_cv (S := S0) (q := 1) xr_203_244 xf_117.1 xf_117.2.1 xn_117 (as := [.int 3]) (r := []) rfl w1 (by simp [Value.category]) (by simp [Value.category]) (pc' := 247) rfl (ls' := [(0, .ref 1), (1, .int 3)]) rfl ?_
      refine T_p xr_117_0 xn_117 (pc' := 1) (ls' := [(0, .ref 1), (1, .int 3)]) (st' := [.int 3]) rfl ?_
      refine T_p xr_117_1 xn_117 (pc' := 64) (ls' := [(0, .ref 1), (1, .int 3)]) (st' := []) rfl ?_
      refine T_p xr_117_64 xn_117 (pc' := 65) (ls' := [(0, .ref 1), (1, .int 3)]) (st' := [.ref 1]) rfl ?_
      refine T_get xr_117_65 w1 rfl (v := .ref 501) rfl (pc' := 68) rfl ?_
      refine T_get xr_117_68 w501 rfl (v := .int 0) rfl (pc' := 71) rfl ?_
      refine T_iret xr_117_71 xf_117.2.2 rfl ?_
      show X_T (6, xs) 203 (247, [(3, .int 0), (2, .ref 530), (1, .ref 1), (0, .ref 0)], [.int 0], S0) _
      refine T_p xr_203_247 xn_203 (pc' := 248) (ls' := [(3, .int 0), (2, .ref 530), (1, .ref 1), (0, .ref 0)]) (st' := [.ref 530, .int 0]) rfl ?_
      refine T_p xr_203_248 xn_203 (pc' := 249) (ls' := [(3, .int 0), (2, .ref 530), (1, .ref 1), (0, .ref 0)]) (st' := [.ref 0, .ref 530, .int 0]) rfl ?_
      refine T_p xr_203_249 xn_203 (pc' := 250) (ls' := [(3, .int 0), (2, .ref 530), (1, .ref 1), (0, .ref 0)]) (st' := [.int 0, .ref 0, .ref 530, .int 0]) rfl ?_
      refine T_p xr_203_250 xn_203 (pc' := 251) (ls' := [(3, .int 0), (2, .ref 530), (1, .ref 1), (0, .ref 0)]) (st' := [.int 1, .int 0, .ref 0, .ref 530, .int 0]) rfl ?_
      refine T_p xr_203_251 xn_203 (pc' := 252) (ls' := [(3, .int 0), (2, .ref 530), (1, .ref 1), (0, .ref 0)]) (st' := [.int 1, .ref 0, .ref 530, .int 0]) rfl ?_
      refine T_sald xr_203_252 (show ¬ ((1 : Int32) < 0 ∨ 6 ≤ (1 : Int32).toNatClampNeg) by decide) (x := 3) g1 (pc' := 253) rfl ?_
      refine T_cv (S := S0) (q := 530) xr_203_253 xf_164.1 xf_164.2.1 xn_164 (as := [.int 3]) (r := [.int 0]) rfl w530 (by simp [Value.category]) (by simp [Value.category]) (pc' := 256) rfl (ls' := [(0, .ref 530), (1, .int 3)]) rfl ?_
      refine T_p xr_164_0 xn_164 (pc' := 1) (ls' := [(0, .ref 530), (1, .int 3)]) (st' := [.int 3]) rfl ?_
      refine T_p xr_164_1 xn_164 (pc' := 55) (ls' := [(0, .ref 530), (1, .int 3)]) (st' := []) rfl ?_
      refine T_p xr_164_55 xn_164 (pc' := 56) (ls' := [(0, .ref 530), (1, .int 3)]) (st' := [.ref 530]) rfl ?_
      refine T_get xr_164_56 w530 rfl (v := .int 0) rfl (pc' := 59) rfl ?_
      refine T_iret xr_164_59 xf_164.2.2 rfl ?_
      show X_T (6, xs) 203 (256, [(3, .int 0), (2, .ref 530), (1, .ref 1), (0, .ref 0)], [.int 0, .int 0], S0) _
      refine T_b2t xr_203_256 rfl (t := 588) rfl ?_
      refine T_p xr_203_588 xn_203 (pc' := 591) (ls' := [(3, .int 6), (2, .ref 530), (1, .ref 1), (0, .ref 0)]) (st' := []) rfl ?_
      refine T_p xr_203_591 xn_203 (pc' := 18) (ls' := [(3, .int 6), (2, .ref 530), (1, .ref 1), (0, .ref 0)]) (st' := []) rfl ?_
      refine T_p xr_203_18 xn_203 (pc' := 19) (ls' := [(3, .int 6), (2, .ref 530), (1, .ref 1), (0, .ref 0)]) (st' := [.int 6]) rfl ?_
      refine T_p xr_203_19 xn_203 (pc' := 20) (ls' := [(3, .int 6), (2, .ref 530), (1, .ref 1), (0, .ref 0)]) (st' := [.ref 0, .int 6]) rfl ?_
      refine T_slen xr_203_20 (x := 6) rfl (pc' := 21) rfl ?_
      refine T_p xr_203_21 xn_203 (pc' := 23) (ls' := [(3, .int 6), (2, .ref 530), (1, .ref 1), (0, .ref 0)]) (st' := [.int 6, .int 6, .int 6]) rfl ?_
      refine T_p xr_203_23 xn_203 (pc' := 24) (ls' := [(3, .int 6), (2, .ref 530), (1, .ref 1), (0, .ref 0)]) (st' := [.int 0, .int 6]) rfl ?_
      refine T_b2t xr_203_24 rfl (t := 594) rfl ?_
      refine T_p xr_203_594 xn_203 (pc' := 595) (ls' := [(3, .int 6), (2, .ref 530), (1, .ref 1), (0, .ref 0)]) (st' := [.int 1]) rfl ?_
      exact T_iret xr_203_595 xf_203.2.2 rfl ⟨rfl, hS2⟩
    | 4, _, hs =>
      have hs : x1 = 4 := hs
      subst hs
      refine T_p xr_203_238 xn_203 (pc' := 239) (ls' := [(3, .int 0), (2, .ref 530), (1, .ref 1), (0, .ref 0)]) (st' := [.ref 1]) rfl ?_
      refine T_p xr_203_239 xn_203 (pc' := 240) (ls' := [(3, .int 0), (2, .ref 530), (1, .ref 1), (0, .ref 0)]) (st' := [.ref 0, .ref 1]) rfl ?_
      refine T_p xr_203_240 xn_203 (pc' := 241) (ls' := [(3, .int 0), (2, .ref 530), (1, .ref 1), (0, .ref 0)]) (st' := [.int 0, .ref 0, .ref 1]) rfl ?_
      refine T_p xr_203_241 xn_203 (pc' := 242) (ls' := [(3, .int 0), (2, .ref 530), (1, .ref 1), (0, .ref 0)]) (st' := [.int 1, .int 0, .ref 0, .ref 1]) rfl ?_
      refine T_p xr_203_242 xn_203 (pc' := 243) (ls' := [(3, .int 0), (2, .ref 530), (1, .ref 1), (0, .ref 0)]) (st' := [.int 1, .ref 0, .ref 1]) rfl ?_
      refine T_sald xr_203_243 (show ¬ ((1 : Int32) < 0 ∨ 6 ≤ (1 : Int32).toNatClampNeg) by decide) (x := 4) g1 (pc' := 244) rfl ?_
      refine T_cv (S := S0) (q := 1) xr_203_244 xf_117.1 xf_117.2.1 xn_117 (as := [.int 4]) (r := []) rfl w1 (by simp [Value.category]) (by simp [Value.category]) (pc' := 247) rfl (ls' := [(0, .ref 1), (1, .int 4)]) rfl ?_
      refine T_p xr_117_0 xn_117 (pc' := 1) (ls' := [(0, .ref 1), (1, .int 4)]) (st' := [.int 4]) rfl ?_
      refine T_p xr_117_1 xn_117 (pc' := 72) (ls' := [(0, .ref 1), (1, .int 4)]) (st' := []) rfl ?_
      refine T_p xr_117_72 xn_117 (pc' := 73) (ls' := [(0, .ref 1), (1, .int 4)]) (st' := [.ref 1]) rfl ?_
      refine T_get xr_117_73 w1 rfl (v := .ref 504) rfl (pc' := 76) rfl ?_
      refine T_get xr_117_76 w504 rfl (v := .int 0) rfl (pc' := 79) rfl ?_
      refine T_iret xr_117_79 xf_117.2.2 rfl ?_
      show X_T (6, xs) 203 (247, [(3, .int 0), (2, .ref 530), (1, .ref 1), (0, .ref 0)], [.int 0], S0) _
      refine T_p xr_203_247 xn_203 (pc' := 248) (ls' := [(3, .int 0), (2, .ref 530), (1, .ref 1), (0, .ref 0)]) (st' := [.ref 530, .int 0]) rfl ?_
      refine T_p xr_203_248 xn_203 (pc' := 249) (ls' := [(3, .int 0), (2, .ref 530), (1, .ref 1), (0, .ref 0)]) (st' := [.ref 0, .ref 530, .int 0]) rfl ?_
      refine T_p xr_203_249 xn_203 (pc' := 250) (ls' := [(3, .int 0), (2, .ref 530), (1, .ref 1), (0, .ref 0)]) (st' := [.int 0, .ref 0, .ref 530, .int 0]) rfl ?_
      refine T_p xr_203_250 xn_203 (pc' := 251) (ls' := [(3, .int 0), (2, .ref 530), (1, .ref 1), (0, .ref 0)]) (st' := [.int 1, .int 0, .ref 0, .ref 530, .int 0]) rfl ?_
      refine T_p xr_203_251 xn_203 (pc' := 252) (ls' := [(3, .int 0), (2, .ref 530), (1, .ref 1), (0, .ref 0)]) (st' := [.int 1, .ref 0, .ref 530, .int 0]) rfl ?_
      refine T_sald xr_203_252 (show ¬ ((1 : Int32) < 0 ∨ 6 ≤ (1 : Int32).toNatClampNeg) by decide) (x := 4) g1 (pc' := 253) rfl ?_
      refine T_cv (S := S0) (q := 530) xr_203_253 xf_164.1 xf_164.2.1 xn_164 (as := [.int 4]) (r := [.int 0]) rfl w530 (by simp [Value.category]) (by simp [Value.category]) (pc' := 256) rfl (ls' := [(0, .ref 530), (1, .int 4)]) rfl ?_
      refine T_p xr_164_0 xn_164 (pc' := 1) (ls' := [(0, .ref 530), (1, .int 4)]) (st' := [.int 4]) rfl ?_
      refine T_p xr_164_1 xn_164 (pc' := 60) (ls' := [(0, .ref 530), (1, .int 4)]) (st' := []) rfl ?_
      refine T_p xr_164_60 xn_164 (pc' := 61) (ls' := [(0, .ref 530), (1, .int 4)]) (st' := [.ref 530]) rfl ?_
      refine T_get xr_164_61 w530 rfl (v := .int 0) rfl (pc' := 64) rfl ?_
      refine T_iret xr_164_64 xf_164.2.2 rfl ?_
      show X_T (6, xs) 203 (256, [(3, .int 0), (2, .ref 530), (1, .ref 1), (0, .ref 0)], [.int 0, .int 0], S0) _
      refine T_b2t xr_203_256 rfl (t := 588) rfl ?_
      refine T_p xr_203_588 xn_203 (pc' := 591) (ls' := [(3, .int 6), (2, .ref 530), (1, .ref 1), (0, .ref 0)]) (st' := []) rfl ?_
      refine T_p xr_203_591 xn_203 (pc' := 18) (ls' := [(3, .int 6), (2, .ref 530), (1, .ref 1), (0, .ref 0)]) (st' := []) rfl ?_
      refine T_p xr_203_18 xn_203 (pc' := 19) (ls' := [(3, .int 6), (2, .ref 530), (1, .ref 1), (0, .ref 0)]) (st' := [.int 6]) rfl ?_
      refine T_p xr_203_19 xn_203 (pc' := 20) (ls' := [(3, .int 6), (2, .ref 530), (1, .ref 1), (0, .ref 0)]) (st' := [.ref 0, .int 6]) rfl ?_
      refine T_slen xr_203_20 (x := 6) rfl (pc' := 21) rfl ?_
      refine T_p xr_203_21 xn_203 (pc' := 23) (ls' := [(3, .int 6), (2, .ref 530), (1, .ref 1), (0, .ref 0)]) (st' := [.int 6, .int 6, .int 6]) rfl ?_
      refine T_p xr_203_23 xn_203 (pc' := 24) (ls' := [(3, .int 6), (2, .ref 530), (1, .ref 1), (0, .ref 0)]) (st' := [.int 0, .int 6]) rfl ?_
      refine T_b2t xr_203_24 rfl (t := 594) rfl ?_
      refine T_p xr_203_594 xn_203 (pc' := 595) (ls' := [(3, .int 6), (2, .ref 530), (1, .ref 1), (0, .ref 0)]) (st' := [.int 1]) rfl ?_
      exact T_iret xr_203_595 xf_203.2.2 rfl ⟨rfl, hS2⟩
    | 5, _, hs =>
      have hs : x1 = 5 := hs
      subst hs
      refine T_p xr_203_238 xn_203 (pc' := 239) (ls' := [(3, .int 0), (2, .ref 530), (1, .ref 1), (0, .ref 0)]) (st' := [.ref 1]) rfl ?_
      refine T_p xr_203_239 xn_203 (pc' := 240) (ls' := [(3, .int 0), (2, .ref 530), (1, .ref 1), (0, .ref 0)]) (st' := [.ref 0, .ref 1]) rfl ?_
      refine T_p xr_203_240 xn_203 (pc' := 241) (ls' := [(3, .int 0), (2, .ref 530), (1, .ref 1), (0, .ref 0)]) (st' := [.int 0, .ref 0, .ref 1]) rfl ?_
      refine T_p xr_203_241 xn_203 (pc' := 242) (ls' := [(3, .int 0), (2, .ref 530), (1, .ref 1), (0, .ref 0)]) (st' := [.int 1, .int 0, .ref 0, .ref 1]) rfl ?_
      refine T_p xr_203_242 xn_203 (pc' := 243) (ls' := [(3, .int 0), (2, .ref 530), (1, .ref 1), (0, .ref 0)]) (st' := [.int 1, .ref 0, .ref 1]) rfl ?_
      refine T_sald xr_203_243 (show ¬ ((1 : Int32) < 0 ∨ 6 ≤ (1 : Int32).toNatClampNeg) by decide) (x := 5) g1 (pc' := 244) rfl ?_
      refine T_cv (S := S0) (q := 1) xr_203_244 xf_117.1 xf_117.2.1 xn_117 (as := [.int 5]) (r := []) rfl w1 (by simp [Value.category]) (by simp [Value.category]) (pc' := 247) rfl (ls' := [(0, .ref 1), (1, .int 5)]) rfl ?_
      refine T_p xr_117_0 xn_117 (pc' := 1) (ls' := [(0, .ref 1), (1, .int 5)]) (st' := [.int 5]) rfl ?_
      refine T_p xr_117_1 xn_117 (pc' := 80) (ls' := [(0, .ref 1), (1, .int 5)]) (st' := []) rfl ?_
      refine T_p xr_117_80 xn_117 (pc' := 81) (ls' := [(0, .ref 1), (1, .int 5)]) (st' := [.ref 1]) rfl ?_
      refine T_get xr_117_81 w1 rfl (v := .ref 2) rfl (pc' := 84) rfl ?_
      refine T_get xr_117_84 w2 rfl (v := .int 0) rfl (pc' := 87) rfl ?_
      refine T_iret xr_117_87 xf_117.2.2 rfl ?_
      show X_T (6, xs) 203 (247, [(3, .int 0), (2, .ref 530), (1, .ref 1), (0, .ref 0)], [.int 0], S0) _
      refine T_p xr_203_247 xn_203 (pc' := 248) (ls' := [(3, .int 0), (2, .ref 530), (1, .ref 1), (0, .ref 0)]) (st' := [.ref 530, .int 0]) rfl ?_
      refine T_p xr_203_248 xn_203 (pc' := 249) (ls' := [(3, .int 0), (2, .ref 530), (1, .ref 1), (0, .ref 0)]) (st' := [.ref 0, .ref 530, .int 0]) rfl ?_
      refine T_p xr_203_249 xn_203 (pc' := 250) (ls' := [(3, .int 0), (2, .ref 530), (1, .ref 1), (0, .ref 0)]) (st' := [.int 0, .ref 0, .ref 530, .int 0]) rfl ?_
      refine T_p xr_203_250 xn_203 (pc' := 251) (ls' := [(3, .int 0), (2, .ref 530), (1, .ref 1), (0, .ref 0)]) (st' := [.int 1, .int 0, .ref 0, .ref 530, .int 0]) rfl ?_
      refine T_p xr_203_251 xn_203 (pc' := 252) (ls' := [(3, .int 0), (2, .ref 530), (1, .ref 1), (0, .ref 0)]) (st' := [.int 1, .ref 0, .ref 530, .int 0]) rfl ?_
      refine T_sald xr_203_252 (show ¬ ((1 : Int32) < 0 ∨ 6 ≤ (1 : Int32).toNatClampNeg) by decide) (x := 5) g1 (pc' := 253) rfl ?_
      refine T_cv (S := S0) (q := 530) xr_203_253 xf_164.1 xf_164.2.1 xn_164 (as := [.int 5]) (r := [.int 0]) rfl w530 (by simp [Value.category]) (by simp [Value.category]) (pc' := 256) rfl (ls' := [(0, .ref 530), (1, .int 5)]) rfl ?_
      refine T_p xr_164_0 xn_164 (pc' := 1) (ls' := [(0, .ref 530), (1, .int 5)]) (st' := [.int 5]) rfl ?_
      refine T_p xr_164_1 xn_164 (pc' := 65) (ls' := [(0, .ref 530), (1, .int 5)]) (st' := []) rfl ?_
      refine T_p xr_164_65 xn_164 (pc' := 66) (ls' := [(0, .ref 530), (1, .int 5)]) (st' := [.ref 530]) rfl ?_
      refine T_get xr_164_66 w530 rfl (v := .int 0) rfl (pc' := 69) rfl ?_
      refine T_iret xr_164_69 xf_164.2.2 rfl ?_
      show X_T (6, xs) 203 (256, [(3, .int 0), (2, .ref 530), (1, .ref 1), (0, .ref 0)], [.int 0, .int 0], S0) _
      refine T_b2t xr_203_256 rfl (t := 588) rfl ?_
      refine T_p xr_203_588 xn_203 (pc' := 591) (ls' := [(3, .int 6), (2, .ref 530), (1, .ref 1), (0, .ref 0)]) (st' := []) rfl ?_
      refine T_p xr_203_591 xn_203 (pc' := 18) (ls' := [(3, .int 6), (2, .ref 530), (1, .ref 1), (0, .ref 0)]) (st' := []) rfl ?_
      refine T_p xr_203_18 xn_203 (pc' := 19) (ls' := [(3, .int 6), (2, .ref 530), (1, .ref 1), (0, .ref 0)]) (st' := [.int 6]) rfl ?_
      refine T_p xr_203_19 xn_203 (pc' := 20) (ls' := [(3, .int 6), (2, .ref 530), (1, .ref 1), (0, .ref 0)]) (st' := [.ref 0, .int 6]) rfl ?_
      refine T_slen xr_203_20 (x := 6) rfl (pc' := 21) rfl ?_
      refine T_p xr_203_21 xn_203 (pc' := 23) (ls' := [(3, .int 6), (2, .ref 530), (1, .ref 1), (0, .ref 0)]) (st' := [.int 6, .int 6, .int 6]) rfl ?_
      refine T_p xr_203_23 xn_203 (pc' := 24) (ls' := [(3, .int 6), (2, .ref 530), (1, .ref 1), (0, .ref 0)]) (st' := [.int 0, .int 6]) rfl ?_
      refine T_b2t xr_203_24 rfl (t := 594) rfl ?_
      refine T_p xr_203_594 xn_203 (pc' := 595) (ls' := [(3, .int 6), (2, .ref 530), (1, .ref 1), (0, .ref 0)]) (st' := [.int 1]) rfl ?_
      exact T_iret xr_203_595 xf_203.2.2 rfl ⟨rfl, hS2⟩
    | m + 6, hm, _ => exact absurd hm (by omega)
theorem X_op4 (xs : Nat → Int32) : X_T (6, xs) 203 (238, [(3, .int 0), (2, .ref 530), (1, .ref 1), (0, .ref 0)], [], X_Sb) (fun v S => v = some (.int 1) ∧ S.2 = (580, 263990)) := by
  exact X_opx4 xs _ rfl X_Sb X_Sb2 X_fo1 X_fo2 X_fo4 X_fo501 X_fo504 X_fo530
theorem X_opx5 (xs : Nat → Int32) (x1 x2 : Int32) (g1 : xs 1 = x1) (g2 : xs 2 = x2) (S0 : X_S) (hS2 : S0.2 = (580, 263990)) (w1 : S0.1 1 = .inr (10, [.ref 2, .ref 4, .ref 250, .ref 496, .ref 501, .ref 504, .ref 511, .ref 517, .ref 527])) (w4 : S0.1 4 = .inr (0, [.int 0, .int 1, .int 0, .ref 5, .ref 6, .ref 7, .ref 8, .ref 9])) (w530 : S0.1 530 = .inr (11, [.ref 531, .int 0, .ref 532, .int 0, .int 0, .int 0, .int (-1), .int 0, .int 0, .int 0, .int 0, .int 0, .long 0, .ref 533, .ref 534, .ref 535, .ref 536, .ref 537, .ref 538, .ref 539, .ref 540, .ref 541, .ref 542, .ref 543, .ref 544, .ref 545, .ref 546, .ref 547, .int 0, .int 1, .int 0, .int 0, .int 1, .int 0, .ref 548, .ref 549, .ref 550, .ref 551, .int 0, .ref 552, .ref 553, .ref 554, .ref 555, .ref 556, .ref 557, .ref 558, .ref 559, .ref 560, .ref 561, .int 0, .ref 562, .ref 563, .ref 564, .ref 565, .ref 566, .ref 567, .ref 568, .ref 569, .int 0, .ref 570, .ref 571, .ref 572, .ref 573, .ref 574, .ref 575, .ref 576, .ref 577, .ref 578, .int 0, .int 0, .int 0, .ref 579])) : X_T (6, xs) 203 (261, [(3, .int 0), (2, .ref 530), (1, .ref 1), (0, .ref 0)], [], S0) (fun v S => v = some (.int 1) ∧ S.2 = (580, 263990)) := by
  refine T_p xr_203_261 xn_203 (pc' := 262) (ls' := [(3, .int 0), (2, .ref 530), (1, .ref 1), (0, .ref 0)]) (st' := [.ref 1]) rfl ?_
  refine T_p xr_203_262 xn_203 (pc' := 263) (ls' := [(3, .int 0), (2, .ref 530), (1, .ref 1), (0, .ref 0)]) (st' := [.ref 0, .ref 1]) rfl ?_
  refine T_p xr_203_263 xn_203 (pc' := 264) (ls' := [(3, .int 0), (2, .ref 530), (1, .ref 1), (0, .ref 0)]) (st' := [.int 0, .ref 0, .ref 1]) rfl ?_
  refine T_p xr_203_264 xn_203 (pc' := 265) (ls' := [(3, .int 0), (2, .ref 530), (1, .ref 1), (0, .ref 0)]) (st' := [.int 1, .int 0, .ref 0, .ref 1]) rfl ?_
  refine T_p xr_203_265 xn_203 (pc' := 266) (ls' := [(3, .int 0), (2, .ref 530), (1, .ref 1), (0, .ref 0)]) (st' := [.int 1, .ref 0, .ref 1]) rfl ?_
  refine T_sald xr_203_266 (show ¬ ((1 : Int32) < 0 ∨ 6 ≤ (1 : Int32).toNatClampNeg) by decide) (x := x1) g1 (pc' := 267) rfl ?_
  refine T_p xr_203_267 xn_203 (pc' := 268) (ls' := [(3, .int 0), (2, .ref 530), (1, .ref 1), (0, .ref 0)]) (st' := [.ref 0, .int (x1), .ref 1]) rfl ?_
  refine T_p xr_203_268 xn_203 (pc' := 269) (ls' := [(3, .int 0), (2, .ref 530), (1, .ref 1), (0, .ref 0)]) (st' := [.int 0, .ref 0, .int (x1), .ref 1]) rfl ?_
  refine T_p xr_203_269 xn_203 (pc' := 270) (ls' := [(3, .int 0), (2, .ref 530), (1, .ref 1), (0, .ref 0)]) (st' := [.int 2, .int 0, .ref 0, .int (x1), .ref 1]) rfl ?_
  refine T_p xr_203_270 xn_203 (pc' := 271) (ls' := [(3, .int 0), (2, .ref 530), (1, .ref 1), (0, .ref 0)]) (st' := [.int 2, .ref 0, .int (x1), .ref 1]) rfl ?_
  refine T_sald xr_203_271 (show ¬ ((2 : Int32) < 0 ∨ 6 ≤ (2 : Int32).toNatClampNeg) by decide) (x := x2) g2 (pc' := 272) rfl ?_
  refine T_cv (S := S0) (q := 1) xr_203_272 xf_118.1 xf_118.2.1 xn_118 (as := [.int (x1), .int (x2)]) (r := []) rfl w1 (by simp [Value.category]) (by simp [Value.category]) (pc' := 275) rfl (ls' := [(0, .ref 1), (1, .int (x1)), (2, .int (x2))]) rfl ?_
  refine T_p xr_118_0 xn_118 (pc' := 1) (ls' := [(0, .ref 1), (1, .int (x1)), (2, .int (x2))]) (st' := [.ref 1]) rfl ?_
  refine T_get xr_118_1 w1 rfl (v := .ref 4) rfl (pc' := 4) rfl ?_
  refine T_p xr_118_4 xn_118 (pc' := 5) (ls' := [(0, .ref 1), (1, .int (x1)), (2, .int (x2))]) (st' := [.int (x1), .ref 4]) rfl ?_
  refine T_cv (S := S0) (q := 4) xr_118_5 xf_4.1 xf_4.2.1 xn_4 (as := [.int (x1)]) (r := []) rfl w4 (by simp [Value.category]) (by simp [Value.category]) (pc' := 8) rfl (ls' := [(0, .ref 4), (1, .int (x1))]) rfl ?_
  refine T_p xr_4_0 xn_4 (pc' := 1) (ls' := [(0, .ref 4), (1, .int (x1))]) (st' := [.int (x1)]) rfl ?_
  refine T_b1 xr_4_1 (t := 16) (pc' := 4) rfl rfl (fun c1 => ?_) (fun c1 => ?_)
  · skip
    refine T_p xr_4_16 xn_4 (pc' := 17) (ls' := [(0, .ref 4), (1, .int (x1))]) (st' := [.int 0]) rfl ?_
    refine T_iret xr_4_17 xf_4.2.2 rfl ?_
    show X_T (6, xs) 118 (8, [(0, .ref 1), (1, .int (x1)), (2, .int (x2))], [.int 0], S0) _
    refine T_b1f xr_118_8 rfl (t := 13) (pc' := 11) rfl rfl ?_
    refine T_p xr_118_11 xn_118 (pc' := 12) (ls' := [(0, .ref 1), (1, .int (x1)), (2, .int (x2))]) (st' := [.int (-1)]) rfl ?_
    refine T_iret xr_118_12 xf_118.2.2 rfl ?_
    show X_T (6, xs) 203 (275, [(3, .int 0), (2, .ref 530), (1, .ref 1), (0, .ref 0)], [.int (-1)], S0) _
    refine T_p xr_203_275 xn_203 (pc' := 276) (ls' := [(3, .int 0), (2, .ref 530), (1, .ref 1), (0, .ref 0)]) (st' := [.ref 530, .int (-1)]) rfl ?_
    refine T_p xr_203_276 xn_203 (pc' := 277) (ls' := [(3, .int 0), (2, .ref 530), (1, .ref 1), (0, .ref 0)]) (st' := [.ref 0, .ref 530, .int (-1)]) rfl ?_
    refine T_p xr_203_277 xn_203 (pc' := 278) (ls' := [(3, .int 0), (2, .ref 530), (1, .ref 1), (0, .ref 0)]) (st' := [.int 0, .ref 0, .ref 530, .int (-1)]) rfl ?_
    refine T_p xr_203_278 xn_203 (pc' := 279) (ls' := [(3, .int 0), (2, .ref 530), (1, .ref 1), (0, .ref 0)]) (st' := [.int 1, .int 0, .ref 0, .ref 530, .int (-1)]) rfl ?_
    refine T_p xr_203_279 xn_203 (pc' := 280) (ls' := [(3, .int 0), (2, .ref 530), (1, .ref 1), (0, .ref 0)]) (st' := [.int 1, .ref 0, .ref 530, .int (-1)]) rfl ?_
    refine T_sald xr_203_280 (show ¬ ((1 : Int32) < 0 ∨ 6 ≤ (1 : Int32).toNatClampNeg) by decide) (x := x1) g1 (pc' := 281) rfl ?_
    refine T_p xr_203_281 xn_203 (pc' := 282) (ls' := [(3, .int 0), (2, .ref 530), (1, .ref 1), (0, .ref 0)]) (st' := [.ref 0, .int (x1), .ref 530, .int (-1)]) rfl ?_
    refine T_p xr_203_282 xn_203 (pc' := 283) (ls' := [(3, .int 0), (2, .ref 530), (1, .ref 1), (0, .ref 0)]) (st' := [.int 0, .ref 0, .int (x1), .ref 530, .int (-1)]) rfl ?_
    refine T_p xr_203_283 xn_203 (pc' := 284) (ls' := [(3, .int 0), (2, .ref 530), (1, .ref 1), (0, .ref 0)]) (st' := [.int 2, .int 0, .ref 0, .int (x1), .ref 530, .int (-1)]) rfl ?_
    refine T_p xr_203_284 xn_203 (pc' := 285) (ls' := [(3, .int 0), (2, .ref 530), (1, .ref 1), (0, .ref 0)]) (st' := [.int 2, .ref 0, .int (x1), .ref 530, .int (-1)]) rfl ?_
    refine T_sald xr_203_285 (show ¬ ((2 : Int32) < 0 ∨ 6 ≤ (2 : Int32).toNatClampNeg) by decide) (x := x2) g2 (pc' := 286) rfl ?_
    refine T_cv (S := S0) (q := 530) xr_203_286 xf_166.1 xf_166.2.1 xn_166 (as := [.int (x1), .int (x2)]) (r := [.int (-1)]) rfl w530 (by simp [Value.category]) (by simp [Value.category]) (pc' := 289) rfl (ls' := [(0, .ref 530), (1, .int (x1)), (2, .int (x2))]) rfl ?_
    refine T_p xr_166_0 xn_166 (pc' := 1) (ls' := [(0, .ref 530), (1, .int (x1)), (2, .int (x2))]) (st' := [.ref 530]) rfl ?_
    refine T_p xr_166_1 xn_166 (pc' := 2) (ls' := [(0, .ref 530), (1, .int (x1)), (2, .int (x2))]) (st' := [.int (x1), .ref 530]) rfl ?_
    refine T_cv (S := S0) (q := 530) xr_166_2 xf_165.1 xf_165.2.1 xn_165 (as := [.int (x1)]) (r := []) rfl w530 (by simp [Value.category]) (by simp [Value.category]) (pc' := 5) rfl (ls' := [(0, .ref 530), (1, .int (x1))]) rfl ?_
    refine T_p xr_165_0 xn_165 (pc' := 1) (ls' := [(0, .ref 530), (1, .int (x1))]) (st' := [.int (x1)]) rfl ?_
    refine T_b1t xr_165_1 c1 (t := 16) rfl ?_
    refine T_p xr_165_16 xn_165 (pc' := 17) (ls' := [(0, .ref 530), (1, .int (x1))]) (st' := [.int 0]) rfl ?_
    refine T_iret xr_165_17 xf_165.2.2 rfl ?_
    show X_T (6, xs) 166 (5, [(0, .ref 530), (1, .int (x1)), (2, .int (x2))], [.int 0], S0) _
    refine T_b1f xr_166_5 rfl (t := 10) (pc' := 8) rfl rfl ?_
    refine T_p xr_166_8 xn_166 (pc' := 9) (ls' := [(0, .ref 530), (1, .int (x1)), (2, .int (x2))]) (st' := [.int (-1)]) rfl ?_
    refine T_iret xr_166_9 xf_166.2.2 rfl ?_
    show X_T (6, xs) 203 (289, [(3, .int 0), (2, .ref 530), (1, .ref 1), (0, .ref 0)], [.int (-1), .int (-1)], S0) _
    refine T_b2t xr_203_289 rfl (t := 588) rfl ?_
    refine T_p xr_203_588 xn_203 (pc' := 591) (ls' := [(3, .int 6), (2, .ref 530), (1, .ref 1), (0, .ref 0)]) (st' := []) rfl ?_
    refine T_p xr_203_591 xn_203 (pc' := 18) (ls' := [(3, .int 6), (2, .ref 530), (1, .ref 1), (0, .ref 0)]) (st' := []) rfl ?_
    refine T_p xr_203_18 xn_203 (pc' := 19) (ls' := [(3, .int 6), (2, .ref 530), (1, .ref 1), (0, .ref 0)]) (st' := [.int 6]) rfl ?_
    refine T_p xr_203_19 xn_203 (pc' := 20) (ls' := [(3, .int 6), (2, .ref 530), (1, .ref 1), (0, .ref 0)]) (st' := [.ref 0, .int 6]) rfl ?_
    refine T_slen xr_203_20 (x := 6) rfl (pc' := 21) rfl ?_
    refine T_p xr_203_21 xn_203 (pc' := 23) (ls' := [(3, .int 6), (2, .ref 530), (1, .ref 1), (0, .ref 0)]) (st' := [.int 6, .int 6, .int 6]) rfl ?_
    refine T_p xr_203_23 xn_203 (pc' := 24) (ls' := [(3, .int 6), (2, .ref 530), (1, .ref 1), (0, .ref 0)]) (st' := [.int 0, .int 6]) rfl ?_
    refine T_b2t xr_203_24 rfl (t := 594) rfl ?_
    refine T_p xr_203_594 xn_203 (pc' := 595) (ls' := [(3, .int 6), (2, .ref 530), (1, .ref 1), (0, .ref 0)]) (st' := [.int 1]) rfl ?_
    exact T_iret xr_203_595 xf_203.2.2 rfl ⟨rfl, hS2⟩
  · skip
    refine T_p xr_4_4 xn_4 (pc' := 5) (ls' := [(0, .ref 4), (1, .int (x1))]) (st' := [.int (x1)]) rfl ?_
    refine T_p xr_4_5 xn_4 (pc' := 6) (ls' := [(0, .ref 4), (1, .int (x1))]) (st' := [.ref 4, .int (x1)]) rfl ?_
    refine T_get xr_4_6 w4 rfl (v := .int 0) rfl (pc' := 9) rfl ?_
    refine T_b2t xr_4_9 (by rw [X_cd_ge, c1]; rfl) (t := 16) rfl ?_
    refine T_p xr_4_16 xn_4 (pc' := 17) (ls' := [(0, .ref 4), (1, .int (x1))]) (st' := [.int 0]) rfl ?_
    refine T_iret xr_4_17 xf_4.2.2 rfl ?_
    show X_T (6, xs) 118 (8, [(0, .ref 1), (1, .int (x1)), (2, .int (x2))], [.int 0], S0) _
    refine T_b1f xr_118_8 rfl (t := 13) (pc' := 11) rfl rfl ?_
    refine T_p xr_118_11 xn_118 (pc' := 12) (ls' := [(0, .ref 1), (1, .int (x1)), (2, .int (x2))]) (st' := [.int (-1)]) rfl ?_
    refine T_iret xr_118_12 xf_118.2.2 rfl ?_
    show X_T (6, xs) 203 (275, [(3, .int 0), (2, .ref 530), (1, .ref 1), (0, .ref 0)], [.int (-1)], S0) _
    refine T_p xr_203_275 xn_203 (pc' := 276) (ls' := [(3, .int 0), (2, .ref 530), (1, .ref 1), (0, .ref 0)]) (st' := [.ref 530, .int (-1)]) rfl ?_
    refine T_p xr_203_276 xn_203 (pc' := 277) (ls' := [(3, .int 0), (2, .ref 530), (1, .ref 1), (0, .ref 0)]) (st' := [.ref 0, .ref 530, .int (-1)]) rfl ?_
    refine T_p xr_203_277 xn_203 (pc' := 278) (ls' := [(3, .int 0), (2, .ref 530), (1, .ref 1), (0, .ref 0)]) (st' := [.int 0, .ref 0, .ref 530, .int (-1)]) rfl ?_
    refine T_p xr_203_278 xn_203 (pc' := 279) (ls' := [(3, .int 0), (2, .ref 530), (1, .ref 1), (0, .ref 0)]) (st' := [.int 1, .int 0, .ref 0, .ref 530, .int (-1)]) rfl ?_
    refine T_p xr_203_279 xn_203 (pc' := 280) (ls' := [(3, .int 0), (2, .ref 530), (1, .ref 1), (0, .ref 0)]) (st' := [.int 1, .ref 0, .ref 530, .int (-1)]) rfl ?_
    refine T_sald xr_203_280 (show ¬ ((1 : Int32) < 0 ∨ 6 ≤ (1 : Int32).toNatClampNeg) by decide) (x := x1) g1 (pc' := 281) rfl ?_
    refine T_p xr_203_281 xn_203 (pc' := 282) (ls' := [(3, .int 0), (2, .ref 530), (1, .ref 1), (0, .ref 0)]) (st' := [.ref 0, .int (x1), .ref 530, .int (-1)]) rfl ?_
    refine T_p xr_203_282 xn_203 (pc' := 283) (ls' := [(3, .int 0), (2, .ref 530), (1, .ref 1), (0, .ref 0)]) (st' := [.int 0, .ref 0, .int (x1), .ref 530, .int (-1)]) rfl ?_
    refine T_p xr_203_283 xn_203 (pc' := 284) (ls' := [(3, .int 0), (2, .ref 530), (1, .ref 1), (0, .ref 0)]) (st' := [.int 2, .int 0, .ref 0, .int (x1), .ref 530, .int (-1)]) rfl ?_
    refine T_p xr_203_284 xn_203 (pc' := 285) (ls' := [(3, .int 0), (2, .ref 530), (1, .ref 1), (0, .ref 0)]) (st' := [.int 2, .ref 0, .int (x1), .ref 530, .int (-1)]) rfl ?_
    refine T_sald xr_203_285 (show ¬ ((2 : Int32) < 0 ∨ 6 ≤ (2 : Int32).toNatClampNeg) by decide) (x := x2) g2 (pc' := 286) rfl ?_
    refine T_cv (S := S0) (q := 530) xr_203_286 xf_166.1 xf_166.2.1 xn_166 (as := [.int (x1), .int (x2)]) (r := [.int (-1)]) rfl w530 (by simp [Value.category]) (by simp [Value.category]) (pc' := 289) rfl (ls' := [(0, .ref 530), (1, .int (x1)), (2, .int (x2))]) rfl ?_
    refine T_p xr_166_0 xn_166 (pc' := 1) (ls' := [(0, .ref 530), (1, .int (x1)), (2, .int (x2))]) (st' := [.ref 530]) rfl ?_
    refine T_p xr_166_1 xn_166 (pc' := 2) (ls' := [(0, .ref 530), (1, .int (x1)), (2, .int (x2))]) (st' := [.int (x1), .ref 530]) rfl ?_
    refine T_cv (S := S0) (q := 530) xr_166_2 xf_165.1 xf_165.2.1 xn_165 (as := [.int (x1)]) (r := []) rfl w530 (by simp [Value.category]) (by simp [Value.category]) (pc' := 5) rfl (ls' := [(0, .ref 530), (1, .int (x1))]) rfl ?_
    refine T_p xr_165_0 xn_165 (pc' := 1) (ls' := [(0, .ref 530), (1, .int (x1))]) (st' := [.int (x1)]) rfl ?_
    refine T_b1f xr_165_1 c1 (t := 16) (pc' := 4) rfl rfl ?_
    refine T_p xr_165_4 xn_165 (pc' := 5) (ls' := [(0, .ref 530), (1, .int (x1))]) (st' := [.int (x1)]) rfl ?_
    refine T_p xr_165_5 xn_165 (pc' := 6) (ls' := [(0, .ref 530), (1, .int (x1))]) (st' := [.ref 530, .int (x1)]) rfl ?_
    refine T_get xr_165_6 w530 rfl (v := .int 0) rfl (pc' := 9) rfl ?_
    refine T_b2t xr_165_9 (by rw [X_cd_ge, c1]; rfl) (t := 16) rfl ?_
    refine T_p xr_165_16 xn_165 (pc' := 17) (ls' := [(0, .ref 530), (1, .int (x1))]) (st' := [.int 0]) rfl ?_
    refine T_iret xr_165_17 xf_165.2.2 rfl ?_
    show X_T (6, xs) 166 (5, [(0, .ref 530), (1, .int (x1)), (2, .int (x2))], [.int 0], S0) _
    refine T_b1f xr_166_5 rfl (t := 10) (pc' := 8) rfl rfl ?_
    refine T_p xr_166_8 xn_166 (pc' := 9) (ls' := [(0, .ref 530), (1, .int (x1)), (2, .int (x2))]) (st' := [.int (-1)]) rfl ?_
    refine T_iret xr_166_9 xf_166.2.2 rfl ?_
    show X_T (6, xs) 203 (289, [(3, .int 0), (2, .ref 530), (1, .ref 1), (0, .ref 0)], [.int (-1), .int (-1)], S0) _
    refine T_b2t xr_203_289 rfl (t := 588) rfl ?_
    refine T_p xr_203_588 xn_203 (pc' := 591) (ls' := [(3, .int 6), (2, .ref 530), (1, .ref 1), (0, .ref 0)]) (st' := []) rfl ?_
    refine T_p xr_203_591 xn_203 (pc' := 18) (ls' := [(3, .int 6), (2, .ref 530), (1, .ref 1), (0, .ref 0)]) (st' := []) rfl ?_
    refine T_p xr_203_18 xn_203 (pc' := 19) (ls' := [(3, .int 6), (2, .ref 530), (1, .ref 1), (0, .ref 0)]) (st' := [.int 6]) rfl ?_
    refine T_p xr_203_19 xn_203 (pc' := 20) (ls' := [(3, .int 6), (2, .ref 530), (1, .ref 1), (0, .ref 0)]) (st' := [.ref 0, .int 6]) rfl ?_
    refine T_slen xr_203_20 (x := 6) rfl (pc' := 21) rfl ?_
    refine T_p xr_203_21 xn_203 (pc' := 23) (ls' := [(3, .int 6), (2, .ref 530), (1, .ref 1), (0, .ref 0)]) (st' := [.int 6, .int 6, .int 6]) rfl ?_
    refine T_p xr_203_23 xn_203 (pc' := 24) (ls' := [(3, .int 6), (2, .ref 530), (1, .ref 1), (0, .ref 0)]) (st' := [.int 0, .int 6]) rfl ?_
    refine T_b2t xr_203_24 rfl (t := 594) rfl ?_
    refine T_p xr_203_594 xn_203 (pc' := 595) (ls' := [(3, .int 6), (2, .ref 530), (1, .ref 1), (0, .ref 0)]) (st' := [.int 1]) rfl ?_
    exact T_iret xr_203_595 xf_203.2.2 rfl ⟨rfl, hS2⟩
theorem X_op5 (xs : Nat → Int32) : X_T (6, xs) 203 (261, [(3, .int 0), (2, .ref 530), (1, .ref 1), (0, .ref 0)], [], X_Sb) (fun v S => v = some (.int 1) ∧ S.2 = (580, 263990)) := by
  exact X_opx5 xs _ _ rfl rfl X_Sb X_Sb2 X_fo1 X_fo4 X_fo530
theorem X_opx6 (xs : Nat → Int32) (x1 x2 : Int32) (g1 : xs 1 = x1) (g2 : xs 2 = x2) (S0 : X_S) (hS2 : S0.2 = (580, 263990)) (w1 : S0.1 1 = .inr (10, [.ref 2, .ref 4, .ref 250, .ref 496, .ref 501, .ref 504, .ref 511, .ref 517, .ref 527])) (w4 : S0.1 4 = .inr (0, [.int 0, .int 1, .int 0, .ref 5, .ref 6, .ref 7, .ref 8, .ref 9])) (w530 : S0.1 530 = .inr (11, [.ref 531, .int 0, .ref 532, .int 0, .int 0, .int 0, .int (-1), .int 0, .int 0, .int 0, .int 0, .int 0, .long 0, .ref 533, .ref 534, .ref 535, .ref 536, .ref 537, .ref 538, .ref 539, .ref 540, .ref 541, .ref 542, .ref 543, .ref 544, .ref 545, .ref 546, .ref 547, .int 0, .int 1, .int 0, .int 0, .int 1, .int 0, .ref 548, .ref 549, .ref 550, .ref 551, .int 0, .ref 552, .ref 553, .ref 554, .ref 555, .ref 556, .ref 557, .ref 558, .ref 559, .ref 560, .ref 561, .int 0, .ref 562, .ref 563, .ref 564, .ref 565, .ref 566, .ref 567, .ref 568, .ref 569, .int 0, .ref 570, .ref 571, .ref 572, .ref 573, .ref 574, .ref 575, .ref 576, .ref 577, .ref 578, .int 0, .int 0, .int 0, .ref 579])) : X_T (6, xs) 203 (294, [(3, .int 0), (2, .ref 530), (1, .ref 1), (0, .ref 0)], [], S0) (fun v S => v = some (.int 1) ∧ S.2 = (580, 263990)) := by
  refine T_p xr_203_294 xn_203 (pc' := 295) (ls' := [(3, .int 0), (2, .ref 530), (1, .ref 1), (0, .ref 0)]) (st' := [.ref 1]) rfl ?_
  refine T_p xr_203_295 xn_203 (pc' := 296) (ls' := [(3, .int 0), (2, .ref 530), (1, .ref 1), (0, .ref 0)]) (st' := [.ref 0, .ref 1]) rfl ?_
  refine T_p xr_203_296 xn_203 (pc' := 297) (ls' := [(3, .int 0), (2, .ref 530), (1, .ref 1), (0, .ref 0)]) (st' := [.int 0, .ref 0, .ref 1]) rfl ?_
  refine T_p xr_203_297 xn_203 (pc' := 298) (ls' := [(3, .int 0), (2, .ref 530), (1, .ref 1), (0, .ref 0)]) (st' := [.int 1, .int 0, .ref 0, .ref 1]) rfl ?_
  refine T_p xr_203_298 xn_203 (pc' := 299) (ls' := [(3, .int 0), (2, .ref 530), (1, .ref 1), (0, .ref 0)]) (st' := [.int 1, .ref 0, .ref 1]) rfl ?_
  refine T_sald xr_203_299 (show ¬ ((1 : Int32) < 0 ∨ 6 ≤ (1 : Int32).toNatClampNeg) by decide) (x := x1) g1 (pc' := 300) rfl ?_
  refine T_p xr_203_300 xn_203 (pc' := 301) (ls' := [(3, .int 0), (2, .ref 530), (1, .ref 1), (0, .ref 0)]) (st' := [.ref 0, .int (x1), .ref 1]) rfl ?_
  refine T_p xr_203_301 xn_203 (pc' := 302) (ls' := [(3, .int 0), (2, .ref 530), (1, .ref 1), (0, .ref 0)]) (st' := [.int 0, .ref 0, .int (x1), .ref 1]) rfl ?_
  refine T_p xr_203_302 xn_203 (pc' := 303) (ls' := [(3, .int 0), (2, .ref 530), (1, .ref 1), (0, .ref 0)]) (st' := [.int 2, .int 0, .ref 0, .int (x1), .ref 1]) rfl ?_
  refine T_p xr_203_303 xn_203 (pc' := 304) (ls' := [(3, .int 0), (2, .ref 530), (1, .ref 1), (0, .ref 0)]) (st' := [.int 2, .ref 0, .int (x1), .ref 1]) rfl ?_
  refine T_sald xr_203_304 (show ¬ ((2 : Int32) < 0 ∨ 6 ≤ (2 : Int32).toNatClampNeg) by decide) (x := x2) g2 (pc' := 305) rfl ?_
  refine T_cv (S := S0) (q := 1) xr_203_305 xf_119.1 xf_119.2.1 xn_119 (as := [.int (x1), .int (x2)]) (r := []) rfl w1 (by simp [Value.category]) (by simp [Value.category]) (pc' := 308) rfl (ls' := [(0, .ref 1), (1, .int (x1)), (2, .int (x2))]) rfl ?_
  refine T_p xr_119_0 xn_119 (pc' := 1) (ls' := [(0, .ref 1), (1, .int (x1)), (2, .int (x2))]) (st' := [.ref 1]) rfl ?_
  refine T_get xr_119_1 w1 rfl (v := .ref 4) rfl (pc' := 4) rfl ?_
  refine T_p xr_119_4 xn_119 (pc' := 5) (ls' := [(0, .ref 1), (1, .int (x1)), (2, .int (x2))]) (st' := [.int (x1), .ref 4]) rfl ?_
  refine T_cv (S := S0) (q := 4) xr_119_5 xf_2.1 xf_2.2.1 xn_2 (as := [.int (x1)]) (r := []) rfl w4 (by simp [Value.category]) (by simp [Value.category]) (pc' := 8) rfl (ls' := [(0, .ref 4), (1, .int (x1))]) rfl ?_
  refine T_p xr_2_0 xn_2 (pc' := 1) (ls' := [(0, .ref 4), (1, .int (x1))]) (st' := [.int (x1)]) rfl ?_
  refine T_b1 xr_2_1 (t := 16) (pc' := 4) rfl rfl (fun c1 => ?_) (fun c1 => ?_)
  · skip
    refine T_p xr_2_16 xn_2 (pc' := 17) (ls' := [(0, .ref 4), (1, .int (x1))]) (st' := [.int 0]) rfl ?_
    refine T_iret xr_2_17 xf_2.2.2 rfl ?_
    show X_T (6, xs) 119 (8, [(0, .ref 1), (1, .int (x1)), (2, .int (x2))], [.int 0], S0) _
    refine T_b1t xr_119_8 rfl (t := 22) rfl ?_
    refine T_p xr_119_22 xn_119 (pc' := 23) (ls' := [(0, .ref 1), (1, .int (x1)), (2, .int (x2))]) (st' := [.int (-1)]) rfl ?_
    refine T_iret xr_119_23 xf_119.2.2 rfl ?_
    show X_T (6, xs) 203 (308, [(3, .int 0), (2, .ref 530), (1, .ref 1), (0, .ref 0)], [.int (-1)], S0) _
    refine T_p xr_203_308 xn_203 (pc' := 309) (ls' := [(3, .int 0), (2, .ref 530), (1, .ref 1), (0, .ref 0)]) (st' := [.ref 530, .int (-1)]) rfl ?_
    refine T_p xr_203_309 xn_203 (pc' := 310) (ls' := [(3, .int 0), (2, .ref 530), (1, .ref 1), (0, .ref 0)]) (st' := [.ref 0, .ref 530, .int (-1)]) rfl ?_
    refine T_p xr_203_310 xn_203 (pc' := 311) (ls' := [(3, .int 0), (2, .ref 530), (1, .ref 1), (0, .ref 0)]) (st' := [.int 0, .ref 0, .ref 530, .int (-1)]) rfl ?_
    refine T_p xr_203_311 xn_203 (pc' := 312) (ls' := [(3, .int 0), (2, .ref 530), (1, .ref 1), (0, .ref 0)]) (st' := [.int 1, .int 0, .ref 0, .ref 530, .int (-1)]) rfl ?_
    refine T_p xr_203_312 xn_203 (pc' := 313) (ls' := [(3, .int 0), (2, .ref 530), (1, .ref 1), (0, .ref 0)]) (st' := [.int 1, .ref 0, .ref 530, .int (-1)]) rfl ?_
    refine T_sald xr_203_313 (show ¬ ((1 : Int32) < 0 ∨ 6 ≤ (1 : Int32).toNatClampNeg) by decide) (x := x1) g1 (pc' := 314) rfl ?_
    refine T_p xr_203_314 xn_203 (pc' := 315) (ls' := [(3, .int 0), (2, .ref 530), (1, .ref 1), (0, .ref 0)]) (st' := [.ref 0, .int (x1), .ref 530, .int (-1)]) rfl ?_
    refine T_p xr_203_315 xn_203 (pc' := 316) (ls' := [(3, .int 0), (2, .ref 530), (1, .ref 1), (0, .ref 0)]) (st' := [.int 0, .ref 0, .int (x1), .ref 530, .int (-1)]) rfl ?_
    refine T_p xr_203_316 xn_203 (pc' := 317) (ls' := [(3, .int 0), (2, .ref 530), (1, .ref 1), (0, .ref 0)]) (st' := [.int 2, .int 0, .ref 0, .int (x1), .ref 530, .int (-1)]) rfl ?_
    refine T_p xr_203_317 xn_203 (pc' := 318) (ls' := [(3, .int 0), (2, .ref 530), (1, .ref 1), (0, .ref 0)]) (st' := [.int 2, .ref 0, .int (x1), .ref 530, .int (-1)]) rfl ?_
    refine T_sald xr_203_318 (show ¬ ((2 : Int32) < 0 ∨ 6 ≤ (2 : Int32).toNatClampNeg) by decide) (x := x2) g2 (pc' := 319) rfl ?_
    refine T_cv (S := S0) (q := 530) xr_203_319 xf_167.1 xf_167.2.1 xn_167 (as := [.int (x1), .int (x2)]) (r := [.int (-1)]) rfl w530 (by simp [Value.category]) (by simp [Value.category]) (pc' := 322) rfl (ls' := [(0, .ref 530), (1, .int (x1)), (2, .int (x2))]) rfl ?_
    refine T_p xr_167_0 xn_167 (pc' := 1) (ls' := [(0, .ref 530), (1, .int (x1)), (2, .int (x2))]) (st' := [.int (x1)]) rfl ?_
    refine T_b1t xr_167_1 c1 (t := 24) rfl ?_
    refine T_p xr_167_24 xn_167 (pc' := 25) (ls' := [(0, .ref 530), (1, .int (x1)), (2, .int (x2))]) (st' := [.int (-1)]) rfl ?_
    refine T_p xr_167_25 xn_167 (pc' := 42) (ls' := [(0, .ref 530), (1, .int (x1)), (2, .int (x2))]) (st' := [.int (-1)]) rfl ?_
    refine T_iret xr_167_42 xf_167.2.2 rfl ?_
    show X_T (6, xs) 203 (322, [(3, .int 0), (2, .ref 530), (1, .ref 1), (0, .ref 0)], [.int (-1), .int (-1)], S0) _
    refine T_b2t xr_203_322 rfl (t := 588) rfl ?_
    refine T_p xr_203_588 xn_203 (pc' := 591) (ls' := [(3, .int 6), (2, .ref 530), (1, .ref 1), (0, .ref 0)]) (st' := []) rfl ?_
    refine T_p xr_203_591 xn_203 (pc' := 18) (ls' := [(3, .int 6), (2, .ref 530), (1, .ref 1), (0, .ref 0)]) (st' := []) rfl ?_
    refine T_p xr_203_18 xn_203 (pc' := 19) (ls' := [(3, .int 6), (2, .ref 530), (1, .ref 1), (0, .ref 0)]) (st' := [.int 6]) rfl ?_
    refine T_p xr_203_19 xn_203 (pc' := 20) (ls' := [(3, .int 6), (2, .ref 530), (1, .ref 1), (0, .ref 0)]) (st' := [.ref 0, .int 6]) rfl ?_
    refine T_slen xr_203_20 (x := 6) rfl (pc' := 21) rfl ?_
    refine T_p xr_203_21 xn_203 (pc' := 23) (ls' := [(3, .int 6), (2, .ref 530), (1, .ref 1), (0, .ref 0)]) (st' := [.int 6, .int 6, .int 6]) rfl ?_
    refine T_p xr_203_23 xn_203 (pc' := 24) (ls' := [(3, .int 6), (2, .ref 530), (1, .ref 1), (0, .ref 0)]) (st' := [.int 0, .int 6]) rfl ?_
    refine T_b2t xr_203_24 rfl (t := 594) rfl ?_
    refine T_p xr_203_594 xn_203 (pc' := 595) (ls' := [(3, .int 6), (2, .ref 530), (1, .ref 1), (0, .ref 0)]) (st' := [.int 1]) rfl ?_
    exact T_iret xr_203_595 xf_203.2.2 rfl ⟨rfl, hS2⟩
  · skip
    refine T_p xr_2_4 xn_2 (pc' := 5) (ls' := [(0, .ref 4), (1, .int (x1))]) (st' := [.int (x1)]) rfl ?_
    refine T_p xr_2_5 xn_2 (pc' := 6) (ls' := [(0, .ref 4), (1, .int (x1))]) (st' := [.ref 4, .int (x1)]) rfl ?_
    refine T_get xr_2_6 w4 rfl (v := .int 0) rfl (pc' := 9) rfl ?_
    refine T_b2t xr_2_9 (by rw [X_cd_ge, c1]; rfl) (t := 16) rfl ?_
    refine T_p xr_2_16 xn_2 (pc' := 17) (ls' := [(0, .ref 4), (1, .int (x1))]) (st' := [.int 0]) rfl ?_
    refine T_iret xr_2_17 xf_2.2.2 rfl ?_
    show X_T (6, xs) 119 (8, [(0, .ref 1), (1, .int (x1)), (2, .int (x2))], [.int 0], S0) _
    refine T_b1t xr_119_8 rfl (t := 22) rfl ?_
    refine T_p xr_119_22 xn_119 (pc' := 23) (ls' := [(0, .ref 1), (1, .int (x1)), (2, .int (x2))]) (st' := [.int (-1)]) rfl ?_
    refine T_iret xr_119_23 xf_119.2.2 rfl ?_
    show X_T (6, xs) 203 (308, [(3, .int 0), (2, .ref 530), (1, .ref 1), (0, .ref 0)], [.int (-1)], S0) _
    refine T_p xr_203_308 xn_203 (pc' := 309) (ls' := [(3, .int 0), (2, .ref 530), (1, .ref 1), (0, .ref 0)]) (st' := [.ref 530, .int (-1)]) rfl ?_
    refine T_p xr_203_309 xn_203 (pc' := 310) (ls' := [(3, .int 0), (2, .ref 530), (1, .ref 1), (0, .ref 0)]) (st' := [.ref 0, .ref 530, .int (-1)]) rfl ?_
    refine T_p xr_203_310 xn_203 (pc' := 311) (ls' := [(3, .int 0), (2, .ref 530), (1, .ref 1), (0, .ref 0)]) (st' := [.int 0, .ref 0, .ref 530, .int (-1)]) rfl ?_
    refine T_p xr_203_311 xn_203 (pc' := 312) (ls' := [(3, .int 0), (2, .ref 530), (1, .ref 1), (0, .ref 0)]) (st' := [.int 1, .int 0, .ref 0, .ref 530, .int (-1)]) rfl ?_
    refine T_p xr_203_312 xn_203 (pc' := 313) (ls' := [(3, .int 0), (2, .ref 530), (1, .ref 1), (0, .ref 0)]) (st' := [.int 1, .ref 0, .ref 530, .int (-1)]) rfl ?_
    refine T_sald xr_203_313 (show ¬ ((1 : Int32) < 0 ∨ 6 ≤ (1 : Int32).toNatClampNeg) by decide) (x := x1) g1 (pc' := 314) rfl ?_
    refine T_p xr_203_314 xn_203 (pc' := 315) (ls' := [(3, .int 0), (2, .ref 530), (1, .ref 1), (0, .ref 0)]) (st' := [.ref 0, .int (x1), .ref 530, .int (-1)]) rfl ?_
    refine T_p xr_203_315 xn_203 (pc' := 316) (ls' := [(3, .int 0), (2, .ref 530), (1, .ref 1), (0, .ref 0)]) (st' := [.int 0, .ref 0, .int (x1), .ref 530, .int (-1)]) rfl ?_
    refine T_p xr_203_316 xn_203 (pc' := 317) (ls' := [(3, .int 0), (2, .ref 530), (1, .ref 1), (0, .ref 0)]) (st' := [.int 2, .int 0, .ref 0, .int (x1), .ref 530, .int (-1)]) rfl ?_
    refine T_p xr_203_317 xn_203 (pc' := 318) (ls' := [(3, .int 0), (2, .ref 530), (1, .ref 1), (0, .ref 0)]) (st' := [.int 2, .ref 0, .int (x1), .ref 530, .int (-1)]) rfl ?_
    refine T_sald xr_203_318 (show ¬ ((2 : Int32) < 0 ∨ 6 ≤ (2 : Int32).toNatClampNeg) by decide) (x := x2) g2 (pc' := 319) rfl ?_
    refine T_cv (S := S0) (q := 530) xr_203_319 xf_167.1 xf_167.2.1 xn_167 (as := [.int (x1), .int (x2)]) (r := [.int (-1)]) rfl w530 (by simp [Value.category]) (by simp [Value.category]) (pc' := 322) rfl (ls' := [(0, .ref 530), (1, .int (x1)), (2, .int (x2))]) rfl ?_
    refine T_p xr_167_0 xn_167 (pc' := 1) (ls' := [(0, .ref 530), (1, .int (x1)), (2, .int (x2))]) (st' := [.int (x1)]) rfl ?_
    refine T_b1f xr_167_1 c1 (t := 24) (pc' := 4) rfl rfl ?_
    refine T_p xr_167_4 xn_167 (pc' := 5) (ls' := [(0, .ref 530), (1, .int (x1)), (2, .int (x2))]) (st' := [.int (x1)]) rfl ?_
    refine T_p xr_167_5 xn_167 (pc' := 6) (ls' := [(0, .ref 530), (1, .int (x1)), (2, .int (x2))]) (st' := [.ref 530, .int (x1)]) rfl ?_
    refine T_get xr_167_6 w530 rfl (v := .int 0) rfl (pc' := 9) rfl ?_
    refine T_b2t xr_167_9 (by rw [X_cd_ge, c1]; rfl) (t := 24) rfl ?_
    refine T_p xr_167_24 xn_167 (pc' := 25) (ls' := [(0, .ref 530), (1, .int (x1)), (2, .int (x2))]) (st' := [.int (-1)]) rfl ?_
    refine T_p xr_167_25 xn_167 (pc' := 42) (ls' := [(0, .ref 530), (1, .int (x1)), (2, .int (x2))]) (st' := [.int (-1)]) rfl ?_
    refine T_iret xr_167_42 xf_167.2.2 rfl ?_
    show X_T (6, xs) 203 (322, [(3, .int 0), (2, .ref 530), (1, .ref 1), (0, .ref 0)], [.int (-1), .int (-1)], S0) _
    refine T_b2t xr_203_322 rfl (t := 588) rfl ?_
    refine T_p xr_203_588 xn_203 (pc' := 591) (ls' := [(3, .int 6), (2, .ref 530), (1, .ref 1), (0, .ref 0)]) (st' := []) rfl ?_
    refine T_p xr_203_591 xn_203 (pc' := 18) (ls' := [(3, .int 6), (2, .ref 530), (1, .ref 1), (0, .ref 0)]) (st' := []) rfl ?_
    refine T_p xr_203_18 xn_203 (pc' := 19) (ls' := [(3, .int 6), (2, .ref 530), (1, .ref 1), (0, .ref 0)]) (st' := [.int 6]) rfl ?_
    refine T_p xr_203_19 xn_203 (pc' := 20) (ls' := [(3, .int 6), (2, .ref 530), (1, .ref 1), (0, .ref 0)]) (st' := [.ref 0, .int 6]) rfl ?_
    refine T_slen xr_203_20 (x := 6) rfl (pc' := 21) rfl ?_
    refine T_p xr_203_21 xn_203 (pc' := 23) (ls' := [(3, .int 6), (2, .ref 530), (1, .ref 1), (0, .ref 0)]) (st' := [.int 6, .int 6, .int 6]) rfl ?_
    refine T_p xr_203_23 xn_203 (pc' := 24) (ls' := [(3, .int 6), (2, .ref 530), (1, .ref 1), (0, .ref 0)]) (st' := [.int 0, .int 6]) rfl ?_
    refine T_b2t xr_203_24 rfl (t := 594) rfl ?_
    refine T_p xr_203_594 xn_203 (pc' := 595) (ls' := [(3, .int 6), (2, .ref 530), (1, .ref 1), (0, .ref 0)]) (st' := [.int 1]) rfl ?_
    exact T_iret xr_203_595 xf_203.2.2 rfl ⟨rfl, hS2⟩
theorem X_op6 (xs : Nat → Int32) : X_T (6, xs) 203 (294, [(3, .int 0), (2, .ref 530), (1, .ref 1), (0, .ref 0)], [], X_Sb) (fun v S => v = some (.int 1) ∧ S.2 = (580, 263990)) := by
  exact X_opx6 xs _ _ rfl rfl X_Sb X_Sb2 X_fo1 X_fo4 X_fo530
theorem X_opx7 (xs : Nat → Int32) (x1 x2 : Int32) (g1 : xs 1 = x1) (g2 : xs 2 = x2) (S0 : X_S) (hS2 : S0.2 = (580, 263990)) (w1 : S0.1 1 = .inr (10, [.ref 2, .ref 4, .ref 250, .ref 496, .ref 501, .ref 504, .ref 511, .ref 517, .ref 527])) (w4 : S0.1 4 = .inr (0, [.int 0, .int 1, .int 0, .ref 5, .ref 6, .ref 7, .ref 8, .ref 9])) (w530 : S0.1 530 = .inr (11, [.ref 531, .int 0, .ref 532, .int 0, .int 0, .int 0, .int (-1), .int 0, .int 0, .int 0, .int 0, .int 0, .long 0, .ref 533, .ref 534, .ref 535, .ref 536, .ref 537, .ref 538, .ref 539, .ref 540, .ref 541, .ref 542, .ref 543, .ref 544, .ref 545, .ref 546, .ref 547, .int 0, .int 1, .int 0, .int 0, .int 1, .int 0, .ref 548, .ref 549, .ref 550, .ref 551, .int 0, .ref 552, .ref 553, .ref 554, .ref 555, .ref 556, .ref 557, .ref 558, .ref 559, .ref 560, .ref 561, .int 0, .ref 562, .ref 563, .ref 564, .ref 565, .ref 566, .ref 567, .ref 568, .ref 569, .int 0, .ref 570, .ref 571, .ref 572, .ref 573, .ref 574, .ref 575, .ref 576, .ref 577, .ref 578, .int 0, .int 0, .int 0, .ref 579])) (z8 : Nat → Int32) (hz8 : S0.1 8 = .inl (.int, 11, .inl z8)) (hz80 : z8 0 = 1) : X_T (6, xs) 203 (327, [(3, .int 0), (2, .ref 530), (1, .ref 1), (0, .ref 0)], [], S0) (fun v S => v = some (.int 1) ∧ S.2 = (580, 263990)) := by
  by_cases e1 : x1 = 0
  · subst e1
    by_cases e2 : x2 = 0
    · subst e2
      refine T_p xr_203_327 xn_203 (pc' := 328) (ls' := [(3, .int 0), (2, .ref 530), (1, .ref 1), (0, .ref 0)]) (st' := [.ref 1]) rfl ?_
      refine T_p xr_203_328 xn_203 (pc' := 329) (ls' := [(3, .int 0), (2, .ref 530), (1, .ref 1), (0, .ref 0)]) (st' := [.ref 0, .ref 1]) rfl ?_
      refine T_p xr_203_329 xn_203 (pc' := 330) (ls' := [(3, .int 0), (2, .ref 530), (1, .ref 1), (0, .ref 0)]) (st' := [.int 0, .ref 0, .ref 1]) rfl ?_
      refine T_p xr_203_330 xn_203 (pc' := 331) (ls' := [(3, .int 0), (2, .ref 530), (1, .ref 1), (0, .ref 0)]) (st' := [.int 1, .int 0, .ref 0, .ref 1]) rfl ?_
      refine T_p xr_203_331 xn_203 (pc' := 332) (ls' := [(3, .int 0), (2, .ref 530), (1, .ref 1), (0, .ref 0)]) (st' := [.int 1, .ref 0, .ref 1]) rfl ?_
      refine T_sald xr_203_332 (show ¬ ((1 : Int32) < 0 ∨ 6 ≤ (1 : Int32).toNatClampNeg) by decide) (x := 0) g1 (pc' := 333) rfl ?_
      refine T_p xr_203_333 xn_203 (pc' := 334) (ls' := [(3, .int 0), (2, .ref 530), (1, .ref 1), (0, .ref 0)]) (st' := [.ref 0, .int 0, .ref 1]) rfl ?_
      refine T_p xr_203_334 xn_203 (pc' := 335) (ls' := [(3, .int 0), (2, .ref 530), (1, .ref 1), (0, .ref 0)]) (st' := [.int 0, .ref 0, .int 0, .ref 1]) rfl ?_
      refine T_p xr_203_335 xn_203 (pc' := 336) (ls' := [(3, .int 0), (2, .ref 530), (1, .ref 1), (0, .ref 0)]) (st' := [.int 2, .int 0, .ref 0, .int 0, .ref 1]) rfl ?_
      refine T_p xr_203_336 xn_203 (pc' := 337) (ls' := [(3, .int 0), (2, .ref 530), (1, .ref 1), (0, .ref 0)]) (st' := [.int 2, .ref 0, .int 0, .ref 1]) rfl ?_
      refine T_sald xr_203_337 (show ¬ ((2 : Int32) < 0 ∨ 6 ≤ (2 : Int32).toNatClampNeg) by decide) (x := 0) g2 (pc' := 338) rfl ?_
      refine T_cv (S := S0) (q := 1) xr_203_338 xf_120.1 xf_120.2.1 xn_120 (as := [.int 0, .int 0]) (r := []) rfl w1 (by simp [Value.category]) (by simp [Value.category]) (pc' := 341) rfl (ls' := [(0, .ref 1), (1, .int 0), (2, .int 0)]) rfl ?_
      refine T_p xr_120_0 xn_120 (pc' := 1) (ls' := [(0, .ref 1), (1, .int 0), (2, .int 0)]) (st' := [.ref 1]) rfl ?_
      refine T_get xr_120_1 w1 rfl (v := .ref 4) rfl (pc' := 4) rfl ?_
      refine T_p xr_120_4 xn_120 (pc' := 5) (ls' := [(0, .ref 1), (1, .int 0), (2, .int 0)]) (st' := [.int 0, .ref 4]) rfl ?_
      refine T_cv (S := S0) (q := 4) xr_120_5 xf_3.1 xf_3.2.1 xn_3 (as := [.int 0]) (r := []) rfl w4 (by simp [Value.category]) (by simp [Value.category]) (pc' := 8) rfl (ls' := [(0, .ref 4), (1, .int 0)]) rfl ?_
      refine T_p xr_3_0 xn_3 (pc' := 1) (ls' := [(0, .ref 4), (1, .int 0)]) (st' := [.int 0]) rfl ?_
      refine T_b1f xr_3_1 rfl (t := 16) (pc' := 4) rfl rfl ?_
      refine T_p xr_3_4 xn_3 (pc' := 5) (ls' := [(0, .ref 4), (1, .int 0)]) (st' := [.int 0]) rfl ?_
      refine T_p xr_3_5 xn_3 (pc' := 6) (ls' := [(0, .ref 4), (1, .int 0)]) (st' := [.ref 4, .int 0]) rfl ?_
      refine T_get xr_3_6 w4 rfl (v := .int 1) rfl (pc' := 9) rfl ?_
      refine T_b2f xr_3_9 rfl (t := 16) (pc' := 12) rfl rfl ?_
      refine T_p xr_3_12 xn_3 (pc' := 13) (ls' := [(0, .ref 4), (1, .int 0)]) (st' := [.int 1]) rfl ?_
      refine T_p xr_3_13 xn_3 (pc' := 17) (ls' := [(0, .ref 4), (1, .int 0)]) (st' := [.int 1]) rfl ?_
      refine T_iret xr_3_17 xf_3.2.2 rfl ?_
      show X_T (6, xs) 120 (8, [(0, .ref 1), (1, .int 0), (2, .int 0)], [.int 1], S0) _
      refine T_b1f xr_120_8 rfl (t := 22) (pc' := 11) rfl rfl ?_
      refine T_p xr_120_11 xn_120 (pc' := 12) (ls' := [(0, .ref 1), (1, .int 0), (2, .int 0)]) (st' := [.ref 1]) rfl ?_
      refine T_get xr_120_12 w1 rfl (v := .ref 4) rfl (pc' := 15) rfl ?_
      refine T_p xr_120_15 xn_120 (pc' := 16) (ls' := [(0, .ref 1), (1, .int 0), (2, .int 0)]) (st' := [.int 0, .ref 4]) rfl ?_
      refine T_cv (S := S0) (q := 4) xr_120_16 xf_3.1 xf_3.2.1 xn_3 (as := [.int 0]) (r := []) rfl w4 (by simp [Value.category]) (by simp [Value.category]) (pc' := 19) rfl (ls' := [(0, .ref 4), (1, .int 0)]) rfl ?_
      refine T_p xr_3_0 xn_3 (pc' := 1) (ls' := [(0, .ref 4), (1, .int 0)]) (st' := [.int 0]) rfl ?_
      refine T_b1f xr_3_1 rfl (t := 16) (pc' := 4) rfl rfl ?_
      refine T_p xr_3_4 xn_3 (pc' := 5) (ls' := [(0, .ref 4), (1, .int 0)]) (st' := [.int 0]) rfl ?_
      refine T_p xr_3_5 xn_3 (pc' := 6) (ls' := [(0, .ref 4), (1, .int 0)]) (st' := [.ref 4, .int 0]) rfl ?_
      refine T_get xr_3_6 w4 rfl (v := .int 1) rfl (pc' := 9) rfl ?_
      refine T_b2f xr_3_9 rfl (t := 16) (pc' := 12) rfl rfl ?_
      refine T_p xr_3_12 xn_3 (pc' := 13) (ls' := [(0, .ref 4), (1, .int 0)]) (st' := [.int 1]) rfl ?_
      refine T_p xr_3_13 xn_3 (pc' := 17) (ls' := [(0, .ref 4), (1, .int 0)]) (st' := [.int 1]) rfl ?_
      refine T_iret xr_3_17 xf_3.2.2 rfl ?_
      show X_T (6, xs) 120 (19, [(0, .ref 1), (1, .int 0), (2, .int 0)], [.int 1], S0) _
      refine T_b1t xr_120_19 rfl (t := 24) rfl ?_
      refine T_p xr_120_24 xn_120 (pc' := 25) (ls' := [(0, .ref 1), (1, .int 0), (2, .int 0)]) (st' := [.ref 1]) rfl ?_
      refine T_get xr_120_25 w1 rfl (v := .ref 4) rfl (pc' := 28) rfl ?_
      refine T_p xr_120_28 xn_120 (pc' := 29) (ls' := [(0, .ref 1), (1, .int 0), (2, .int 0)]) (st' := [.int 0, .ref 4]) rfl ?_
      refine T_p xr_120_29 xn_120 (pc' := 30) (ls' := [(0, .ref 1), (1, .int 0), (2, .int 0)]) (st' := [.int 0, .int 0, .ref 4]) rfl ?_
      refine T_cv (S := S0) (q := 4) xr_120_30 xf_12.1 xf_12.2.1 xn_12 (as := [.int 0, .int 0]) (r := []) rfl w4 (by simp [Value.category]) (by simp [Value.category]) (pc' := 33) rfl (ls' := [(0, .ref 4), (1, .int 0), (2, .int 0)]) rfl ?_
      refine T_p xr_12_0 xn_12 (pc' := 1) (ls' := [(0, .ref 4), (1, .int 0), (2, .int 0)]) (st' := [.ref 4]) rfl ?_
      refine T_get xr_12_1 w4 rfl (v := .ref 8) rfl (pc' := 4) rfl ?_
      refine T_p xr_12_4 xn_12 (pc' := 5) (ls' := [(0, .ref 4), (1, .int 0), (2, .int 0)]) (st' := [.int 0, .ref 8]) rfl ?_
      refine T_iald xr_12_5 hz8 (by decide) (x := 1) hz80 (pc' := 6) rfl ?_
      refine T_p xr_12_6 xn_12 (pc' := 7) (ls' := [(0, .ref 4), (1, .int 0), (2, .int 0)]) (st' := [.int 0, .int 1]) rfl ?_
      refine T_cs xr_12_7 (by decide) xf_131.1 xn_131 (as := [.int 1, .int 0]) (r := []) rfl (by simp [Value.category]) (by simp [Value.category]) (pc' := 10) rfl (ls' := [(0, .int 1), (1, .int 0)]) rfl ?_
      refine T_p xr_131_0 xn_131 (pc' := 1) (ls' := [(0, .int 1), (1, .int 0)]) (st' := [.int 1]) rfl ?_
      refine T_p xr_131_1 xn_131 (pc' := 2) (ls' := [(0, .int 1), (1, .int 0)]) (st' := [.int 0, .int 1]) rfl ?_
      refine T_p xr_131_2 xn_131 (pc' := 3) (ls' := [(0, .int 1), (1, .int 0)]) (st' := [.int 1]) rfl ?_
      refine T_p xr_131_3 xn_131 (pc' := 4) (ls' := [(0, .int 1), (1, .int 0)]) (st' := [.int 1, .int 1]) rfl ?_
      refine T_p xr_131_4 xn_131 (pc' := 5) (ls' := [(0, .int 1), (1, .int 0)]) (st' := [.int 1]) rfl ?_
      refine T_p xr_131_5 xn_131 (pc' := 6) (ls' := [(0, .int 1), (1, .int 0)]) (st' := [.int 1, .int 1]) rfl ?_
      refine T_b2f xr_131_6 rfl (t := 13) (pc' := 9) rfl rfl ?_
      refine T_p xr_131_9 xn_131 (pc' := 10) (ls' := [(0, .int 1), (1, .int 0)]) (st' := [.int 1]) rfl ?_
      refine T_p xr_131_10 xn_131 (pc' := 14) (ls' := [(0, .int 1), (1, .int 0)]) (st' := [.int 1]) rfl ?_
      refine T_iret xr_131_14 xf_131.2.2 rfl ?_
      show X_T (6, xs) 12 (10, [(0, .ref 4), (1, .int 0), (2, .int 0)], [.int 1], S0) _
      refine T_iret xr_12_10 xf_12.2.2 rfl ?_
      show X_T (6, xs) 120 (33, [(0, .ref 1), (1, .int 0), (2, .int 0)], [.int 1], S0) _
      refine T_b1f xr_120_33 rfl (t := 40) (pc' := 36) rfl rfl ?_
      refine T_p xr_120_36 xn_120 (pc' := 37) (ls' := [(0, .ref 1), (1, .int 0), (2, .int 0)]) (st' := [.int 1]) rfl ?_
      refine T_p xr_120_37 xn_120 (pc' := 41) (ls' := [(0, .ref 1), (1, .int 0), (2, .int 0)]) (st' := [.int 1]) rfl ?_
      refine T_iret xr_120_41 xf_120.2.2 rfl ?_
      show X_T (6, xs) 203 (341, [(3, .int 0), (2, .ref 530), (1, .ref 1), (0, .ref 0)], [.int 1], S0) _
      refine T_p xr_203_341 xn_203 (pc' := 342) (ls' := [(3, .int 0), (2, .ref 530), (1, .ref 1), (0, .ref 0)]) (st' := [.ref 530, .int 1]) rfl ?_
      refine T_p xr_203_342 xn_203 (pc' := 343) (ls' := [(3, .int 0), (2, .ref 530), (1, .ref 1), (0, .ref 0)]) (st' := [.ref 0, .ref 530, .int 1]) rfl ?_
      refine T_p xr_203_343 xn_203 (pc' := 344) (ls' := [(3, .int 0), (2, .ref 530), (1, .ref 1), (0, .ref 0)]) (st' := [.int 0, .ref 0, .ref 530, .int 1]) rfl ?_
      refine T_p xr_203_344 xn_203 (pc' := 345) (ls' := [(3, .int 0), (2, .ref 530), (1, .ref 1), (0, .ref 0)]) (st' := [.int 1, .int 0, .ref 0, .ref 530, .int 1]) rfl ?_
      refine T_p xr_203_345 xn_203 (pc' := 346) (ls' := [(3, .int 0), (2, .ref 530), (1, .ref 1), (0, .ref 0)]) (st' := [.int 1, .ref 0, .ref 530, .int 1]) rfl ?_
      refine T_sald xr_203_346 (show ¬ ((1 : Int32) < 0 ∨ 6 ≤ (1 : Int32).toNatClampNeg) by decide) (x := 0) g1 (pc' := 347) rfl ?_
      refine T_p xr_203_347 xn_203 (pc' := 348) (ls' := [(3, .int 0), (2, .ref 530), (1, .ref 1), (0, .ref 0)]) (st' := [.ref 0, .int 0, .ref 530, .int 1]) rfl ?_
      refine T_p xr_203_348 xn_203 (pc' := 349) (ls' := [(3, .int 0), (2, .ref 530), (1, .ref 1), (0, .ref 0)]) (st' := [.int 0, .ref 0, .int 0, .ref 530, .int 1]) rfl ?_
      refine T_p xr_203_349 xn_203 (pc' := 350) (ls' := [(3, .int 0), (2, .ref 530), (1, .ref 1), (0, .ref 0)]) (st' := [.int 2, .int 0, .ref 0, .int 0, .ref 530, .int 1]) rfl ?_
      refine T_p xr_203_350 xn_203 (pc' := 351) (ls' := [(3, .int 0), (2, .ref 530), (1, .ref 1), (0, .ref 0)]) (st' := [.int 2, .ref 0, .int 0, .ref 530, .int 1]) rfl ?_
      refine T_sald xr_203_351 (show ¬ ((2 : Int32) < 0 ∨ 6 ≤ (2 : Int32).toNatClampNeg) by decide) (x := 0) g2 (pc' := 352) rfl ?_
      refine T_cv (S := S0) (q := 530) xr_203_352 xf_169.1 xf_169.2.1 xn_169 (as := [.int 0, .int 0]) (r := [.int 1]) rfl w530 (by simp [Value.category]) (by simp [Value.category]) (pc' := 355) rfl (ls' := [(0, .ref 530), (1, .int 0), (2, .int 0)]) rfl ?_
      refine T_p xr_169_0 xn_169 (pc' := 1) (ls' := [(0, .ref 530), (1, .int 0), (2, .int 0)]) (st' := [.int 0]) rfl ?_
      refine T_b1f xr_169_1 rfl (t := 24) (pc' := 4) rfl rfl ?_
      refine T_p xr_169_4 xn_169 (pc' := 5) (ls' := [(0, .ref 530), (1, .int 0), (2, .int 0)]) (st' := [.int 0]) rfl ?_
      refine T_p xr_169_5 xn_169 (pc' := 6) (ls' := [(0, .ref 530), (1, .int 0), (2, .int 0)]) (st' := [.ref 530, .int 0]) rfl ?_
      refine T_get xr_169_6 w530 rfl (v := .int 1) rfl (pc' := 9) rfl ?_
      refine T_b2f xr_169_9 rfl (t := 24) (pc' := 12) rfl rfl ?_
      refine T_p xr_169_12 xn_169 (pc' := 13) (ls' := [(0, .ref 530), (1, .int 0), (2, .int 0)]) (st' := [.int 0]) rfl ?_
      refine T_b1f xr_169_13 rfl (t := 24) (pc' := 16) rfl rfl ?_
      refine T_p xr_169_16 xn_169 (pc' := 17) (ls' := [(0, .ref 530), (1, .int 0), (2, .int 0)]) (st' := [.int 0]) rfl ?_
      refine T_p xr_169_17 xn_169 (pc' := 18) (ls' := [(0, .ref 530), (1, .int 0), (2, .int 0)]) (st' := [.ref 530, .int 0]) rfl ?_
      refine T_get xr_169_18 w530 rfl (v := .int 1) rfl (pc' := 21) rfl ?_
      refine T_b2t xr_169_21 rfl (t := 28) rfl ?_
      refine T_p xr_169_28 xn_169 (pc' := 29) (ls' := [(0, .ref 530), (1, .int 0), (2, .int 0)]) (st' := [.ref 530]) rfl ?_
      refine T_p xr_169_29 xn_169 (pc' := 30) (ls' := [(0, .ref 530), (1, .int 0), (2, .int 0)]) (st' := [.int 0, .ref 530]) rfl ?_
      refine T_p xr_169_30 xn_169 (pc' := 31) (ls' := [(0, .ref 530), (1, .int 0), (2, .int 0)]) (st' := [.int 0, .int 0, .ref 530]) rfl ?_
      refine T_cv (S := S0) (q := 530) xr_169_31 xf_168.1 xf_168.2.1 xn_168 (as := [.int 0, .int 0]) (r := []) rfl w530 (by simp [Value.category]) (by simp [Value.category]) (pc' := 34) rfl (ls' := [(0, .ref 530), (1, .int 0), (2, .int 0)]) rfl ?_
      refine T_p xr_168_0 xn_168 (pc' := 1) (ls' := [(0, .ref 530), (1, .int 0), (2, .int 0)]) (st' := [.int 0]) rfl ?_
      refine T_p xr_168_1 xn_168 (pc' := 2) (ls' := [(3, .int 0), (0, .ref 530), (1, .int 0), (2, .int 0)]) (st' := []) rfl ?_
      refine T_p xr_168_2 xn_168 (pc' := 3) (ls' := [(3, .int 0), (0, .ref 530), (1, .int 0), (2, .int 0)]) (st' := [.int 0]) rfl ?_
      refine T_b1f xr_168_3 rfl (t := 29) (pc' := 6) rfl rfl ?_
      refine T_p xr_168_6 xn_168 (pc' := 7) (ls' := [(3, .int 0), (0, .ref 530), (1, .int 0), (2, .int 0)]) (st' := [.int 0]) rfl ?_
      refine T_p xr_168_7 xn_168 (pc' := 8) (ls' := [(3, .int 0), (0, .ref 530), (1, .int 0), (2, .int 0)]) (st' := [.int 0, .int 0]) rfl ?_
      refine T_b2t xr_168_8 rfl (t := 29) rfl ?_
      refine T_p xr_168_29 xn_168 (pc' := 30) (ls' := [(3, .int 0), (0, .ref 530), (1, .int 0), (2, .int 0)]) (st' := [.int 0]) rfl ?_
      refine T_p xr_168_30 xn_168 (pc' := 31) (ls' := [(3, .int 0), (0, .ref 530), (1, .int 0), (2, .int 0)]) (st' := [.int 0, .int 0]) rfl ?_
      refine T_b2f xr_168_31 rfl (t := 38) (pc' := 34) rfl rfl ?_
      refine T_p xr_168_34 xn_168 (pc' := 35) (ls' := [(3, .int 0), (0, .ref 530), (1, .int 0), (2, .int 0)]) (st' := [.int 1]) rfl ?_
      refine T_p xr_168_35 xn_168 (pc' := 39) (ls' := [(3, .int 0), (0, .ref 530), (1, .int 0), (2, .int 0)]) (st' := [.int 1]) rfl ?_
      refine T_iret xr_168_39 xf_168.2.2 rfl ?_
      show X_T (6, xs) 169 (34, [(0, .ref 530), (1, .int 0), (2, .int 0)], [.int 1], S0) _
      refine T_b1f xr_169_34 rfl (t := 41) (pc' := 37) rfl rfl ?_
      refine T_p xr_169_37 xn_169 (pc' := 38) (ls' := [(0, .ref 530), (1, .int 0), (2, .int 0)]) (st' := [.int 1]) rfl ?_
      refine T_p xr_169_38 xn_169 (pc' := 42) (ls' := [(0, .ref 530), (1, .int 0), (2, .int 0)]) (st' := [.int 1]) rfl ?_
      refine T_iret xr_169_42 xf_169.2.2 rfl ?_
      show X_T (6, xs) 203 (355, [(3, .int 0), (2, .ref 530), (1, .ref 1), (0, .ref 0)], [.int 1, .int 1], S0) _
      refine T_b2t xr_203_355 rfl (t := 588) rfl ?_
      refine T_p xr_203_588 xn_203 (pc' := 591) (ls' := [(3, .int 6), (2, .ref 530), (1, .ref 1), (0, .ref 0)]) (st' := []) rfl ?_
      refine T_p xr_203_591 xn_203 (pc' := 18) (ls' := [(3, .int 6), (2, .ref 530), (1, .ref 1), (0, .ref 0)]) (st' := []) rfl ?_
      refine T_p xr_203_18 xn_203 (pc' := 19) (ls' := [(3, .int 6), (2, .ref 530), (1, .ref 1), (0, .ref 0)]) (st' := [.int 6]) rfl ?_
      refine T_p xr_203_19 xn_203 (pc' := 20) (ls' := [(3, .int 6), (2, .ref 530), (1, .ref 1), (0, .ref 0)]) (st' := [.ref 0, .int 6]) rfl ?_
      refine T_slen xr_203_20 (x := 6) rfl (pc' := 21) rfl ?_
      refine T_p xr_203_21 xn_203 (pc' := 23) (ls' := [(3, .int 6), (2, .ref 530), (1, .ref 1), (0, .ref 0)]) (st' := [.int 6, .int 6, .int 6]) rfl ?_
      refine T_p xr_203_23 xn_203 (pc' := 24) (ls' := [(3, .int 6), (2, .ref 530), (1, .ref 1), (0, .ref 0)]) (st' := [.int 0, .int 6]) rfl ?_
      refine T_b2t xr_203_24 rfl (t := 594) rfl ?_
      refine T_p xr_203_594 xn_203 (pc' := 595) (ls' := [(3, .int 6), (2, .ref 530), (1, .ref 1), (0, .ref 0)]) (st' := [.int 1]) rfl ?_
      exact T_iret xr_203_595 xf_203.2.2 rfl ⟨rfl, hS2⟩
    · have d2 := X_ne0 e2
      rcases d2 with d2 | ⟨d2, d3⟩
      · skip
        refine T_p xr_203_327 xn_203 (pc' := 328) (ls' := [(3, .int 0), (2, .ref 530), (1, .ref 1), (0, .ref 0)]) (st' := [.ref 1]) rfl ?_
        refine T_p xr_203_328 xn_203 (pc' := 329) (ls' := [(3, .int 0), (2, .ref 530), (1, .ref 1), (0, .ref 0)]) (st' := [.ref 0, .ref 1]) rfl ?_
        refine T_p xr_203_329 xn_203 (pc' := 330) (ls' := [(3, .int 0), (2, .ref 530), (1, .ref 1), (0, .ref 0)]) (st' := [.int 0, .ref 0, .ref 1]) rfl ?_
        refine T_p xr_203_330 xn_203 (pc' := 331) (ls' := [(3, .int 0), (2, .ref 530), (1, .ref 1), (0, .ref 0)]) (st' := [.int 1, .int 0, .ref 0, .ref 1]) rfl ?_
        refine T_p xr_203_331 xn_203 (pc' := 332) (ls' := [(3, .int 0), (2, .ref 530), (1, .ref 1), (0, .ref 0)]) (st' := [.int 1, .ref 0, .ref 1]) rfl ?_
        refine T_sald xr_203_332 (show ¬ ((1 : Int32) < 0 ∨ 6 ≤ (1 : Int32).toNatClampNeg) by decide) (x := 0) g1 (pc' := 333) rfl ?_
        refine T_p xr_203_333 xn_203 (pc' := 334) (ls' := [(3, .int 0), (2, .ref 530), (1, .ref 1), (0, .ref 0)]) (st' := [.ref 0, .int 0, .ref 1]) rfl ?_
        refine T_p xr_203_334 xn_203 (pc' := 335) (ls' := [(3, .int 0), (2, .ref 530), (1, .ref 1), (0, .ref 0)]) (st' := [.int 0, .ref 0, .int 0, .ref 1]) rfl ?_
        refine T_p xr_203_335 xn_203 (pc' := 336) (ls' := [(3, .int 0), (2, .ref 530), (1, .ref 1), (0, .ref 0)]) (st' := [.int 2, .int 0, .ref 0, .int 0, .ref 1]) rfl ?_
        refine T_p xr_203_336 xn_203 (pc' := 337) (ls' := [(3, .int 0), (2, .ref 530), (1, .ref 1), (0, .ref 0)]) (st' := [.int 2, .ref 0, .int 0, .ref 1]) rfl ?_
        refine T_sald xr_203_337 (show ¬ ((2 : Int32) < 0 ∨ 6 ≤ (2 : Int32).toNatClampNeg) by decide) (x := x2) g2 (pc' := 338) rfl ?_
        refine T_cv (S := S0) (q := 1) xr_203_338 xf_120.1 xf_120.2.1 xn_120 (as := [.int 0, .int (x2)]) (r := []) rfl w1 (by simp [Value.category]) (by simp [Value.category]) (pc' := 341) rfl (ls' := [(0, .ref 1), (1, .int 0), (2, .int (x2))]) rfl ?_
        refine T_p xr_120_0 xn_120 (pc' := 1) (ls' := [(0, .ref 1), (1, .int 0), (2, .int (x2))]) (st' := [.ref 1]) rfl ?_
        refine T_get xr_120_1 w1 rfl (v := .ref 4) rfl (pc' := 4) rfl ?_
        refine T_p xr_120_4 xn_120 (pc' := 5) (ls' := [(0, .ref 1), (1, .int 0), (2, .int (x2))]) (st' := [.int 0, .ref 4]) rfl ?_
        refine T_cv (S := S0) (q := 4) xr_120_5 xf_3.1 xf_3.2.1 xn_3 (as := [.int 0]) (r := []) rfl w4 (by simp [Value.category]) (by simp [Value.category]) (pc' := 8) rfl (ls' := [(0, .ref 4), (1, .int 0)]) rfl ?_
        refine T_p xr_3_0 xn_3 (pc' := 1) (ls' := [(0, .ref 4), (1, .int 0)]) (st' := [.int 0]) rfl ?_
        refine T_b1f xr_3_1 rfl (t := 16) (pc' := 4) rfl rfl ?_
        refine T_p xr_3_4 xn_3 (pc' := 5) (ls' := [(0, .ref 4), (1, .int 0)]) (st' := [.int 0]) rfl ?_
        refine T_p xr_3_5 xn_3 (pc' := 6) (ls' := [(0, .ref 4), (1, .int 0)]) (st' := [.ref 4, .int 0]) rfl ?_
        refine T_get xr_3_6 w4 rfl (v := .int 1) rfl (pc' := 9) rfl ?_
        refine T_b2f xr_3_9 rfl (t := 16) (pc' := 12) rfl rfl ?_
        refine T_p xr_3_12 xn_3 (pc' := 13) (ls' := [(0, .ref 4), (1, .int 0)]) (st' := [.int 1]) rfl ?_
        refine T_p xr_3_13 xn_3 (pc' := 17) (ls' := [(0, .ref 4), (1, .int 0)]) (st' := [.int 1]) rfl ?_
        refine T_iret xr_3_17 xf_3.2.2 rfl ?_
        show X_T (6, xs) 120 (8, [(0, .ref 1), (1, .int 0), (2, .int (x2))], [.int 1], S0) _
        refine T_b1f xr_120_8 rfl (t := 22) (pc' := 11) rfl rfl ?_
        refine T_p xr_120_11 xn_120 (pc' := 12) (ls' := [(0, .ref 1), (1, .int 0), (2, .int (x2))]) (st' := [.ref 1]) rfl ?_
        refine T_get xr_120_12 w1 rfl (v := .ref 4) rfl (pc' := 15) rfl ?_
        refine T_p xr_120_15 xn_120 (pc' := 16) (ls' := [(0, .ref 1), (1, .int 0), (2, .int (x2))]) (st' := [.int (x2), .ref 4]) rfl ?_
        refine T_cv (S := S0) (q := 4) xr_120_16 xf_3.1 xf_3.2.1 xn_3 (as := [.int (x2)]) (r := []) rfl w4 (by simp [Value.category]) (by simp [Value.category]) (pc' := 19) rfl (ls' := [(0, .ref 4), (1, .int (x2))]) rfl ?_
        refine T_p xr_3_0 xn_3 (pc' := 1) (ls' := [(0, .ref 4), (1, .int (x2))]) (st' := [.int (x2)]) rfl ?_
        refine T_b1t xr_3_1 d2 (t := 16) rfl ?_
        refine T_p xr_3_16 xn_3 (pc' := 17) (ls' := [(0, .ref 4), (1, .int (x2))]) (st' := [.int 0]) rfl ?_
        refine T_iret xr_3_17 xf_3.2.2 rfl ?_
        show X_T (6, xs) 120 (19, [(0, .ref 1), (1, .int 0), (2, .int (x2))], [.int 0], S0) _
        refine T_b1f xr_120_19 rfl (t := 24) (pc' := 22) rfl rfl ?_
        refine T_p xr_120_22 xn_120 (pc' := 23) (ls' := [(0, .ref 1), (1, .int 0), (2, .int (x2))]) (st' := [.int (-1)]) rfl ?_
        refine T_iret xr_120_23 xf_120.2.2 rfl ?_
        show X_T (6, xs) 203 (341, [(3, .int 0), (2, .ref 530), (1, .ref 1), (0, .ref 0)], [.int (-1)], S0) _
        refine T_p xr_203_341 xn_203 (pc' := 342) (ls' := [(3, .int 0), (2, .ref 530), (1, .ref 1), (0, .ref 0)]) (st' := [.ref 530, .int (-1)]) rfl ?_
        refine T_p xr_203_342 xn_203 (pc' := 343) (ls' := [(3, .int 0), (2, .ref 530), (1, .ref 1), (0, .ref 0)]) (st' := [.ref 0, .ref 530, .int (-1)]) rfl ?_
        refine T_p xr_203_343 xn_203 (pc' := 344) (ls' := [(3, .int 0), (2, .ref 530), (1, .ref 1), (0, .ref 0)]) (st' := [.int 0, .ref 0, .ref 530, .int (-1)]) rfl ?_
        refine T_p xr_203_344 xn_203 (pc' := 345) (ls' := [(3, .int 0), (2, .ref 530), (1, .ref 1), (0, .ref 0)]) (st' := [.int 1, .int 0, .ref 0, .ref 530, .int (-1)]) rfl ?_
        refine T_p xr_203_345 xn_203 (pc' := 346) (ls' := [(3, .int 0), (2, .ref 530), (1, .ref 1), (0, .ref 0)]) (st' := [.int 1, .ref 0, .ref 530, .int (-1)]) rfl ?_
        refine T_sald xr_203_346 (show ¬ ((1 : Int32) < 0 ∨ 6 ≤ (1 : Int32).toNatClampNeg) by decide) (x := 0) g1 (pc' := 347) rfl ?_
        refine T_p xr_203_347 xn_203 (pc' := 348) (ls' := [(3, .int 0), (2, .ref 530), (1, .ref 1), (0, .ref 0)]) (st' := [.ref 0, .int 0, .ref 530, .int (-1)]) rfl ?_
        refine T_p xr_203_348 xn_203 (pc' := 349) (ls' := [(3, .int 0), (2, .ref 530), (1, .ref 1), (0, .ref 0)]) (st' := [.int 0, .ref 0, .int 0, .ref 530, .int (-1)]) rfl ?_
        refine T_p xr_203_349 xn_203 (pc' := 350) (ls' := [(3, .int 0), (2, .ref 530), (1, .ref 1), (0, .ref 0)]) (st' := [.int 2, .int 0, .ref 0, .int 0, .ref 530, .int (-1)]) rfl ?_
        refine T_p xr_203_350 xn_203 (pc' := 351) (ls' := [(3, .int 0), (2, .ref 530), (1, .ref 1), (0, .ref 0)]) (st' := [.int 2, .ref 0, .int 0, .ref 530, .int (-1)]) rfl ?_
        refine T_sald xr_203_351 (show ¬ ((2 : Int32) < 0 ∨ 6 ≤ (2 : Int32).toNatClampNeg) by decide) (x := x2) g2 (pc' := 352) rfl ?_
        refine T_cv (S := S0) (q := 530) xr_203_352 xf_169.1 xf_169.2.1 xn_169 (as := [.int 0, .int (x2)]) (r := [.int (-1)]) rfl w530 (by simp [Value.category]) (by simp [Value.category]) (pc' := 355) rfl (ls' := [(0, .ref 530), (1, .int 0), (2, .int (x2))]) rfl ?_
        refine T_p xr_169_0 xn_169 (pc' := 1) (ls' := [(0, .ref 530), (1, .int 0), (2, .int (x2))]) (st' := [.int 0]) rfl ?_
        refine T_b1f xr_169_1 rfl (t := 24) (pc' := 4) rfl rfl ?_
        refine T_p xr_169_4 xn_169 (pc' := 5) (ls' := [(0, .ref 530), (1, .int 0), (2, .int (x2))]) (st' := [.int 0]) rfl ?_
        refine T_p xr_169_5 xn_169 (pc' := 6) (ls' := [(0, .ref 530), (1, .int 0), (2, .int (x2))]) (st' := [.ref 530, .int 0]) rfl ?_
        refine T_get xr_169_6 w530 rfl (v := .int 1) rfl (pc' := 9) rfl ?_
        refine T_b2f xr_169_9 rfl (t := 24) (pc' := 12) rfl rfl ?_
        refine T_p xr_169_12 xn_169 (pc' := 13) (ls' := [(0, .ref 530), (1, .int 0), (2, .int (x2))]) (st' := [.int (x2)]) rfl ?_
        refine T_b1t xr_169_13 d2 (t := 24) rfl ?_
        refine T_p xr_169_24 xn_169 (pc' := 25) (ls' := [(0, .ref 530), (1, .int 0), (2, .int (x2))]) (st' := [.int (-1)]) rfl ?_
        refine T_p xr_169_25 xn_169 (pc' := 42) (ls' := [(0, .ref 530), (1, .int 0), (2, .int (x2))]) (st' := [.int (-1)]) rfl ?_
        refine T_iret xr_169_42 xf_169.2.2 rfl ?_
        show X_T (6, xs) 203 (355, [(3, .int 0), (2, .ref 530), (1, .ref 1), (0, .ref 0)], [.int (-1), .int (-1)], S0) _
        refine T_b2t xr_203_355 rfl (t := 588) rfl ?_
        refine T_p xr_203_588 xn_203 (pc' := 591) (ls' := [(3, .int 6), (2, .ref 530), (1, .ref 1), (0, .ref 0)]) (st' := []) rfl ?_
        refine T_p xr_203_591 xn_203 (pc' := 18) (ls' := [(3, .int 6), (2, .ref 530), (1, .ref 1), (0, .ref 0)]) (st' := []) rfl ?_
        refine T_p xr_203_18 xn_203 (pc' := 19) (ls' := [(3, .int 6), (2, .ref 530), (1, .ref 1), (0, .ref 0)]) (st' := [.int 6]) rfl ?_
        refine T_p xr_203_19 xn_203 (pc' := 20) (ls' := [(3, .int 6), (2, .ref 530), (1, .ref 1), (0, .ref 0)]) (st' := [.ref 0, .int 6]) rfl ?_
        refine T_slen xr_203_20 (x := 6) rfl (pc' := 21) rfl ?_
        refine T_p xr_203_21 xn_203 (pc' := 23) (ls' := [(3, .int 6), (2, .ref 530), (1, .ref 1), (0, .ref 0)]) (st' := [.int 6, .int 6, .int 6]) rfl ?_
        refine T_p xr_203_23 xn_203 (pc' := 24) (ls' := [(3, .int 6), (2, .ref 530), (1, .ref 1), (0, .ref 0)]) (st' := [.int 0, .int 6]) rfl ?_
        refine T_b2t xr_203_24 rfl (t := 594) rfl ?_
        refine T_p xr_203_594 xn_203 (pc' := 595) (ls' := [(3, .int 6), (2, .ref 530), (1, .ref 1), (0, .ref 0)]) (st' := [.int 1]) rfl ?_
        exact T_iret xr_203_595 xf_203.2.2 rfl ⟨rfl, hS2⟩
      · skip
        refine T_p xr_203_327 xn_203 (pc' := 328) (ls' := [(3, .int 0), (2, .ref 530), (1, .ref 1), (0, .ref 0)]) (st' := [.ref 1]) rfl ?_
        refine T_p xr_203_328 xn_203 (pc' := 329) (ls' := [(3, .int 0), (2, .ref 530), (1, .ref 1), (0, .ref 0)]) (st' := [.ref 0, .ref 1]) rfl ?_
        refine T_p xr_203_329 xn_203 (pc' := 330) (ls' := [(3, .int 0), (2, .ref 530), (1, .ref 1), (0, .ref 0)]) (st' := [.int 0, .ref 0, .ref 1]) rfl ?_
        refine T_p xr_203_330 xn_203 (pc' := 331) (ls' := [(3, .int 0), (2, .ref 530), (1, .ref 1), (0, .ref 0)]) (st' := [.int 1, .int 0, .ref 0, .ref 1]) rfl ?_
        refine T_p xr_203_331 xn_203 (pc' := 332) (ls' := [(3, .int 0), (2, .ref 530), (1, .ref 1), (0, .ref 0)]) (st' := [.int 1, .ref 0, .ref 1]) rfl ?_
        refine T_sald xr_203_332 (show ¬ ((1 : Int32) < 0 ∨ 6 ≤ (1 : Int32).toNatClampNeg) by decide) (x := 0) g1 (pc' := 333) rfl ?_
        refine T_p xr_203_333 xn_203 (pc' := 334) (ls' := [(3, .int 0), (2, .ref 530), (1, .ref 1), (0, .ref 0)]) (st' := [.ref 0, .int 0, .ref 1]) rfl ?_
        refine T_p xr_203_334 xn_203 (pc' := 335) (ls' := [(3, .int 0), (2, .ref 530), (1, .ref 1), (0, .ref 0)]) (st' := [.int 0, .ref 0, .int 0, .ref 1]) rfl ?_
        refine T_p xr_203_335 xn_203 (pc' := 336) (ls' := [(3, .int 0), (2, .ref 530), (1, .ref 1), (0, .ref 0)]) (st' := [.int 2, .int 0, .ref 0, .int 0, .ref 1]) rfl ?_
        refine T_p xr_203_336 xn_203 (pc' := 337) (ls' := [(3, .int 0), (2, .ref 530), (1, .ref 1), (0, .ref 0)]) (st' := [.int 2, .ref 0, .int 0, .ref 1]) rfl ?_
        refine T_sald xr_203_337 (show ¬ ((2 : Int32) < 0 ∨ 6 ≤ (2 : Int32).toNatClampNeg) by decide) (x := x2) g2 (pc' := 338) rfl ?_
        refine T_cv (S := S0) (q := 1) xr_203_338 xf_120.1 xf_120.2.1 xn_120 (as := [.int 0, .int (x2)]) (r := []) rfl w1 (by simp [Value.category]) (by simp [Value.category]) (pc' := 341) rfl (ls' := [(0, .ref 1), (1, .int 0), (2, .int (x2))]) rfl ?_
        refine T_p xr_120_0 xn_120 (pc' := 1) (ls' := [(0, .ref 1), (1, .int 0), (2, .int (x2))]) (st' := [.ref 1]) rfl ?_
        refine T_get xr_120_1 w1 rfl (v := .ref 4) rfl (pc' := 4) rfl ?_
        refine T_p xr_120_4 xn_120 (pc' := 5) (ls' := [(0, .ref 1), (1, .int 0), (2, .int (x2))]) (st' := [.int 0, .ref 4]) rfl ?_
        refine T_cv (S := S0) (q := 4) xr_120_5 xf_3.1 xf_3.2.1 xn_3 (as := [.int 0]) (r := []) rfl w4 (by simp [Value.category]) (by simp [Value.category]) (pc' := 8) rfl (ls' := [(0, .ref 4), (1, .int 0)]) rfl ?_
        refine T_p xr_3_0 xn_3 (pc' := 1) (ls' := [(0, .ref 4), (1, .int 0)]) (st' := [.int 0]) rfl ?_
        refine T_b1f xr_3_1 rfl (t := 16) (pc' := 4) rfl rfl ?_
        refine T_p xr_3_4 xn_3 (pc' := 5) (ls' := [(0, .ref 4), (1, .int 0)]) (st' := [.int 0]) rfl ?_
        refine T_p xr_3_5 xn_3 (pc' := 6) (ls' := [(0, .ref 4), (1, .int 0)]) (st' := [.ref 4, .int 0]) rfl ?_
        refine T_get xr_3_6 w4 rfl (v := .int 1) rfl (pc' := 9) rfl ?_
        refine T_b2f xr_3_9 rfl (t := 16) (pc' := 12) rfl rfl ?_
        refine T_p xr_3_12 xn_3 (pc' := 13) (ls' := [(0, .ref 4), (1, .int 0)]) (st' := [.int 1]) rfl ?_
        refine T_p xr_3_13 xn_3 (pc' := 17) (ls' := [(0, .ref 4), (1, .int 0)]) (st' := [.int 1]) rfl ?_
        refine T_iret xr_3_17 xf_3.2.2 rfl ?_
        show X_T (6, xs) 120 (8, [(0, .ref 1), (1, .int 0), (2, .int (x2))], [.int 1], S0) _
        refine T_b1f xr_120_8 rfl (t := 22) (pc' := 11) rfl rfl ?_
        refine T_p xr_120_11 xn_120 (pc' := 12) (ls' := [(0, .ref 1), (1, .int 0), (2, .int (x2))]) (st' := [.ref 1]) rfl ?_
        refine T_get xr_120_12 w1 rfl (v := .ref 4) rfl (pc' := 15) rfl ?_
        refine T_p xr_120_15 xn_120 (pc' := 16) (ls' := [(0, .ref 1), (1, .int 0), (2, .int (x2))]) (st' := [.int (x2), .ref 4]) rfl ?_
        refine T_cv (S := S0) (q := 4) xr_120_16 xf_3.1 xf_3.2.1 xn_3 (as := [.int (x2)]) (r := []) rfl w4 (by simp [Value.category]) (by simp [Value.category]) (pc' := 19) rfl (ls' := [(0, .ref 4), (1, .int (x2))]) rfl ?_
        refine T_p xr_3_0 xn_3 (pc' := 1) (ls' := [(0, .ref 4), (1, .int (x2))]) (st' := [.int (x2)]) rfl ?_
        refine T_b1f xr_3_1 d2 (t := 16) (pc' := 4) rfl rfl ?_
        refine T_p xr_3_4 xn_3 (pc' := 5) (ls' := [(0, .ref 4), (1, .int (x2))]) (st' := [.int (x2)]) rfl ?_
        refine T_p xr_3_5 xn_3 (pc' := 6) (ls' := [(0, .ref 4), (1, .int (x2))]) (st' := [.ref 4, .int (x2)]) rfl ?_
        refine T_get xr_3_6 w4 rfl (v := .int 1) rfl (pc' := 9) rfl ?_
        refine T_b2t xr_3_9 (by rw [X_cd_ge, d3]; rfl) (t := 16) rfl ?_
        refine T_p xr_3_16 xn_3 (pc' := 17) (ls' := [(0, .ref 4), (1, .int (x2))]) (st' := [.int 0]) rfl ?_
        refine T_iret xr_3_17 xf_3.2.2 rfl ?_
        show X_T (6, xs) 120 (19, [(0, .ref 1), (1, .int 0), (2, .int (x2))], [.int 0], S0) _
        refine T_b1f xr_120_19 rfl (t := 24) (pc' := 22) rfl rfl ?_
        refine T_p xr_120_22 xn_120 (pc' := 23) (ls' := [(0, .ref 1), (1, .int 0), (2, .int (x2))]) (st' := [.int (-1)]) rfl ?_
        refine T_iret xr_120_23 xf_120.2.2 rfl ?_
        show X_T (6, xs) 203 (341, [(3, .int 0), (2, .ref 530), (1, .ref 1), (0, .ref 0)], [.int (-1)], S0) _
        refine T_p xr_203_341 xn_203 (pc' := 342) (ls' := [(3, .int 0), (2, .ref 530), (1, .ref 1), (0, .ref 0)]) (st' := [.ref 530, .int (-1)]) rfl ?_
        refine T_p xr_203_342 xn_203 (pc' := 343) (ls' := [(3, .int 0), (2, .ref 530), (1, .ref 1), (0, .ref 0)]) (st' := [.ref 0, .ref 530, .int (-1)]) rfl ?_
        refine T_p xr_203_343 xn_203 (pc' := 344) (ls' := [(3, .int 0), (2, .ref 530), (1, .ref 1), (0, .ref 0)]) (st' := [.int 0, .ref 0, .ref 530, .int (-1)]) rfl ?_
        refine T_p xr_203_344 xn_203 (pc' := 345) (ls' := [(3, .int 0), (2, .ref 530), (1, .ref 1), (0, .ref 0)]) (st' := [.int 1, .int 0, .ref 0, .ref 530, .int (-1)]) rfl ?_
        refine T_p xr_203_345 xn_203 (pc' := 346) (ls' := [(3, .int 0), (2, .ref 530), (1, .ref 1), (0, .ref 0)]) (st' := [.int 1, .ref 0, .ref 530, .int (-1)]) rfl ?_
        refine T_sald xr_203_346 (show ¬ ((1 : Int32) < 0 ∨ 6 ≤ (1 : Int32).toNatClampNeg) by decide) (x := 0) g1 (pc' := 347) rfl ?_
        refine T_p xr_203_347 xn_203 (pc' := 348) (ls' := [(3, .int 0), (2, .ref 530), (1, .ref 1), (0, .ref 0)]) (st' := [.ref 0, .int 0, .ref 530, .int (-1)]) rfl ?_
        refine T_p xr_203_348 xn_203 (pc' := 349) (ls' := [(3, .int 0), (2, .ref 530), (1, .ref 1), (0, .ref 0)]) (st' := [.int 0, .ref 0, .int 0, .ref 530, .int (-1)]) rfl ?_
        refine T_p xr_203_349 xn_203 (pc' := 350) (ls' := [(3, .int 0), (2, .ref 530), (1, .ref 1), (0, .ref 0)]) (st' := [.int 2, .int 0, .ref 0, .int 0, .ref 530, .int (-1)]) rfl ?_
        refine T_p xr_203_350 xn_203 (pc' := 351) (ls' := [(3, .int 0), (2, .ref 530), (1, .ref 1), (0, .ref 0)]) (st' := [.int 2, .ref 0, .int 0, .ref 530, .int (-1)]) rfl ?_
        refine T_sald xr_203_351 (show ¬ ((2 : Int32) < 0 ∨ 6 ≤ (2 : Int32).toNatClampNeg) by decide) (x := x2) g2 (pc' := 352) rfl ?_
        refine T_cv (S := S0) (q := 530) xr_203_352 xf_169.1 xf_169.2.1 xn_169 (as := [.int 0, .int (x2)]) (r := [.int (-1)]) rfl w530 (by simp [Value.category]) (by simp [Value.category]) (pc' := 355) rfl (ls' := [(0, .ref 530), (1, .int 0), (2, .int (x2))]) rfl ?_
        refine T_p xr_169_0 xn_169 (pc' := 1) (ls' := [(0, .ref 530), (1, .int 0), (2, .int (x2))]) (st' := [.int 0]) rfl ?_
        refine T_b1f xr_169_1 rfl (t := 24) (pc' := 4) rfl rfl ?_
        refine T_p xr_169_4 xn_169 (pc' := 5) (ls' := [(0, .ref 530), (1, .int 0), (2, .int (x2))]) (st' := [.int 0]) rfl ?_
        refine T_p xr_169_5 xn_169 (pc' := 6) (ls' := [(0, .ref 530), (1, .int 0), (2, .int (x2))]) (st' := [.ref 530, .int 0]) rfl ?_
        refine T_get xr_169_6 w530 rfl (v := .int 1) rfl (pc' := 9) rfl ?_
        refine T_b2f xr_169_9 rfl (t := 24) (pc' := 12) rfl rfl ?_
        refine T_p xr_169_12 xn_169 (pc' := 13) (ls' := [(0, .ref 530), (1, .int 0), (2, .int (x2))]) (st' := [.int (x2)]) rfl ?_
        refine T_b1f xr_169_13 d2 (t := 24) (pc' := 16) rfl rfl ?_
        refine T_p xr_169_16 xn_169 (pc' := 17) (ls' := [(0, .ref 530), (1, .int 0), (2, .int (x2))]) (st' := [.int (x2)]) rfl ?_
        refine T_p xr_169_17 xn_169 (pc' := 18) (ls' := [(0, .ref 530), (1, .int 0), (2, .int (x2))]) (st' := [.ref 530, .int (x2)]) rfl ?_
        refine T_get xr_169_18 w530 rfl (v := .int 1) rfl (pc' := 21) rfl ?_
        refine T_b2f xr_169_21 d3 (t := 28) (pc' := 24) rfl rfl ?_
        refine T_p xr_169_24 xn_169 (pc' := 25) (ls' := [(0, .ref 530), (1, .int 0), (2, .int (x2))]) (st' := [.int (-1)]) rfl ?_
        refine T_p xr_169_25 xn_169 (pc' := 42) (ls' := [(0, .ref 530), (1, .int 0), (2, .int (x2))]) (st' := [.int (-1)]) rfl ?_
        refine T_iret xr_169_42 xf_169.2.2 rfl ?_
        show X_T (6, xs) 203 (355, [(3, .int 0), (2, .ref 530), (1, .ref 1), (0, .ref 0)], [.int (-1), .int (-1)], S0) _
        refine T_b2t xr_203_355 rfl (t := 588) rfl ?_
        refine T_p xr_203_588 xn_203 (pc' := 591) (ls' := [(3, .int 6), (2, .ref 530), (1, .ref 1), (0, .ref 0)]) (st' := []) rfl ?_
        refine T_p xr_203_591 xn_203 (pc' := 18) (ls' := [(3, .int 6), (2, .ref 530), (1, .ref 1), (0, .ref 0)]) (st' := []) rfl ?_
        refine T_p xr_203_18 xn_203 (pc' := 19) (ls' := [(3, .int 6), (2, .ref 530), (1, .ref 1), (0, .ref 0)]) (st' := [.int 6]) rfl ?_
        refine T_p xr_203_19 xn_203 (pc' := 20) (ls' := [(3, .int 6), (2, .ref 530), (1, .ref 1), (0, .ref 0)]) (st' := [.ref 0, .int 6]) rfl ?_
        refine T_slen xr_203_20 (x := 6) rfl (pc' := 21) rfl ?_
        refine T_p xr_203_21 xn_203 (pc' := 23) (ls' := [(3, .int 6), (2, .ref 530), (1, .ref 1), (0, .ref 0)]) (st' := [.int 6, .int 6, .int 6]) rfl ?_
        refine T_p xr_203_23 xn_203 (pc' := 24) (ls' := [(3, .int 6), (2, .ref 530), (1, .ref 1), (0, .ref 0)]) (st' := [.int 0, .int 6]) rfl ?_
        refine T_b2t xr_203_24 rfl (t := 594) rfl ?_
        refine T_p xr_203_594 xn_203 (pc' := 595) (ls' := [(3, .int 6), (2, .ref 530), (1, .ref 1), (0, .ref 0)]) (st' := [.int 1]) rfl ?_
        exact T_iret xr_203_595 xf_203.2.2 rfl ⟨rfl, hS2⟩
  · have d2 := X_ne0 e1
    rcases d2 with d2 | ⟨d2, d3⟩
    · skip
      refine T_p xr_203_327 xn_203 (pc' := 328) (ls' := [(3, .int 0), (2, .ref 530), (1, .ref 1), (0, .ref 0)]) (st' := [.ref 1]) rfl ?_
      refine T_p xr_203_328 xn_203 (pc' := 329) (ls' := [(3, .int 0), (2, .ref 530), (1, .ref 1), (0, .ref 0)]) (st' := [.ref 0, .ref 1]) rfl ?_
      refine T_p xr_203_329 xn_203 (pc' := 330) (ls' := [(3, .int 0), (2, .ref 530), (1, .ref 1), (0, .ref 0)]) (st' := [.int 0, .ref 0, .ref 1]) rfl ?_
      refine T_p xr_203_330 xn_203 (pc' := 331) (ls' := [(3, .int 0), (2, .ref 530), (1, .ref 1), (0, .ref 0)]) (st' := [.int 1, .int 0, .ref 0, .ref 1]) rfl ?_
      refine T_p xr_203_331 xn_203 (pc' := 332) (ls' := [(3, .int 0), (2, .ref 530), (1, .ref 1), (0, .ref 0)]) (st' := [.int 1, .ref 0, .ref 1]) rfl ?_
      refine T_sald xr_203_332 (show ¬ ((1 : Int32) < 0 ∨ 6 ≤ (1 : Int32).toNatClampNeg) by decide) (x := x1) g1 (pc' := 333) rfl ?_
      refine T_p xr_203_333 xn_203 (pc' := 334) (ls' := [(3, .int 0), (2, .ref 530), (1, .ref 1), (0, .ref 0)]) (st' := [.ref 0, .int (x1), .ref 1]) rfl ?_
      refine T_p xr_203_334 xn_203 (pc' := 335) (ls' := [(3, .int 0), (2, .ref 530), (1, .ref 1), (0, .ref 0)]) (st' := [.int 0, .ref 0, .int (x1), .ref 1]) rfl ?_
      refine T_p xr_203_335 xn_203 (pc' := 336) (ls' := [(3, .int 0), (2, .ref 530), (1, .ref 1), (0, .ref 0)]) (st' := [.int 2, .int 0, .ref 0, .int (x1), .ref 1]) rfl ?_
      refine T_p xr_203_336 xn_203 (pc' := 337) (ls' := [(3, .int 0), (2, .ref 530), (1, .ref 1), (0, .ref 0)]) (st' := [.int 2, .ref 0, .int (x1), .ref 1]) rfl ?_
      refine T_sald xr_203_337 (show ¬ ((2 : Int32) < 0 ∨ 6 ≤ (2 : Int32).toNatClampNeg) by decide) (x := x2) g2 (pc' := 338) rfl ?_
      refine T_cv (S := S0) (q := 1) xr_203_338 xf_120.1 xf_120.2.1 xn_120 (as := [.int (x1), .int (x2)]) (r := []) rfl w1 (by simp [Value.category]) (by simp [Value.category]) (pc' := 341) rfl (ls' := [(0, .ref 1), (1, .int (x1)), (2, .int (x2))]) rfl ?_
      refine T_p xr_120_0 xn_120 (pc' := 1) (ls' := [(0, .ref 1), (1, .int (x1)), (2, .int (x2))]) (st' := [.ref 1]) rfl ?_
      refine T_get xr_120_1 w1 rfl (v := .ref 4) rfl (pc' := 4) rfl ?_
      refine T_p xr_120_4 xn_120 (pc' := 5) (ls' := [(0, .ref 1), (1, .int (x1)), (2, .int (x2))]) (st' := [.int (x1), .ref 4]) rfl ?_
      refine T_cv (S := S0) (q := 4) xr_120_5 xf_3.1 xf_3.2.1 xn_3 (as := [.int (x1)]) (r := []) rfl w4 (by simp [Value.category]) (by simp [Value.category]) (pc' := 8) rfl (ls' := [(0, .ref 4), (1, .int (x1))]) rfl ?_
      refine T_p xr_3_0 xn_3 (pc' := 1) (ls' := [(0, .ref 4), (1, .int (x1))]) (st' := [.int (x1)]) rfl ?_
      refine T_b1t xr_3_1 d2 (t := 16) rfl ?_
      refine T_p xr_3_16 xn_3 (pc' := 17) (ls' := [(0, .ref 4), (1, .int (x1))]) (st' := [.int 0]) rfl ?_
      refine T_iret xr_3_17 xf_3.2.2 rfl ?_
      show X_T (6, xs) 120 (8, [(0, .ref 1), (1, .int (x1)), (2, .int (x2))], [.int 0], S0) _
      refine T_b1t xr_120_8 rfl (t := 22) rfl ?_
      refine T_p xr_120_22 xn_120 (pc' := 23) (ls' := [(0, .ref 1), (1, .int (x1)), (2, .int (x2))]) (st' := [.int (-1)]) rfl ?_
      refine T_iret xr_120_23 xf_120.2.2 rfl ?_
      show X_T (6, xs) 203 (341, [(3, .int 0), (2, .ref 530), (1, .ref 1), (0, .ref 0)], [.int (-1)], S0) _
      refine T_p xr_203_341 xn_203 (pc' := 342) (ls' := [(3, .int 0), (2, .ref 530), (1, .ref 1), (0, .ref 0)]) (st' := [.ref 530, .int (-1)]) rfl ?_
      refine T_p xr_203_342 xn_203 (pc' := 343) (ls' := [(3, .int 0), (2, .ref 530), (1, .ref 1), (0, .ref 0)]) (st' := [.ref 0, .ref 530, .int (-1)]) rfl ?_
      refine T_p xr_203_343 xn_203 (pc' := 344) (ls' := [(3, .int 0), (2, .ref 530), (1, .ref 1), (0, .ref 0)]) (st' := [.int 0, .ref 0, .ref 530, .int (-1)]) rfl ?_
      refine T_p xr_203_344 xn_203 (pc' := 345) (ls' := [(3, .int 0), (2, .ref 530), (1, .ref 1), (0, .ref 0)]) (st' := [.int 1, .int 0, .ref 0, .ref 530, .int (-1)]) rfl ?_
      refine T_p xr_203_345 xn_203 (pc' := 346) (ls' := [(3, .int 0), (2, .ref 530), (1, .ref 1), (0, .ref 0)]) (st' := [.int 1, .ref 0, .ref 530, .int (-1)]) rfl ?_
      refine T_sald xr_203_346 (show ¬ ((1 : Int32) < 0 ∨ 6 ≤ (1 : Int32).toNatClampNeg) by decide) (x := x1) g1 (pc' := 347) rfl ?_
      refine T_p xr_203_347 xn_203 (pc' := 348) (ls' := [(3, .int 0), (2, .ref 530), (1, .ref 1), (0, .ref 0)]) (st' := [.ref 0, .int (x1), .ref 530, .int (-1)]) rfl ?_
      refine T_p xr_203_348 xn_203 (pc' := 349) (ls' := [(3, .int 0), (2, .ref 530), (1, .ref 1), (0, .ref 0)]) (st' := [.int 0, .ref 0, .int (x1), .ref 530, .int (-1)]) rfl ?_
      refine T_p xr_203_349 xn_203 (pc' := 350) (ls' := [(3, .int 0), (2, .ref 530), (1, .ref 1), (0, .ref 0)]) (st' := [.int 2, .int 0, .ref 0, .int (x1), .ref 530, .int (-1)]) rfl ?_
      refine T_p xr_203_350 xn_203 (pc' := 351) (ls' := [(3, .int 0), (2, .ref 530), (1, .ref 1), (0, .ref 0)]) (st' := [.int 2, .ref 0, .int (x1), .ref 530, .int (-1)]) rfl ?_
      refine T_sald xr_203_351 (show ¬ ((2 : Int32) < 0 ∨ 6 ≤ (2 : Int32).toNatClampNeg) by decide) (x := x2) g2 (pc' := 352) rfl ?_
      refine T_cv (S := S0) (q := 530) xr_203_352 xf_169.1 xf_169.2.1 xn_169 (as := [.int (x1), .int (x2)]) (r := [.int (-1)]) rfl w530 (by simp [Value.category]) (by simp [Value.category]) (pc' := 355) rfl (ls' := [(0, .ref 530), (1, .int (x1)), (2, .int (x2))]) rfl ?_
      refine T_p xr_169_0 xn_169 (pc' := 1) (ls' := [(0, .ref 530), (1, .int (x1)), (2, .int (x2))]) (st' := [.int (x1)]) rfl ?_
      refine T_b1t xr_169_1 d2 (t := 24) rfl ?_
      refine T_p xr_169_24 xn_169 (pc' := 25) (ls' := [(0, .ref 530), (1, .int (x1)), (2, .int (x2))]) (st' := [.int (-1)]) rfl ?_
      refine T_p xr_169_25 xn_169 (pc' := 42) (ls' := [(0, .ref 530), (1, .int (x1)), (2, .int (x2))]) (st' := [.int (-1)]) rfl ?_
      refine T_iret xr_169_42 xf_169.2.2 rfl ?_
      show X_T (6, xs) 203 (355, [(3, .int 0), (2, .ref 530), (1, .ref 1), (0, .ref 0)], [.int (-1), .int (-1)], S0) _
      refine T_b2t xr_203_355 rfl (t := 588) rfl ?_
      refine T_p xr_203_588 xn_203 (pc' := 591) (ls' := [(3, .int 6), (2, .ref 530), (1, .ref 1), (0, .ref 0)]) (st' := []) rfl ?_
      refine T_p xr_203_591 xn_203 (pc' := 18) (ls' := [(3, .int 6), (2, .ref 530), (1, .ref 1), (0, .ref 0)]) (st' := []) rfl ?_
      refine T_p xr_203_18 xn_203 (pc' := 19) (ls' := [(3, .int 6), (2, .ref 530), (1, .ref 1), (0, .ref 0)]) (st' := [.int 6]) rfl ?_
      refine T_p xr_203_19 xn_203 (pc' := 20) (ls' := [(3, .int 6), (2, .ref 530), (1, .ref 1), (0, .ref 0)]) (st' := [.ref 0, .int 6]) rfl ?_
      refine T_slen xr_203_20 (x := 6) rfl (pc' := 21) rfl ?_
      refine T_p xr_203_21 xn_203 (pc' := 23) (ls' := [(3, .int 6), (2, .ref 530), (1, .ref 1), (0, .ref 0)]) (st' := [.int 6, .int 6, .int 6]) rfl ?_
      refine T_p xr_203_23 xn_203 (pc' := 24) (ls' := [(3, .int 6), (2, .ref 530), (1, .ref 1), (0, .ref 0)]) (st' := [.int 0, .int 6]) rfl ?_
      refine T_b2t xr_203_24 rfl (t := 594) rfl ?_
      refine T_p xr_203_594 xn_203 (pc' := 595) (ls' := [(3, .int 6), (2, .ref 530), (1, .ref 1), (0, .ref 0)]) (st' := [.int 1]) rfl ?_
      exact T_iret xr_203_595 xf_203.2.2 rfl ⟨rfl, hS2⟩
    · skip
      refine T_p xr_203_327 xn_203 (pc' := 328) (ls' := [(3, .int 0), (2, .ref 530), (1, .ref 1), (0, .ref 0)]) (st' := [.ref 1]) rfl ?_
      refine T_p xr_203_328 xn_203 (pc' := 329) (ls' := [(3, .int 0), (2, .ref 530), (1, .ref 1), (0, .ref 0)]) (st' := [.ref 0, .ref 1]) rfl ?_
      refine T_p xr_203_329 xn_203 (pc' := 330) (ls' := [(3, .int 0), (2, .ref 530), (1, .ref 1), (0, .ref 0)]) (st' := [.int 0, .ref 0, .ref 1]) rfl ?_
      refine T_p xr_203_330 xn_203 (pc' := 331) (ls' := [(3, .int 0), (2, .ref 530), (1, .ref 1), (0, .ref 0)]) (st' := [.int 1, .int 0, .ref 0, .ref 1]) rfl ?_
      refine T_p xr_203_331 xn_203 (pc' := 332) (ls' := [(3, .int 0), (2, .ref 530), (1, .ref 1), (0, .ref 0)]) (st' := [.int 1, .ref 0, .ref 1]) rfl ?_
      refine T_sald xr_203_332 (show ¬ ((1 : Int32) < 0 ∨ 6 ≤ (1 : Int32).toNatClampNeg) by decide) (x := x1) g1 (pc' := 333) rfl ?_
      refine T_p xr_203_333 xn_203 (pc' := 334) (ls' := [(3, .int 0), (2, .ref 530), (1, .ref 1), (0, .ref 0)]) (st' := [.ref 0, .int (x1), .ref 1]) rfl ?_
      refine T_p xr_203_334 xn_203 (pc' := 335) (ls' := [(3, .int 0), (2, .ref 530), (1, .ref 1), (0, .ref 0)]) (st' := [.int 0, .ref 0, .int (x1), .ref 1]) rfl ?_
      refine T_p xr_203_335 xn_203 (pc' := 336) (ls' := [(3, .int 0), (2, .ref 530), (1, .ref 1), (0, .ref 0)]) (st' := [.int 2, .int 0, .ref 0, .int (x1), .ref 1]) rfl ?_
      refine T_p xr_203_336 xn_203 (pc' := 337) (ls' := [(3, .int 0), (2, .ref 530), (1, .ref 1), (0, .ref 0)]) (st' := [.int 2, .ref 0, .int (x1), .ref 1]) rfl ?_
      refine T_sald xr_203_337 (show ¬ ((2 : Int32) < 0 ∨ 6 ≤ (2 : Int32).toNatClampNeg) by decide) (x := x2) g2 (pc' := 338) rfl ?_
      refine T_cv (S := S0) (q := 1) xr_203_338 xf_120.1 xf_120.2.1 xn_120 (as := [.int (x1), .int (x2)]) (r := []) rfl w1 (by simp [Value.category]) (by simp [Value.category]) (pc' := 341) rfl (ls' := [(0, .ref 1), (1, .int (x1)), (2, .int (x2))]) rfl ?_
      refine T_p xr_120_0 xn_120 (pc' := 1) (ls' := [(0, .ref 1), (1, .int (x1)), (2, .int (x2))]) (st' := [.ref 1]) rfl ?_
      refine T_get xr_120_1 w1 rfl (v := .ref 4) rfl (pc' := 4) rfl ?_
      refine T_p xr_120_4 xn_120 (pc' := 5) (ls' := [(0, .ref 1), (1, .int (x1)), (2, .int (x2))]) (st' := [.int (x1), .ref 4]) rfl ?_
      refine T_cv (S := S0) (q := 4) xr_120_5 xf_3.1 xf_3.2.1 xn_3 (as := [.int (x1)]) (r := []) rfl w4 (by simp [Value.category]) (by simp [Value.category]) (pc' := 8) rfl (ls' := [(0, .ref 4), (1, .int (x1))]) rfl ?_
      refine T_p xr_3_0 xn_3 (pc' := 1) (ls' := [(0, .ref 4), (1, .int (x1))]) (st' := [.int (x1)]) rfl ?_
      refine T_b1f xr_3_1 d2 (t := 16) (pc' := 4) rfl rfl ?_
      refine T_p xr_3_4 xn_3 (pc' := 5) (ls' := [(0, .ref 4), (1, .int (x1))]) (st' := [.int (x1)]) rfl ?_
      refine T_p xr_3_5 xn_3 (pc' := 6) (ls' := [(0, .ref 4), (1, .int (x1))]) (st' := [.ref 4, .int (x1)]) rfl ?_
      refine T_get xr_3_6 w4 rfl (v := .int 1) rfl (pc' := 9) rfl ?_
      refine T_b2t xr_3_9 (by rw [X_cd_ge, d3]; rfl) (t := 16) rfl ?_
      refine T_p xr_3_16 xn_3 (pc' := 17) (ls' := [(0, .ref 4), (1, .int (x1))]) (st' := [.int 0]) rfl ?_
      refine T_iret xr_3_17 xf_3.2.2 rfl ?_
      show X_T (6, xs) 120 (8, [(0, .ref 1), (1, .int (x1)), (2, .int (x2))], [.int 0], S0) _
      refine T_b1t xr_120_8 rfl (t := 22) rfl ?_
      refine T_p xr_120_22 xn_120 (pc' := 23) (ls' := [(0, .ref 1), (1, .int (x1)), (2, .int (x2))]) (st' := [.int (-1)]) rfl ?_
      refine T_iret xr_120_23 xf_120.2.2 rfl ?_
      show X_T (6, xs) 203 (341, [(3, .int 0), (2, .ref 530), (1, .ref 1), (0, .ref 0)], [.int (-1)], S0) _
      refine T_p xr_203_341 xn_203 (pc' := 342) (ls' := [(3, .int 0), (2, .ref 530), (1, .ref 1), (0, .ref 0)]) (st' := [.ref 530, .int (-1)]) rfl ?_
      refine T_p xr_203_342 xn_203 (pc' := 343) (ls' := [(3, .int 0), (2, .ref 530), (1, .ref 1), (0, .ref 0)]) (st' := [.ref 0, .ref 530, .int (-1)]) rfl ?_
      refine T_p xr_203_343 xn_203 (pc' := 344) (ls' := [(3, .int 0), (2, .ref 530), (1, .ref 1), (0, .ref 0)]) (st' := [.int 0, .ref 0, .ref 530, .int (-1)]) rfl ?_
      refine T_p xr_203_344 xn_203 (pc' := 345) (ls' := [(3, .int 0), (2, .ref 530), (1, .ref 1), (0, .ref 0)]) (st' := [.int 1, .int 0, .ref 0, .ref 530, .int (-1)]) rfl ?_
      refine T_p xr_203_345 xn_203 (pc' := 346) (ls' := [(3, .int 0), (2, .ref 530), (1, .ref 1), (0, .ref 0)]) (st' := [.int 1, .ref 0, .ref 530, .int (-1)]) rfl ?_
      refine T_sald xr_203_346 (show ¬ ((1 : Int32) < 0 ∨ 6 ≤ (1 : Int32).toNatClampNeg) by decide) (x := x1) g1 (pc' := 347) rfl ?_
      refine T_p xr_203_347 xn_203 (pc' := 348) (ls' := [(3, .int 0), (2, .ref 530), (1, .ref 1), (0, .ref 0)]) (st' := [.ref 0, .int (x1), .ref 530, .int (-1)]) rfl ?_
      refine T_p xr_203_348 xn_203 (pc' := 349) (ls' := [(3, .int 0), (2, .ref 530), (1, .ref 1), (0, .ref 0)]) (st' := [.int 0, .ref 0, .int (x1), .ref 530, .int (-1)]) rfl ?_
      refine T_p xr_203_349 xn_203 (pc' := 350) (ls' := [(3, .int 0), (2, .ref 530), (1, .ref 1), (0, .ref 0)]) (st' := [.int 2, .int 0, .ref 0, .int (x1), .ref 530, .int (-1)]) rfl ?_
      refine T_p xr_203_350 xn_203 (pc' := 351) (ls' := [(3, .int 0), (2, .ref 530), (1, .ref 1), (0, .ref 0)]) (st' := [.int 2, .ref 0, .int (x1), .ref 530, .int (-1)]) rfl ?_
      refine T_sald xr_203_351 (show ¬ ((2 : Int32) < 0 ∨ 6 ≤ (2 : Int32).toNatClampNeg) by decide) (x := x2) g2 (pc' := 352) rfl ?_
      refine T_cv (S := S0) (q := 530) xr_203_352 xf_169.1 xf_169.2.1 xn_169 (as := [.int (x1), .int (x2)]) (r := [.int (-1)]) rfl w530 (by simp [Value.category]) (by simp [Value.category]) (pc' := 355) rfl (ls' := [(0, .ref 530), (1, .int (x1)), (2, .int (x2))]) rfl ?_
      refine T_p xr_169_0 xn_169 (pc' := 1) (ls' := [(0, .ref 530), (1, .int (x1)), (2, .int (x2))]) (st' := [.int (x1)]) rfl ?_
      refine T_b1f xr_169_1 d2 (t := 24) (pc' := 4) rfl rfl ?_
      refine T_p xr_169_4 xn_169 (pc' := 5) (ls' := [(0, .ref 530), (1, .int (x1)), (2, .int (x2))]) (st' := [.int (x1)]) rfl ?_
      refine T_p xr_169_5 xn_169 (pc' := 6) (ls' := [(0, .ref 530), (1, .int (x1)), (2, .int (x2))]) (st' := [.ref 530, .int (x1)]) rfl ?_
      refine T_get xr_169_6 w530 rfl (v := .int 1) rfl (pc' := 9) rfl ?_
      refine T_b2t xr_169_9 (by rw [X_cd_ge, d3]; rfl) (t := 24) rfl ?_
      refine T_p xr_169_24 xn_169 (pc' := 25) (ls' := [(0, .ref 530), (1, .int (x1)), (2, .int (x2))]) (st' := [.int (-1)]) rfl ?_
      refine T_p xr_169_25 xn_169 (pc' := 42) (ls' := [(0, .ref 530), (1, .int (x1)), (2, .int (x2))]) (st' := [.int (-1)]) rfl ?_
      refine T_iret xr_169_42 xf_169.2.2 rfl ?_
      show X_T (6, xs) 203 (355, [(3, .int 0), (2, .ref 530), (1, .ref 1), (0, .ref 0)], [.int (-1), .int (-1)], S0) _
      refine T_b2t xr_203_355 rfl (t := 588) rfl ?_
      refine T_p xr_203_588 xn_203 (pc' := 591) (ls' := [(3, .int 6), (2, .ref 530), (1, .ref 1), (0, .ref 0)]) (st' := []) rfl ?_
      refine T_p xr_203_591 xn_203 (pc' := 18) (ls' := [(3, .int 6), (2, .ref 530), (1, .ref 1), (0, .ref 0)]) (st' := []) rfl ?_
      refine T_p xr_203_18 xn_203 (pc' := 19) (ls' := [(3, .int 6), (2, .ref 530), (1, .ref 1), (0, .ref 0)]) (st' := [.int 6]) rfl ?_
      refine T_p xr_203_19 xn_203 (pc' := 20) (ls' := [(3, .int 6), (2, .ref 530), (1, .ref 1), (0, .ref 0)]) (st' := [.ref 0, .int 6]) rfl ?_
      refine T_slen xr_203_20 (x := 6) rfl (pc' := 21) rfl ?_
      refine T_p xr_203_21 xn_203 (pc' := 23) (ls' := [(3, .int 6), (2, .ref 530), (1, .ref 1), (0, .ref 0)]) (st' := [.int 6, .int 6, .int 6]) rfl ?_
      refine T_p xr_203_23 xn_203 (pc' := 24) (ls' := [(3, .int 6), (2, .ref 530), (1, .ref 1), (0, .ref 0)]) (st' := [.int 0, .int 6]) rfl ?_
      refine T_b2t xr_203_24 rfl (t := 594) rfl ?_
      refine T_p xr_203_594 xn_203 (pc' := 595) (ls' := [(3, .int 6), (2, .ref 530), (1, .ref 1), (0, .ref 0)]) (st' := [.int 1]) rfl ?_
      exact T_iret xr_203_595 xf_203.2.2 rfl ⟨rfl, hS2⟩
theorem X_op7 (xs : Nat → Int32) : X_T (6, xs) 203 (327, [(3, .int 0), (2, .ref 530), (1, .ref 1), (0, .ref 0)], [], X_Sb) (fun v S => v = some (.int 1) ∧ S.2 = (580, 263990)) := by
  obtain ⟨z8, hz8, hz80⟩ := X_fa8
  exact X_opx7 xs _ _ rfl rfl X_Sb X_Sb2 X_fo1 X_fo4 X_fo530 z8 hz8 hz80
theorem X_op8 (xs : Nat → Int32) : X_T (6, xs) 203 (360, [(3, .int 0), (2, .ref 530), (1, .ref 1), (0, .ref 0)], [], X_Sb) (fun v S => v = some (.int 1) ∧ S.2 = (580, 263990)) := by
  refine T_p xr_203_360 xn_203 (pc' := 361) (ls' := [(3, .int 0), (2, .ref 530), (1, .ref 1), (0, .ref 0)]) (st' := [.ref 1]) rfl ?_
  refine T_cv (S := X_Sb) (q := 1) xr_203_361 xf_121.1 xf_121.2.1 xn_121 (as := []) (r := []) rfl X_fo1 (by simp [Value.category]) (by simp [Value.category]) (pc' := 364) rfl (ls' := [(0, .ref 1)]) rfl ?_
  refine T_sc (by decide) ⟨_, _, _, (X_out_eq X_E8a).1, ?_⟩
  show X_T (6, xs) 203 (364, [(3, .int 0), (2, .ref 530), (1, .ref 1), (0, .ref 0)], [.int 0], (X_out X_R8a)) _
  refine T_p xr_203_364 xn_203 (pc' := 365) (ls' := [(3, .int 0), (2, .ref 530), (1, .ref 1), (0, .ref 0)]) (st' := [.ref 530, .int 0]) rfl ?_
  obtain ⟨fm, hm⟩ : ∃ fm, (X_out X_R8a).1 530 = .inr (11, fm) := X_ob_ex X_E8o X_E8c
  refine T_cv (S := (X_out X_R8a)) (q := 530) xr_203_365 xf_170.1 xf_170.2.1 xn_170 (as := []) (r := [.int 0]) rfl hm (by simp [Value.category]) (by simp [Value.category]) (pc' := 368) rfl (ls' := [(0, .ref 530)]) rfl ?_
  refine T_sc (by decide) ⟨_, _, _, (X_out_eq X_E8b).1, ?_⟩
  show X_T (6, xs) 203 (368, [(3, .int 0), (2, .ref 530), (1, .ref 1), (0, .ref 0)], [.int 0, .int 0], (X_out X_R8b)) _
  refine T_b2t xr_203_368 rfl (t := 588) rfl ?_
  refine T_p xr_203_588 xn_203 (pc' := 591) (ls' := [(3, .int 6), (2, .ref 530), (1, .ref 1), (0, .ref 0)]) (st' := []) rfl ?_
  refine T_p xr_203_591 xn_203 (pc' := 18) (ls' := [(3, .int 6), (2, .ref 530), (1, .ref 1), (0, .ref 0)]) (st' := []) rfl ?_
  refine T_p xr_203_18 xn_203 (pc' := 19) (ls' := [(3, .int 6), (2, .ref 530), (1, .ref 1), (0, .ref 0)]) (st' := [.int 6]) rfl ?_
  refine T_p xr_203_19 xn_203 (pc' := 20) (ls' := [(3, .int 6), (2, .ref 530), (1, .ref 1), (0, .ref 0)]) (st' := [.ref 0, .int 6]) rfl ?_
  refine T_slen xr_203_20 (x := 6) rfl (pc' := 21) rfl ?_
  refine T_p xr_203_21 xn_203 (pc' := 23) (ls' := [(3, .int 6), (2, .ref 530), (1, .ref 1), (0, .ref 0)]) (st' := [.int 6, .int 6, .int 6]) rfl ?_
  refine T_p xr_203_23 xn_203 (pc' := 24) (ls' := [(3, .int 6), (2, .ref 530), (1, .ref 1), (0, .ref 0)]) (st' := [.int 0, .int 6]) rfl ?_
  refine T_b2t xr_203_24 rfl (t := 594) rfl ?_
  refine T_p xr_203_594 xn_203 (pc' := 595) (ls' := [(3, .int 6), (2, .ref 530), (1, .ref 1), (0, .ref 0)]) (st' := [.int 1]) rfl ?_
  exact T_iret xr_203_595 xf_203.2.2 rfl ⟨rfl, (X_out_eq X_E8b).2⟩
theorem X_opx9 (xs : Nat → Int32) (x1 x2 : Int32) (g1 : xs 1 = x1) (g2 : xs 2 = x2) (S0 : X_S) (hS2 : S0.2 = (580, 263990)) (w1 : S0.1 1 = .inr (10, [.ref 2, .ref 4, .ref 250, .ref 496, .ref 501, .ref 504, .ref 511, .ref 517, .ref 527])) (w501 : S0.1 501 = .inr (6, [.int 0, .ref 502, .ref 503])) (w530 : S0.1 530 = .inr (11, [.ref 531, .int 0, .ref 532, .int 0, .int 0, .int 0, .int (-1), .int 0, .int 0, .int 0, .int 0, .int 0, .long 0, .ref 533, .ref 534, .ref 535, .ref 536, .ref 537, .ref 538, .ref 539, .ref 540, .ref 541, .ref 542, .ref 543, .ref 544, .ref 545, .ref 546, .ref 547, .int 0, .int 1, .int 0, .int 0, .int 1, .int 0, .ref 548, .ref 549, .ref 550, .ref 551, .int 0, .ref 552, .ref 553, .ref 554, .ref 555, .ref 556, .ref 557, .ref 558, .ref 559, .ref 560, .ref 561, .int 0, .ref 562, .ref 563, .ref 564, .ref 565, .ref 566, .ref 567, .ref 568, .ref 569, .int 0, .ref 570, .ref 571, .ref 572, .ref 573, .ref 574, .ref 575, .ref 576, .ref 577, .ref 578, .int 0, .int 0, .int 0, .ref 579])) : X_T (6, xs) 203 (373, [(3, .int 0), (2, .ref 530), (1, .ref 1), (0, .ref 0)], [], S0) (fun v S => v = some (.int 1) ∧ S.2 = (580, 263990)) := by
  refine T_p xr_203_373 xn_203 (pc' := 374) (ls' := [(3, .int 0), (2, .ref 530), (1, .ref 1), (0, .ref 0)]) (st' := [.ref 1]) rfl ?_
  refine T_p xr_203_374 xn_203 (pc' := 375) (ls' := [(3, .int 0), (2, .ref 530), (1, .ref 1), (0, .ref 0)]) (st' := [.ref 0, .ref 1]) rfl ?_
  refine T_p xr_203_375 xn_203 (pc' := 376) (ls' := [(3, .int 0), (2, .ref 530), (1, .ref 1), (0, .ref 0)]) (st' := [.int 0, .ref 0, .ref 1]) rfl ?_
  refine T_p xr_203_376 xn_203 (pc' := 377) (ls' := [(3, .int 0), (2, .ref 530), (1, .ref 1), (0, .ref 0)]) (st' := [.int 1, .int 0, .ref 0, .ref 1]) rfl ?_
  refine T_p xr_203_377 xn_203 (pc' := 378) (ls' := [(3, .int 0), (2, .ref 530), (1, .ref 1), (0, .ref 0)]) (st' := [.int 1, .ref 0, .ref 1]) rfl ?_
  refine T_sald xr_203_378 (show ¬ ((1 : Int32) < 0 ∨ 6 ≤ (1 : Int32).toNatClampNeg) by decide) (x := x1) g1 (pc' := 379) rfl ?_
  refine T_p xr_203_379 xn_203 (pc' := 380) (ls' := [(3, .int 0), (2, .ref 530), (1, .ref 1), (0, .ref 0)]) (st' := [.ref 0, .int (x1), .ref 1]) rfl ?_
  refine T_p xr_203_380 xn_203 (pc' := 381) (ls' := [(3, .int 0), (2, .ref 530), (1, .ref 1), (0, .ref 0)]) (st' := [.int 0, .ref 0, .int (x1), .ref 1]) rfl ?_
  refine T_p xr_203_381 xn_203 (pc' := 382) (ls' := [(3, .int 0), (2, .ref 530), (1, .ref 1), (0, .ref 0)]) (st' := [.int 2, .int 0, .ref 0, .int (x1), .ref 1]) rfl ?_
  refine T_p xr_203_382 xn_203 (pc' := 383) (ls' := [(3, .int 0), (2, .ref 530), (1, .ref 1), (0, .ref 0)]) (st' := [.int 2, .ref 0, .int (x1), .ref 1]) rfl ?_
  refine T_sald xr_203_383 (show ¬ ((2 : Int32) < 0 ∨ 6 ≤ (2 : Int32).toNatClampNeg) by decide) (x := x2) g2 (pc' := 384) rfl ?_
  refine T_cv (S := S0) (q := 1) xr_203_384 xf_122.1 xf_122.2.1 xn_122 (as := [.int (x1), .int (x2)]) (r := []) rfl w1 (by simp [Value.category]) (by simp [Value.category]) (pc' := 387) rfl (ls' := [(0, .ref 1), (1, .int (x1)), (2, .int (x2))]) rfl ?_
  refine T_p xr_122_0 xn_122 (pc' := 1) (ls' := [(0, .ref 1), (1, .int (x1)), (2, .int (x2))]) (st' := [.int (x1)]) rfl ?_
  refine T_b1 xr_122_1 (t := 20) (pc' := 4) rfl rfl (fun c1 => ?_) (fun c1 => ?_)
  · skip
    refine T_p xr_122_20 xn_122 (pc' := 21) (ls' := [(0, .ref 1), (1, .int (x1)), (2, .int (x2))]) (st' := [.long 0]) rfl ?_
    refine T_lret xr_122_21 xf_122.2.2 rfl ?_
    show X_T (6, xs) 203 (387, [(3, .int 0), (2, .ref 530), (1, .ref 1), (0, .ref 0)], [.long 0], S0) _
    refine T_p xr_203_387 xn_203 (pc' := 388) (ls' := [(3, .int 0), (2, .ref 530), (1, .ref 1), (0, .ref 0)]) (st' := [.ref 530, .long 0]) rfl ?_
    refine T_p xr_203_388 xn_203 (pc' := 389) (ls' := [(3, .int 0), (2, .ref 530), (1, .ref 1), (0, .ref 0)]) (st' := [.ref 0, .ref 530, .long 0]) rfl ?_
    refine T_p xr_203_389 xn_203 (pc' := 390) (ls' := [(3, .int 0), (2, .ref 530), (1, .ref 1), (0, .ref 0)]) (st' := [.int 0, .ref 0, .ref 530, .long 0]) rfl ?_
    refine T_p xr_203_390 xn_203 (pc' := 391) (ls' := [(3, .int 0), (2, .ref 530), (1, .ref 1), (0, .ref 0)]) (st' := [.int 1, .int 0, .ref 0, .ref 530, .long 0]) rfl ?_
    refine T_p xr_203_391 xn_203 (pc' := 392) (ls' := [(3, .int 0), (2, .ref 530), (1, .ref 1), (0, .ref 0)]) (st' := [.int 1, .ref 0, .ref 530, .long 0]) rfl ?_
    refine T_sald xr_203_392 (show ¬ ((1 : Int32) < 0 ∨ 6 ≤ (1 : Int32).toNatClampNeg) by decide) (x := x1) g1 (pc' := 393) rfl ?_
    refine T_p xr_203_393 xn_203 (pc' := 394) (ls' := [(3, .int 0), (2, .ref 530), (1, .ref 1), (0, .ref 0)]) (st' := [.ref 0, .int (x1), .ref 530, .long 0]) rfl ?_
    refine T_p xr_203_394 xn_203 (pc' := 395) (ls' := [(3, .int 0), (2, .ref 530), (1, .ref 1), (0, .ref 0)]) (st' := [.int 0, .ref 0, .int (x1), .ref 530, .long 0]) rfl ?_
    refine T_p xr_203_395 xn_203 (pc' := 396) (ls' := [(3, .int 0), (2, .ref 530), (1, .ref 1), (0, .ref 0)]) (st' := [.int 2, .int 0, .ref 0, .int (x1), .ref 530, .long 0]) rfl ?_
    refine T_p xr_203_396 xn_203 (pc' := 397) (ls' := [(3, .int 0), (2, .ref 530), (1, .ref 1), (0, .ref 0)]) (st' := [.int 2, .ref 0, .int (x1), .ref 530, .long 0]) rfl ?_
    refine T_sald xr_203_397 (show ¬ ((2 : Int32) < 0 ∨ 6 ≤ (2 : Int32).toNatClampNeg) by decide) (x := x2) g2 (pc' := 398) rfl ?_
    refine T_cv (S := S0) (q := 530) xr_203_398 xf_183.1 xf_183.2.1 xn_183 (as := [.int (x1), .int (x2)]) (r := [.long 0]) rfl w530 (by simp [Value.category]) (by simp [Value.category]) (pc' := 401) rfl (ls' := [(0, .ref 530), (1, .int (x1)), (2, .int (x2))]) rfl ?_
    refine T_p xr_183_0 xn_183 (pc' := 1) (ls' := [(0, .ref 530), (1, .int (x1)), (2, .int (x2))]) (st' := [.int (x1)]) rfl ?_
    refine T_b1t xr_183_1 c1 (t := 17) rfl ?_
    refine T_p xr_183_17 xn_183 (pc' := 18) (ls' := [(0, .ref 530), (1, .int (x1)), (2, .int (x2))]) (st' := [.long 0]) rfl ?_
    refine T_lret xr_183_18 xf_183.2.2 rfl ?_
    show X_T (6, xs) 203 (401, [(3, .int 0), (2, .ref 530), (1, .ref 1), (0, .ref 0)], [.long 0, .long 0], S0) _
    refine T_p xr_203_401 xn_203 (pc' := 402) (ls' := [(3, .int 0), (2, .ref 530), (1, .ref 1), (0, .ref 0)]) (st' := [.int 0]) rfl ?_
    refine T_b1t xr_203_402 rfl (t := 588) rfl ?_
    refine T_p xr_203_588 xn_203 (pc' := 591) (ls' := [(3, .int 6), (2, .ref 530), (1, .ref 1), (0, .ref 0)]) (st' := []) rfl ?_
    refine T_p xr_203_591 xn_203 (pc' := 18) (ls' := [(3, .int 6), (2, .ref 530), (1, .ref 1), (0, .ref 0)]) (st' := []) rfl ?_
    refine T_p xr_203_18 xn_203 (pc' := 19) (ls' := [(3, .int 6), (2, .ref 530), (1, .ref 1), (0, .ref 0)]) (st' := [.int 6]) rfl ?_
    refine T_p xr_203_19 xn_203 (pc' := 20) (ls' := [(3, .int 6), (2, .ref 530), (1, .ref 1), (0, .ref 0)]) (st' := [.ref 0, .int 6]) rfl ?_
    refine T_slen xr_203_20 (x := 6) rfl (pc' := 21) rfl ?_
    refine T_p xr_203_21 xn_203 (pc' := 23) (ls' := [(3, .int 6), (2, .ref 530), (1, .ref 1), (0, .ref 0)]) (st' := [.int 6, .int 6, .int 6]) rfl ?_
    refine T_p xr_203_23 xn_203 (pc' := 24) (ls' := [(3, .int 6), (2, .ref 530), (1, .ref 1), (0, .ref 0)]) (st' := [.int 0, .int 6]) rfl ?_
    refine T_b2t xr_203_24 rfl (t := 594) rfl ?_
    refine T_p xr_203_594 xn_203 (pc' := 595) (ls' := [(3, .int 6), (2, .ref 530), (1, .ref 1), (0, .ref 0)]) (st' := [.int 1]) rfl ?_
    exact T_iret xr_203_595 xf_203.2.2 rfl ⟨rfl, hS2⟩
  · skip
    refine T_p xr_122_4 xn_122 (pc' := 5) (ls' := [(0, .ref 1), (1, .int (x1)), (2, .int (x2))]) (st' := [.int (x2)]) rfl ?_
    refine T_p xr_122_5 xn_122 (pc' := 6) (ls' := [(0, .ref 1), (1, .int (x1)), (2, .int (x2))]) (st' := [.ref 1, .int (x2)]) rfl ?_
    refine T_get xr_122_6 w1 rfl (v := .ref 501) rfl (pc' := 9) rfl ?_
    refine T_get xr_122_9 w501 rfl (v := .int 0) rfl (pc' := 12) rfl ?_
    refine T_b2 xr_122_12 (t := 20) (pc' := 15) rfl rfl (fun c2 => ?_) (fun c2 => ?_)
    · skip
      have c3 : X_cd .lt 0 x2 = true := by rw [X_cd_gt] at c2; simpa using c2
      refine T_p xr_122_20 xn_122 (pc' := 21) (ls' := [(0, .ref 1), (1, .int (x1)), (2, .int (x2))]) (st' := [.long 0]) rfl ?_
      refine T_lret xr_122_21 xf_122.2.2 rfl ?_
      show X_T (6, xs) 203 (387, [(3, .int 0), (2, .ref 530), (1, .ref 1), (0, .ref 0)], [.long 0], S0) _
      refine T_p xr_203_387 xn_203 (pc' := 388) (ls' := [(3, .int 0), (2, .ref 530), (1, .ref 1), (0, .ref 0)]) (st' := [.ref 530, .long 0]) rfl ?_
      refine T_p xr_203_388 xn_203 (pc' := 389) (ls' := [(3, .int 0), (2, .ref 530), (1, .ref 1), (0, .ref 0)]) (st' := [.ref 0, .ref 530, .long 0]) rfl ?_
      refine T_p xr_203_389 xn_203 (pc' := 390) (ls' := [(3, .int 0), (2, .ref 530), (1, .ref 1), (0, .ref 0)]) (st' := [.int 0, .ref 0, .ref 530, .long 0]) rfl ?_
      refine T_p xr_203_390 xn_203 (pc' := 391) (ls' := [(3, .int 0), (2, .ref 530), (1, .ref 1), (0, .ref 0)]) (st' := [.int 1, .int 0, .ref 0, .ref 530, .long 0]) rfl ?_
      refine T_p xr_203_391 xn_203 (pc' := 392) (ls' := [(3, .int 0), (2, .ref 530), (1, .ref 1), (0, .ref 0)]) (st' := [.int 1, .ref 0, .ref 530, .long 0]) rfl ?_
      refine T_sald xr_203_392 (show ¬ ((1 : Int32) < 0 ∨ 6 ≤ (1 : Int32).toNatClampNeg) by decide) (x := x1) g1 (pc' := 393) rfl ?_
      refine T_p xr_203_393 xn_203 (pc' := 394) (ls' := [(3, .int 0), (2, .ref 530), (1, .ref 1), (0, .ref 0)]) (st' := [.ref 0, .int (x1), .ref 530, .long 0]) rfl ?_
      refine T_p xr_203_394 xn_203 (pc' := 395) (ls' := [(3, .int 0), (2, .ref 530), (1, .ref 1), (0, .ref 0)]) (st' := [.int 0, .ref 0, .int (x1), .ref 530, .long 0]) rfl ?_
      refine T_p xr_203_395 xn_203 (pc' := 396) (ls' := [(3, .int 0), (2, .ref 530), (1, .ref 1), (0, .ref 0)]) (st' := [.int 2, .int 0, .ref 0, .int (x1), .ref 530, .long 0]) rfl ?_
      refine T_p xr_203_396 xn_203 (pc' := 397) (ls' := [(3, .int 0), (2, .ref 530), (1, .ref 1), (0, .ref 0)]) (st' := [.int 2, .ref 0, .int (x1), .ref 530, .long 0]) rfl ?_
      refine T_sald xr_203_397 (show ¬ ((2 : Int32) < 0 ∨ 6 ≤ (2 : Int32).toNatClampNeg) by decide) (x := x2) g2 (pc' := 398) rfl ?_
      refine T_cv (S := S0) (q := 530) xr_203_398 xf_183.1 xf_183.2.1 xn_183 (as := [.int (x1), .int (x2)]) (r := [.long 0]) rfl w530 (by simp [Value.category]) (by simp [Value.category]) (pc' := 401) rfl (ls' := [(0, .ref 530), (1, .int (x1)), (2, .int (x2))]) rfl ?_
      refine T_p xr_183_0 xn_183 (pc' := 1) (ls' := [(0, .ref 530), (1, .int (x1)), (2, .int (x2))]) (st' := [.int (x1)]) rfl ?_
      refine T_b1f xr_183_1 c1 (t := 17) (pc' := 4) rfl rfl ?_
      refine T_p xr_183_4 xn_183 (pc' := 5) (ls' := [(0, .ref 530), (1, .int (x1)), (2, .int (x2))]) (st' := [.int (x2)]) rfl ?_
      refine T_p xr_183_5 xn_183 (pc' := 6) (ls' := [(0, .ref 530), (1, .int (x1)), (2, .int (x2))]) (st' := [.ref 530, .int (x2)]) rfl ?_
      refine T_get xr_183_6 w530 rfl (v := .int 0) rfl (pc' := 9) rfl ?_
      refine T_b2t xr_183_9 (by rw [X_cd_gt, c3]) (t := 17) rfl ?_
      refine T_p xr_183_17 xn_183 (pc' := 18) (ls' := [(0, .ref 530), (1, .int (x1)), (2, .int (x2))]) (st' := [.long 0]) rfl ?_
      refine T_lret xr_183_18 xf_183.2.2 rfl ?_
      show X_T (6, xs) 203 (401, [(3, .int 0), (2, .ref 530), (1, .ref 1), (0, .ref 0)], [.long 0, .long 0], S0) _
      refine T_p xr_203_401 xn_203 (pc' := 402) (ls' := [(3, .int 0), (2, .ref 530), (1, .ref 1), (0, .ref 0)]) (st' := [.int 0]) rfl ?_
      refine T_b1t xr_203_402 rfl (t := 588) rfl ?_
      refine T_p xr_203_588 xn_203 (pc' := 591) (ls' := [(3, .int 6), (2, .ref 530), (1, .ref 1), (0, .ref 0)]) (st' := []) rfl ?_
      refine T_p xr_203_591 xn_203 (pc' := 18) (ls' := [(3, .int 6), (2, .ref 530), (1, .ref 1), (0, .ref 0)]) (st' := []) rfl ?_
      refine T_p xr_203_18 xn_203 (pc' := 19) (ls' := [(3, .int 6), (2, .ref 530), (1, .ref 1), (0, .ref 0)]) (st' := [.int 6]) rfl ?_
      refine T_p xr_203_19 xn_203 (pc' := 20) (ls' := [(3, .int 6), (2, .ref 530), (1, .ref 1), (0, .ref 0)]) (st' := [.ref 0, .int 6]) rfl ?_
      refine T_slen xr_203_20 (x := 6) rfl (pc' := 21) rfl ?_
      refine T_p xr_203_21 xn_203 (pc' := 23) (ls' := [(3, .int 6), (2, .ref 530), (1, .ref 1), (0, .ref 0)]) (st' := [.int 6, .int 6, .int 6]) rfl ?_
      refine T_p xr_203_23 xn_203 (pc' := 24) (ls' := [(3, .int 6), (2, .ref 530), (1, .ref 1), (0, .ref 0)]) (st' := [.int 0, .int 6]) rfl ?_
      refine T_b2t xr_203_24 rfl (t := 594) rfl ?_
      refine T_p xr_203_594 xn_203 (pc' := 595) (ls' := [(3, .int 6), (2, .ref 530), (1, .ref 1), (0, .ref 0)]) (st' := [.int 1]) rfl ?_
      exact T_iret xr_203_595 xf_203.2.2 rfl ⟨rfl, hS2⟩
    · skip
      have c4 : X_cd .lt 0 x2 = false := by rw [X_cd_gt] at c2; simpa using c2
      refine T_p xr_122_15 xn_122 (pc' := 16) (ls' := [(0, .ref 1), (1, .int (x1)), (2, .int (x2))]) (st' := [.int (x1)]) rfl ?_
      refine T_p xr_122_16 xn_122 (pc' := 17) (ls' := [(0, .ref 1), (1, .int (x1)), (2, .int (x2))]) (st' := [.int (x2), .int (x1)]) rfl ?_
      have c5 := X_lt_tr c1 c4
      refine T_b2f xr_122_17 c5 (t := 22) (pc' := 20) rfl rfl ?_
      refine T_p xr_122_20 xn_122 (pc' := 21) (ls' := [(0, .ref 1), (1, .int (x1)), (2, .int (x2))]) (st' := [.long 0]) rfl ?_
      refine T_lret xr_122_21 xf_122.2.2 rfl ?_
      show X_T (6, xs) 203 (387, [(3, .int 0), (2, .ref 530), (1, .ref 1), (0, .ref 0)], [.long 0], S0) _
      refine T_p xr_203_387 xn_203 (pc' := 388) (ls' := [(3, .int 0), (2, .ref 530), (1, .ref 1), (0, .ref 0)]) (st' := [.ref 530, .long 0]) rfl ?_
      refine T_p xr_203_388 xn_203 (pc' := 389) (ls' := [(3, .int 0), (2, .ref 530), (1, .ref 1), (0, .ref 0)]) (st' := [.ref 0, .ref 530, .long 0]) rfl ?_
      refine T_p xr_203_389 xn_203 (pc' := 390) (ls' := [(3, .int 0), (2, .ref 530), (1, .ref 1), (0, .ref 0)]) (st' := [.int 0, .ref 0, .ref 530, .long 0]) rfl ?_
      refine T_p xr_203_390 xn_203 (pc' := 391) (ls' := [(3, .int 0), (2, .ref 530), (1, .ref 1), (0, .ref 0)]) (st' := [.int 1, .int 0, .ref 0, .ref 530, .long 0]) rfl ?_
      refine T_p xr_203_391 xn_203 (pc' := 392) (ls' := [(3, .int 0), (2, .ref 530), (1, .ref 1), (0, .ref 0)]) (st' := [.int 1, .ref 0, .ref 530, .long 0]) rfl ?_
      refine T_sald xr_203_392 (show ¬ ((1 : Int32) < 0 ∨ 6 ≤ (1 : Int32).toNatClampNeg) by decide) (x := x1) g1 (pc' := 393) rfl ?_
      refine T_p xr_203_393 xn_203 (pc' := 394) (ls' := [(3, .int 0), (2, .ref 530), (1, .ref 1), (0, .ref 0)]) (st' := [.ref 0, .int (x1), .ref 530, .long 0]) rfl ?_
      refine T_p xr_203_394 xn_203 (pc' := 395) (ls' := [(3, .int 0), (2, .ref 530), (1, .ref 1), (0, .ref 0)]) (st' := [.int 0, .ref 0, .int (x1), .ref 530, .long 0]) rfl ?_
      refine T_p xr_203_395 xn_203 (pc' := 396) (ls' := [(3, .int 0), (2, .ref 530), (1, .ref 1), (0, .ref 0)]) (st' := [.int 2, .int 0, .ref 0, .int (x1), .ref 530, .long 0]) rfl ?_
      refine T_p xr_203_396 xn_203 (pc' := 397) (ls' := [(3, .int 0), (2, .ref 530), (1, .ref 1), (0, .ref 0)]) (st' := [.int 2, .ref 0, .int (x1), .ref 530, .long 0]) rfl ?_
      refine T_sald xr_203_397 (show ¬ ((2 : Int32) < 0 ∨ 6 ≤ (2 : Int32).toNatClampNeg) by decide) (x := x2) g2 (pc' := 398) rfl ?_
      refine T_cv (S := S0) (q := 530) xr_203_398 xf_183.1 xf_183.2.1 xn_183 (as := [.int (x1), .int (x2)]) (r := [.long 0]) rfl w530 (by simp [Value.category]) (by simp [Value.category]) (pc' := 401) rfl (ls' := [(0, .ref 530), (1, .int (x1)), (2, .int (x2))]) rfl ?_
      refine T_p xr_183_0 xn_183 (pc' := 1) (ls' := [(0, .ref 530), (1, .int (x1)), (2, .int (x2))]) (st' := [.int (x1)]) rfl ?_
      refine T_b1f xr_183_1 c1 (t := 17) (pc' := 4) rfl rfl ?_
      refine T_p xr_183_4 xn_183 (pc' := 5) (ls' := [(0, .ref 530), (1, .int (x1)), (2, .int (x2))]) (st' := [.int (x2)]) rfl ?_
      refine T_p xr_183_5 xn_183 (pc' := 6) (ls' := [(0, .ref 530), (1, .int (x1)), (2, .int (x2))]) (st' := [.ref 530, .int (x2)]) rfl ?_
      refine T_get xr_183_6 w530 rfl (v := .int 0) rfl (pc' := 9) rfl ?_
      refine T_b2f xr_183_9 (by rw [X_cd_gt, c4]) (t := 17) (pc' := 12) rfl rfl ?_
      refine T_p xr_183_12 xn_183 (pc' := 13) (ls' := [(0, .ref 530), (1, .int (x1)), (2, .int (x2))]) (st' := [.int (x1)]) rfl ?_
      refine T_p xr_183_13 xn_183 (pc' := 14) (ls' := [(0, .ref 530), (1, .int (x1)), (2, .int (x2))]) (st' := [.int (x2), .int (x1)]) rfl ?_
      refine T_b2f xr_183_14 c5 (t := 19) (pc' := 17) rfl rfl ?_
      refine T_p xr_183_17 xn_183 (pc' := 18) (ls' := [(0, .ref 530), (1, .int (x1)), (2, .int (x2))]) (st' := [.long 0]) rfl ?_
      refine T_lret xr_183_18 xf_183.2.2 rfl ?_
      show X_T (6, xs) 203 (401, [(3, .int 0), (2, .ref 530), (1, .ref 1), (0, .ref 0)], [.long 0, .long 0], S0) _
      refine T_p xr_203_401 xn_203 (pc' := 402) (ls' := [(3, .int 0), (2, .ref 530), (1, .ref 1), (0, .ref 0)]) (st' := [.int 0]) rfl ?_
      refine T_b1t xr_203_402 rfl (t := 588) rfl ?_
      refine T_p xr_203_588 xn_203 (pc' := 591) (ls' := [(3, .int 6), (2, .ref 530), (1, .ref 1), (0, .ref 0)]) (st' := []) rfl ?_
      refine T_p xr_203_591 xn_203 (pc' := 18) (ls' := [(3, .int 6), (2, .ref 530), (1, .ref 1), (0, .ref 0)]) (st' := []) rfl ?_
      refine T_p xr_203_18 xn_203 (pc' := 19) (ls' := [(3, .int 6), (2, .ref 530), (1, .ref 1), (0, .ref 0)]) (st' := [.int 6]) rfl ?_
      refine T_p xr_203_19 xn_203 (pc' := 20) (ls' := [(3, .int 6), (2, .ref 530), (1, .ref 1), (0, .ref 0)]) (st' := [.ref 0, .int 6]) rfl ?_
      refine T_slen xr_203_20 (x := 6) rfl (pc' := 21) rfl ?_
      refine T_p xr_203_21 xn_203 (pc' := 23) (ls' := [(3, .int 6), (2, .ref 530), (1, .ref 1), (0, .ref 0)]) (st' := [.int 6, .int 6, .int 6]) rfl ?_
      refine T_p xr_203_23 xn_203 (pc' := 24) (ls' := [(3, .int 6), (2, .ref 530), (1, .ref 1), (0, .ref 0)]) (st' := [.int 0, .int 6]) rfl ?_
      refine T_b2t xr_203_24 rfl (t := 594) rfl ?_
      refine T_p xr_203_594 xn_203 (pc' := 595) (ls' := [(3, .int 6), (2, .ref 530), (1, .ref 1), (0, .ref 0)]) (st' := [.int 1]) rfl ?_
      exact T_iret xr_203_595 xf_203.2.2 rfl ⟨rfl, hS2⟩
theorem X_op9 (xs : Nat → Int32) : X_T (6, xs) 203 (373, [(3, .int 0), (2, .ref 530), (1, .ref 1), (0, .ref 0)], [], X_Sb) (fun v S => v = some (.int 1) ∧ S.2 = (580, 263990)) := by
  exact X_opx9 xs _ _ rfl rfl X_Sb X_Sb2 X_fo1 X_fo501 X_fo530
theorem X_op10 (xs : Nat → Int32) : X_T (6, xs) 203 (407, [(3, .int 0), (2, .ref 530), (1, .ref 1), (0, .ref 0)], [], X_Sb) (fun v S => v = some (.int 1) ∧ S.2 = (580, 263990)) := by
  refine T_p xr_203_407 xn_203 (pc' := 408) (ls' := [(3, .int 0), (2, .ref 530), (1, .ref 1), (0, .ref 0)]) (st' := [.ref 1]) rfl ?_
  refine T_cv (S := X_Sb) (q := 1) xr_203_408 xf_123.1 xf_123.2.1 xn_123 (as := []) (r := []) rfl X_fo1 (by simp [Value.category]) (by simp [Value.category]) (pc' := 411) rfl (ls' := [(0, .ref 1)]) rfl ?_
  refine T_sc (by decide) ⟨_, _, _, (X_out_eq X_E10a).1, ?_⟩
  show X_T (6, xs) 203 (411, [(3, .int 0), (2, .ref 530), (1, .ref 1), (0, .ref 0)], [.int (-1)], (X_out X_R10a)) _
  refine T_p xr_203_411 xn_203 (pc' := 412) (ls' := [(3, .int 0), (2, .ref 530), (1, .ref 1), (0, .ref 0)]) (st' := [.ref 530, .int (-1)]) rfl ?_
  obtain ⟨fm, hm⟩ : ∃ fm, (X_out X_R10a).1 530 = .inr (11, fm) := X_ob_ex X_E10o X_E10c
  refine T_cv (S := (X_out X_R10a)) (q := 530) xr_203_412 xf_184.1 xf_184.2.1 xn_184 (as := []) (r := [.int (-1)]) rfl hm (by simp [Value.category]) (by simp [Value.category]) (pc' := 415) rfl (ls' := [(0, .ref 530)]) rfl ?_
  refine T_sc (by decide) ⟨_, _, _, (X_out_eq X_E10b).1, ?_⟩
  show X_T (6, xs) 203 (415, [(3, .int 0), (2, .ref 530), (1, .ref 1), (0, .ref 0)], [.int (-1), .int (-1)], (X_out X_R10b)) _
  refine T_b2t xr_203_415 rfl (t := 588) rfl ?_
  refine T_p xr_203_588 xn_203 (pc' := 591) (ls' := [(3, .int 6), (2, .ref 530), (1, .ref 1), (0, .ref 0)]) (st' := []) rfl ?_
  refine T_p xr_203_591 xn_203 (pc' := 18) (ls' := [(3, .int 6), (2, .ref 530), (1, .ref 1), (0, .ref 0)]) (st' := []) rfl ?_
  refine T_p xr_203_18 xn_203 (pc' := 19) (ls' := [(3, .int 6), (2, .ref 530), (1, .ref 1), (0, .ref 0)]) (st' := [.int 6]) rfl ?_
  refine T_p xr_203_19 xn_203 (pc' := 20) (ls' := [(3, .int 6), (2, .ref 530), (1, .ref 1), (0, .ref 0)]) (st' := [.ref 0, .int 6]) rfl ?_
  refine T_slen xr_203_20 (x := 6) rfl (pc' := 21) rfl ?_
  refine T_p xr_203_21 xn_203 (pc' := 23) (ls' := [(3, .int 6), (2, .ref 530), (1, .ref 1), (0, .ref 0)]) (st' := [.int 6, .int 6, .int 6]) rfl ?_
  refine T_p xr_203_23 xn_203 (pc' := 24) (ls' := [(3, .int 6), (2, .ref 530), (1, .ref 1), (0, .ref 0)]) (st' := [.int 0, .int 6]) rfl ?_
  refine T_b2t xr_203_24 rfl (t := 594) rfl ?_
  refine T_p xr_203_594 xn_203 (pc' := 595) (ls' := [(3, .int 6), (2, .ref 530), (1, .ref 1), (0, .ref 0)]) (st' := [.int 1]) rfl ?_
  exact T_iret xr_203_595 xf_203.2.2 rfl ⟨rfl, (X_out_eq X_E10b).2⟩
theorem X_opx11 (xs : Nat → Int32) (x1 x2 : Int32) (g1 : xs 1 = x1) (g2 : xs 2 = x2) (S0 : X_S) (hS2 : S0.2 = (580, 263990)) (w1 : S0.1 1 = .inr (10, [.ref 2, .ref 4, .ref 250, .ref 496, .ref 501, .ref 504, .ref 511, .ref 517, .ref 527])) (w501 : S0.1 501 = .inr (6, [.int 0, .ref 502, .ref 503])) (w530 : S0.1 530 = .inr (11, [.ref 531, .int 0, .ref 532, .int 0, .int 0, .int 0, .int (-1), .int 0, .int 0, .int 0, .int 0, .int 0, .long 0, .ref 533, .ref 534, .ref 535, .ref 536, .ref 537, .ref 538, .ref 539, .ref 540, .ref 541, .ref 542, .ref 543, .ref 544, .ref 545, .ref 546, .ref 547, .int 0, .int 1, .int 0, .int 0, .int 1, .int 0, .ref 548, .ref 549, .ref 550, .ref 551, .int 0, .ref 552, .ref 553, .ref 554, .ref 555, .ref 556, .ref 557, .ref 558, .ref 559, .ref 560, .ref 561, .int 0, .ref 562, .ref 563, .ref 564, .ref 565, .ref 566, .ref 567, .ref 568, .ref 569, .int 0, .ref 570, .ref 571, .ref 572, .ref 573, .ref 574, .ref 575, .ref 576, .ref 577, .ref 578, .int 0, .int 0, .int 0, .ref 579])) : X_T (6, xs) 203 (420, [(3, .int 0), (2, .ref 530), (1, .ref 1), (0, .ref 0)], [], S0) (fun v S => v = some (.int 1) ∧ S.2 = (580, 263990)) := by
  refine T_p xr_203_420 xn_203 (pc' := 421) (ls' := [(3, .int 0), (2, .ref 530), (1, .ref 1), (0, .ref 0)]) (st' := [.ref 1]) rfl ?_
  refine T_p xr_203_421 xn_203 (pc' := 422) (ls' := [(3, .int 0), (2, .ref 530), (1, .ref 1), (0, .ref 0)]) (st' := [.ref 0, .ref 1]) rfl ?_
  refine T_p xr_203_422 xn_203 (pc' := 423) (ls' := [(3, .int 0), (2, .ref 530), (1, .ref 1), (0, .ref 0)]) (st' := [.int 0, .ref 0, .ref 1]) rfl ?_
  refine T_p xr_203_423 xn_203 (pc' := 424) (ls' := [(3, .int 0), (2, .ref 530), (1, .ref 1), (0, .ref 0)]) (st' := [.int 1, .int 0, .ref 0, .ref 1]) rfl ?_
  refine T_p xr_203_424 xn_203 (pc' := 425) (ls' := [(3, .int 0), (2, .ref 530), (1, .ref 1), (0, .ref 0)]) (st' := [.int 1, .ref 0, .ref 1]) rfl ?_
  refine T_sald xr_203_425 (show ¬ ((1 : Int32) < 0 ∨ 6 ≤ (1 : Int32).toNatClampNeg) by decide) (x := x1) g1 (pc' := 426) rfl ?_
  refine T_p xr_203_426 xn_203 (pc' := 427) (ls' := [(3, .int 0), (2, .ref 530), (1, .ref 1), (0, .ref 0)]) (st' := [.long ((x1).toInt64), .ref 1]) rfl ?_
  refine T_p xr_203_427 xn_203 (pc' := 429) (ls' := [(3, .int 0), (2, .ref 530), (1, .ref 1), (0, .ref 0)]) (st' := [.int 32, .long ((x1).toInt64), .ref 1]) rfl ?_
  refine T_p xr_203_429 xn_203 (pc' := 430) (ls' := [(3, .int 0), (2, .ref 530), (1, .ref 1), (0, .ref 0)]) (st' := [.long ((((x1).toInt64 : Int64) <<< ((32 : Int32).toInt64 &&& 63))), .ref 1]) rfl ?_
  refine T_p xr_203_430 xn_203 (pc' := 431) (ls' := [(3, .int 0), (2, .ref 530), (1, .ref 1), (0, .ref 0)]) (st' := [.ref 0, .long ((((x1).toInt64 : Int64) <<< ((32 : Int32).toInt64 &&& 63))), .ref 1]) rfl ?_
  refine T_p xr_203_431 xn_203 (pc' := 432) (ls' := [(3, .int 0), (2, .ref 530), (1, .ref 1), (0, .ref 0)]) (st' := [.int 0, .ref 0, .long ((((x1).toInt64 : Int64) <<< ((32 : Int32).toInt64 &&& 63))), .ref 1]) rfl ?_
  refine T_p xr_203_432 xn_203 (pc' := 433) (ls' := [(3, .int 0), (2, .ref 530), (1, .ref 1), (0, .ref 0)]) (st' := [.int 2, .int 0, .ref 0, .long ((((x1).toInt64 : Int64) <<< ((32 : Int32).toInt64 &&& 63))), .ref 1]) rfl ?_
  refine T_p xr_203_433 xn_203 (pc' := 434) (ls' := [(3, .int 0), (2, .ref 530), (1, .ref 1), (0, .ref 0)]) (st' := [.int 2, .ref 0, .long ((((x1).toInt64 : Int64) <<< ((32 : Int32).toInt64 &&& 63))), .ref 1]) rfl ?_
  refine T_sald xr_203_434 (show ¬ ((2 : Int32) < 0 ∨ 6 ≤ (2 : Int32).toNatClampNeg) by decide) (x := x2) g2 (pc' := 435) rfl ?_
  refine T_p xr_203_435 xn_203 (pc' := 436) (ls' := [(3, .int 0), (2, .ref 530), (1, .ref 1), (0, .ref 0)]) (st' := [.long ((x2).toInt64), .long ((((x1).toInt64 : Int64) <<< ((32 : Int32).toInt64 &&& 63))), .ref 1]) rfl ?_
  refine T_p xr_203_436 xn_203 (pc' := 439) (ls' := [(3, .int 0), (2, .ref 530), (1, .ref 1), (0, .ref 0)]) (st' := [.long 4294967295, .long ((x2).toInt64), .long ((((x1).toInt64 : Int64) <<< ((32 : Int32).toInt64 &&& 63))), .ref 1]) rfl ?_
  refine T_p xr_203_439 xn_203 (pc' := 440) (ls' := [(3, .int 0), (2, .ref 530), (1, .ref 1), (0, .ref 0)]) (st' := [.long ((((x2).toInt64 : Int64) &&& 4294967295)), .long ((((x1).toInt64 : Int64) <<< ((32 : Int32).toInt64 &&& 63))), .ref 1]) rfl ?_
  refine T_p xr_203_440 xn_203 (pc' := 441) (ls' := [(3, .int 0), (2, .ref 530), (1, .ref 1), (0, .ref 0)]) (st' := [.long ((((((x1).toInt64 : Int64) <<< ((32 : Int32).toInt64 &&& 63)) : Int64) ||| (((x2).toInt64 : Int64) &&& 4294967295))), .ref 1]) rfl ?_
  refine T_cv (S := S0) (q := 1) xr_203_441 xf_124.1 xf_124.2.1 xn_124 (as := [.long ((((((x1).toInt64 : Int64) <<< ((32 : Int32).toInt64 &&& 63)) : Int64) ||| (((x2).toInt64 : Int64) &&& 4294967295)))]) (r := []) rfl w1 (by simp [Value.category]) (by simp [Value.category]) (pc' := 444) rfl (ls' := [(0, .ref 1), (1, .long ((((((x1).toInt64 : Int64) <<< ((32 : Int32).toInt64 &&& 63)) : Int64) ||| (((x2).toInt64 : Int64) &&& 4294967295))))]) rfl ?_
  refine T_p xr_124_0 xn_124 (pc' := 1) (ls' := [(0, .ref 1), (1, .long ((((((x1).toInt64 : Int64) <<< ((32 : Int32).toInt64 &&& 63)) : Int64) ||| (((x2).toInt64 : Int64) &&& 4294967295))))]) (st' := [.long ((((((x1).toInt64 : Int64) <<< ((32 : Int32).toInt64 &&& 63)) : Int64) ||| (((x2).toInt64 : Int64) &&& 4294967295)))]) rfl ?_
  refine T_p xr_124_1 xn_124 (pc' := 2) (ls' := [(0, .ref 1), (1, .long ((((((x1).toInt64 : Int64) <<< ((32 : Int32).toInt64 &&& 63)) : Int64) ||| (((x2).toInt64 : Int64) &&& 4294967295))))]) (st' := [.long 0, .long ((((((x1).toInt64 : Int64) <<< ((32 : Int32).toInt64 &&& 63)) : Int64) ||| (((x2).toInt64 : Int64) &&& 4294967295)))]) rfl ?_
  refine T_p xr_124_2 xn_124 (pc' := 3) (ls' := [(0, .ref 1), (1, .long ((((((x1).toInt64 : Int64) <<< ((32 : Int32).toInt64 &&& 63)) : Int64) ||| (((x2).toInt64 : Int64) &&& 4294967295))))]) (st' := [.int ((lg_cmp (((((x1).toInt64 : Int64) <<< ((32 : Int32).toInt64 &&& 63)) : Int64) ||| (((x2).toInt64 : Int64) &&& 4294967295)) 0))]) rfl ?_
  refine T_b1 xr_124_3 (t := 16) (pc' := 6) rfl rfl (fun c1 => ?_) (fun c1 => ?_)
  · skip
    refine T_p xr_124_16 xn_124 (pc' := 17) (ls' := [(0, .ref 1), (1, .long ((((((x1).toInt64 : Int64) <<< ((32 : Int32).toInt64 &&& 63)) : Int64) ||| (((x2).toInt64 : Int64) &&& 4294967295))))]) (st' := [.int (-1)]) rfl ?_
    refine T_iret xr_124_17 xf_124.2.2 rfl ?_
    show X_T (6, xs) 203 (444, [(3, .int 0), (2, .ref 530), (1, .ref 1), (0, .ref 0)], [.int (-1)], S0) _
    refine T_p xr_203_444 xn_203 (pc' := 445) (ls' := [(3, .int 0), (2, .ref 530), (1, .ref 1), (0, .ref 0)]) (st' := [.ref 530, .int (-1)]) rfl ?_
    refine T_p xr_203_445 xn_203 (pc' := 446) (ls' := [(3, .int 0), (2, .ref 530), (1, .ref 1), (0, .ref 0)]) (st' := [.ref 0, .ref 530, .int (-1)]) rfl ?_
    refine T_p xr_203_446 xn_203 (pc' := 447) (ls' := [(3, .int 0), (2, .ref 530), (1, .ref 1), (0, .ref 0)]) (st' := [.int 0, .ref 0, .ref 530, .int (-1)]) rfl ?_
    refine T_p xr_203_447 xn_203 (pc' := 448) (ls' := [(3, .int 0), (2, .ref 530), (1, .ref 1), (0, .ref 0)]) (st' := [.int 1, .int 0, .ref 0, .ref 530, .int (-1)]) rfl ?_
    refine T_p xr_203_448 xn_203 (pc' := 449) (ls' := [(3, .int 0), (2, .ref 530), (1, .ref 1), (0, .ref 0)]) (st' := [.int 1, .ref 0, .ref 530, .int (-1)]) rfl ?_
    refine T_sald xr_203_449 (show ¬ ((1 : Int32) < 0 ∨ 6 ≤ (1 : Int32).toNatClampNeg) by decide) (x := x1) g1 (pc' := 450) rfl ?_
    refine T_p xr_203_450 xn_203 (pc' := 451) (ls' := [(3, .int 0), (2, .ref 530), (1, .ref 1), (0, .ref 0)]) (st' := [.long ((x1).toInt64), .ref 530, .int (-1)]) rfl ?_
    refine T_p xr_203_451 xn_203 (pc' := 453) (ls' := [(3, .int 0), (2, .ref 530), (1, .ref 1), (0, .ref 0)]) (st' := [.int 32, .long ((x1).toInt64), .ref 530, .int (-1)]) rfl ?_
    refine T_p xr_203_453 xn_203 (pc' := 454) (ls' := [(3, .int 0), (2, .ref 530), (1, .ref 1), (0, .ref 0)]) (st' := [.long ((((x1).toInt64 : Int64) <<< ((32 : Int32).toInt64 &&& 63))), .ref 530, .int (-1)]) rfl ?_
    refine T_p xr_203_454 xn_203 (pc' := 455) (ls' := [(3, .int 0), (2, .ref 530), (1, .ref 1), (0, .ref 0)]) (st' := [.ref 0, .long ((((x1).toInt64 : Int64) <<< ((32 : Int32).toInt64 &&& 63))), .ref 530, .int (-1)]) rfl ?_
    refine T_p xr_203_455 xn_203 (pc' := 456) (ls' := [(3, .int 0), (2, .ref 530), (1, .ref 1), (0, .ref 0)]) (st' := [.int 0, .ref 0, .long ((((x1).toInt64 : Int64) <<< ((32 : Int32).toInt64 &&& 63))), .ref 530, .int (-1)]) rfl ?_
    refine T_p xr_203_456 xn_203 (pc' := 457) (ls' := [(3, .int 0), (2, .ref 530), (1, .ref 1), (0, .ref 0)]) (st' := [.int 2, .int 0, .ref 0, .long ((((x1).toInt64 : Int64) <<< ((32 : Int32).toInt64 &&& 63))), .ref 530, .int (-1)]) rfl ?_
    refine T_p xr_203_457 xn_203 (pc' := 458) (ls' := [(3, .int 0), (2, .ref 530), (1, .ref 1), (0, .ref 0)]) (st' := [.int 2, .ref 0, .long ((((x1).toInt64 : Int64) <<< ((32 : Int32).toInt64 &&& 63))), .ref 530, .int (-1)]) rfl ?_
    refine T_sald xr_203_458 (show ¬ ((2 : Int32) < 0 ∨ 6 ≤ (2 : Int32).toNatClampNeg) by decide) (x := x2) g2 (pc' := 459) rfl ?_
    refine T_p xr_203_459 xn_203 (pc' := 460) (ls' := [(3, .int 0), (2, .ref 530), (1, .ref 1), (0, .ref 0)]) (st' := [.long ((x2).toInt64), .long ((((x1).toInt64 : Int64) <<< ((32 : Int32).toInt64 &&& 63))), .ref 530, .int (-1)]) rfl ?_
    refine T_p xr_203_460 xn_203 (pc' := 463) (ls' := [(3, .int 0), (2, .ref 530), (1, .ref 1), (0, .ref 0)]) (st' := [.long 4294967295, .long ((x2).toInt64), .long ((((x1).toInt64 : Int64) <<< ((32 : Int32).toInt64 &&& 63))), .ref 530, .int (-1)]) rfl ?_
    refine T_p xr_203_463 xn_203 (pc' := 464) (ls' := [(3, .int 0), (2, .ref 530), (1, .ref 1), (0, .ref 0)]) (st' := [.long ((((x2).toInt64 : Int64) &&& 4294967295)), .long ((((x1).toInt64 : Int64) <<< ((32 : Int32).toInt64 &&& 63))), .ref 530, .int (-1)]) rfl ?_
    refine T_p xr_203_464 xn_203 (pc' := 465) (ls' := [(3, .int 0), (2, .ref 530), (1, .ref 1), (0, .ref 0)]) (st' := [.long ((((((x1).toInt64 : Int64) <<< ((32 : Int32).toInt64 &&& 63)) : Int64) ||| (((x2).toInt64 : Int64) &&& 4294967295))), .ref 530, .int (-1)]) rfl ?_
    refine T_cv (S := S0) (q := 530) xr_203_465 xf_186.1 xf_186.2.1 xn_186 (as := [.long ((((((x1).toInt64 : Int64) <<< ((32 : Int32).toInt64 &&& 63)) : Int64) ||| (((x2).toInt64 : Int64) &&& 4294967295)))]) (r := [.int (-1)]) rfl w530 (by simp [Value.category]) (by simp [Value.category]) (pc' := 468) rfl (ls' := [(0, .ref 530), (1, .long ((((((x1).toInt64 : Int64) <<< ((32 : Int32).toInt64 &&& 63)) : Int64) ||| (((x2).toInt64 : Int64) &&& 4294967295))))]) rfl ?_
    refine T_p xr_186_0 xn_186 (pc' := 1) (ls' := [(0, .ref 530), (1, .long ((((((x1).toInt64 : Int64) <<< ((32 : Int32).toInt64 &&& 63)) : Int64) ||| (((x2).toInt64 : Int64) &&& 4294967295))))]) (st' := [.ref 530]) rfl ?_
    refine T_get xr_186_1 w530 rfl (v := .int 0) rfl (pc' := 4) rfl ?_
    refine T_b1f xr_186_4 rfl (t := 11) (pc' := 7) rfl rfl ?_
    refine T_p xr_186_7 xn_186 (pc' := 8) (ls' := [(0, .ref 530), (1, .long ((((((x1).toInt64 : Int64) <<< ((32 : Int32).toInt64 &&& 63)) : Int64) ||| (((x2).toInt64 : Int64) &&& 4294967295))))]) (st' := [.long 0]) rfl ?_
    refine T_p xr_186_8 xn_186 (pc' := 20) (ls' := [(0, .ref 530), (1, .long ((((((x1).toInt64 : Int64) <<< ((32 : Int32).toInt64 &&& 63)) : Int64) ||| (((x2).toInt64 : Int64) &&& 4294967295))))]) (st' := [.long 0]) rfl ?_
    refine T_p xr_186_20 xn_186 (pc' := 21) (ls' := [(3, .long 0), (0, .ref 530), (1, .long ((((((x1).toInt64 : Int64) <<< ((32 : Int32).toInt64 &&& 63)) : Int64) ||| (((x2).toInt64 : Int64) &&& 4294967295))))]) (st' := []) rfl ?_
    refine T_p xr_186_21 xn_186 (pc' := 22) (ls' := [(3, .long 0), (0, .ref 530), (1, .long ((((((x1).toInt64 : Int64) <<< ((32 : Int32).toInt64 &&& 63)) : Int64) ||| (((x2).toInt64 : Int64) &&& 4294967295))))]) (st' := [.long ((((((x1).toInt64 : Int64) <<< ((32 : Int32).toInt64 &&& 63)) : Int64) ||| (((x2).toInt64 : Int64) &&& 4294967295)))]) rfl ?_
    refine T_p xr_186_22 xn_186 (pc' := 23) (ls' := [(3, .long 0), (0, .ref 530), (1, .long ((((((x1).toInt64 : Int64) <<< ((32 : Int32).toInt64 &&& 63)) : Int64) ||| (((x2).toInt64 : Int64) &&& 4294967295))))]) (st' := [.long 0, .long ((((((x1).toInt64 : Int64) <<< ((32 : Int32).toInt64 &&& 63)) : Int64) ||| (((x2).toInt64 : Int64) &&& 4294967295)))]) rfl ?_
    refine T_p xr_186_23 xn_186 (pc' := 24) (ls' := [(3, .long 0), (0, .ref 530), (1, .long ((((((x1).toInt64 : Int64) <<< ((32 : Int32).toInt64 &&& 63)) : Int64) ||| (((x2).toInt64 : Int64) &&& 4294967295))))]) (st' := [.int ((lg_cmp (((((x1).toInt64 : Int64) <<< ((32 : Int32).toInt64 &&& 63)) : Int64) ||| (((x2).toInt64 : Int64) &&& 4294967295)) 0))]) rfl ?_
    refine T_b1t xr_186_24 c1 (t := 39) rfl ?_
    refine T_p xr_186_39 xn_186 (pc' := 40) (ls' := [(3, .long 0), (0, .ref 530), (1, .long ((((((x1).toInt64 : Int64) <<< ((32 : Int32).toInt64 &&& 63)) : Int64) ||| (((x2).toInt64 : Int64) &&& 4294967295))))]) (st' := [.int (-1)]) rfl ?_
    refine T_iret xr_186_40 xf_186.2.2 rfl ?_
    show X_T (6, xs) 203 (468, [(3, .int 0), (2, .ref 530), (1, .ref 1), (0, .ref 0)], [.int (-1), .int (-1)], S0) _
    refine T_b2t xr_203_468 rfl (t := 588) rfl ?_
    refine T_p xr_203_588 xn_203 (pc' := 591) (ls' := [(3, .int 6), (2, .ref 530), (1, .ref 1), (0, .ref 0)]) (st' := []) rfl ?_
    refine T_p xr_203_591 xn_203 (pc' := 18) (ls' := [(3, .int 6), (2, .ref 530), (1, .ref 1), (0, .ref 0)]) (st' := []) rfl ?_
    refine T_p xr_203_18 xn_203 (pc' := 19) (ls' := [(3, .int 6), (2, .ref 530), (1, .ref 1), (0, .ref 0)]) (st' := [.int 6]) rfl ?_
    refine T_p xr_203_19 xn_203 (pc' := 20) (ls' := [(3, .int 6), (2, .ref 530), (1, .ref 1), (0, .ref 0)]) (st' := [.ref 0, .int 6]) rfl ?_
    refine T_slen xr_203_20 (x := 6) rfl (pc' := 21) rfl ?_
    refine T_p xr_203_21 xn_203 (pc' := 23) (ls' := [(3, .int 6), (2, .ref 530), (1, .ref 1), (0, .ref 0)]) (st' := [.int 6, .int 6, .int 6]) rfl ?_
    refine T_p xr_203_23 xn_203 (pc' := 24) (ls' := [(3, .int 6), (2, .ref 530), (1, .ref 1), (0, .ref 0)]) (st' := [.int 0, .int 6]) rfl ?_
    refine T_b2t xr_203_24 rfl (t := 594) rfl ?_
    refine T_p xr_203_594 xn_203 (pc' := 595) (ls' := [(3, .int 6), (2, .ref 530), (1, .ref 1), (0, .ref 0)]) (st' := [.int 1]) rfl ?_
    exact T_iret xr_203_595 xf_203.2.2 rfl ⟨rfl, hS2⟩
  · skip
    refine T_p xr_124_6 xn_124 (pc' := 7) (ls' := [(0, .ref 1), (1, .long ((((((x1).toInt64 : Int64) <<< ((32 : Int32).toInt64 &&& 63)) : Int64) ||| (((x2).toInt64 : Int64) &&& 4294967295))))]) (st' := [.ref 1]) rfl ?_
    refine T_get xr_124_7 w1 rfl (v := .ref 501) rfl (pc' := 10) rfl ?_
    refine T_get xr_124_10 w501 rfl (v := .int 0) rfl (pc' := 13) rfl ?_
    refine T_b1f xr_124_13 rfl (t := 18) (pc' := 16) rfl rfl ?_
    refine T_p xr_124_16 xn_124 (pc' := 17) (ls' := [(0, .ref 1), (1, .long ((((((x1).toInt64 : Int64) <<< ((32 : Int32).toInt64 &&& 63)) : Int64) ||| (((x2).toInt64 : Int64) &&& 4294967295))))]) (st' := [.int (-1)]) rfl ?_
    refine T_iret xr_124_17 xf_124.2.2 rfl ?_
    show X_T (6, xs) 203 (444, [(3, .int 0), (2, .ref 530), (1, .ref 1), (0, .ref 0)], [.int (-1)], S0) _
    refine T_p xr_203_444 xn_203 (pc' := 445) (ls' := [(3, .int 0), (2, .ref 530), (1, .ref 1), (0, .ref 0)]) (st' := [.ref 530, .int (-1)]) rfl ?_
    refine T_p xr_203_445 xn_203 (pc' := 446) (ls' := [(3, .int 0), (2, .ref 530), (1, .ref 1), (0, .ref 0)]) (st' := [.ref 0, .ref 530, .int (-1)]) rfl ?_
    refine T_p xr_203_446 xn_203 (pc' := 447) (ls' := [(3, .int 0), (2, .ref 530), (1, .ref 1), (0, .ref 0)]) (st' := [.int 0, .ref 0, .ref 530, .int (-1)]) rfl ?_
    refine T_p xr_203_447 xn_203 (pc' := 448) (ls' := [(3, .int 0), (2, .ref 530), (1, .ref 1), (0, .ref 0)]) (st' := [.int 1, .int 0, .ref 0, .ref 530, .int (-1)]) rfl ?_
    refine T_p xr_203_448 xn_203 (pc' := 449) (ls' := [(3, .int 0), (2, .ref 530), (1, .ref 1), (0, .ref 0)]) (st' := [.int 1, .ref 0, .ref 530, .int (-1)]) rfl ?_
    refine T_sald xr_203_449 (show ¬ ((1 : Int32) < 0 ∨ 6 ≤ (1 : Int32).toNatClampNeg) by decide) (x := x1) g1 (pc' := 450) rfl ?_
    refine T_p xr_203_450 xn_203 (pc' := 451) (ls' := [(3, .int 0), (2, .ref 530), (1, .ref 1), (0, .ref 0)]) (st' := [.long ((x1).toInt64), .ref 530, .int (-1)]) rfl ?_
    refine T_p xr_203_451 xn_203 (pc' := 453) (ls' := [(3, .int 0), (2, .ref 530), (1, .ref 1), (0, .ref 0)]) (st' := [.int 32, .long ((x1).toInt64), .ref 530, .int (-1)]) rfl ?_
    refine T_p xr_203_453 xn_203 (pc' := 454) (ls' := [(3, .int 0), (2, .ref 530), (1, .ref 1), (0, .ref 0)]) (st' := [.long ((((x1).toInt64 : Int64) <<< ((32 : Int32).toInt64 &&& 63))), .ref 530, .int (-1)]) rfl ?_
    refine T_p xr_203_454 xn_203 (pc' := 455) (ls' := [(3, .int 0), (2, .ref 530), (1, .ref 1), (0, .ref 0)]) (st' := [.ref 0, .long ((((x1).toInt64 : Int64) <<< ((32 : Int32).toInt64 &&& 63))), .ref 530, .int (-1)]) rfl ?_
    refine T_p xr_203_455 xn_203 (pc' := 456) (ls' := [(3, .int 0), (2, .ref 530), (1, .ref 1), (0, .ref 0)]) (st' := [.int 0, .ref 0, .long ((((x1).toInt64 : Int64) <<< ((32 : Int32).toInt64 &&& 63))), .ref 530, .int (-1)]) rfl ?_
    refine T_p xr_203_456 xn_203 (pc' := 457) (ls' := [(3, .int 0), (2, .ref 530), (1, .ref 1), (0, .ref 0)]) (st' := [.int 2, .int 0, .ref 0, .long ((((x1).toInt64 : Int64) <<< ((32 : Int32).toInt64 &&& 63))), .ref 530, .int (-1)]) rfl ?_
    refine T_p xr_203_457 xn_203 (pc' := 458) (ls' := [(3, .int 0), (2, .ref 530), (1, .ref 1), (0, .ref 0)]) (st' := [.int 2, .ref 0, .long ((((x1).toInt64 : Int64) <<< ((32 : Int32).toInt64 &&& 63))), .ref 530, .int (-1)]) rfl ?_
    refine T_sald xr_203_458 (show ¬ ((2 : Int32) < 0 ∨ 6 ≤ (2 : Int32).toNatClampNeg) by decide) (x := x2) g2 (pc' := 459) rfl ?_
    refine T_p xr_203_459 xn_203 (pc' := 460) (ls' := [(3, .int 0), (2, .ref 530), (1, .ref 1), (0, .ref 0)]) (st' := [.long ((x2).toInt64), .long ((((x1).toInt64 : Int64) <<< ((32 : Int32).toInt64 &&& 63))), .ref 530, .int (-1)]) rfl ?_
    refine T_p xr_203_460 xn_203 (pc' := 463) (ls' := [(3, .int 0), (2, .ref 530), (1, .ref 1), (0, .ref 0)]) (st' := [.long 4294967295, .long ((x2).toInt64), .long ((((x1).toInt64 : Int64) <<< ((32 : Int32).toInt64 &&& 63))), .ref 530, .int (-1)]) rfl ?_
    refine T_p xr_203_463 xn_203 (pc' := 464) (ls' := [(3, .int 0), (2, .ref 530), (1, .ref 1), (0, .ref 0)]) (st' := [.long ((((x2).toInt64 : Int64) &&& 4294967295)), .long ((((x1).toInt64 : Int64) <<< ((32 : Int32).toInt64 &&& 63))), .ref 530, .int (-1)]) rfl ?_
    refine T_p xr_203_464 xn_203 (pc' := 465) (ls' := [(3, .int 0), (2, .ref 530), (1, .ref 1), (0, .ref 0)]) (st' := [.long ((((((x1).toInt64 : Int64) <<< ((32 : Int32).toInt64 &&& 63)) : Int64) ||| (((x2).toInt64 : Int64) &&& 4294967295))), .ref 530, .int (-1)]) rfl ?_
    refine T_cv (S := S0) (q := 530) xr_203_465 xf_186.1 xf_186.2.1 xn_186 (as := [.long ((((((x1).toInt64 : Int64) <<< ((32 : Int32).toInt64 &&& 63)) : Int64) ||| (((x2).toInt64 : Int64) &&& 4294967295)))]) (r := [.int (-1)]) rfl w530 (by simp [Value.category]) (by simp [Value.category]) (pc' := 468) rfl (ls' := [(0, .ref 530), (1, .long ((((((x1).toInt64 : Int64) <<< ((32 : Int32).toInt64 &&& 63)) : Int64) ||| (((x2).toInt64 : Int64) &&& 4294967295))))]) rfl ?_
    refine T_p xr_186_0 xn_186 (pc' := 1) (ls' := [(0, .ref 530), (1, .long ((((((x1).toInt64 : Int64) <<< ((32 : Int32).toInt64 &&& 63)) : Int64) ||| (((x2).toInt64 : Int64) &&& 4294967295))))]) (st' := [.ref 530]) rfl ?_
    refine T_get xr_186_1 w530 rfl (v := .int 0) rfl (pc' := 4) rfl ?_
    refine T_b1f xr_186_4 rfl (t := 11) (pc' := 7) rfl rfl ?_
    refine T_p xr_186_7 xn_186 (pc' := 8) (ls' := [(0, .ref 530), (1, .long ((((((x1).toInt64 : Int64) <<< ((32 : Int32).toInt64 &&& 63)) : Int64) ||| (((x2).toInt64 : Int64) &&& 4294967295))))]) (st' := [.long 0]) rfl ?_
    refine T_p xr_186_8 xn_186 (pc' := 20) (ls' := [(0, .ref 530), (1, .long ((((((x1).toInt64 : Int64) <<< ((32 : Int32).toInt64 &&& 63)) : Int64) ||| (((x2).toInt64 : Int64) &&& 4294967295))))]) (st' := [.long 0]) rfl ?_
    refine T_p xr_186_20 xn_186 (pc' := 21) (ls' := [(3, .long 0), (0, .ref 530), (1, .long ((((((x1).toInt64 : Int64) <<< ((32 : Int32).toInt64 &&& 63)) : Int64) ||| (((x2).toInt64 : Int64) &&& 4294967295))))]) (st' := []) rfl ?_
    refine T_p xr_186_21 xn_186 (pc' := 22) (ls' := [(3, .long 0), (0, .ref 530), (1, .long ((((((x1).toInt64 : Int64) <<< ((32 : Int32).toInt64 &&& 63)) : Int64) ||| (((x2).toInt64 : Int64) &&& 4294967295))))]) (st' := [.long ((((((x1).toInt64 : Int64) <<< ((32 : Int32).toInt64 &&& 63)) : Int64) ||| (((x2).toInt64 : Int64) &&& 4294967295)))]) rfl ?_
    refine T_p xr_186_22 xn_186 (pc' := 23) (ls' := [(3, .long 0), (0, .ref 530), (1, .long ((((((x1).toInt64 : Int64) <<< ((32 : Int32).toInt64 &&& 63)) : Int64) ||| (((x2).toInt64 : Int64) &&& 4294967295))))]) (st' := [.long 0, .long ((((((x1).toInt64 : Int64) <<< ((32 : Int32).toInt64 &&& 63)) : Int64) ||| (((x2).toInt64 : Int64) &&& 4294967295)))]) rfl ?_
    refine T_p xr_186_23 xn_186 (pc' := 24) (ls' := [(3, .long 0), (0, .ref 530), (1, .long ((((((x1).toInt64 : Int64) <<< ((32 : Int32).toInt64 &&& 63)) : Int64) ||| (((x2).toInt64 : Int64) &&& 4294967295))))]) (st' := [.int ((lg_cmp (((((x1).toInt64 : Int64) <<< ((32 : Int32).toInt64 &&& 63)) : Int64) ||| (((x2).toInt64 : Int64) &&& 4294967295)) 0))]) rfl ?_
    refine T_b1f xr_186_24 c1 (t := 39) (pc' := 27) rfl rfl ?_
    refine T_p xr_186_27 xn_186 (pc' := 28) (ls' := [(3, .long 0), (0, .ref 530), (1, .long ((((((x1).toInt64 : Int64) <<< ((32 : Int32).toInt64 &&& 63)) : Int64) ||| (((x2).toInt64 : Int64) &&& 4294967295))))]) (st' := [.long 0]) rfl ?_
    refine T_p xr_186_28 xn_186 (pc' := 29) (ls' := [(3, .long 0), (0, .ref 530), (1, .long ((((((x1).toInt64 : Int64) <<< ((32 : Int32).toInt64 &&& 63)) : Int64) ||| (((x2).toInt64 : Int64) &&& 4294967295))))]) (st' := [.long 0, .long 0]) rfl ?_
    refine T_p xr_186_29 xn_186 (pc' := 30) (ls' := [(3, .long 0), (0, .ref 530), (1, .long ((((((x1).toInt64 : Int64) <<< ((32 : Int32).toInt64 &&& 63)) : Int64) ||| (((x2).toInt64 : Int64) &&& 4294967295))))]) (st' := [.int 0]) rfl ?_
    refine T_b1f xr_186_30 rfl (t := 41) (pc' := 33) rfl rfl ?_
    refine T_p xr_186_33 xn_186 (pc' := 34) (ls' := [(3, .long 0), (0, .ref 530), (1, .long ((((((x1).toInt64 : Int64) <<< ((32 : Int32).toInt64 &&& 63)) : Int64) ||| (((x2).toInt64 : Int64) &&& 4294967295))))]) (st' := [.long ((((((x1).toInt64 : Int64) <<< ((32 : Int32).toInt64 &&& 63)) : Int64) ||| (((x2).toInt64 : Int64) &&& 4294967295)))]) rfl ?_
    refine T_p xr_186_34 xn_186 (pc' := 35) (ls' := [(3, .long 0), (0, .ref 530), (1, .long ((((((x1).toInt64 : Int64) <<< ((32 : Int32).toInt64 &&& 63)) : Int64) ||| (((x2).toInt64 : Int64) &&& 4294967295))))]) (st' := [.long 0, .long ((((((x1).toInt64 : Int64) <<< ((32 : Int32).toInt64 &&& 63)) : Int64) ||| (((x2).toInt64 : Int64) &&& 4294967295)))]) rfl ?_
    refine T_p xr_186_35 xn_186 (pc' := 36) (ls' := [(3, .long 0), (0, .ref 530), (1, .long ((((((x1).toInt64 : Int64) <<< ((32 : Int32).toInt64 &&& 63)) : Int64) ||| (((x2).toInt64 : Int64) &&& 4294967295))))]) (st' := [.int ((lg_cmp (((((x1).toInt64 : Int64) <<< ((32 : Int32).toInt64 &&& 63)) : Int64) ||| (((x2).toInt64 : Int64) &&& 4294967295)) 0))]) rfl ?_
    refine T_b1f xr_186_36 c1 (t := 41) (pc' := 39) rfl rfl ?_
    refine T_p xr_186_39 xn_186 (pc' := 40) (ls' := [(3, .long 0), (0, .ref 530), (1, .long ((((((x1).toInt64 : Int64) <<< ((32 : Int32).toInt64 &&& 63)) : Int64) ||| (((x2).toInt64 : Int64) &&& 4294967295))))]) (st' := [.int (-1)]) rfl ?_
    refine T_iret xr_186_40 xf_186.2.2 rfl ?_
    show X_T (6, xs) 203 (468, [(3, .int 0), (2, .ref 530), (1, .ref 1), (0, .ref 0)], [.int (-1), .int (-1)], S0) _
    refine T_b2t xr_203_468 rfl (t := 588) rfl ?_
    refine T_p xr_203_588 xn_203 (pc' := 591) (ls' := [(3, .int 6), (2, .ref 530), (1, .ref 1), (0, .ref 0)]) (st' := []) rfl ?_
    refine T_p xr_203_591 xn_203 (pc' := 18) (ls' := [(3, .int 6), (2, .ref 530), (1, .ref 1), (0, .ref 0)]) (st' := []) rfl ?_
    refine T_p xr_203_18 xn_203 (pc' := 19) (ls' := [(3, .int 6), (2, .ref 530), (1, .ref 1), (0, .ref 0)]) (st' := [.int 6]) rfl ?_
    refine T_p xr_203_19 xn_203 (pc' := 20) (ls' := [(3, .int 6), (2, .ref 530), (1, .ref 1), (0, .ref 0)]) (st' := [.ref 0, .int 6]) rfl ?_
    refine T_slen xr_203_20 (x := 6) rfl (pc' := 21) rfl ?_
    refine T_p xr_203_21 xn_203 (pc' := 23) (ls' := [(3, .int 6), (2, .ref 530), (1, .ref 1), (0, .ref 0)]) (st' := [.int 6, .int 6, .int 6]) rfl ?_
    refine T_p xr_203_23 xn_203 (pc' := 24) (ls' := [(3, .int 6), (2, .ref 530), (1, .ref 1), (0, .ref 0)]) (st' := [.int 0, .int 6]) rfl ?_
    refine T_b2t xr_203_24 rfl (t := 594) rfl ?_
    refine T_p xr_203_594 xn_203 (pc' := 595) (ls' := [(3, .int 6), (2, .ref 530), (1, .ref 1), (0, .ref 0)]) (st' := [.int 1]) rfl ?_
    exact T_iret xr_203_595 xf_203.2.2 rfl ⟨rfl, hS2⟩
theorem X_op11 (xs : Nat → Int32) : X_T (6, xs) 203 (420, [(3, .int 0), (2, .ref 530), (1, .ref 1), (0, .ref 0)], [], X_Sb) (fun v S => v = some (.int 1) ∧ S.2 = (580, 263990)) := by
  exact X_opx11 xs _ _ rfl rfl X_Sb X_Sb2 X_fo1 X_fo501 X_fo530
theorem X_opx12 (xs : Nat → Int32) (x1 x2 : Int32) (g1 : xs 1 = x1) (g2 : xs 2 = x2) (S0 : X_S) (hS2 : S0.2 = (580, 263990)) (w1 : S0.1 1 = .inr (10, [.ref 2, .ref 4, .ref 250, .ref 496, .ref 501, .ref 504, .ref 511, .ref 517, .ref 527])) (w504 : S0.1 504 = .inr (5, [.int 0, .ref 505, .ref 506, .ref 507, .ref 508, .ref 509, .ref 510])) (w530 : S0.1 530 = .inr (11, [.ref 531, .int 0, .ref 532, .int 0, .int 0, .int 0, .int (-1), .int 0, .int 0, .int 0, .int 0, .int 0, .long 0, .ref 533, .ref 534, .ref 535, .ref 536, .ref 537, .ref 538, .ref 539, .ref 540, .ref 541, .ref 542, .ref 543, .ref 544, .ref 545, .ref 546, .ref 547, .int 0, .int 1, .int 0, .int 0, .int 1, .int 0, .ref 548, .ref 549, .ref 550, .ref 551, .int 0, .ref 552, .ref 553, .ref 554, .ref 555, .ref 556, .ref 557, .ref 558, .ref 559, .ref 560, .ref 561, .int 0, .ref 562, .ref 563, .ref 564, .ref 565, .ref 566, .ref 567, .ref 568, .ref 569, .int 0, .ref 570, .ref 571, .ref 572, .ref 573, .ref 574, .ref 575, .ref 576, .ref 577, .ref 578, .int 0, .int 0, .int 0, .ref 579])) : X_T (6, xs) 203 (473, [(3, .int 0), (2, .ref 530), (1, .ref 1), (0, .ref 0)], [], S0) (fun v S => v = some (.int 1) ∧ S.2 = (580, 263990)) := by
  refine T_p xr_203_473 xn_203 (pc' := 474) (ls' := [(3, .int 0), (2, .ref 530), (1, .ref 1), (0, .ref 0)]) (st' := [.ref 1]) rfl ?_
  refine T_p xr_203_474 xn_203 (pc' := 475) (ls' := [(3, .int 0), (2, .ref 530), (1, .ref 1), (0, .ref 0)]) (st' := [.ref 0, .ref 1]) rfl ?_
  refine T_p xr_203_475 xn_203 (pc' := 476) (ls' := [(3, .int 0), (2, .ref 530), (1, .ref 1), (0, .ref 0)]) (st' := [.int 0, .ref 0, .ref 1]) rfl ?_
  refine T_p xr_203_476 xn_203 (pc' := 477) (ls' := [(3, .int 0), (2, .ref 530), (1, .ref 1), (0, .ref 0)]) (st' := [.int 1, .int 0, .ref 0, .ref 1]) rfl ?_
  refine T_p xr_203_477 xn_203 (pc' := 478) (ls' := [(3, .int 0), (2, .ref 530), (1, .ref 1), (0, .ref 0)]) (st' := [.int 1, .ref 0, .ref 1]) rfl ?_
  refine T_sald xr_203_478 (show ¬ ((1 : Int32) < 0 ∨ 6 ≤ (1 : Int32).toNatClampNeg) by decide) (x := x1) g1 (pc' := 479) rfl ?_
  refine T_p xr_203_479 xn_203 (pc' := 480) (ls' := [(3, .int 0), (2, .ref 530), (1, .ref 1), (0, .ref 0)]) (st' := [.ref 0, .int (x1), .ref 1]) rfl ?_
  refine T_p xr_203_480 xn_203 (pc' := 481) (ls' := [(3, .int 0), (2, .ref 530), (1, .ref 1), (0, .ref 0)]) (st' := [.int 0, .ref 0, .int (x1), .ref 1]) rfl ?_
  refine T_p xr_203_481 xn_203 (pc' := 482) (ls' := [(3, .int 0), (2, .ref 530), (1, .ref 1), (0, .ref 0)]) (st' := [.int 2, .int 0, .ref 0, .int (x1), .ref 1]) rfl ?_
  refine T_p xr_203_482 xn_203 (pc' := 483) (ls' := [(3, .int 0), (2, .ref 530), (1, .ref 1), (0, .ref 0)]) (st' := [.int 2, .ref 0, .int (x1), .ref 1]) rfl ?_
  refine T_sald xr_203_483 (show ¬ ((2 : Int32) < 0 ∨ 6 ≤ (2 : Int32).toNatClampNeg) by decide) (x := x2) g2 (pc' := 484) rfl ?_
  refine T_cv (S := S0) (q := 1) xr_203_484 xf_125.1 xf_125.2.1 xn_125 (as := [.int (x1), .int (x2)]) (r := []) rfl w1 (by simp [Value.category]) (by simp [Value.category]) (pc' := 487) rfl (ls' := [(0, .ref 1), (1, .int (x1)), (2, .int (x2))]) rfl ?_
  refine T_p xr_125_0 xn_125 (pc' := 1) (ls' := [(0, .ref 1), (1, .int (x1)), (2, .int (x2))]) (st' := [.int (x1)]) rfl ?_
  refine T_b1 xr_125_1 (t := 15) (pc' := 4) rfl rfl (fun c1 => ?_) (fun c1 => ?_)
  · skip
    refine T_p xr_125_15 xn_125 (pc' := 16) (ls' := [(0, .ref 1), (1, .int (x1)), (2, .int (x2))]) (st' := [.int (-1)]) rfl ?_
    refine T_iret xr_125_16 xf_125.2.2 rfl ?_
    show X_T (6, xs) 203 (487, [(3, .int 0), (2, .ref 530), (1, .ref 1), (0, .ref 0)], [.int (-1)], S0) _
    refine T_p xr_203_487 xn_203 (pc' := 488) (ls' := [(3, .int 0), (2, .ref 530), (1, .ref 1), (0, .ref 0)]) (st' := [.ref 530, .int (-1)]) rfl ?_
    refine T_p xr_203_488 xn_203 (pc' := 489) (ls' := [(3, .int 0), (2, .ref 530), (1, .ref 1), (0, .ref 0)]) (st' := [.ref 0, .ref 530, .int (-1)]) rfl ?_
    refine T_p xr_203_489 xn_203 (pc' := 490) (ls' := [(3, .int 0), (2, .ref 530), (1, .ref 1), (0, .ref 0)]) (st' := [.int 0, .ref 0, .ref 530, .int (-1)]) rfl ?_
    refine T_p xr_203_490 xn_203 (pc' := 491) (ls' := [(3, .int 0), (2, .ref 530), (1, .ref 1), (0, .ref 0)]) (st' := [.int 1, .int 0, .ref 0, .ref 530, .int (-1)]) rfl ?_
    refine T_p xr_203_491 xn_203 (pc' := 492) (ls' := [(3, .int 0), (2, .ref 530), (1, .ref 1), (0, .ref 0)]) (st' := [.int 1, .ref 0, .ref 530, .int (-1)]) rfl ?_
    refine T_sald xr_203_492 (show ¬ ((1 : Int32) < 0 ∨ 6 ≤ (1 : Int32).toNatClampNeg) by decide) (x := x1) g1 (pc' := 493) rfl ?_
    refine T_p xr_203_493 xn_203 (pc' := 494) (ls' := [(3, .int 0), (2, .ref 530), (1, .ref 1), (0, .ref 0)]) (st' := [.ref 0, .int (x1), .ref 530, .int (-1)]) rfl ?_
    refine T_p xr_203_494 xn_203 (pc' := 495) (ls' := [(3, .int 0), (2, .ref 530), (1, .ref 1), (0, .ref 0)]) (st' := [.int 0, .ref 0, .int (x1), .ref 530, .int (-1)]) rfl ?_
    refine T_p xr_203_495 xn_203 (pc' := 496) (ls' := [(3, .int 0), (2, .ref 530), (1, .ref 1), (0, .ref 0)]) (st' := [.int 2, .int 0, .ref 0, .int (x1), .ref 530, .int (-1)]) rfl ?_
    refine T_p xr_203_496 xn_203 (pc' := 497) (ls' := [(3, .int 0), (2, .ref 530), (1, .ref 1), (0, .ref 0)]) (st' := [.int 2, .ref 0, .int (x1), .ref 530, .int (-1)]) rfl ?_
    refine T_sald xr_203_497 (show ¬ ((2 : Int32) < 0 ∨ 6 ≤ (2 : Int32).toNatClampNeg) by decide) (x := x2) g2 (pc' := 498) rfl ?_
    refine T_cv (S := S0) (q := 530) xr_203_498 xf_190.1 xf_190.2.1 xn_190 (as := [.int (x1), .int (x2)]) (r := [.int (-1)]) rfl w530 (by simp [Value.category]) (by simp [Value.category]) (pc' := 501) rfl (ls' := [(0, .ref 530), (1, .int (x1)), (2, .int (x2))]) rfl ?_
    refine T_p xr_190_0 xn_190 (pc' := 1) (ls' := [(0, .ref 530), (1, .int (x1)), (2, .int (x2))]) (st' := [.int (x1)]) rfl ?_
    refine T_b1t xr_190_1 c1 (t := 12) rfl ?_
    refine T_p xr_190_12 xn_190 (pc' := 13) (ls' := [(0, .ref 530), (1, .int (x1)), (2, .int (x2))]) (st' := [.int (-1)]) rfl ?_
    refine T_iret xr_190_13 xf_190.2.2 rfl ?_
    show X_T (6, xs) 203 (501, [(3, .int 0), (2, .ref 530), (1, .ref 1), (0, .ref 0)], [.int (-1), .int (-1)], S0) _
    refine T_b2t xr_203_501 rfl (t := 588) rfl ?_
    refine T_p xr_203_588 xn_203 (pc' := 591) (ls' := [(3, .int 6), (2, .ref 530), (1, .ref 1), (0, .ref 0)]) (st' := []) rfl ?_
    refine T_p xr_203_591 xn_203 (pc' := 18) (ls' := [(3, .int 6), (2, .ref 530), (1, .ref 1), (0, .ref 0)]) (st' := []) rfl ?_
    refine T_p xr_203_18 xn_203 (pc' := 19) (ls' := [(3, .int 6), (2, .ref 530), (1, .ref 1), (0, .ref 0)]) (st' := [.int 6]) rfl ?_
    refine T_p xr_203_19 xn_203 (pc' := 20) (ls' := [(3, .int 6), (2, .ref 530), (1, .ref 1), (0, .ref 0)]) (st' := [.ref 0, .int 6]) rfl ?_
    refine T_slen xr_203_20 (x := 6) rfl (pc' := 21) rfl ?_
    refine T_p xr_203_21 xn_203 (pc' := 23) (ls' := [(3, .int 6), (2, .ref 530), (1, .ref 1), (0, .ref 0)]) (st' := [.int 6, .int 6, .int 6]) rfl ?_
    refine T_p xr_203_23 xn_203 (pc' := 24) (ls' := [(3, .int 6), (2, .ref 530), (1, .ref 1), (0, .ref 0)]) (st' := [.int 0, .int 6]) rfl ?_
    refine T_b2t xr_203_24 rfl (t := 594) rfl ?_
    refine T_p xr_203_594 xn_203 (pc' := 595) (ls' := [(3, .int 6), (2, .ref 530), (1, .ref 1), (0, .ref 0)]) (st' := [.int 1]) rfl ?_
    exact T_iret xr_203_595 xf_203.2.2 rfl ⟨rfl, hS2⟩
  · skip
    refine T_p xr_125_4 xn_125 (pc' := 5) (ls' := [(0, .ref 1), (1, .int (x1)), (2, .int (x2))]) (st' := [.int (x1)]) rfl ?_
    refine T_p xr_125_5 xn_125 (pc' := 6) (ls' := [(0, .ref 1), (1, .int (x1)), (2, .int (x2))]) (st' := [.ref 1, .int (x1)]) rfl ?_
    refine T_get xr_125_6 w1 rfl (v := .ref 504) rfl (pc' := 9) rfl ?_
    refine T_get xr_125_9 w504 rfl (v := .int 0) rfl (pc' := 12) rfl ?_
    refine T_b2f xr_125_12 c1 (t := 17) (pc' := 15) rfl rfl ?_
    refine T_p xr_125_15 xn_125 (pc' := 16) (ls' := [(0, .ref 1), (1, .int (x1)), (2, .int (x2))]) (st' := [.int (-1)]) rfl ?_
    refine T_iret xr_125_16 xf_125.2.2 rfl ?_
    show X_T (6, xs) 203 (487, [(3, .int 0), (2, .ref 530), (1, .ref 1), (0, .ref 0)], [.int (-1)], S0) _
    refine T_p xr_203_487 xn_203 (pc' := 488) (ls' := [(3, .int 0), (2, .ref 530), (1, .ref 1), (0, .ref 0)]) (st' := [.ref 530, .int (-1)]) rfl ?_
    refine T_p xr_203_488 xn_203 (pc' := 489) (ls' := [(3, .int 0), (2, .ref 530), (1, .ref 1), (0, .ref 0)]) (st' := [.ref 0, .ref 530, .int (-1)]) rfl ?_
    refine T_p xr_203_489 xn_203 (pc' := 490) (ls' := [(3, .int 0), (2, .ref 530), (1, .ref 1), (0, .ref 0)]) (st' := [.int 0, .ref 0, .ref 530, .int (-1)]) rfl ?_
    refine T_p xr_203_490 xn_203 (pc' := 491) (ls' := [(3, .int 0), (2, .ref 530), (1, .ref 1), (0, .ref 0)]) (st' := [.int 1, .int 0, .ref 0, .ref 530, .int (-1)]) rfl ?_
    refine T_p xr_203_491 xn_203 (pc' := 492) (ls' := [(3, .int 0), (2, .ref 530), (1, .ref 1), (0, .ref 0)]) (st' := [.int 1, .ref 0, .ref 530, .int (-1)]) rfl ?_
    refine T_sald xr_203_492 (show ¬ ((1 : Int32) < 0 ∨ 6 ≤ (1 : Int32).toNatClampNeg) by decide) (x := x1) g1 (pc' := 493) rfl ?_
    refine T_p xr_203_493 xn_203 (pc' := 494) (ls' := [(3, .int 0), (2, .ref 530), (1, .ref 1), (0, .ref 0)]) (st' := [.ref 0, .int (x1), .ref 530, .int (-1)]) rfl ?_
    refine T_p xr_203_494 xn_203 (pc' := 495) (ls' := [(3, .int 0), (2, .ref 530), (1, .ref 1), (0, .ref 0)]) (st' := [.int 0, .ref 0, .int (x1), .ref 530, .int (-1)]) rfl ?_
    refine T_p xr_203_495 xn_203 (pc' := 496) (ls' := [(3, .int 0), (2, .ref 530), (1, .ref 1), (0, .ref 0)]) (st' := [.int 2, .int 0, .ref 0, .int (x1), .ref 530, .int (-1)]) rfl ?_
    refine T_p xr_203_496 xn_203 (pc' := 497) (ls' := [(3, .int 0), (2, .ref 530), (1, .ref 1), (0, .ref 0)]) (st' := [.int 2, .ref 0, .int (x1), .ref 530, .int (-1)]) rfl ?_
    refine T_sald xr_203_497 (show ¬ ((2 : Int32) < 0 ∨ 6 ≤ (2 : Int32).toNatClampNeg) by decide) (x := x2) g2 (pc' := 498) rfl ?_
    refine T_cv (S := S0) (q := 530) xr_203_498 xf_190.1 xf_190.2.1 xn_190 (as := [.int (x1), .int (x2)]) (r := [.int (-1)]) rfl w530 (by simp [Value.category]) (by simp [Value.category]) (pc' := 501) rfl (ls' := [(0, .ref 530), (1, .int (x1)), (2, .int (x2))]) rfl ?_
    refine T_p xr_190_0 xn_190 (pc' := 1) (ls' := [(0, .ref 530), (1, .int (x1)), (2, .int (x2))]) (st' := [.int (x1)]) rfl ?_
    refine T_b1f xr_190_1 c1 (t := 12) (pc' := 4) rfl rfl ?_
    refine T_p xr_190_4 xn_190 (pc' := 5) (ls' := [(0, .ref 530), (1, .int (x1)), (2, .int (x2))]) (st' := [.int (x1)]) rfl ?_
    refine T_p xr_190_5 xn_190 (pc' := 6) (ls' := [(0, .ref 530), (1, .int (x1)), (2, .int (x2))]) (st' := [.ref 530, .int (x1)]) rfl ?_
    refine T_get xr_190_6 w530 rfl (v := .int 0) rfl (pc' := 9) rfl ?_
    refine T_b2f xr_190_9 c1 (t := 14) (pc' := 12) rfl rfl ?_
    refine T_p xr_190_12 xn_190 (pc' := 13) (ls' := [(0, .ref 530), (1, .int (x1)), (2, .int (x2))]) (st' := [.int (-1)]) rfl ?_
    refine T_iret xr_190_13 xf_190.2.2 rfl ?_
    show X_T (6, xs) 203 (501, [(3, .int 0), (2, .ref 530), (1, .ref 1), (0, .ref 0)], [.int (-1), .int (-1)], S0) _
    refine T_b2t xr_203_501 rfl (t := 588) rfl ?_
    refine T_p xr_203_588 xn_203 (pc' := 591) (ls' := [(3, .int 6), (2, .ref 530), (1, .ref 1), (0, .ref 0)]) (st' := []) rfl ?_
    refine T_p xr_203_591 xn_203 (pc' := 18) (ls' := [(3, .int 6), (2, .ref 530), (1, .ref 1), (0, .ref 0)]) (st' := []) rfl ?_
    refine T_p xr_203_18 xn_203 (pc' := 19) (ls' := [(3, .int 6), (2, .ref 530), (1, .ref 1), (0, .ref 0)]) (st' := [.int 6]) rfl ?_
    refine T_p xr_203_19 xn_203 (pc' := 20) (ls' := [(3, .int 6), (2, .ref 530), (1, .ref 1), (0, .ref 0)]) (st' := [.ref 0, .int 6]) rfl ?_
    refine T_slen xr_203_20 (x := 6) rfl (pc' := 21) rfl ?_
    refine T_p xr_203_21 xn_203 (pc' := 23) (ls' := [(3, .int 6), (2, .ref 530), (1, .ref 1), (0, .ref 0)]) (st' := [.int 6, .int 6, .int 6]) rfl ?_
    refine T_p xr_203_23 xn_203 (pc' := 24) (ls' := [(3, .int 6), (2, .ref 530), (1, .ref 1), (0, .ref 0)]) (st' := [.int 0, .int 6]) rfl ?_
    refine T_b2t xr_203_24 rfl (t := 594) rfl ?_
    refine T_p xr_203_594 xn_203 (pc' := 595) (ls' := [(3, .int 6), (2, .ref 530), (1, .ref 1), (0, .ref 0)]) (st' := [.int 1]) rfl ?_
    exact T_iret xr_203_595 xf_203.2.2 rfl ⟨rfl, hS2⟩
theorem X_op12 (xs : Nat → Int32) : X_T (6, xs) 203 (473, [(3, .int 0), (2, .ref 530), (1, .ref 1), (0, .ref 0)], [], X_Sb) (fun v S => v = some (.int 1) ∧ S.2 = (580, 263990)) := by
  exact X_opx12 xs _ _ rfl rfl X_Sb X_Sb2 X_fo1 X_fo504 X_fo530
theorem X_opx13 (xs : Nat → Int32) (x1 x2 : Int32) (g1 : xs 1 = x1) (g2 : xs 2 = x2) (S0 : X_S) (hS2 : S0.2 = (580, 263990)) (w1 : S0.1 1 = .inr (10, [.ref 2, .ref 4, .ref 250, .ref 496, .ref 501, .ref 504, .ref 511, .ref 517, .ref 527])) (w4 : S0.1 4 = .inr (0, [.int 0, .int 1, .int 0, .ref 5, .ref 6, .ref 7, .ref 8, .ref 9])) (w530 : S0.1 530 = .inr (11, [.ref 531, .int 0, .ref 532, .int 0, .int 0, .int 0, .int (-1), .int 0, .int 0, .int 0, .int 0, .int 0, .long 0, .ref 533, .ref 534, .ref 535, .ref 536, .ref 537, .ref 538, .ref 539, .ref 540, .ref 541, .ref 542, .ref 543, .ref 544, .ref 545, .ref 546, .ref 547, .int 0, .int 1, .int 0, .int 0, .int 1, .int 0, .ref 548, .ref 549, .ref 550, .ref 551, .int 0, .ref 552, .ref 553, .ref 554, .ref 555, .ref 556, .ref 557, .ref 558, .ref 559, .ref 560, .ref 561, .int 0, .ref 562, .ref 563, .ref 564, .ref 565, .ref 566, .ref 567, .ref 568, .ref 569, .int 0, .ref 570, .ref 571, .ref 572, .ref 573, .ref 574, .ref 575, .ref 576, .ref 577, .ref 578, .int 0, .int 0, .int 0, .ref 579])) : X_T (6, xs) 203 (506, [(3, .int 0), (2, .ref 530), (1, .ref 1), (0, .ref 0)], [], S0) (fun v S => v = some (.int 1) ∧ S.2 = (580, 263990)) := by
  refine T_p xr_203_506 xn_203 (pc' := 507) (ls' := [(3, .int 0), (2, .ref 530), (1, .ref 1), (0, .ref 0)]) (st' := [.ref 1]) rfl ?_
  refine T_p xr_203_507 xn_203 (pc' := 508) (ls' := [(3, .int 0), (2, .ref 530), (1, .ref 1), (0, .ref 0)]) (st' := [.ref 0, .ref 1]) rfl ?_
  refine T_p xr_203_508 xn_203 (pc' := 509) (ls' := [(3, .int 0), (2, .ref 530), (1, .ref 1), (0, .ref 0)]) (st' := [.int 0, .ref 0, .ref 1]) rfl ?_
  refine T_p xr_203_509 xn_203 (pc' := 510) (ls' := [(3, .int 0), (2, .ref 530), (1, .ref 1), (0, .ref 0)]) (st' := [.int 1, .int 0, .ref 0, .ref 1]) rfl ?_
  refine T_p xr_203_510 xn_203 (pc' := 511) (ls' := [(3, .int 0), (2, .ref 530), (1, .ref 1), (0, .ref 0)]) (st' := [.int 1, .ref 0, .ref 1]) rfl ?_
  refine T_sald xr_203_511 (show ¬ ((1 : Int32) < 0 ∨ 6 ≤ (1 : Int32).toNatClampNeg) by decide) (x := x1) g1 (pc' := 512) rfl ?_
  refine T_p xr_203_512 xn_203 (pc' := 513) (ls' := [(3, .int 0), (2, .ref 530), (1, .ref 1), (0, .ref 0)]) (st' := [.ref 0, .int (x1), .ref 1]) rfl ?_
  refine T_p xr_203_513 xn_203 (pc' := 514) (ls' := [(3, .int 0), (2, .ref 530), (1, .ref 1), (0, .ref 0)]) (st' := [.int 0, .ref 0, .int (x1), .ref 1]) rfl ?_
  refine T_p xr_203_514 xn_203 (pc' := 515) (ls' := [(3, .int 0), (2, .ref 530), (1, .ref 1), (0, .ref 0)]) (st' := [.int 2, .int 0, .ref 0, .int (x1), .ref 1]) rfl ?_
  refine T_p xr_203_515 xn_203 (pc' := 516) (ls' := [(3, .int 0), (2, .ref 530), (1, .ref 1), (0, .ref 0)]) (st' := [.int 2, .ref 0, .int (x1), .ref 1]) rfl ?_
  refine T_sald xr_203_516 (show ¬ ((2 : Int32) < 0 ∨ 6 ≤ (2 : Int32).toNatClampNeg) by decide) (x := x2) g2 (pc' := 517) rfl ?_
  refine T_cv (S := S0) (q := 1) xr_203_517 xf_126.1 xf_126.2.1 xn_126 (as := [.int (x1), .int (x2)]) (r := []) rfl w1 (by simp [Value.category]) (by simp [Value.category]) (pc' := 520) rfl (ls' := [(0, .ref 1), (1, .int (x1)), (2, .int (x2))]) rfl ?_
  refine T_p xr_126_0 xn_126 (pc' := 1) (ls' := [(0, .ref 1), (1, .int (x1)), (2, .int (x2))]) (st' := [.ref 1]) rfl ?_
  refine T_get xr_126_1 w1 rfl (v := .ref 4) rfl (pc' := 4) rfl ?_
  refine T_p xr_126_4 xn_126 (pc' := 5) (ls' := [(0, .ref 1), (1, .int (x1)), (2, .int (x2))]) (st' := [.int (x1), .ref 4]) rfl ?_
  refine T_cv (S := S0) (q := 4) xr_126_5 xf_4.1 xf_4.2.1 xn_4 (as := [.int (x1)]) (r := []) rfl w4 (by simp [Value.category]) (by simp [Value.category]) (pc' := 8) rfl (ls' := [(0, .ref 4), (1, .int (x1))]) rfl ?_
  refine T_p xr_4_0 xn_4 (pc' := 1) (ls' := [(0, .ref 4), (1, .int (x1))]) (st' := [.int (x1)]) rfl ?_
  refine T_b1 xr_4_1 (t := 16) (pc' := 4) rfl rfl (fun c1 => ?_) (fun c1 => ?_)
  · skip
    refine T_p xr_4_16 xn_4 (pc' := 17) (ls' := [(0, .ref 4), (1, .int (x1))]) (st' := [.int 0]) rfl ?_
    refine T_iret xr_4_17 xf_4.2.2 rfl ?_
    show X_T (6, xs) 126 (8, [(0, .ref 1), (1, .int (x1)), (2, .int (x2))], [.int 0], S0) _
    refine T_b1f xr_126_8 rfl (t := 13) (pc' := 11) rfl rfl ?_
    refine T_p xr_126_11 xn_126 (pc' := 12) (ls' := [(0, .ref 1), (1, .int (x1)), (2, .int (x2))]) (st' := [.int 0]) rfl ?_
    refine T_iret xr_126_12 xf_126.2.2 rfl ?_
    show X_T (6, xs) 203 (520, [(3, .int 0), (2, .ref 530), (1, .ref 1), (0, .ref 0)], [.int 0], S0) _
    refine T_p xr_203_520 xn_203 (pc' := 521) (ls' := [(3, .int 0), (2, .ref 530), (1, .ref 1), (0, .ref 0)]) (st' := [.ref 530, .int 0]) rfl ?_
    refine T_p xr_203_521 xn_203 (pc' := 522) (ls' := [(3, .int 0), (2, .ref 530), (1, .ref 1), (0, .ref 0)]) (st' := [.ref 0, .ref 530, .int 0]) rfl ?_
    refine T_p xr_203_522 xn_203 (pc' := 523) (ls' := [(3, .int 0), (2, .ref 530), (1, .ref 1), (0, .ref 0)]) (st' := [.int 0, .ref 0, .ref 530, .int 0]) rfl ?_
    refine T_p xr_203_523 xn_203 (pc' := 524) (ls' := [(3, .int 0), (2, .ref 530), (1, .ref 1), (0, .ref 0)]) (st' := [.int 1, .int 0, .ref 0, .ref 530, .int 0]) rfl ?_
    refine T_p xr_203_524 xn_203 (pc' := 525) (ls' := [(3, .int 0), (2, .ref 530), (1, .ref 1), (0, .ref 0)]) (st' := [.int 1, .ref 0, .ref 530, .int 0]) rfl ?_
    refine T_sald xr_203_525 (show ¬ ((1 : Int32) < 0 ∨ 6 ≤ (1 : Int32).toNatClampNeg) by decide) (x := x1) g1 (pc' := 526) rfl ?_
    refine T_p xr_203_526 xn_203 (pc' := 527) (ls' := [(3, .int 0), (2, .ref 530), (1, .ref 1), (0, .ref 0)]) (st' := [.ref 0, .int (x1), .ref 530, .int 0]) rfl ?_
    refine T_p xr_203_527 xn_203 (pc' := 528) (ls' := [(3, .int 0), (2, .ref 530), (1, .ref 1), (0, .ref 0)]) (st' := [.int 0, .ref 0, .int (x1), .ref 530, .int 0]) rfl ?_
    refine T_p xr_203_528 xn_203 (pc' := 529) (ls' := [(3, .int 0), (2, .ref 530), (1, .ref 1), (0, .ref 0)]) (st' := [.int 2, .int 0, .ref 0, .int (x1), .ref 530, .int 0]) rfl ?_
    refine T_p xr_203_529 xn_203 (pc' := 530) (ls' := [(3, .int 0), (2, .ref 530), (1, .ref 1), (0, .ref 0)]) (st' := [.int 2, .ref 0, .int (x1), .ref 530, .int 0]) rfl ?_
    refine T_sald xr_203_530 (show ¬ ((2 : Int32) < 0 ∨ 6 ≤ (2 : Int32).toNatClampNeg) by decide) (x := x2) g2 (pc' := 531) rfl ?_
    refine T_cv (S := S0) (q := 530) xr_203_531 xf_191.1 xf_191.2.1 xn_191 (as := [.int (x1), .int (x2)]) (r := [.int 0]) rfl w530 (by simp [Value.category]) (by simp [Value.category]) (pc' := 534) rfl (ls' := [(0, .ref 530), (1, .int (x1)), (2, .int (x2))]) rfl ?_
    refine T_p xr_191_0 xn_191 (pc' := 1) (ls' := [(0, .ref 530), (1, .int (x1)), (2, .int (x2))]) (st' := [.ref 530]) rfl ?_
    refine T_p xr_191_1 xn_191 (pc' := 2) (ls' := [(0, .ref 530), (1, .int (x1)), (2, .int (x2))]) (st' := [.int (x1), .ref 530]) rfl ?_
    refine T_cv (S := S0) (q := 530) xr_191_2 xf_165.1 xf_165.2.1 xn_165 (as := [.int (x1)]) (r := []) rfl w530 (by simp [Value.category]) (by simp [Value.category]) (pc' := 5) rfl (ls' := [(0, .ref 530), (1, .int (x1))]) rfl ?_
    refine T_p xr_165_0 xn_165 (pc' := 1) (ls' := [(0, .ref 530), (1, .int (x1))]) (st' := [.int (x1)]) rfl ?_
    refine T_b1t xr_165_1 c1 (t := 16) rfl ?_
    refine T_p xr_165_16 xn_165 (pc' := 17) (ls' := [(0, .ref 530), (1, .int (x1))]) (st' := [.int 0]) rfl ?_
    refine T_iret xr_165_17 xf_165.2.2 rfl ?_
    show X_T (6, xs) 191 (5, [(0, .ref 530), (1, .int (x1)), (2, .int (x2))], [.int 0], S0) _
    refine T_b1t xr_191_5 rfl (t := 42) rfl ?_
    refine T_p xr_191_42 xn_191 (pc' := 43) (ls' := [(0, .ref 530), (1, .int (x1)), (2, .int (x2))]) (st' := [.int 0]) rfl ?_
    refine T_iret xr_191_43 xf_191.2.2 rfl ?_
    show X_T (6, xs) 203 (534, [(3, .int 0), (2, .ref 530), (1, .ref 1), (0, .ref 0)], [.int 0, .int 0], S0) _
    refine T_b2t xr_203_534 rfl (t := 588) rfl ?_
    refine T_p xr_203_588 xn_203 (pc' := 591) (ls' := [(3, .int 6), (2, .ref 530), (1, .ref 1), (0, .ref 0)]) (st' := []) rfl ?_
    refine T_p xr_203_591 xn_203 (pc' := 18) (ls' := [(3, .int 6), (2, .ref 530), (1, .ref 1), (0, .ref 0)]) (st' := []) rfl ?_
    refine T_p xr_203_18 xn_203 (pc' := 19) (ls' := [(3, .int 6), (2, .ref 530), (1, .ref 1), (0, .ref 0)]) (st' := [.int 6]) rfl ?_
    refine T_p xr_203_19 xn_203 (pc' := 20) (ls' := [(3, .int 6), (2, .ref 530), (1, .ref 1), (0, .ref 0)]) (st' := [.ref 0, .int 6]) rfl ?_
    refine T_slen xr_203_20 (x := 6) rfl (pc' := 21) rfl ?_
    refine T_p xr_203_21 xn_203 (pc' := 23) (ls' := [(3, .int 6), (2, .ref 530), (1, .ref 1), (0, .ref 0)]) (st' := [.int 6, .int 6, .int 6]) rfl ?_
    refine T_p xr_203_23 xn_203 (pc' := 24) (ls' := [(3, .int 6), (2, .ref 530), (1, .ref 1), (0, .ref 0)]) (st' := [.int 0, .int 6]) rfl ?_
    refine T_b2t xr_203_24 rfl (t := 594) rfl ?_
    refine T_p xr_203_594 xn_203 (pc' := 595) (ls' := [(3, .int 6), (2, .ref 530), (1, .ref 1), (0, .ref 0)]) (st' := [.int 1]) rfl ?_
    exact T_iret xr_203_595 xf_203.2.2 rfl ⟨rfl, hS2⟩
  · skip
    refine T_p xr_4_4 xn_4 (pc' := 5) (ls' := [(0, .ref 4), (1, .int (x1))]) (st' := [.int (x1)]) rfl ?_
    refine T_p xr_4_5 xn_4 (pc' := 6) (ls' := [(0, .ref 4), (1, .int (x1))]) (st' := [.ref 4, .int (x1)]) rfl ?_
    refine T_get xr_4_6 w4 rfl (v := .int 0) rfl (pc' := 9) rfl ?_
    refine T_b2t xr_4_9 (by rw [X_cd_ge, c1]; rfl) (t := 16) rfl ?_
    refine T_p xr_4_16 xn_4 (pc' := 17) (ls' := [(0, .ref 4), (1, .int (x1))]) (st' := [.int 0]) rfl ?_
    refine T_iret xr_4_17 xf_4.2.2 rfl ?_
    show X_T (6, xs) 126 (8, [(0, .ref 1), (1, .int (x1)), (2, .int (x2))], [.int 0], S0) _
    refine T_b1f xr_126_8 rfl (t := 13) (pc' := 11) rfl rfl ?_
    refine T_p xr_126_11 xn_126 (pc' := 12) (ls' := [(0, .ref 1), (1, .int (x1)), (2, .int (x2))]) (st' := [.int 0]) rfl ?_
    refine T_iret xr_126_12 xf_126.2.2 rfl ?_
    show X_T (6, xs) 203 (520, [(3, .int 0), (2, .ref 530), (1, .ref 1), (0, .ref 0)], [.int 0], S0) _
    refine T_p xr_203_520 xn_203 (pc' := 521) (ls' := [(3, .int 0), (2, .ref 530), (1, .ref 1), (0, .ref 0)]) (st' := [.ref 530, .int 0]) rfl ?_
    refine T_p xr_203_521 xn_203 (pc' := 522) (ls' := [(3, .int 0), (2, .ref 530), (1, .ref 1), (0, .ref 0)]) (st' := [.ref 0, .ref 530, .int 0]) rfl ?_
    refine T_p xr_203_522 xn_203 (pc' := 523) (ls' := [(3, .int 0), (2, .ref 530), (1, .ref 1), (0, .ref 0)]) (st' := [.int 0, .ref 0, .ref 530, .int 0]) rfl ?_
    refine T_p xr_203_523 xn_203 (pc' := 524) (ls' := [(3, .int 0), (2, .ref 530), (1, .ref 1), (0, .ref 0)]) (st' := [.int 1, .int 0, .ref 0, .ref 530, .int 0]) rfl ?_
    refine T_p xr_203_524 xn_203 (pc' := 525) (ls' := [(3, .int 0), (2, .ref 530), (1, .ref 1), (0, .ref 0)]) (st' := [.int 1, .ref 0, .ref 530, .int 0]) rfl ?_
    refine T_sald xr_203_525 (show ¬ ((1 : Int32) < 0 ∨ 6 ≤ (1 : Int32).toNatClampNeg) by decide) (x := x1) g1 (pc' := 526) rfl ?_
    refine T_p xr_203_526 xn_203 (pc' := 527) (ls' := [(3, .int 0), (2, .ref 530), (1, .ref 1), (0, .ref 0)]) (st' := [.ref 0, .int (x1), .ref 530, .int 0]) rfl ?_
    refine T_p xr_203_527 xn_203 (pc' := 528) (ls' := [(3, .int 0), (2, .ref 530), (1, .ref 1), (0, .ref 0)]) (st' := [.int 0, .ref 0, .int (x1), .ref 530, .int 0]) rfl ?_
    refine T_p xr_203_528 xn_203 (pc' := 529) (ls' := [(3, .int 0), (2, .ref 530), (1, .ref 1), (0, .ref 0)]) (st' := [.int 2, .int 0, .ref 0, .int (x1), .ref 530, .int 0]) rfl ?_
    refine T_p xr_203_529 xn_203 (pc' := 530) (ls' := [(3, .int 0), (2, .ref 530), (1, .ref 1), (0, .ref 0)]) (st' := [.int 2, .ref 0, .int (x1), .ref 530, .int 0]) rfl ?_
    refine T_sald xr_203_530 (show ¬ ((2 : Int32) < 0 ∨ 6 ≤ (2 : Int32).toNatClampNeg) by decide) (x := x2) g2 (pc' := 531) rfl ?_
    refine T_cv (S := S0) (q := 530) xr_203_531 xf_191.1 xf_191.2.1 xn_191 (as := [.int (x1), .int (x2)]) (r := [.int 0]) rfl w530 (by simp [Value.category]) (by simp [Value.category]) (pc' := 534) rfl (ls' := [(0, .ref 530), (1, .int (x1)), (2, .int (x2))]) rfl ?_
    refine T_p xr_191_0 xn_191 (pc' := 1) (ls' := [(0, .ref 530), (1, .int (x1)), (2, .int (x2))]) (st' := [.ref 530]) rfl ?_
    refine T_p xr_191_1 xn_191 (pc' := 2) (ls' := [(0, .ref 530), (1, .int (x1)), (2, .int (x2))]) (st' := [.int (x1), .ref 530]) rfl ?_
    refine T_cv (S := S0) (q := 530) xr_191_2 xf_165.1 xf_165.2.1 xn_165 (as := [.int (x1)]) (r := []) rfl w530 (by simp [Value.category]) (by simp [Value.category]) (pc' := 5) rfl (ls' := [(0, .ref 530), (1, .int (x1))]) rfl ?_
    refine T_p xr_165_0 xn_165 (pc' := 1) (ls' := [(0, .ref 530), (1, .int (x1))]) (st' := [.int (x1)]) rfl ?_
    refine T_b1f xr_165_1 c1 (t := 16) (pc' := 4) rfl rfl ?_
    refine T_p xr_165_4 xn_165 (pc' := 5) (ls' := [(0, .ref 530), (1, .int (x1))]) (st' := [.int (x1)]) rfl ?_
    refine T_p xr_165_5 xn_165 (pc' := 6) (ls' := [(0, .ref 530), (1, .int (x1))]) (st' := [.ref 530, .int (x1)]) rfl ?_
    refine T_get xr_165_6 w530 rfl (v := .int 0) rfl (pc' := 9) rfl ?_
    refine T_b2t xr_165_9 (by rw [X_cd_ge, c1]; rfl) (t := 16) rfl ?_
    refine T_p xr_165_16 xn_165 (pc' := 17) (ls' := [(0, .ref 530), (1, .int (x1))]) (st' := [.int 0]) rfl ?_
    refine T_iret xr_165_17 xf_165.2.2 rfl ?_
    show X_T (6, xs) 191 (5, [(0, .ref 530), (1, .int (x1)), (2, .int (x2))], [.int 0], S0) _
    refine T_b1t xr_191_5 rfl (t := 42) rfl ?_
    refine T_p xr_191_42 xn_191 (pc' := 43) (ls' := [(0, .ref 530), (1, .int (x1)), (2, .int (x2))]) (st' := [.int 0]) rfl ?_
    refine T_iret xr_191_43 xf_191.2.2 rfl ?_
    show X_T (6, xs) 203 (534, [(3, .int 0), (2, .ref 530), (1, .ref 1), (0, .ref 0)], [.int 0, .int 0], S0) _
    refine T_b2t xr_203_534 rfl (t := 588) rfl ?_
    refine T_p xr_203_588 xn_203 (pc' := 591) (ls' := [(3, .int 6), (2, .ref 530), (1, .ref 1), (0, .ref 0)]) (st' := []) rfl ?_
    refine T_p xr_203_591 xn_203 (pc' := 18) (ls' := [(3, .int 6), (2, .ref 530), (1, .ref 1), (0, .ref 0)]) (st' := []) rfl ?_
    refine T_p xr_203_18 xn_203 (pc' := 19) (ls' := [(3, .int 6), (2, .ref 530), (1, .ref 1), (0, .ref 0)]) (st' := [.int 6]) rfl ?_
    refine T_p xr_203_19 xn_203 (pc' := 20) (ls' := [(3, .int 6), (2, .ref 530), (1, .ref 1), (0, .ref 0)]) (st' := [.ref 0, .int 6]) rfl ?_
    refine T_slen xr_203_20 (x := 6) rfl (pc' := 21) rfl ?_
    refine T_p xr_203_21 xn_203 (pc' := 23) (ls' := [(3, .int 6), (2, .ref 530), (1, .ref 1), (0, .ref 0)]) (st' := [.int 6, .int 6, .int 6]) rfl ?_
    refine T_p xr_203_23 xn_203 (pc' := 24) (ls' := [(3, .int 6), (2, .ref 530), (1, .ref 1), (0, .ref 0)]) (st' := [.int 0, .int 6]) rfl ?_
    refine T_b2t xr_203_24 rfl (t := 594) rfl ?_
    refine T_p xr_203_594 xn_203 (pc' := 595) (ls' := [(3, .int 6), (2, .ref 530), (1, .ref 1), (0, .ref 0)]) (st' := [.int 1]) rfl ?_
    exact T_iret xr_203_595 xf_203.2.2 rfl ⟨rfl, hS2⟩
theorem X_op13 (xs : Nat → Int32) : X_T (6, xs) 203 (506, [(3, .int 0), (2, .ref 530), (1, .ref 1), (0, .ref 0)], [], X_Sb) (fun v S => v = some (.int 1) ∧ S.2 = (580, 263990)) := by
  exact X_opx13 xs _ _ rfl rfl X_Sb X_Sb2 X_fo1 X_fo4 X_fo530
theorem X_op14 (xs : Nat → Int32) : X_T (6, xs) 203 (539, [(3, .int 0), (2, .ref 530), (1, .ref 1), (0, .ref 0)], [], X_Sb) (fun v S => v = some (.int 1) ∧ S.2 = (580, 263990)) := by
  refine T_p xr_203_539 xn_203 (pc' := 540) (ls' := [(3, .int 0), (2, .ref 530), (1, .ref 1), (0, .ref 0)]) (st' := [.ref 1]) rfl ?_
  refine T_cv (S := X_Sb) (q := 1) xr_203_540 xf_127.1 xf_127.2.1 xn_127 (as := []) (r := []) rfl X_fo1 (by simp [Value.category]) (by simp [Value.category]) (pc' := 543) rfl (ls' := [(0, .ref 1)]) rfl ?_
  refine T_sc (by decide) ⟨_, _, _, (X_out_eq X_E14a).1, ?_⟩
  show X_T (6, xs) 203 (543, [(3, .int 0), (2, .ref 530), (1, .ref 1), (0, .ref 0)], [.int (-1)], (X_out X_R14a)) _
  refine T_p xr_203_543 xn_203 (pc' := 544) (ls' := [(3, .int 0), (2, .ref 530), (1, .ref 1), (0, .ref 0)]) (st' := [.ref 530, .int (-1)]) rfl ?_
  obtain ⟨fm, hm⟩ : ∃ fm, (X_out X_R14a).1 530 = .inr (11, fm) := X_ob_ex X_E14o X_E14c
  refine T_cv (S := (X_out X_R14a)) (q := 530) xr_203_544 xf_193.1 xf_193.2.1 xn_193 (as := []) (r := [.int (-1)]) rfl hm (by simp [Value.category]) (by simp [Value.category]) (pc' := 547) rfl (ls' := [(0, .ref 530)]) rfl ?_
  refine T_sc (by decide) ⟨_, _, _, (X_out_eq X_E14b).1, ?_⟩
  show X_T (6, xs) 203 (547, [(3, .int 0), (2, .ref 530), (1, .ref 1), (0, .ref 0)], [.int (-1), .int (-1)], (X_out X_R14b)) _
  refine T_b2t xr_203_547 rfl (t := 588) rfl ?_
  refine T_p xr_203_588 xn_203 (pc' := 591) (ls' := [(3, .int 6), (2, .ref 530), (1, .ref 1), (0, .ref 0)]) (st' := []) rfl ?_
  refine T_p xr_203_591 xn_203 (pc' := 18) (ls' := [(3, .int 6), (2, .ref 530), (1, .ref 1), (0, .ref 0)]) (st' := []) rfl ?_
  refine T_p xr_203_18 xn_203 (pc' := 19) (ls' := [(3, .int 6), (2, .ref 530), (1, .ref 1), (0, .ref 0)]) (st' := [.int 6]) rfl ?_
  refine T_p xr_203_19 xn_203 (pc' := 20) (ls' := [(3, .int 6), (2, .ref 530), (1, .ref 1), (0, .ref 0)]) (st' := [.ref 0, .int 6]) rfl ?_
  refine T_slen xr_203_20 (x := 6) rfl (pc' := 21) rfl ?_
  refine T_p xr_203_21 xn_203 (pc' := 23) (ls' := [(3, .int 6), (2, .ref 530), (1, .ref 1), (0, .ref 0)]) (st' := [.int 6, .int 6, .int 6]) rfl ?_
  refine T_p xr_203_23 xn_203 (pc' := 24) (ls' := [(3, .int 6), (2, .ref 530), (1, .ref 1), (0, .ref 0)]) (st' := [.int 0, .int 6]) rfl ?_
  refine T_b2t xr_203_24 rfl (t := 594) rfl ?_
  refine T_p xr_203_594 xn_203 (pc' := 595) (ls' := [(3, .int 6), (2, .ref 530), (1, .ref 1), (0, .ref 0)]) (st' := [.int 1]) rfl ?_
  exact T_iret xr_203_595 xf_203.2.2 rfl ⟨rfl, (X_out_eq X_E14b).2⟩
theorem X_opx15 (xs : Nat → Int32) (x1 : Int32) (g1 : xs 1 = x1) (S0 : X_S) (hS2 : S0.2 = (580, 263990)) (w1 : S0.1 1 = .inr (10, [.ref 2, .ref 4, .ref 250, .ref 496, .ref 501, .ref 504, .ref 511, .ref 517, .ref 527])) (w527 : S0.1 527 = .inr (9, [.ref 501, .ref 504, .int 0, .int (-1), .ref 528, .ref 529, .int 0])) (w530 : S0.1 530 = .inr (11, [.ref 531, .int 0, .ref 532, .int 0, .int 0, .int 0, .int (-1), .int 0, .int 0, .int 0, .int 0, .int 0, .long 0, .ref 533, .ref 534, .ref 535, .ref 536, .ref 537, .ref 538, .ref 539, .ref 540, .ref 541, .ref 542, .ref 543, .ref 544, .ref 545, .ref 546, .ref 547, .int 0, .int 1, .int 0, .int 0, .int 1, .int 0, .ref 548, .ref 549, .ref 550, .ref 551, .int 0, .ref 552, .ref 553, .ref 554, .ref 555, .ref 556, .ref 557, .ref 558, .ref 559, .ref 560, .ref 561, .int 0, .ref 562, .ref 563, .ref 564, .ref 565, .ref 566, .ref 567, .ref 568, .ref 569, .int 0, .ref 570, .ref 571, .ref 572, .ref 573, .ref 574, .ref 575, .ref 576, .ref 577, .ref 578, .int 0, .int 0, .int 0, .ref 579])) : X_T (6, xs) 203 (552, [(3, .int 0), (2, .ref 530), (1, .ref 1), (0, .ref 0)], [], S0) (fun v S => v = some (.int 1) ∧ S.2 = (580, 263990)) := by
  refine T_p xr_203_552 xn_203 (pc' := 553) (ls' := [(3, .int 0), (2, .ref 530), (1, .ref 1), (0, .ref 0)]) (st' := [.ref 1]) rfl ?_
  refine T_p xr_203_553 xn_203 (pc' := 554) (ls' := [(3, .int 0), (2, .ref 530), (1, .ref 1), (0, .ref 0)]) (st' := [.ref 0, .ref 1]) rfl ?_
  refine T_p xr_203_554 xn_203 (pc' := 555) (ls' := [(3, .int 0), (2, .ref 530), (1, .ref 1), (0, .ref 0)]) (st' := [.int 0, .ref 0, .ref 1]) rfl ?_
  refine T_p xr_203_555 xn_203 (pc' := 556) (ls' := [(3, .int 0), (2, .ref 530), (1, .ref 1), (0, .ref 0)]) (st' := [.int 1, .int 0, .ref 0, .ref 1]) rfl ?_
  refine T_p xr_203_556 xn_203 (pc' := 557) (ls' := [(3, .int 0), (2, .ref 530), (1, .ref 1), (0, .ref 0)]) (st' := [.int 1, .ref 0, .ref 1]) rfl ?_
  refine T_sald xr_203_557 (show ¬ ((1 : Int32) < 0 ∨ 6 ≤ (1 : Int32).toNatClampNeg) by decide) (x := x1) g1 (pc' := 558) rfl ?_
  refine T_cv (S := S0) (q := 1) xr_203_558 xf_128.1 xf_128.2.1 xn_128 (as := [.int (x1)]) (r := []) rfl w1 (by simp [Value.category]) (by simp [Value.category]) (pc' := 561) rfl (ls' := [(0, .ref 1), (1, .int (x1))]) rfl ?_
  refine T_p xr_128_0 xn_128 (pc' := 1) (ls' := [(0, .ref 1), (1, .int (x1))]) (st' := [.int (x1)]) rfl ?_
  refine T_b1 xr_128_1 (t := 12) (pc' := 4) rfl rfl (fun c1 => ?_) (fun c1 => ?_)
  · skip
    have c2 : X_cd .eq x1 0 = false := by rw [X_cd_ne] at c1; simpa using c1
    refine T_p xr_128_12 xn_128 (pc' := 13) (ls' := [(0, .ref 1), (1, .int (x1))]) (st' := [.int (x1)]) rfl ?_
    refine T_p xr_128_13 xn_128 (pc' := 14) (ls' := [(0, .ref 1), (1, .int (x1))]) (st' := [.int 1, .int (x1)]) rfl ?_
    refine T_b2 xr_128_14 (t := 27) (pc' := 17) rfl rfl (fun c3 => ?_) (fun c3 => ?_)
    · skip
      have c4 : X_cd .eq x1 1 = false := by rw [X_cd_ne] at c3; simpa using c3
      refine T_p xr_128_27 xn_128 (pc' := 28) (ls' := [(0, .ref 1), (1, .int (x1))]) (st' := [.int (-1)]) rfl ?_
      refine T_iret xr_128_28 xf_128.2.2 rfl ?_
      show X_T (6, xs) 203 (561, [(3, .int 0), (2, .ref 530), (1, .ref 1), (0, .ref 0)], [.int (-1)], S0) _
      refine T_p xr_203_561 xn_203 (pc' := 562) (ls' := [(3, .int 0), (2, .ref 530), (1, .ref 1), (0, .ref 0)]) (st' := [.ref 530, .int (-1)]) rfl ?_
      refine T_p xr_203_562 xn_203 (pc' := 563) (ls' := [(3, .int 0), (2, .ref 530), (1, .ref 1), (0, .ref 0)]) (st' := [.ref 0, .ref 530, .int (-1)]) rfl ?_
      refine T_p xr_203_563 xn_203 (pc' := 564) (ls' := [(3, .int 0), (2, .ref 530), (1, .ref 1), (0, .ref 0)]) (st' := [.int 0, .ref 0, .ref 530, .int (-1)]) rfl ?_
      refine T_p xr_203_564 xn_203 (pc' := 565) (ls' := [(3, .int 0), (2, .ref 530), (1, .ref 1), (0, .ref 0)]) (st' := [.int 1, .int 0, .ref 0, .ref 530, .int (-1)]) rfl ?_
      refine T_p xr_203_565 xn_203 (pc' := 566) (ls' := [(3, .int 0), (2, .ref 530), (1, .ref 1), (0, .ref 0)]) (st' := [.int 1, .ref 0, .ref 530, .int (-1)]) rfl ?_
      refine T_sald xr_203_566 (show ¬ ((1 : Int32) < 0 ∨ 6 ≤ (1 : Int32).toNatClampNeg) by decide) (x := x1) g1 (pc' := 567) rfl ?_
      refine T_cv (S := S0) (q := 530) xr_203_567 xf_198.1 xf_198.2.1 xn_198 (as := [.int (x1)]) (r := [.int (-1)]) rfl w530 (by simp [Value.category]) (by simp [Value.category]) (pc' := 570) rfl (ls' := [(0, .ref 530), (1, .int (x1))]) rfl ?_
      refine T_p xr_198_0 xn_198 (pc' := 1) (ls' := [(0, .ref 530), (1, .int (x1))]) (st' := [.int (x1)]) rfl ?_
      refine T_b1t xr_198_1 (by rw [X_cd_ne, c2]; rfl) (t := 22) rfl ?_
      refine T_p xr_198_22 xn_198 (pc' := 23) (ls' := [(0, .ref 530), (1, .int (x1))]) (st' := [.int (x1)]) rfl ?_
      refine T_p xr_198_23 xn_198 (pc' := 24) (ls' := [(0, .ref 530), (1, .int (x1))]) (st' := [.int 1, .int (x1)]) rfl ?_
      refine T_b2t xr_198_24 (by rw [X_cd_ne, c4]; rfl) (t := 41) rfl ?_
      refine T_p xr_198_41 xn_198 (pc' := 42) (ls' := [(0, .ref 530), (1, .int (x1))]) (st' := [.int (-1)]) rfl ?_
      refine T_iret xr_198_42 xf_198.2.2 rfl ?_
      show X_T (6, xs) 203 (570, [(3, .int 0), (2, .ref 530), (1, .ref 1), (0, .ref 0)], [.int (-1), .int (-1)], S0) _
      refine T_b2t xr_203_570 rfl (t := 588) rfl ?_
      refine T_p xr_203_588 xn_203 (pc' := 591) (ls' := [(3, .int 6), (2, .ref 530), (1, .ref 1), (0, .ref 0)]) (st' := []) rfl ?_
      refine T_p xr_203_591 xn_203 (pc' := 18) (ls' := [(3, .int 6), (2, .ref 530), (1, .ref 1), (0, .ref 0)]) (st' := []) rfl ?_
      refine T_p xr_203_18 xn_203 (pc' := 19) (ls' := [(3, .int 6), (2, .ref 530), (1, .ref 1), (0, .ref 0)]) (st' := [.int 6]) rfl ?_
      refine T_p xr_203_19 xn_203 (pc' := 20) (ls' := [(3, .int 6), (2, .ref 530), (1, .ref 1), (0, .ref 0)]) (st' := [.ref 0, .int 6]) rfl ?_
      refine T_slen xr_203_20 (x := 6) rfl (pc' := 21) rfl ?_
      refine T_p xr_203_21 xn_203 (pc' := 23) (ls' := [(3, .int 6), (2, .ref 530), (1, .ref 1), (0, .ref 0)]) (st' := [.int 6, .int 6, .int 6]) rfl ?_
      refine T_p xr_203_23 xn_203 (pc' := 24) (ls' := [(3, .int 6), (2, .ref 530), (1, .ref 1), (0, .ref 0)]) (st' := [.int 0, .int 6]) rfl ?_
      refine T_b2t xr_203_24 rfl (t := 594) rfl ?_
      refine T_p xr_203_594 xn_203 (pc' := 595) (ls' := [(3, .int 6), (2, .ref 530), (1, .ref 1), (0, .ref 0)]) (st' := [.int 1]) rfl ?_
      exact T_iret xr_203_595 xf_203.2.2 rfl ⟨rfl, hS2⟩
    · skip
      have c5 : X_cd .eq x1 1 = true := by rw [X_cd_ne] at c3; simpa using c3
      refine T_p xr_128_17 xn_128 (pc' := 18) (ls' := [(0, .ref 1), (1, .int (x1))]) (st' := [.ref 1]) rfl ?_
      refine T_get xr_128_18 w1 rfl (v := .ref 527) rfl (pc' := 21) rfl ?_
      refine T_get xr_128_21 w527 rfl (v := .int (-1)) rfl (pc' := 24) rfl ?_
      refine T_p xr_128_24 xn_128 (pc' := 28) (ls' := [(0, .ref 1), (1, .int (x1))]) (st' := [.int (-1)]) rfl ?_
      refine T_iret xr_128_28 xf_128.2.2 rfl ?_
      show X_T (6, xs) 203 (561, [(3, .int 0), (2, .ref 530), (1, .ref 1), (0, .ref 0)], [.int (-1)], S0) _
      refine T_p xr_203_561 xn_203 (pc' := 562) (ls' := [(3, .int 0), (2, .ref 530), (1, .ref 1), (0, .ref 0)]) (st' := [.ref 530, .int (-1)]) rfl ?_
      refine T_p xr_203_562 xn_203 (pc' := 563) (ls' := [(3, .int 0), (2, .ref 530), (1, .ref 1), (0, .ref 0)]) (st' := [.ref 0, .ref 530, .int (-1)]) rfl ?_
      refine T_p xr_203_563 xn_203 (pc' := 564) (ls' := [(3, .int 0), (2, .ref 530), (1, .ref 1), (0, .ref 0)]) (st' := [.int 0, .ref 0, .ref 530, .int (-1)]) rfl ?_
      refine T_p xr_203_564 xn_203 (pc' := 565) (ls' := [(3, .int 0), (2, .ref 530), (1, .ref 1), (0, .ref 0)]) (st' := [.int 1, .int 0, .ref 0, .ref 530, .int (-1)]) rfl ?_
      refine T_p xr_203_565 xn_203 (pc' := 566) (ls' := [(3, .int 0), (2, .ref 530), (1, .ref 1), (0, .ref 0)]) (st' := [.int 1, .ref 0, .ref 530, .int (-1)]) rfl ?_
      refine T_sald xr_203_566 (show ¬ ((1 : Int32) < 0 ∨ 6 ≤ (1 : Int32).toNatClampNeg) by decide) (x := x1) g1 (pc' := 567) rfl ?_
      refine T_cv (S := S0) (q := 530) xr_203_567 xf_198.1 xf_198.2.1 xn_198 (as := [.int (x1)]) (r := [.int (-1)]) rfl w530 (by simp [Value.category]) (by simp [Value.category]) (pc' := 570) rfl (ls' := [(0, .ref 530), (1, .int (x1))]) rfl ?_
      refine T_p xr_198_0 xn_198 (pc' := 1) (ls' := [(0, .ref 530), (1, .int (x1))]) (st' := [.int (x1)]) rfl ?_
      refine T_b1t xr_198_1 (by rw [X_cd_ne, c2]; rfl) (t := 22) rfl ?_
      refine T_p xr_198_22 xn_198 (pc' := 23) (ls' := [(0, .ref 530), (1, .int (x1))]) (st' := [.int (x1)]) rfl ?_
      refine T_p xr_198_23 xn_198 (pc' := 24) (ls' := [(0, .ref 530), (1, .int (x1))]) (st' := [.int 1, .int (x1)]) rfl ?_
      refine T_b2f xr_198_24 (by rw [X_cd_ne, c5]; rfl) (t := 41) (pc' := 27) rfl rfl ?_
      refine T_p xr_198_27 xn_198 (pc' := 28) (ls' := [(0, .ref 530), (1, .int (x1))]) (st' := [.ref 530]) rfl ?_
      refine T_get xr_198_28 w530 rfl (v := .int 0) rfl (pc' := 31) rfl ?_
      refine T_b1t xr_198_31 rfl (t := 41) rfl ?_
      refine T_p xr_198_41 xn_198 (pc' := 42) (ls' := [(0, .ref 530), (1, .int (x1))]) (st' := [.int (-1)]) rfl ?_
      refine T_iret xr_198_42 xf_198.2.2 rfl ?_
      show X_T (6, xs) 203 (570, [(3, .int 0), (2, .ref 530), (1, .ref 1), (0, .ref 0)], [.int (-1), .int (-1)], S0) _
      refine T_b2t xr_203_570 rfl (t := 588) rfl ?_
      refine T_p xr_203_588 xn_203 (pc' := 591) (ls' := [(3, .int 6), (2, .ref 530), (1, .ref 1), (0, .ref 0)]) (st' := []) rfl ?_
      refine T_p xr_203_591 xn_203 (pc' := 18) (ls' := [(3, .int 6), (2, .ref 530), (1, .ref 1), (0, .ref 0)]) (st' := []) rfl ?_
      refine T_p xr_203_18 xn_203 (pc' := 19) (ls' := [(3, .int 6), (2, .ref 530), (1, .ref 1), (0, .ref 0)]) (st' := [.int 6]) rfl ?_
      refine T_p xr_203_19 xn_203 (pc' := 20) (ls' := [(3, .int 6), (2, .ref 530), (1, .ref 1), (0, .ref 0)]) (st' := [.ref 0, .int 6]) rfl ?_
      refine T_slen xr_203_20 (x := 6) rfl (pc' := 21) rfl ?_
      refine T_p xr_203_21 xn_203 (pc' := 23) (ls' := [(3, .int 6), (2, .ref 530), (1, .ref 1), (0, .ref 0)]) (st' := [.int 6, .int 6, .int 6]) rfl ?_
      refine T_p xr_203_23 xn_203 (pc' := 24) (ls' := [(3, .int 6), (2, .ref 530), (1, .ref 1), (0, .ref 0)]) (st' := [.int 0, .int 6]) rfl ?_
      refine T_b2t xr_203_24 rfl (t := 594) rfl ?_
      refine T_p xr_203_594 xn_203 (pc' := 595) (ls' := [(3, .int 6), (2, .ref 530), (1, .ref 1), (0, .ref 0)]) (st' := [.int 1]) rfl ?_
      exact T_iret xr_203_595 xf_203.2.2 rfl ⟨rfl, hS2⟩
  · skip
    have c6 : X_cd .eq x1 0 = true := by rw [X_cd_ne] at c1; simpa using c1
    refine T_p xr_128_4 xn_128 (pc' := 5) (ls' := [(0, .ref 1), (1, .int (x1))]) (st' := [.ref 1]) rfl ?_
    refine T_get xr_128_5 w1 rfl (v := .ref 527) rfl (pc' := 8) rfl ?_
    refine T_get xr_128_8 w527 rfl (v := .int 0) rfl (pc' := 11) rfl ?_
    refine T_iret xr_128_11 xf_128.2.2 rfl ?_
    show X_T (6, xs) 203 (561, [(3, .int 0), (2, .ref 530), (1, .ref 1), (0, .ref 0)], [.int 0], S0) _
    refine T_p xr_203_561 xn_203 (pc' := 562) (ls' := [(3, .int 0), (2, .ref 530), (1, .ref 1), (0, .ref 0)]) (st' := [.ref 530, .int 0]) rfl ?_
    refine T_p xr_203_562 xn_203 (pc' := 563) (ls' := [(3, .int 0), (2, .ref 530), (1, .ref 1), (0, .ref 0)]) (st' := [.ref 0, .ref 530, .int 0]) rfl ?_
    refine T_p xr_203_563 xn_203 (pc' := 564) (ls' := [(3, .int 0), (2, .ref 530), (1, .ref 1), (0, .ref 0)]) (st' := [.int 0, .ref 0, .ref 530, .int 0]) rfl ?_
    refine T_p xr_203_564 xn_203 (pc' := 565) (ls' := [(3, .int 0), (2, .ref 530), (1, .ref 1), (0, .ref 0)]) (st' := [.int 1, .int 0, .ref 0, .ref 530, .int 0]) rfl ?_
    refine T_p xr_203_565 xn_203 (pc' := 566) (ls' := [(3, .int 0), (2, .ref 530), (1, .ref 1), (0, .ref 0)]) (st' := [.int 1, .ref 0, .ref 530, .int 0]) rfl ?_
    refine T_sald xr_203_566 (show ¬ ((1 : Int32) < 0 ∨ 6 ≤ (1 : Int32).toNatClampNeg) by decide) (x := x1) g1 (pc' := 567) rfl ?_
    refine T_cv (S := S0) (q := 530) xr_203_567 xf_198.1 xf_198.2.1 xn_198 (as := [.int (x1)]) (r := [.int 0]) rfl w530 (by simp [Value.category]) (by simp [Value.category]) (pc' := 570) rfl (ls' := [(0, .ref 530), (1, .int (x1))]) rfl ?_
    refine T_p xr_198_0 xn_198 (pc' := 1) (ls' := [(0, .ref 530), (1, .int (x1))]) (st' := [.int (x1)]) rfl ?_
    refine T_b1f xr_198_1 (by rw [X_cd_ne, c6]; rfl) (t := 22) (pc' := 4) rfl rfl ?_
    refine T_p xr_198_4 xn_198 (pc' := 5) (ls' := [(0, .ref 530), (1, .int (x1))]) (st' := [.ref 530]) rfl ?_
    refine T_get xr_198_5 w530 rfl (v := .int 0) rfl (pc' := 8) rfl ?_
    refine T_b1t xr_198_8 rfl (t := 18) rfl ?_
    refine T_p xr_198_18 xn_198 (pc' := 19) (ls' := [(0, .ref 530), (1, .int (x1))]) (st' := [.int 0]) rfl ?_
    refine T_p xr_198_19 xn_198 (pc' := 42) (ls' := [(0, .ref 530), (1, .int (x1))]) (st' := [.int 0]) rfl ?_
    refine T_iret xr_198_42 xf_198.2.2 rfl ?_
    show X_T (6, xs) 203 (570, [(3, .int 0), (2, .ref 530), (1, .ref 1), (0, .ref 0)], [.int 0, .int 0], S0) _
    refine T_b2t xr_203_570 rfl (t := 588) rfl ?_
    refine T_p xr_203_588 xn_203 (pc' := 591) (ls' := [(3, .int 6), (2, .ref 530), (1, .ref 1), (0, .ref 0)]) (st' := []) rfl ?_
    refine T_p xr_203_591 xn_203 (pc' := 18) (ls' := [(3, .int 6), (2, .ref 530), (1, .ref 1), (0, .ref 0)]) (st' := []) rfl ?_
    refine T_p xr_203_18 xn_203 (pc' := 19) (ls' := [(3, .int 6), (2, .ref 530), (1, .ref 1), (0, .ref 0)]) (st' := [.int 6]) rfl ?_
    refine T_p xr_203_19 xn_203 (pc' := 20) (ls' := [(3, .int 6), (2, .ref 530), (1, .ref 1), (0, .ref 0)]) (st' := [.ref 0, .int 6]) rfl ?_
    refine T_slen xr_203_20 (x := 6) rfl (pc' := 21) rfl ?_
    refine T_p xr_203_21 xn_203 (pc' := 23) (ls' := [(3, .int 6), (2, .ref 530), (1, .ref 1), (0, .ref 0)]) (st' := [.int 6, .int 6, .int 6]) rfl ?_
    refine T_p xr_203_23 xn_203 (pc' := 24) (ls' := [(3, .int 6), (2, .ref 530), (1, .ref 1), (0, .ref 0)]) (st' := [.int 0, .int 6]) rfl ?_
    refine T_b2t xr_203_24 rfl (t := 594) rfl ?_
    refine T_p xr_203_594 xn_203 (pc' := 595) (ls' := [(3, .int 6), (2, .ref 530), (1, .ref 1), (0, .ref 0)]) (st' := [.int 1]) rfl ?_
    exact T_iret xr_203_595 xf_203.2.2 rfl ⟨rfl, hS2⟩
theorem X_op15 (xs : Nat → Int32) : X_T (6, xs) 203 (552, [(3, .int 0), (2, .ref 530), (1, .ref 1), (0, .ref 0)], [], X_Sb) (fun v S => v = some (.int 1) ∧ S.2 = (580, 263990)) := by
  exact X_opx15 xs _ rfl X_Sb X_Sb2 X_fo1 X_fo527 X_fo530
theorem X_op16 (xs : Nat → Int32) : X_T (6, xs) 203 (575, [(3, .int 0), (2, .ref 530), (1, .ref 1), (0, .ref 0)], [], X_Sb) (fun v S => v = some (.int 1) ∧ S.2 = (580, 263990)) := by
  refine T_p xr_203_575 xn_203 (pc' := 576) (ls' := [(3, .int 0), (2, .ref 530), (1, .ref 1), (0, .ref 0)]) (st' := [.ref 1]) rfl ?_
  refine T_cv (S := X_Sb) (q := 1) xr_203_576 xf_129.1 xf_129.2.1 xn_129 (as := []) (r := []) rfl X_fo1 (by simp [Value.category]) (by simp [Value.category]) (pc' := 579) rfl (ls' := [(0, .ref 1)]) rfl ?_
  refine T_sc (by decide) ⟨_, _, _, (X_out_eq X_E16a).1, ?_⟩
  show X_T (6, xs) 203 (579, [(3, .int 0), (2, .ref 530), (1, .ref 1), (0, .ref 0)], [.int (-1)], (X_out X_R16a)) _
  refine T_p xr_203_579 xn_203 (pc' := 580) (ls' := [(3, .int 0), (2, .ref 530), (1, .ref 1), (0, .ref 0)]) (st' := [.ref 530, .int (-1)]) rfl ?_
  obtain ⟨fm, hm⟩ : ∃ fm, (X_out X_R16a).1 530 = .inr (11, fm) := X_ob_ex X_E16o X_E16c
  refine T_cv (S := (X_out X_R16a)) (q := 530) xr_203_580 xf_199.1 xf_199.2.1 xn_199 (as := []) (r := [.int (-1)]) rfl hm (by simp [Value.category]) (by simp [Value.category]) (pc' := 583) rfl (ls' := [(0, .ref 530)]) rfl ?_
  refine T_sc (by decide) ⟨_, _, _, (X_out_eq X_E16b).1, ?_⟩
  show X_T (6, xs) 203 (583, [(3, .int 0), (2, .ref 530), (1, .ref 1), (0, .ref 0)], [.int (-1), .int (-1)], (X_out X_R16b)) _
  refine T_b2t xr_203_583 rfl (t := 588) rfl ?_
  refine T_p xr_203_588 xn_203 (pc' := 591) (ls' := [(3, .int 6), (2, .ref 530), (1, .ref 1), (0, .ref 0)]) (st' := []) rfl ?_
  refine T_p xr_203_591 xn_203 (pc' := 18) (ls' := [(3, .int 6), (2, .ref 530), (1, .ref 1), (0, .ref 0)]) (st' := []) rfl ?_
  refine T_p xr_203_18 xn_203 (pc' := 19) (ls' := [(3, .int 6), (2, .ref 530), (1, .ref 1), (0, .ref 0)]) (st' := [.int 6]) rfl ?_
  refine T_p xr_203_19 xn_203 (pc' := 20) (ls' := [(3, .int 6), (2, .ref 530), (1, .ref 1), (0, .ref 0)]) (st' := [.ref 0, .int 6]) rfl ?_
  refine T_slen xr_203_20 (x := 6) rfl (pc' := 21) rfl ?_
  refine T_p xr_203_21 xn_203 (pc' := 23) (ls' := [(3, .int 6), (2, .ref 530), (1, .ref 1), (0, .ref 0)]) (st' := [.int 6, .int 6, .int 6]) rfl ?_
  refine T_p xr_203_23 xn_203 (pc' := 24) (ls' := [(3, .int 6), (2, .ref 530), (1, .ref 1), (0, .ref 0)]) (st' := [.int 0, .int 6]) rfl ?_
  refine T_b2t xr_203_24 rfl (t := 594) rfl ?_
  refine T_p xr_203_594 xn_203 (pc' := 595) (ls' := [(3, .int 6), (2, .ref 530), (1, .ref 1), (0, .ref 0)]) (st' := [.int 1]) rfl ?_
  exact T_iret xr_203_595 xf_203.2.2 rfl ⟨rfl, (X_out_eq X_E16b).2⟩
