theorem xr_203_0 : X_row 203 0 = some (0, (.new 7, 3), (10, 96, 0)) := by decide +kernel
theorem xr_203_3 : X_row 203 3 = some (3, (.dup, 1), (0, 0, 0)) := by decide +kernel
theorem xr_203_4 : X_row 203 4 = some (4, (.invokespecial 9, 3), (112, 0, 0)) := by decide +kernel
theorem xr_203_7 : X_row 203 7 = some (7, (.astore_n 1, 1), (0, 0, 0)) := by decide +kernel
theorem xr_203_8 : X_row 203 8 = some (8, (.new 10, 3), (11, 1037, 0)) := by decide +kernel
theorem xr_203_11 : X_row 203 11 = some (11, (.dup, 1), (0, 0, 0)) := by decide +kernel
theorem xr_203_12 : X_row 203 12 = some (12, (.invokespecial 12, 3), (161, 36, 0)) := by decide +kernel
theorem xr_203_15 : X_row 203 15 = some (15, (.astore_n 2, 1), (0, 0, 0)) := by decide +kernel
theorem xr_203_16 : X_row 203 16 = some (16, (.iconst 0, 1), (0, 0, 0)) := by decide +kernel
theorem xr_203_17 : X_row 203 17 = some (17, (.istore_n 3, 1), (0, 0, 0)) := by decide +kernel
theorem xr_203_27 : X_row 203 27 = some (27, (.aload_n 0, 1), (0, 0, 0)) := by decide +kernel
theorem xr_203_28 : X_row 203 28 = some (28, (.iload_n 3, 1), (0, 0, 0)) := by decide +kernel
theorem xr_203_29 : X_row 203 29 = some (29, (.iaload, 1), (1, 0, 0)) := by decide +kernel
theorem xr_203_30 : X_row 203 30 = some (30, (.bipush 31, 2), (0, 0, 0)) := by decide +kernel
theorem xr_203_32 : X_row 203 32 = some (32, (.iand, 1), (0, 0, 0)) := by decide +kernel
theorem xr_203_33 : X_row 203 33 = some (33, (.tableswitch 555 0 16 #[83, 146, 169, 182, 205, 228, 261, 294, 327, 340, 374, 387, 440, 473, 506, 519, 542], 83), (0, 0, 0)) := by decide +kernel
theorem xn_112 : X_nL 112 = 1 := by decide +kernel
theorem xf_112 : X_na 112 = 0 ∧ X_ci 112 = 10 ∧ X_rt 112 = none := by decide +kernel
theorem xn_161 : X_nL 161 = 1 := by decide +kernel
theorem xf_161 : X_na 161 = 0 ∧ X_ci 161 = 11 ∧ X_rt 161 = none := by decide +kernel
theorem X_init_class (sc : X_Sc) : X_T sc 112 (0, [(0, .ref 1)], [], X_A0) (fun v S => v = none ∧ S = X_Sa) := T_sc (sc := X_sc0) (by decide) ⟨_, _, _, (X_out_eq X_Ea).1, rfl, rfl⟩
theorem X_init_model (sc : X_Sc) : X_T sc 161 (0, [(0, .ref 530)], [], X_B0) (fun v S => v = none ∧ S = X_Sb) := T_sc (sc := X_sc0) (by decide) ⟨_, _, _, (X_out_eq X_Eb).1, rfl, rfl⟩
theorem T_new {sc : X_Sc} {j n idx ci p0 pc pc' q : Nat} {ls : X_L} {st fs : List Value} {S S1 : X_S} {Q : Option Value → X_S → Prop} (hr : X_row j pc = some (pc, (.new idx, n), (ci, p0, 0))) (hf : X_df[ci]? = some fs) (hq : S.2.1 = q) (hS : (X_upd S.1 S.2.1 (.inr (ci, fs)), S.2.1 + 1, S.2.2 + fs.length) = S1) (hp : pc + 3 = pc')
    (k : X_T sc j (pc', ls, .ref q :: st, S1) Q) : X_T sc j (pc, ls, st, S) Q := by
  subst hp; subst hq; subst hS
  refine T_h hr rfl ?_ k
  simp only [X_hstep, hf]
theorem X_law_head (sc : X_Sc) {Q : Option Value → X_S → Prop} (h : X_T sc 203 (18, [(3, .int 0), (2, .ref 530), (1, .ref 1), (0, .ref 0)], [], X_Sb) Q) : X_T sc 203 (0, [(0, .ref 0)], [], X_S0) Q := by
  refine T_new xr_203_0 rfl rfl (S1 := X_A0) rfl (pc' := 3) rfl ?_
  refine T_p xr_203_3 xn_203 (pc' := 4) (ls' := [(0, .ref 0)]) (st' := [.ref 1, .ref 1]) rfl ?_
  refine T_ci xr_203_4 (by decide) xf_112.1 xn_112 (as := []) (q := 1) (r := [.ref 1]) rfl (by decide) (by decide) (pc' := 7) rfl (ls' := [(0, .ref 1)]) rfl ?_
  refine T_mono (X_init_class sc) (fun v S' hv => ?_)
  obtain ⟨hv1, hv2⟩ := hv
  rw [hv1, hv2]
  show X_T sc 203 (7, [(0, .ref 0)], [.ref 1], X_Sa) Q
  refine T_p xr_203_7 xn_203 (pc' := 8) (ls' := [(1, .ref 1), (0, .ref 0)]) (st' := []) rfl ?_
  have h2 : X_Sa.2 = (530, 97535) := (X_out_eq X_Ea).2
  refine T_new xr_203_8 rfl (q := 530) (by rw [h2]) (S1 := X_B0) (by rw [h2]; rfl) (pc' := 11) rfl ?_
  refine T_p xr_203_11 xn_203 (pc' := 12) (ls' := [(1, .ref 1), (0, .ref 0)]) (st' := [.ref 530, .ref 530]) rfl ?_
  refine T_ci xr_203_12 (by decide) xf_161.1 xn_161 (as := []) (q := 530) (r := [.ref 530]) rfl (by decide) (by decide) (pc' := 15) rfl (ls' := [(0, .ref 530)]) rfl ?_
  refine T_mono (X_init_model sc) (fun v S' hv => ?_)
  obtain ⟨hv1, hv2⟩ := hv
  rw [hv1, hv2]
  show X_T sc 203 (15, [(1, .ref 1), (0, .ref 0)], [.ref 530], X_Sb) Q
  refine T_p xr_203_15 xn_203 (pc' := 16) (ls' := [(2, .ref 530), (1, .ref 1), (0, .ref 0)]) (st' := []) rfl ?_
  refine T_p xr_203_16 xn_203 (pc' := 17) (ls' := [(2, .ref 530), (1, .ref 1), (0, .ref 0)]) (st' := [.int 0]) rfl ?_
  exact T_p xr_203_17 xn_203 (pc' := 18) (ls' := [(3, .int 0), (2, .ref 530), (1, .ref 1), (0, .ref 0)]) (st' := []) rfl h
theorem X_law_0 (xs : Nat → Int32) : X_T (0, xs) 203 (18, [(3, .int 0), (2, .ref 530), (1, .ref 1), (0, .ref 0)], [], X_Sb) (fun v S => v = some (.int 1) ∧ S.2 = (580, 263990)) := by
  refine T_p xr_203_18 xn_203 (pc' := 19) (ls' := [(3, .int 0), (2, .ref 530), (1, .ref 1), (0, .ref 0)]) (st' := [.int 0]) rfl ?_
  refine T_p xr_203_19 xn_203 (pc' := 20) (ls' := [(3, .int 0), (2, .ref 530), (1, .ref 1), (0, .ref 0)]) (st' := [.ref 0, .int 0]) rfl ?_
  refine T_slen xr_203_20 (x := 0) rfl (pc' := 21) rfl ?_
  refine T_p xr_203_21 xn_203 (pc' := 23) (ls' := [(3, .int 0), (2, .ref 530), (1, .ref 1), (0, .ref 0)]) (st' := [.int 6, .int 0, .int 0]) rfl ?_
  refine T_p xr_203_23 xn_203 (pc' := 24) (ls' := [(3, .int 0), (2, .ref 530), (1, .ref 1), (0, .ref 0)]) (st' := [.int (-6), .int 0]) rfl ?_
  refine T_b2t xr_203_24 rfl (t := 594) rfl ?_
  refine T_p xr_203_594 xn_203 (pc' := 595) (ls' := [(3, .int 0), (2, .ref 530), (1, .ref 1), (0, .ref 0)]) (st' := [.int 1]) rfl ?_
  exact T_iret xr_203_595 xf_203.2.2 rfl ⟨rfl, X_Sb2⟩
theorem X_law_1 (xs : Nat → Int32) : X_T (1, xs) 203 (18, [(3, .int 0), (2, .ref 530), (1, .ref 1), (0, .ref 0)], [], X_Sb) (fun v S => v = some (.int 1) ∧ S.2 = (580, 263990)) := by
  refine T_p xr_203_18 xn_203 (pc' := 19) (ls' := [(3, .int 0), (2, .ref 530), (1, .ref 1), (0, .ref 0)]) (st' := [.int 0]) rfl ?_
  refine T_p xr_203_19 xn_203 (pc' := 20) (ls' := [(3, .int 0), (2, .ref 530), (1, .ref 1), (0, .ref 0)]) (st' := [.ref 0, .int 0]) rfl ?_
  refine T_slen xr_203_20 (x := 1) rfl (pc' := 21) rfl ?_
  refine T_p xr_203_21 xn_203 (pc' := 23) (ls' := [(3, .int 0), (2, .ref 530), (1, .ref 1), (0, .ref 0)]) (st' := [.int 6, .int 1, .int 0]) rfl ?_
  refine T_p xr_203_23 xn_203 (pc' := 24) (ls' := [(3, .int 0), (2, .ref 530), (1, .ref 1), (0, .ref 0)]) (st' := [.int (-5), .int 0]) rfl ?_
  refine T_b2t xr_203_24 rfl (t := 594) rfl ?_
  refine T_p xr_203_594 xn_203 (pc' := 595) (ls' := [(3, .int 0), (2, .ref 530), (1, .ref 1), (0, .ref 0)]) (st' := [.int 1]) rfl ?_
  exact T_iret xr_203_595 xf_203.2.2 rfl ⟨rfl, X_Sb2⟩
theorem X_law_2 (xs : Nat → Int32) : X_T (2, xs) 203 (18, [(3, .int 0), (2, .ref 530), (1, .ref 1), (0, .ref 0)], [], X_Sb) (fun v S => v = some (.int 1) ∧ S.2 = (580, 263990)) := by
  refine T_p xr_203_18 xn_203 (pc' := 19) (ls' := [(3, .int 0), (2, .ref 530), (1, .ref 1), (0, .ref 0)]) (st' := [.int 0]) rfl ?_
  refine T_p xr_203_19 xn_203 (pc' := 20) (ls' := [(3, .int 0), (2, .ref 530), (1, .ref 1), (0, .ref 0)]) (st' := [.ref 0, .int 0]) rfl ?_
  refine T_slen xr_203_20 (x := 2) rfl (pc' := 21) rfl ?_
  refine T_p xr_203_21 xn_203 (pc' := 23) (ls' := [(3, .int 0), (2, .ref 530), (1, .ref 1), (0, .ref 0)]) (st' := [.int 6, .int 2, .int 0]) rfl ?_
  refine T_p xr_203_23 xn_203 (pc' := 24) (ls' := [(3, .int 0), (2, .ref 530), (1, .ref 1), (0, .ref 0)]) (st' := [.int (-4), .int 0]) rfl ?_
  refine T_b2t xr_203_24 rfl (t := 594) rfl ?_
  refine T_p xr_203_594 xn_203 (pc' := 595) (ls' := [(3, .int 0), (2, .ref 530), (1, .ref 1), (0, .ref 0)]) (st' := [.int 1]) rfl ?_
  exact T_iret xr_203_595 xf_203.2.2 rfl ⟨rfl, X_Sb2⟩
theorem X_law_3 (xs : Nat → Int32) : X_T (3, xs) 203 (18, [(3, .int 0), (2, .ref 530), (1, .ref 1), (0, .ref 0)], [], X_Sb) (fun v S => v = some (.int 1) ∧ S.2 = (580, 263990)) := by
  refine T_p xr_203_18 xn_203 (pc' := 19) (ls' := [(3, .int 0), (2, .ref 530), (1, .ref 1), (0, .ref 0)]) (st' := [.int 0]) rfl ?_
  refine T_p xr_203_19 xn_203 (pc' := 20) (ls' := [(3, .int 0), (2, .ref 530), (1, .ref 1), (0, .ref 0)]) (st' := [.ref 0, .int 0]) rfl ?_
  refine T_slen xr_203_20 (x := 3) rfl (pc' := 21) rfl ?_
  refine T_p xr_203_21 xn_203 (pc' := 23) (ls' := [(3, .int 0), (2, .ref 530), (1, .ref 1), (0, .ref 0)]) (st' := [.int 6, .int 3, .int 0]) rfl ?_
  refine T_p xr_203_23 xn_203 (pc' := 24) (ls' := [(3, .int 0), (2, .ref 530), (1, .ref 1), (0, .ref 0)]) (st' := [.int (-3), .int 0]) rfl ?_
  refine T_b2t xr_203_24 rfl (t := 594) rfl ?_
  refine T_p xr_203_594 xn_203 (pc' := 595) (ls' := [(3, .int 0), (2, .ref 530), (1, .ref 1), (0, .ref 0)]) (st' := [.int 1]) rfl ?_
  exact T_iret xr_203_595 xf_203.2.2 rfl ⟨rfl, X_Sb2⟩
theorem X_law_4 (xs : Nat → Int32) : X_T (4, xs) 203 (18, [(3, .int 0), (2, .ref 530), (1, .ref 1), (0, .ref 0)], [], X_Sb) (fun v S => v = some (.int 1) ∧ S.2 = (580, 263990)) := by
  refine T_p xr_203_18 xn_203 (pc' := 19) (ls' := [(3, .int 0), (2, .ref 530), (1, .ref 1), (0, .ref 0)]) (st' := [.int 0]) rfl ?_
  refine T_p xr_203_19 xn_203 (pc' := 20) (ls' := [(3, .int 0), (2, .ref 530), (1, .ref 1), (0, .ref 0)]) (st' := [.ref 0, .int 0]) rfl ?_
  refine T_slen xr_203_20 (x := 4) rfl (pc' := 21) rfl ?_
  refine T_p xr_203_21 xn_203 (pc' := 23) (ls' := [(3, .int 0), (2, .ref 530), (1, .ref 1), (0, .ref 0)]) (st' := [.int 6, .int 4, .int 0]) rfl ?_
  refine T_p xr_203_23 xn_203 (pc' := 24) (ls' := [(3, .int 0), (2, .ref 530), (1, .ref 1), (0, .ref 0)]) (st' := [.int (-2), .int 0]) rfl ?_
  refine T_b2t xr_203_24 rfl (t := 594) rfl ?_
  refine T_p xr_203_594 xn_203 (pc' := 595) (ls' := [(3, .int 0), (2, .ref 530), (1, .ref 1), (0, .ref 0)]) (st' := [.int 1]) rfl ?_
  exact T_iret xr_203_595 xf_203.2.2 rfl ⟨rfl, X_Sb2⟩
theorem X_law_5 (xs : Nat → Int32) : X_T (5, xs) 203 (18, [(3, .int 0), (2, .ref 530), (1, .ref 1), (0, .ref 0)], [], X_Sb) (fun v S => v = some (.int 1) ∧ S.2 = (580, 263990)) := by
  refine T_p xr_203_18 xn_203 (pc' := 19) (ls' := [(3, .int 0), (2, .ref 530), (1, .ref 1), (0, .ref 0)]) (st' := [.int 0]) rfl ?_
  refine T_p xr_203_19 xn_203 (pc' := 20) (ls' := [(3, .int 0), (2, .ref 530), (1, .ref 1), (0, .ref 0)]) (st' := [.ref 0, .int 0]) rfl ?_
  refine T_slen xr_203_20 (x := 5) rfl (pc' := 21) rfl ?_
  refine T_p xr_203_21 xn_203 (pc' := 23) (ls' := [(3, .int 0), (2, .ref 530), (1, .ref 1), (0, .ref 0)]) (st' := [.int 6, .int 5, .int 0]) rfl ?_
  refine T_p xr_203_23 xn_203 (pc' := 24) (ls' := [(3, .int 0), (2, .ref 530), (1, .ref 1), (0, .ref 0)]) (st' := [.int (-1), .int 0]) rfl ?_
  refine T_b2t xr_203_24 rfl (t := 594) rfl ?_
  refine T_p xr_203_594 xn_203 (pc' := 595) (ls' := [(3, .int 0), (2, .ref 530), (1, .ref 1), (0, .ref 0)]) (st' := [.int 1]) rfl ?_
  exact T_iret xr_203_595 xf_203.2.2 rfl ⟨rfl, X_Sb2⟩
theorem X_law_6 (xs : Nat → Int32) : X_T (6, xs) 203 (18, [(3, .int 0), (2, .ref 530), (1, .ref 1), (0, .ref 0)], [], X_Sb) (fun v S => v = some (.int 1) ∧ S.2 = (580, 263990)) := by
  refine T_p xr_203_18 xn_203 (pc' := 19) (ls' := [(3, .int 0), (2, .ref 530), (1, .ref 1), (0, .ref 0)]) (st' := [.int 0]) rfl ?_
  refine T_p xr_203_19 xn_203 (pc' := 20) (ls' := [(3, .int 0), (2, .ref 530), (1, .ref 1), (0, .ref 0)]) (st' := [.ref 0, .int 0]) rfl ?_
  refine T_slen xr_203_20 (x := 6) rfl (pc' := 21) rfl ?_
  refine T_p xr_203_21 xn_203 (pc' := 23) (ls' := [(3, .int 0), (2, .ref 530), (1, .ref 1), (0, .ref 0)]) (st' := [.int 6, .int 6, .int 0]) rfl ?_
  refine T_p xr_203_23 xn_203 (pc' := 24) (ls' := [(3, .int 0), (2, .ref 530), (1, .ref 1), (0, .ref 0)]) (st' := [.int 0, .int 0]) rfl ?_
  refine T_b2f xr_203_24 rfl (t := 594) (pc' := 27) rfl rfl ?_
  refine T_p xr_203_27 xn_203 (pc' := 28) (ls' := [(3, .int 0), (2, .ref 530), (1, .ref 1), (0, .ref 0)]) (st' := [.ref 0]) rfl ?_
  refine T_p xr_203_28 xn_203 (pc' := 29) (ls' := [(3, .int 0), (2, .ref 530), (1, .ref 1), (0, .ref 0)]) (st' := [.int 0, .ref 0]) rfl ?_
  refine T_sald xr_203_29 (show ¬ ((0 : Int32) < 0 ∨ 6 ≤ (0 : Int32).toNatClampNeg) by decide) (x := xs 0) rfl (pc' := 30) rfl ?_
  refine T_p xr_203_30 xn_203 (pc' := 32) (ls' := [(3, .int 0), (2, .ref 530), (1, .ref 1), (0, .ref 0)]) (st' := [.int 31, .int (xs 0)]) rfl ?_
  refine T_p xr_203_32 xn_203 (pc' := 33) (ls' := [(3, .int 0), (2, .ref 530), (1, .ref 1), (0, .ref 0)]) (st' := [.int (((xs 0 : Int32) &&& 31))]) rfl ?_
  refine T_nm (fun y hy => ?_)
  rcases X_sw (x := y) (n := 16) with hs | ⟨m, hm, hs⟩
  · refine T_p xr_203_33 xn_203 (pc' := 588) (ls' := [(3, .int 0), (2, .ref 530), (1, .ref 1), (0, .ref 0)]) (st' := []) (X_swo (row := (0, (.nop, 0), (0, 0, 0))) (lo := 0) (hi := 16) hs rfl) ?_
    refine T_p xr_203_588 xn_203 (pc' := 591) (ls' := [(3, .int 6), (2, .ref 530), (1, .ref 1), (0, .ref 0)]) (st' := []) rfl ?_
    refine T_p xr_203_591 xn_203 (pc' := 18) (ls' := [(3, .int 6), (2, .ref 530), (1, .ref 1), (0, .ref 0)]) (st' := []) rfl ?_
    refine T_p xr_203_18 xn_203 (pc' := 19) (ls' := [(3, .int 6), (2, .ref 530), (1, .ref 1), (0, .ref 0)]) (st' := [.int 6]) rfl ?_
    refine T_p xr_203_19 xn_203 (pc' := 20) (ls' := [(3, .int 6), (2, .ref 530), (1, .ref 1), (0, .ref 0)]) (st' := [.ref 0, .int 6]) rfl ?_
    refine T_slen xr_203_20 (x := 6) rfl (pc' := 21) rfl ?_
    refine T_p xr_203_21 xn_203 (pc' := 23) (ls' := [(3, .int 6), (2, .ref 530), (1, .ref 1), (0, .ref 0)]) (st' := [.int 6, .int 6, .int 6]) rfl ?_
    refine T_p xr_203_23 xn_203 (pc' := 24) (ls' := [(3, .int 6), (2, .ref 530), (1, .ref 1), (0, .ref 0)]) (st' := [.int 0, .int 6]) rfl ?_
    refine T_b2t xr_203_24 rfl (t := 594) rfl ?_
    refine T_p xr_203_594 xn_203 (pc' := 595) (ls' := [(3, .int 6), (2, .ref 530), (1, .ref 1), (0, .ref 0)]) (st' := [.int 1]) rfl ?_
    exact T_iret xr_203_595 xf_203.2.2 rfl ⟨rfl, X_Sb2⟩
  · match m, hm, hs with
    | 0, _, hs =>
      have hs : y = 0 := hs
      rw [hs]
      exact T_p xr_203_33 xn_203 (pc' := 116) (ls' := [(3, .int 0), (2, .ref 530), (1, .ref 1), (0, .ref 0)]) (st' := []) rfl (X_op0 xs)
    | 1, _, hs =>
      have hs : y = 1 := hs
      rw [hs]
      exact T_p xr_203_33 xn_203 (pc' := 179) (ls' := [(3, .int 0), (2, .ref 530), (1, .ref 1), (0, .ref 0)]) (st' := []) rfl (X_op1 xs)
    | 2, _, hs =>
      have hs : y = 2 := hs
      rw [hs]
      exact T_p xr_203_33 xn_203 (pc' := 202) (ls' := [(3, .int 0), (2, .ref 530), (1, .ref 1), (0, .ref 0)]) (st' := []) rfl (X_op2 xs)
    | 3, _, hs =>
      have hs : y = 3 := hs
      rw [hs]
      exact T_p xr_203_33 xn_203 (pc' := 215) (ls' := [(3, .int 0), (2, .ref 530), (1, .ref 1), (0, .ref 0)]) (st' := []) rfl (X_op3 xs)
    | 4, _, hs =>
      have hs : y = 4 := hs
      rw [hs]
      exact T_p xr_203_33 xn_203 (pc' := 238) (ls' := [(3, .int 0), (2, .ref 530), (1, .ref 1), (0, .ref 0)]) (st' := []) rfl (X_op4 xs)
    | 5, _, hs =>
      have hs : y = 5 := hs
      rw [hs]
      exact T_p xr_203_33 xn_203 (pc' := 261) (ls' := [(3, .int 0), (2, .ref 530), (1, .ref 1), (0, .ref 0)]) (st' := []) rfl (X_op5 xs)
    | 6, _, hs =>
      have hs : y = 6 := hs
      rw [hs]
      exact T_p xr_203_33 xn_203 (pc' := 294) (ls' := [(3, .int 0), (2, .ref 530), (1, .ref 1), (0, .ref 0)]) (st' := []) rfl (X_op6 xs)
    | 7, _, hs =>
      have hs : y = 7 := hs
      rw [hs]
      exact T_p xr_203_33 xn_203 (pc' := 327) (ls' := [(3, .int 0), (2, .ref 530), (1, .ref 1), (0, .ref 0)]) (st' := []) rfl (X_op7 xs)
    | 8, _, hs =>
      have hs : y = 8 := hs
      rw [hs]
      exact T_p xr_203_33 xn_203 (pc' := 360) (ls' := [(3, .int 0), (2, .ref 530), (1, .ref 1), (0, .ref 0)]) (st' := []) rfl (X_op8 xs)
    | 9, _, hs =>
      have hs : y = 9 := hs
      rw [hs]
      exact T_p xr_203_33 xn_203 (pc' := 373) (ls' := [(3, .int 0), (2, .ref 530), (1, .ref 1), (0, .ref 0)]) (st' := []) rfl (X_op9 xs)
    | 10, _, hs =>
      have hs : y = 10 := hs
      rw [hs]
      exact T_p xr_203_33 xn_203 (pc' := 407) (ls' := [(3, .int 0), (2, .ref 530), (1, .ref 1), (0, .ref 0)]) (st' := []) rfl (X_op10 xs)
    | 11, _, hs =>
      have hs : y = 11 := hs
      rw [hs]
      exact T_p xr_203_33 xn_203 (pc' := 420) (ls' := [(3, .int 0), (2, .ref 530), (1, .ref 1), (0, .ref 0)]) (st' := []) rfl (X_op11 xs)
    | 12, _, hs =>
      have hs : y = 12 := hs
      rw [hs]
      exact T_p xr_203_33 xn_203 (pc' := 473) (ls' := [(3, .int 0), (2, .ref 530), (1, .ref 1), (0, .ref 0)]) (st' := []) rfl (X_op12 xs)
    | 13, _, hs =>
      have hs : y = 13 := hs
      rw [hs]
      exact T_p xr_203_33 xn_203 (pc' := 506) (ls' := [(3, .int 0), (2, .ref 530), (1, .ref 1), (0, .ref 0)]) (st' := []) rfl (X_op13 xs)
    | 14, _, hs =>
      have hs : y = 14 := hs
      rw [hs]
      exact T_p xr_203_33 xn_203 (pc' := 539) (ls' := [(3, .int 0), (2, .ref 530), (1, .ref 1), (0, .ref 0)]) (st' := []) rfl (X_op14 xs)
    | 15, _, hs =>
      have hs : y = 15 := hs
      rw [hs]
      exact T_p xr_203_33 xn_203 (pc' := 552) (ls' := [(3, .int 0), (2, .ref 530), (1, .ref 1), (0, .ref 0)]) (st' := []) rfl (X_op15 xs)
    | 16, _, hs =>
      have hs : y = 16 := hs
      rw [hs]
      exact T_p xr_203_33 xn_203 (pc' := 575) (ls' := [(3, .int 0), (2, .ref 530), (1, .ref 1), (0, .ref 0)]) (st' := []) rfl (X_op16 xs)
    | m + 17, hm, _ => exact absurd hm (by omega)
theorem X_law_all (xs : Nat → Int32) : ∀ L, L ≤ 6 → X_T (L, xs) 203 (0, [(0, .ref 0)], [], X_S0) (fun v S => v = some (.int 1) ∧ S.2 = (580, 263990)) := by
  intro L hL
  refine X_law_head _ ?_
  match L, hL with
  | 0, _ => exact X_law_0 xs
  | 1, _ => exact X_law_1 xs
  | 2, _ => exact X_law_2 xs
  | 3, _ => exact X_law_3 xs
  | 4, _ => exact X_law_4 xs
  | 5, _ => exact X_law_5 xs
  | 6, _ => exact X_law_6 xs
  | L + 7, hL => exact absurd hL (by omega)
