theorem xr_203_0 : X_row 203 0 = some (0, (.new 7, 3), (10, 96, 0)) := by decide +kernel
theorem xr_203_3 : X_row 203 3 = some (3, (.dup, 1), (0, 0, 0)) := by decide +kernel
theorem xr_203_4 : X_row 203 4 = some (4, (.invokespecial 9, 3), (112, 0, 0)) := by decide +kernel
theorem xr_203_7 : X_row 203 7 = some (7, (.astore_n 1, 1), (0, 0, 0)) := by decide +kernel
theorem xr_203_8 : X_row 203 8 = some (8, (.new 10, 3), (11, 1037, 0)) := by decide +kernel
theorem xr_203_11 : X_row 203 11 = some (11, (.dup, 1), (0, 0, 0)) := by decide +kernel
theorem xr_203_12 : X_row 203 12 = some (12, (.invokespecial 12, 3), (161, 36, 0)) := by decide +kernel
theorem xr_203_15 : X_row 203 15 = some (15, (.astore_n 2, 1), (0, 0, 0)) := by decide +kernel
theorem xr_203_16 : X_row 203 16 = some (16, (.iconst 0, 1), (0, 0, 0)) := by decide +kernel
theorem xr_203_17 : X_row 203 17 = some (17, (.istore_n 3, 1), (0, 0, 0)) := by decide +kernel
theorem xn_112 : X_nL 112 = 1 := by decide +kernel
theorem xf_112 : X_na 112 = 0 ∧ X_ci 112 = 10 ∧ X_rt 112 = none := by decide +kernel
theorem xn_161 : X_nL 161 = 1 := by decide +kernel
theorem xf_161 : X_na 161 = 0 ∧ X_ci 161 = 11 ∧ X_rt 161 = none := by decide +kernel
theorem X_init_class (sc : X_Sc) : X_T sc 112 (0, [(0, .ref 1)], [], X_A0) (fun v S => v = none ∧ S = X_Sa) := T_sc (sc := X_sc0) (by decide) ⟨_, _, _, (X_out_eq X_Ea).1, rfl, rfl⟩
theorem X_init_model (sc : X_Sc) : X_T sc 161 (0, [(0, .ref 530)], [], X_B0) (fun v S => v = none ∧ S = X_Sb) := T_sc (sc := X_sc0) (by decide) ⟨_, _, _, (X_out_eq X_Eb).1, rfl, rfl⟩
theorem T_new {sc : X_Sc} {j n idx ci p0 pc pc' q : Nat} {ls : X_L} {st fs : List Value} {S S1 : X_S} {Q : Option Value → X_S → Prop} (hr : X_row j pc = some (pc, (.new idx, n), (ci, p0, 0))) (hf : X_df[ci]? = some fs) (hq : S.2.1 = q) (hS : (X_upd S.1 S.2.1 (.inr (ci, fs)), S.2.1 + 1, S.2.2 + fs.length) = S1) (hp : pc + 3 = pc')
    (k : X_T sc j (pc', ls, .ref q :: st, S1) Q) : X_T sc j (pc, ls, st, S) Q := by
  subst hp; subst hq; subst hS
  refine T_h hr rfl ?_ k
  simp only [X_hstep, hf]
theorem X_law_head (sc : X_Sc) {Q : Option Value → X_S → Prop} (h : X_T sc 203 (18, [(3, .int (iI 0)), (2, .ref 530), (1, .ref 1), (0, .ref 0)], [], X_Sb) Q) : X_T sc 203 (0, [(0, .ref 0)], [], X_S0) Q := by
  refine T_new xr_203_0 rfl rfl (S1 := X_A0) rfl (pc' := 3) rfl ?_
  refine T_p xr_203_3 xn_203 (pc' := 4) (ls' := [(0, .ref 0)]) (st' := [.ref 1, .ref 1]) rfl ?_
  refine T_ci xr_203_4 (by decide) xf_112.1 xn_112 (as := []) (q := 1) (r := [.ref 1]) rfl (by decide) (by decide) (pc' := 7) rfl (ls' := [(0, .ref 1)]) rfl ?_
  refine T_mono (X_init_class sc) (fun v S' hv => ?_)
  obtain ⟨hv1, hv2⟩ := hv
  rw [hv1, hv2]
  show X_T sc 203 (7, [(0, .ref 0)], [.ref 1], X_Sa) Q
  refine T_p xr_203_7 xn_203 (pc' := 8) (ls' := [(1, .ref 1), (0, .ref 0)]) (st' := []) rfl ?_
  have h2 : X_Sa.2 = (530, 97535) := (X_out_eq X_Ea).2
  refine T_new xr_203_8 rfl (q := 530) (by rw [h2]) (S1 := X_B0) (by rw [h2]; rfl) (pc' := 11) rfl ?_
  refine T_p xr_203_11 xn_203 (pc' := 12) (ls' := [(1, .ref 1), (0, .ref 0)]) (st' := [.ref 530, .ref 530]) rfl ?_
  refine T_ci xr_203_12 (by decide) xf_161.1 xn_161 (as := []) (q := 530) (r := [.ref 530]) rfl (by decide) (by decide) (pc' := 15) rfl (ls' := [(0, .ref 530)]) rfl ?_
  refine T_mono (X_init_model sc) (fun v S' hv => ?_)
  obtain ⟨hv1, hv2⟩ := hv
  rw [hv1, hv2]
  show X_T sc 203 (15, [(1, .ref 1), (0, .ref 0)], [.ref 530], X_Sb) Q
  refine T_p xr_203_15 xn_203 (pc' := 16) (ls' := [(2, .ref 530), (1, .ref 1), (0, .ref 0)]) (st' := []) rfl ?_
  refine T_p xr_203_16 xn_203 (pc' := 17) (ls' := [(2, .ref 530), (1, .ref 1), (0, .ref 0)]) (st' := [.int (iI 0)]) rfl ?_
  exact T_p xr_203_17 xn_203 (pc' := 18) (ls' := [(3, .int (iI 0)), (2, .ref 530), (1, .ref 1), (0, .ref 0)]) (st' := []) rfl h
theorem X_law_all (xs : Nat → Int32) (L : Nat) (hL : L ≤ 3072) : X_T (L, xs) 203 (0, [(0, .ref 0)], [], X_S0) (fun v S => v = some (.int 1) ∧ S.2 = (580, 263990)) := by
  obtain ⟨tb, G, hA, hIC, hIR⟩ := X_I0 X_In1_b X_In2_b X_In3_b X_In4_b X_In5_b
  refine X_law_head _ ?_
  exact T_mono (X_law_go (L, xs) hL X_Sb 0 tb 0 G 0 0 (fun _ _ => 0) 0 (-1) hA hIC hIR) (fun v S' h => ⟨h.1.trans rfl, h.2.trans X_Sb2⟩)
