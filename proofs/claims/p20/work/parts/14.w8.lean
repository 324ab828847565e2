theorem xr_120_0 : X_row 120 0 = some (0, (.new 8, 3), (10, 48, 0)) := by decide +kernel
theorem xr_120_3 : X_row 120 3 = some (3, (.dup, 1), (0, 0, 0)) := by decide +kernel
theorem xr_120_4 : X_row 120 4 = some (4, (.invokespecial 37, 3), (100, 0, 0)) := by decide +kernel
theorem xr_120_7 : X_row 120 7 = some (7, (.astore_n 1, 1), (0, 0, 0)) := by decide +kernel
theorem xn_100 : X_nL 100 = 1 := by decide +kernel
theorem xf_100 : X_na 100 = 0 ∧ X_ci 100 = 10 ∧ X_rt 100 = none := by decide +kernel
theorem X_init_class (sc : X_Sc) : X_T sc 100 (0, [(0, .ref 1)], [], X_A0) (fun v S => v = none ∧ S = X_Sa) := T_sc (sc := X_sc0) (by decide) ⟨_, _, _, (X_out_eq X_Ea).1, rfl, rfl⟩
theorem T_new {sc : X_Sc} {j n idx ci p0 pc pc' q : Nat} {ls : X_L} {st fs : List Value} {S S1 : X_S} {Q : Option Value → X_S → Prop} (hr : X_row j pc = some (pc, (.new idx, n), (ci, p0, 0))) (hf : X_df[ci]? = some fs) (hq : S.2.1 = q) (hS : (X_upd S.1 S.2.1 (.inr (ci, fs)), S.2.1 + 1, S.2.2 + fs.length) = S1) (hp : pc + 3 = pc')
    (k : X_T sc j (pc', ls, .ref q :: st, S1) Q) : X_T sc j (pc, ls, st, S) Q := by
  subst hp; subst hq; subst hS
  refine T_h hr rfl ?_ k
  simp only [X_hstep, hf]
theorem X_law_head (sc : X_Sc) {Q : Option Value → X_S → Prop} (h : X_T sc 120 (8, [(1, .ref 1), (0, .ref 0)], [], X_Sa) Q) : X_T sc 120 (0, [(0, .ref 0)], [], X_S0) Q := by
  refine T_new xr_120_0 rfl rfl (S1 := X_A0) rfl (pc' := 3) rfl ?_
  refine T_p xr_120_3 xn_120 (pc' := 4) (ls' := [(0, .ref 0)]) (st' := [.ref 1, .ref 1]) rfl ?_
  refine T_ci xr_120_4 (by decide) xf_100.1 xn_100 (as := []) (q := 1) (r := [.ref 1]) rfl (by decide) (by decide) (pc' := 7) rfl (ls' := [(0, .ref 1)]) rfl ?_
  refine T_mono (X_init_class sc) (fun v S' hv => ?_)
  obtain ⟨hv1, hv2⟩ := hv
  rw [hv1, hv2]
  show X_T sc 120 (7, [(0, .ref 0)], [.ref 1], X_Sa) Q
  exact T_p xr_120_7 xn_120 (pc' := 8) (ls' := [(1, .ref 1), (0, .ref 0)]) (st' := []) rfl h
theorem X_law_all (xs : Nat → Int32) (L : Nat) (hL : L ≤ 260) : X_T (L, xs) 120 (0, [(0, .ref 0)], [], X_S0) (fun v S => v = some (.int 1) ∧ S.2 = (530, 97535)) := by
  obtain ⟨tb, G, hA, hIC⟩ := X_I0 X_In1_b X_In2_b X_In3_b X_In4_b X_In5_b
  refine X_law_head _ ?_
  exact T_mono (l_A (L, xs) X_Sa 0 tb 0 G 0 0 (fun _ _ => 0) 0 (-1) hIC hA hL rfl) (fun v S' h => ⟨h.1.trans rfl, h.2.2.trans X_Sa2⟩)
