theorem xr_99_0 : X_row 99 0 = some (0, (.aload_n 0, 1), (0, 0, 0)) := by decide +kernel
theorem xr_99_1 : X_row 99 1 = some (1, (.iconst 0, 1), (0, 0, 0)) := by decide +kernel
theorem xr_99_2 : X_row 99 2 = some (2, (.putfield 9, 3), (9, 2, 4)) := by decide +kernel
theorem xr_99_5 : X_row 99 5 = some (5, (.aload_n 0, 1), (0, 0, 0)) := by decide +kernel
theorem xr_99_6 : X_row 99 6 = some (6, (.iconst (-1), 1), (0, 0, 0)) := by decide +kernel
theorem xr_99_7 : X_row 99 7 = some (7, (.putfield 15, 3), (9, 3, 6)) := by decide +kernel
theorem xr_99_10 : X_row 99 10 = some (10, (.return_, 1), (0, 0, 0)) := by decide +kernel
theorem xn_99 : X_nL 99 = 1 := by decide +kernel
theorem xf_99 : X_na 99 = 0 ∧ X_ci 99 = 9 ∧ X_rt 99 = none := by decide +kernel
theorem c_forget (sc : X_Sc) (S : X_S) (rs : Int) (re : Int) (hgt : Int) (hO527 : S.1 527 = .inr (9, [.ref 501, .ref 504, .int (iI rs), .int (iI re), .ref 528, .ref 529, .int (iI hgt)])) : X_T sc 99 (0, [(0, .ref 527)], [], S) (fun v S' => v = none ∧ S'.1 527 = .inr (9, [.ref 501, .ref 504, .int (iI 0), .int (iI (-1)), .ref 528, .ref 529, .int (iI hgt)]) ∧ X_Fr (fun q => q = 527) S S') := by
  refine X_QI (fun Q hQ => ?_)
  refine T_p xr_99_0 xn_99 (pc' := 1) (ls' := [(0, .ref 527)]) (st' := [.ref 527]) rfl ?_
  refine T_p xr_99_1 xn_99 (pc' := 2) (ls' := [(0, .ref 527)]) (st' := [.int (iI 0), .ref 527]) rfl ?_
  refine T_put xr_99_2 hO527 rfl (Nat.le_of_ble_eq_true rfl) rfl (fs' := [.ref 501, .ref 504, .int (iI 0), .int (iI re), .ref 528, .ref 529, .int (iI hgt)]) rfl (pc' := 5) rfl (fun S1774 h1775 n1776 e1777 => ?_)
  refine T_p xr_99_5 xn_99 (pc' := 6) (ls' := [(0, .ref 527)]) (st' := [.ref 527]) rfl ?_
  refine T_p xr_99_6 xn_99 (pc' := 7) (ls' := [(0, .ref 527)]) (st' := [.int (iI (-1)), .ref 527]) rfl ?_
  refine T_put xr_99_7 h1775 rfl (Nat.le_of_ble_eq_true rfl) rfl (fs' := [.ref 501, .ref 504, .int (iI 0), .int (iI (-1)), .ref 528, .ref 529, .int (iI hgt)]) rfl (pc' := 10) rfl (fun S1778 h1779 n1780 e1781 => ?_)
  refine T_vret xr_99_10 xf_99.2.2 ?_
  refine hQ _ _ ?_
  exact ⟨rfl, h1779, ((X_Fr.rf).tr (X_Fr.of n1776 e1777 (by omega))).tr (X_Fr.of n1780 e1781 (by omega))⟩
