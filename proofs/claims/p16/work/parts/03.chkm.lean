set_option maxRecDepth 100000 in
theorem X_mk0 : X_mokL 34 0 = true := by decide +kernel
set_option maxRecDepth 100000 in
theorem X_mk34 : X_mokL 34 34 = true := by decide +kernel
set_option maxRecDepth 100000 in
theorem X_mk68 : X_mokL 34 68 = true := by decide +kernel
set_option maxRecDepth 100000 in
theorem X_mk102 : X_mokL 34 102 = true := by decide +kernel
set_option maxRecDepth 100000 in
theorem X_mk136 : X_mokL 34 136 = true := by decide +kernel
set_option maxRecDepth 100000 in
theorem X_mk170 : X_mokL 33 170 = true := by decide +kernel
theorem X_mokA : ∀ k, k < X_lawj → X_mok k = true := by
  intro k h
  have h : k < 203 := h
  rcases Nat.lt_or_ge k 34 with h1 | h1
  · exact X_mokL_get _ _ k X_mk0 (by omega) (by omega)
  rcases Nat.lt_or_ge k 68 with h1 | h1
  · exact X_mokL_get _ _ k X_mk34 (by omega) (by omega)
  rcases Nat.lt_or_ge k 102 with h1 | h1
  · exact X_mokL_get _ _ k X_mk68 (by omega) (by omega)
  rcases Nat.lt_or_ge k 136 with h1 | h1
  · exact X_mokL_get _ _ k X_mk102 (by omega) (by omega)
  rcases Nat.lt_or_ge k 170 with h1 | h1
  · exact X_mokL_get _ _ k X_mk136 (by omega) (by omega)
  exact X_mokL_get _ _ k X_mk170 (by omega) (by omega)
