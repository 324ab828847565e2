theorem X_ckA : X_chkL 0 X_C = true := by
  unfold X_C
  rw [X_chkL_app, X_ck0, Bool.true_and]
  show X_chkL 17 _ = true
  rw [X_chkL_app, X_ck1, Bool.true_and]
  show X_chkL 30 _ = true
  rw [X_chkL_app, X_ck2, Bool.true_and]
  show X_chkL 37 _ = true
  rw [X_chkL_app, X_ck3, Bool.true_and]
  show X_chkL 43 _ = true
  rw [X_chkL_app, X_ck4, Bool.true_and]
  show X_chkL 47 _ = true
  rw [X_chkL_app, X_ck5, Bool.true_and]
  show X_chkL 57 _ = true
  rw [X_chkL_app, X_ck6, Bool.true_and]
  show X_chkL 69 _ = true
  rw [X_chkL_app, X_ck7, Bool.true_and]
  show X_chkL 77 _ = true
  rw [X_chkL_app, X_ck8, Bool.true_and]
  show X_chkL 84 _ = true
  rw [X_chkL_app, X_ck9, Bool.true_and]
  show X_chkL 96 _ = true
  rw [X_chkL_app, X_ck10, Bool.true_and]
  show X_chkL 108 _ = true
  rw [X_chkL_app, X_ck11, Bool.true_and]
  show X_chkL 118 _ = true
  rw [X_chkL_app, X_ck12, Bool.true_and]
  show X_chkL 131 _ = true
  rw [X_chkL_app, X_ck13, Bool.true_and]
  show X_chkL 141 _ = true
  rw [X_chkL_app, X_ck14, Bool.true_and]
  show X_chkL 143 _ = true
  rw [X_chkL_app, X_ck15, Bool.true_and]
  show X_chkL 155 _ = true
  rw [X_chkL_app, X_ck16, Bool.true_and]
  show X_chkL 158 _ = true
  rw [X_chkL_app, X_ck17, Bool.true_and]
  show X_chkL 161 _ = true
  rw [X_chkL_app, X_ck18, Bool.true_and]
  show X_chkL 162 _ = true
  rw [X_chkL_app, X_ck19, Bool.true_and]
  show X_chkL 168 _ = true
  rw [X_chkL_app, X_ck20, Bool.true_and]
  show X_chkL 175 _ = true
  rw [X_chkL_app, X_ck21, Bool.true_and]
  show X_chkL 178 _ = true
  rw [X_chkL_app, X_ck22, Bool.true_and]
  show X_chkL 181 _ = true
  rw [X_chkL_app, X_ck23, Bool.true_and]
  show X_chkL 187 _ = true
  rw [X_chkL_app, X_ck24, Bool.true_and]
  show X_chkL 189 _ = true
  rw [X_chkL_app, X_ck25, Bool.true_and]
  show X_chkL 193 _ = true
  rw [X_chkL_app, X_ck26, Bool.true_and]
  show X_chkL 198 _ = true
  rw [X_chkL_app, X_ck27, Bool.true_and]
  show X_chkL 203 _ = true
  exact X_ck28
theorem X_row_chk {j pc : Nat} {row : X_Row} (h : X_row j pc = some row) : row.1 = pc ∧ X_chk j row = true := by
  unfold X_row at h
  split at h
  · rename_i rows hr
    have h1 := X_chkL_get X_C 0 X_ckA j rows hr
    rw [Nat.zero_add] at h1
    exact ⟨by simpa using List.find?_some h, List.all_eq_true.mp h1 row (List.mem_of_find?_eq_some h)⟩
  · cases h
