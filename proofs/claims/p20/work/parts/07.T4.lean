/-! a method without an answer has none -/
theorem X_step_void {sc : X_Sc} {j : Nat} (hj : X_rt j = none) {F : X_F} {v : Option Value} {S' : X_S} (h : X_step sc j F = some (.inr (.inr (v, S')))) : v = none := by
  unfold X_step at h
  cases hr : X_row j F.1 with
  | none => rw [hr] at h; cases h
  | some row =>
    rw [hr] at h
    simp only at h
    split at h
    · cases h
    · split at h
      · cases h
      · obtain ⟨pc, ⟨i, n⟩, ax⟩ := row
        cases i <;> first
          | (cases h; done)
          | (simp only [X_cstep, hj] at h
             repeat' split at h
             all_goals first
               | (cases h; done)
               | (cases h; rfl)
               | (simp at h; done)
               | (simp at h; exact h.1.symm))
theorem X_run_void {sc : X_Sc} {j : Nat} (hj : X_rt j = none) : ∀ (n : Nat) (F : X_F) (v : Option Value) (S' : X_S), X_run sc n j F = some (v, S') → v = none := by
  intro n
  induction n with
  | zero => intro F v S' h; cases h
  | succ n ih =>
    intro F v S' h
    unfold X_run at h
    cases hs : X_step sc j F with
    | none => rw [hs] at h; cases h
    | some O =>
      rw [hs] at h
      rcases O with F' | ⟨k, as, pc, ls, st, S⟩ | q
      · exact ih _ _ _ h
      · simp only at h
        split at h
        · exact ih _ _ _ h
        · cases h
      · cases h
        exact X_step_void hj hs
theorem T_void {sc : X_Sc} {j : Nat} {F : X_F} {Q : Option Value → X_S → Prop} (hj : X_rt j = none) (h : X_T sc j F Q) : X_T sc j F (fun v S' => v = none ∧ Q v S') := by
  obtain ⟨n, v, S', h1, h2⟩ := h
  exact ⟨n, v, S', h1, X_run_void hj n F v S' h1, h2⟩
