theorem X_ob_ex {c : X_Cell} (h : X_ob c ≠ none) (h2 : (X_ob c).map Prod.fst = some 11) : ∃ f, c = .inr (11, f) := by
  cases hc : X_ob c with
  | none => exact absurd hc h
  | some o =>
    rw [hc] at h2
    obtain ⟨a, f⟩ := o
    cases h2
    exact ⟨f, X_ob_eq hc⟩
theorem X_swo {row : X_Row} {nL pc n : Nat} {d lo hi : Int} {offs : Array Int} {ax : Nat × Nat × Nat} {x : Int32} {t : Nat} {ls : X_L} {r : List Value} (h : x.toInt < lo ∨ hi < x.toInt) (ht : X_tg pc d = some t) : X_pstep nL (pc, (.tableswitch d lo hi offs, n), ax) ls (.int x :: r) = some (t, ls, r) := by
  simp only [X_pstep]
  rw [if_pos h]
  simp only [ht]
theorem X_sw {x : Int32} {n : Nat} (hn : n < 1000 := by decide) : (x.toInt < 0 ∨ (n : Int) < x.toInt) ∨ ∃ m : Nat, m < n + 1 ∧ x = Int32.ofNat m := by
  by_cases h : x.toInt < 0 ∨ (n : Int) < x.toInt
  · exact Or.inl h
  · refine Or.inr ⟨x.toInt.toNat, by omega, ?_⟩
    apply Int32.toInt_inj.mp
    have e := nI_toInt (n := x.toInt.toNat) (by omega)
    unfold nI at e
    rw [e]
    omega
theorem X_ne0 {x : Int32} (h : ¬ x = 0) : X_cd .lt x 0 = true ∨ (X_cd .lt x 0 = false ∧ X_cd .lt x 1 = false) := by
  by_cases h1 : x < 0
  · exact Or.inl (decide_eq_true h1)
  · refine Or.inr ⟨decide_eq_false h1, decide_eq_false fun h2 => h ?_⟩
    apply Int32.toInt_inj.mp
    rw [Int32.lt_iff_toInt_lt] at h1 h2
    have e0 : (0 : Int32).toInt = 0 := rfl
    have e1 : (1 : Int32).toInt = 1 := rfl
    omega
def X_R2a : Option (Option Value × X_S) := X_run X_sc0 210 115 (0, [(0, .ref 1)], [], X_Sb)
set_option maxRecDepth 1000000 in
theorem X_E2a : X_R2a.map (fun r => (r.1, r.2.2)) = some (some (.int 0), (580, 263990)) := by decide +kernel
def X_R2b : Option (Option Value × X_S) := X_run X_sc0 450 162 (0, [(0, .ref 530)], [], X_out X_R2a)
set_option maxRecDepth 1000000 in
theorem X_E2b : X_R2b.map (fun r => (r.1, r.2.2)) = some (some (.int 0), (580, 263990)) := by decide +kernel
theorem X_E2o : X_ob ((X_out X_R2a).1 530) ≠ none := by decide +kernel
theorem X_E2c : (X_ob ((X_out X_R2a).1 530)).map Prod.fst = some 11 := by decide +kernel
def X_R8a : Option (Option Value × X_S) := X_run X_sc0 72 121 (0, [(0, .ref 1)], [], X_Sb)
set_option maxRecDepth 1000000 in
theorem X_E8a : X_R8a.map (fun r => (r.1, r.2.2)) = some (some (.int 0), (580, 263990)) := by decide +kernel
def X_R8b : Option (Option Value × X_S) := X_run X_sc0 39 170 (0, [(0, .ref 530)], [], X_out X_R8a)
set_option maxRecDepth 1000000 in
theorem X_E8b : X_R8b.map (fun r => (r.1, r.2.2)) = some (some (.int 0), (580, 263990)) := by decide +kernel
theorem X_E8o : X_ob ((X_out X_R8a).1 530) ≠ none := by decide +kernel
theorem X_E8c : (X_ob ((X_out X_R8a).1 530)).map Prod.fst = some 11 := by decide +kernel
def X_R10a : Option (Option Value × X_S) := X_run X_sc0 27 123 (0, [(0, .ref 1)], [], X_Sb)
set_option maxRecDepth 1000000 in
theorem X_E10a : X_R10a.map (fun r => (r.1, r.2.2)) = some (some (.int (-1)), (580, 263990)) := by decide +kernel
def X_R10b : Option (Option Value × X_S) := X_run X_sc0 9 184 (0, [(0, .ref 530)], [], X_out X_R10a)
set_option maxRecDepth 1000000 in
theorem X_E10b : X_R10b.map (fun r => (r.1, r.2.2)) = some (some (.int (-1)), (580, 263990)) := by decide +kernel
theorem X_E10o : X_ob ((X_out X_R10a).1 530) ≠ none := by decide +kernel
theorem X_E10c : (X_ob ((X_out X_R10a).1 530)).map Prod.fst = some 11 := by decide +kernel
def X_R14a : Option (Option Value × X_S) := X_run X_sc0 8 127 (0, [(0, .ref 1)], [], X_Sb)
set_option maxRecDepth 1000000 in
theorem X_E14a : X_R14a.map (fun r => (r.1, r.2.2)) = some (some (.int (-1)), (580, 263990)) := by decide +kernel
def X_R14b : Option (Option Value × X_S) := X_run X_sc0 6 193 (0, [(0, .ref 530)], [], X_out X_R14a)
set_option maxRecDepth 1000000 in
theorem X_E14b : X_R14b.map (fun r => (r.1, r.2.2)) = some (some (.int (-1)), (580, 263990)) := by decide +kernel
theorem X_E14o : X_ob ((X_out X_R14a).1 530) ≠ none := by decide +kernel
theorem X_E14c : (X_ob ((X_out X_R14a).1 530)).map Prod.fst = some 11 := by decide +kernel
def X_R16a : Option (Option Value × X_S) := X_run X_sc0 10 129 (0, [(0, .ref 1)], [], X_Sb)
set_option maxRecDepth 1000000 in
theorem X_E16a : X_R16a.map (fun r => (r.1, r.2.2)) = some (some (.int (-1)), (580, 263990)) := by decide +kernel
def X_R16b : Option (Option Value × X_S) := X_run X_sc0 9 199 (0, [(0, .ref 530)], [], X_out X_R16a)
set_option maxRecDepth 1000000 in
theorem X_E16b : X_R16b.map (fun r => (r.1, r.2.2)) = some (some (.int (-1)), (580, 263990)) := by decide +kernel
theorem X_E16o : X_ob ((X_out X_R16a).1 530) ≠ none := by decide +kernel
theorem X_E16c : (X_ob ((X_out X_R16a).1 530)).map Prod.fst = some 11 := by decide +kernel
