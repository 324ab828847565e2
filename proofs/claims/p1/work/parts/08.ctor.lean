def X_A0 : X_S := (X_upd X_S0.1 1 (.inr (10, X_df.getD 10 [])), 2, 9)
def X_Ra : Option (Option Value × X_S) := X_run X_sc0 2946 112 (0, [(0, .ref 1)], [], X_A0)
set_option maxRecDepth 1000000 in
theorem X_Ea : X_Ra.map (fun r => (r.1, r.2.2)) = some (none, (530, 97535)) := by decide +kernel
def X_Sa : X_S := X_out X_Ra
def X_B0 : X_S := (X_upd X_Sa.1 530 (.inr (11, X_df.getD 11 [])), 531, 97607)
def X_Rb : Option (Option Value × X_S) := X_run X_sc0 225 161 (0, [(0, .ref 530)], [], X_B0)
set_option maxRecDepth 1000000 in
theorem X_Eb : X_Rb.map (fun r => (r.1, r.2.2)) = some (none, (580, 263990)) := by decide +kernel
def X_Sb : X_S := X_out X_Rb
theorem X_Sb2 : X_Sb.2 = (580, 263990) := (X_out_eq X_Eb).2
set_option maxRecDepth 1000000 in
theorem X_Fob : X_ob (X_Sb.1 1) = some (10, [.ref 2, .ref 4, .ref 250, .ref 496, .ref 501, .ref 504, .ref 511, .ref 517, .ref 527]) ∧
  X_ob (X_Sb.1 2) = some (7, [.ref 3, .int 0]) ∧
  X_ob (X_Sb.1 4) = some (0, [.int 0, .int 1, .int 0, .ref 5, .ref 6, .ref 7, .ref 8, .ref 9]) ∧
  X_ob (X_Sb.1 496) = some (4, [.ref 497, .ref 250, .int 0, .int (-1)]) ∧
  X_ob (X_Sb.1 497) = some (3, [.ref 2, .int 0, .int 0, .ref 498, .ref 499, .ref 500, .int 0]) ∧
  X_ob (X_Sb.1 501) = some (6, [.int 0, .ref 502, .ref 503]) ∧
  X_ob (X_Sb.1 504) = some (5, [.int 0, .ref 505, .ref 506, .ref 507, .ref 508, .ref 509, .ref 510]) ∧
  X_ob (X_Sb.1 511) = some (1, [.ref 4, .ref 501, .int 0, .ref 512, .ref 513, .ref 514, .ref 515, .ref 516]) ∧
  X_ob (X_Sb.1 517) = some (2, [.ref 511, .ref 501, .ref 504, .int 0, .ref 518, .ref 519, .ref 520, .ref 521, .ref 522, .ref 523, .ref 524, .ref 525, .ref 526]) ∧
  X_ob (X_Sb.1 527) = some (9, [.ref 501, .ref 504, .int 0, .int (-1), .ref 528, .ref 529, .int 0]) ∧
  X_ob (X_Sb.1 530) = some (11, [.ref 531, .int 0, .ref 532, .int 0, .int 0, .int 0, .int (-1), .int 0, .int 0, .int 0, .int 0, .int 0, .long 0, .ref 533, .ref 534, .ref 535, .ref 536, .ref 537, .ref 538, .ref 539, .ref 540, .ref 541, .ref 542, .ref 543, .ref 544, .ref 545, .ref 546, .ref 547, .int 0, .int 1, .int 0, .int 0, .int 1, .int 0, .ref 548, .ref 549, .ref 550, .ref 551, .int 0, .ref 552, .ref 553, .ref 554, .ref 555, .ref 556, .ref 557, .ref 558, .ref 559, .ref 560, .ref 561, .int 0, .ref 562, .ref 563, .ref 564, .ref 565, .ref 566, .ref 567, .ref 568, .ref 569, .int 0, .ref 570, .ref 571, .ref 572, .ref 573, .ref 574, .ref 575, .ref 576, .ref 577, .ref 578, .int 0, .int 0, .int 0, .ref 579]) := by decide +kernel
set_option maxRecDepth 1000000 in
theorem X_Far : X_sh (X_Sb.1 3) = some (.byte, 2000, 0) ∧ X_sh (X_Sb.1 531) = some (.byte, 2020, 0) ∧ X_sh (X_Sb.1 8) = some (.int, 11, 0) ∧ X_a0i (X_Sb.1 8) 0 = some 1 := by decide +kernel
theorem X_fo1 : X_Sb.1 1 = .inr (10, [.ref 2, .ref 4, .ref 250, .ref 496, .ref 501, .ref 504, .ref 511, .ref 517, .ref 527]) := X_ob_eq X_Fob.1
theorem X_fo2 : X_Sb.1 2 = .inr (7, [.ref 3, .int 0]) := X_ob_eq X_Fob.2.1
theorem X_fo4 : X_Sb.1 4 = .inr (0, [.int 0, .int 1, .int 0, .ref 5, .ref 6, .ref 7, .ref 8, .ref 9]) := X_ob_eq X_Fob.2.2.1
theorem X_fo496 : X_Sb.1 496 = .inr (4, [.ref 497, .ref 250, .int 0, .int (-1)]) := X_ob_eq X_Fob.2.2.2.1
theorem X_fo497 : X_Sb.1 497 = .inr (3, [.ref 2, .int 0, .int 0, .ref 498, .ref 499, .ref 500, .int 0]) := X_ob_eq X_Fob.2.2.2.2.1
theorem X_fo501 : X_Sb.1 501 = .inr (6, [.int 0, .ref 502, .ref 503]) := X_ob_eq X_Fob.2.2.2.2.2.1
theorem X_fo504 : X_Sb.1 504 = .inr (5, [.int 0, .ref 505, .ref 506, .ref 507, .ref 508, .ref 509, .ref 510]) := X_ob_eq X_Fob.2.2.2.2.2.2.1
theorem X_fo511 : X_Sb.1 511 = .inr (1, [.ref 4, .ref 501, .int 0, .ref 512, .ref 513, .ref 514, .ref 515, .ref 516]) := X_ob_eq X_Fob.2.2.2.2.2.2.2.1
theorem X_fo517 : X_Sb.1 517 = .inr (2, [.ref 511, .ref 501, .ref 504, .int 0, .ref 518, .ref 519, .ref 520, .ref 521, .ref 522, .ref 523, .ref 524, .ref 525, .ref 526]) := X_ob_eq X_Fob.2.2.2.2.2.2.2.2.1
theorem X_fo527 : X_Sb.1 527 = .inr (9, [.ref 501, .ref 504, .int 0, .int (-1), .ref 528, .ref 529, .int 0]) := X_ob_eq X_Fob.2.2.2.2.2.2.2.2.2.1
theorem X_fo530 : X_Sb.1 530 = .inr (11, [.ref 531, .int 0, .ref 532, .int 0, .int 0, .int 0, .int (-1), .int 0, .int 0, .int 0, .int 0, .int 0, .long 0, .ref 533, .ref 534, .ref 535, .ref 536, .ref 537, .ref 538, .ref 539, .ref 540, .ref 541, .ref 542, .ref 543, .ref 544, .ref 545, .ref 546, .ref 547, .int 0, .int 1, .int 0, .int 0, .int 1, .int 0, .ref 548, .ref 549, .ref 550, .ref 551, .int 0, .ref 552, .ref 553, .ref 554, .ref 555, .ref 556, .ref 557, .ref 558, .ref 559, .ref 560, .ref 561, .int 0, .ref 562, .ref 563, .ref 564, .ref 565, .ref 566, .ref 567, .ref 568, .ref 569, .int 0, .ref 570, .ref 571, .ref 572, .ref 573, .ref 574, .ref 575, .ref 576, .ref 577, .ref 578, .int 0, .int 0, .int 0, .ref 579]) := X_ob_eq X_Fob.2.2.2.2.2.2.2.2.2.2
theorem X_fa3 : ∃ f, X_Sb.1 3 = .inl (.byte, 2000, .inl f) := X_sh_i X_Far.1
theorem X_fa531 : ∃ f, X_Sb.1 531 = .inl (.byte, 2020, .inl f) := X_sh_i X_Far.2.1
theorem X_fa8 : ∃ f, X_Sb.1 8 = .inl (.int, 11, .inl f) ∧ f 0 = 1 := by
  obtain ⟨f, hf⟩ := X_sh_i X_Far.2.2.1
  refine ⟨f, hf, ?_⟩
  have h := X_Far.2.2.2
  rw [hf] at h
  exact Option.some.inj h
