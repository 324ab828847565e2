def X_A0 : X_S := (X_upd X_S0.1 1 (.inr (10, X_df.getD 10 [])), 2, 9)
def X_Ra : Option (Option Value × X_S) := X_run X_sc0 2946 112 (0, [(0, .ref 1)], [], X_A0)
set_option maxRecDepth 1000000 in
theorem X_Ea : X_Ra.map (fun r => (r.1, r.2.2)) = some (none, (530, 97535)) := by decide +kernel
def X_Sa : X_S := X_out X_Ra
def X_B0 : X_S := (X_upd X_Sa.1 530 (.inr (11, X_df.getD 11 [])), 531, 97607)
def X_Rb : Option (Option Value × X_S) := X_run X_sc0 225 161 (0, [(0, .ref 530)], [], X_B0)
set_option maxRecDepth 1000000 in
theorem X_Eb : X_Rb.map (fun r => (r.1, r.2.2)) = some (none, (580, 263990)) := by decide +kernel
def X_Sb : X_S := X_out X_Rb
theorem X_Sb2 : X_Sb.2 = (580, 263990) := (X_out_eq X_Eb).2
/-! THE BEGINNING -/
def X_gi (c : X_Cell) (k : Nat) : Int32 := match c with
  | .inl (_, _, .inl f) => f k
  | _ => 0
def X_gl (c : X_Cell) (k : Nat) : Int64 := match c with
  | .inl (_, _, .inr (.inl f)) => f k
  | _ => 0
def X_gq (c : X_Cell) (k : Nat) : Option Nat := match c with
  | .inl (_, _, .inr (.inr (.inr (.inr f)))) => f k
  | _ => none
def X_cI (S : X_S) (a : Nat) : Int → Int := fun e => (X_gi (S.1 a) e.toNat).toInt
def X_cL (S : X_S) (a : Nat) : Int → Int64 := fun e => X_gl (S.1 a) e.toNat
theorem X_gi_e {c : X_Cell} {t : FieldType} {n : Nat} (h : X_sh c = some (t, n, 0)) : c = .inl (t, n, .inl fun k : Nat => iI ((X_gi c k).toInt)) := by
  obtain ⟨f, rfl⟩ := X_sh_i h
  have e : (fun k : Nat => iI ((f k).toInt)) = f := funext fun k => (iI_of (f k)).symm
  show (.inl (t, n, .inl f) : X_Cell) = .inl (t, n, .inl fun k : Nat => iI ((f k).toInt))
  rw [e]
theorem X_gl_e {c : X_Cell} {t : FieldType} {n : Nat} (h : X_sh c = some (t, n, 1)) : c = .inl (t, n, .inr (.inl fun k : Nat => X_gl c k)) := by
  obtain ⟨f, rfl⟩ := X_sh_l h
  rfl
theorem X_gq_e {c : X_Cell} {t : FieldType} {n : Nat} (h : X_sh c = some (t, n, 4)) : c = .inl (t, n, .inr (.inr (.inr (.inr fun k : Nat => X_gq c k)))) := by
  obtain ⟨f, rfl⟩ := X_sh_q h
  rfl
theorem X_cI_e {S : X_S} {a : Nat} {t : FieldType} {n : Nat} (h : X_sh (S.1 a) = some (t, n, 0)) : S.1 a = .inl (t, n, .inl fun k : Nat => iI (X_cI S a (k : Int))) := X_gi_e h
theorem X_cL_e {S : X_S} {a : Nat} {t : FieldType} {n : Nat} (h : X_sh (S.1 a) = some (t, n, 1)) : S.1 a = .inl (t, n, .inr (.inl fun k : Nat => X_cL S a (k : Int))) := X_gl_e h
def X_kq1 (S : X_S) : List (Nat × Nat × List Value) → Bool
  | [] => true
  | q :: r => decide (X_ob (S.1 q.1) = some q.2) && X_kq1 S r
def X_cq1 (S : X_S) : List (Nat × Nat × List Value) → Prop
  | [] => True
  | q :: r => X_ob (S.1 q.1) = some q.2 ∧ X_cq1 S r
theorem X_kq1_c {S : X_S} : ∀ L : List (Nat × Nat × List Value), X_kq1 S L = true → X_cq1 S L := by
  intro L
  induction L with
  | nil => intro _; trivial
  | cons q r ih =>
    intro h
    have h : (decide (X_ob (S.1 q.1) = some q.2) && X_kq1 S r) = true := h
    rw [Bool.and_eq_true] at h
    exact ⟨of_decide_eq_true h.1, ih h.2⟩
def X_kq2 (S : X_S) : List (Nat × FieldType × Nat × Nat) → Bool
  | [] => true
  | q :: r => decide (X_sh (S.1 q.1) = some q.2) && X_kq2 S r
def X_cq2 (S : X_S) : List (Nat × FieldType × Nat × Nat) → Prop
  | [] => True
  | q :: r => X_sh (S.1 q.1) = some q.2 ∧ X_cq2 S r
theorem X_kq2_c {S : X_S} : ∀ L : List (Nat × FieldType × Nat × Nat), X_kq2 S L = true → X_cq2 S L := by
  intro L
  induction L with
  | nil => intro _; trivial
  | cons q r ih =>
    intro h
    have h : (decide (X_sh (S.1 q.1) = some q.2) && X_kq2 S r) = true := h
    rw [Bool.and_eq_true] at h
    exact ⟨of_decide_eq_true h.1, ih h.2⟩
/-- the words of the book at B as they are at first -/
def X_D0 (S : X_S) (B : Nat) : Int → Nat → Int → Int := fun w f e => if f < 8 then 0 else X_cI S (B + 6 + 8 * w.toNat + (f - 6)) e
def X_W0 (S : X_S) (B : Nat) : Int → Int → Int64 := fun w e => X_cL S (B + 6 + 8 * w.toNat + 1) e
def X_Lq1 : List (Nat × Nat × List Value) := [(1, 10, [.ref 2, .ref 4, .ref 250, .ref 496, .ref 501, .ref 504, .ref 511, .ref 517, .ref 527]), (2, 7, [.ref 3, .int (iI 0)]), (4, 0, [.int (iI 0), .int (iI 1), .int (iI 0), .ref 5, .ref 6, .ref 7, .ref 8, .ref 9]), (250, 0, [.int (iI 0), .int (iI 1), .int (iI 0), .ref 251, .ref 252, .ref 253, .ref 254, .ref 255]), (496, 4, [.ref 497, .ref 250, .int (iI 0), .int (iI (-1))]), (497, 3, [.ref 2, .int (iI 0), .int (iI 0), .ref 498, .ref 499, .ref 500, .int (iI 0)]), (501, 6, [.int (iI 0), .ref 502, .ref 503]), (504, 5, [.int (iI 0), .ref 505, .ref 506, .ref 507, .ref 508, .ref 509, .ref 510]), (511, 1, [.ref 4, .ref 501, .int (iI 0), .ref 512, .ref 513, .ref 514, .ref 515, .ref 516]), (517, 2, [.ref 511, .ref 501, .ref 504, .int (iI 0), .ref 518, .ref 519, .ref 520, .ref 521, .ref 522, .ref 523, .ref 524, .ref 525, .ref 526]), (527, 9, [.ref 501, .ref 504, .int (iI 0), .int (iI (-1)), .ref 528, .ref 529, .int (iI 0)]), (530, 11, [.ref 531, .int (iI 0), .ref 532, .int (iI 0), .int (iI 0), .int (iI 0), .int (iI (-1)), .int (iI 0), .int (iI 0), .int (iI 0), .int (iI 0), .int (iI 0), .long 0, .ref 533, .ref 534, .ref 535, .ref 536, .ref 537, .ref 538, .ref 539, .ref 540, .ref 541, .ref 542, .ref 543, .ref 544, .ref 545, .ref 546, .ref 547, .int (iI 0), .int (iI 1), .int (iI 0), .int (iI 0), .int (iI 1), .int (iI 0), .ref 548, .ref 549, .ref 550, .ref 551, .int (iI 0), .ref 552, .ref 553, .ref 554, .ref 555, .ref 556, .ref 557, .ref 558, .ref 559, .ref 560, .ref 561, .int (iI 0), .ref 562, .ref 563, .ref 564, .ref 565, .ref 566, .ref 567, .ref 568, .ref 569, .int (iI 0), .ref 570, .ref 571, .ref 572, .ref 573, .ref 574, .ref 575, .ref 576, .ref 577, .ref 578, .int (iI 0), .int (iI 0), .int (iI 0), .ref 579])]
def X_Lq2 : List (Nat × FieldType × Nat × Nat) := [(3, .byte, 2000, 0), (5, .long, 12, 1), (6, .int, 12, 0), (7, .long, 11, 1), (8, .int, 11, 0), (251, .long, 12, 1), (252, .int, 12, 0), (253, .long, 11, 1), (254, .int, 11, 0), (498, .int, 2001, 0), (499, .int, 2001, 0), (500, .long, 2001, 1), (502, .long, 30, 1), (503, .long, 30, 1), (505, .int, 30, 0), (506, .int, 30, 0), (507, .int, 30, 0), (508, .int, 30, 0), (509, .int, 30, 0), (510, .int, 120, 0), (512, .long, 5115, 1), (513, .long, 13950, 1), (514, .long, 465, 1), (515, .long, 55800, 1), (516, .long, 7200, 1), (518, .int, 30, 0), (519, .int, 30, 0), (520, .int, 30, 0), (521, .int, 30, 0), (522, .int, 30, 0), (523, .int, 30, 0), (524, .long, 30, 1), (525, .int, 4, 0), (526, .int, 4, 0), (528, .int, 30, 0), (529, .int, 16, 0), (531, .byte, 2020, 0), (532, .byte, 2000, 0), (533, .long, 24, 1), (534, .long, 22, 1), (535, .boolean, 288, 0), (536, .int, 22, 0), (537, .int, 60, 0), (538, .int, 60, 0), (539, .int, 60, 0), (540, .int, 60, 0), (541, .int, 60, 0), (542, .int, 60, 0), (543, .int, 1800, 0), (544, .int, 1800, 0), (545, .long, 480, 1), (546, .int, 480, 0), (547, .int, 240, 0), (548, .long, 30, 1), (549, .long, 30, 1), (550, .int, 30, 0), (551, .int, 30, 0), (552, .long, 28830, 1), (553, .long, 10571, 1), (554, .long, 115320, 1), (555, .long, 32, 1), (556, .long, 32, 1), (557, .int, 40, 0), (558, .int, 40, 0), (559, .int, 40, 0), (560, .int, 40, 0), (561, .int, 40, 0), (562, .int, 160, 0), (563, .int, 160, 0), (564, .int, 160, 0), (565, .int, 160, 0), (566, .int, 160, 0), (567, .int, 160, 0), (568, .int, 160, 0), (569, .long, 160, 1), (570, .int, 4, 0), (571, .int, 4, 0), (572, .long, 4, 1), (573, .long, 288, 1), (574, .boolean, 30, 0), (575, .int, 30, 0), (576, .int, 40, 0), (577, .int, 18, 0), (578, .int, 4, 0), (579, .boolean, 40, 0)]
def X_In1 (S : X_S) : Prop := X_cq1 S [(1, 10, [.ref 2, .ref 4, .ref 250, .ref 496, .ref 501, .ref 504, .ref 511, .ref 517, .ref 527]), (2, 7, [.ref 3, .int (iI 0)]), (4, 0, [.int (iI 0), .int (iI 1), .int (iI 0), .ref 5, .ref 6, .ref 7, .ref 8, .ref 9]), (250, 0, [.int (iI 0), .int (iI 1), .int (iI 0), .ref 251, .ref 252, .ref 253, .ref 254, .ref 255]), (496, 4, [.ref 497, .ref 250, .int (iI 0), .int (iI (-1))]), (497, 3, [.ref 2, .int (iI 0), .int (iI 0), .ref 498, .ref 499, .ref 500, .int (iI 0)]), (501, 6, [.int (iI 0), .ref 502, .ref 503]), (504, 5, [.int (iI 0), .ref 505, .ref 506, .ref 507, .ref 508, .ref 509, .ref 510]), (511, 1, [.ref 4, .ref 501, .int (iI 0), .ref 512, .ref 513, .ref 514, .ref 515, .ref 516]), (517, 2, [.ref 511, .ref 501, .ref 504, .int (iI 0), .ref 518, .ref 519, .ref 520, .ref 521, .ref 522, .ref 523, .ref 524, .ref 525, .ref 526]), (527, 9, [.ref 501, .ref 504, .int (iI 0), .int (iI (-1)), .ref 528, .ref 529, .int (iI 0)]), (530, 11, [.ref 531, .int (iI 0), .ref 532, .int (iI 0), .int (iI 0), .int (iI 0), .int (iI (-1)), .int (iI 0), .int (iI 0), .int (iI 0), .int (iI 0), .int (iI 0), .long 0, .ref 533, .ref 534, .ref 535, .ref 536, .ref 537, .ref 538, .ref 539, .ref 540, .ref 541, .ref 542, .ref 543, .ref 544, .ref 545, .ref 546, .ref 547, .int (iI 0), .int (iI 1), .int (iI 0), .int (iI 0), .int (iI 1), .int (iI 0), .ref 548, .ref 549, .ref 550, .ref 551, .int (iI 0), .ref 552, .ref 553, .ref 554, .ref 555, .ref 556, .ref 557, .ref 558, .ref 559, .ref 560, .ref 561, .int (iI 0), .ref 562, .ref 563, .ref 564, .ref 565, .ref 566, .ref 567, .ref 568, .ref 569, .int (iI 0), .ref 570, .ref 571, .ref 572, .ref 573, .ref 574, .ref 575, .ref 576, .ref 577, .ref 578, .int (iI 0), .int (iI 0), .int (iI 0), .ref 579])]
def X_In2 (S : X_S) : Prop := X_cq2 S [(3, .byte, 2000, 0), (5, .long, 12, 1), (6, .int, 12, 0), (7, .long, 11, 1), (8, .int, 11, 0), (251, .long, 12, 1), (252, .int, 12, 0), (253, .long, 11, 1), (254, .int, 11, 0), (498, .int, 2001, 0), (499, .int, 2001, 0), (500, .long, 2001, 1), (502, .long, 30, 1), (503, .long, 30, 1), (505, .int, 30, 0), (506, .int, 30, 0), (507, .int, 30, 0), (508, .int, 30, 0), (509, .int, 30, 0), (510, .int, 120, 0), (512, .long, 5115, 1), (513, .long, 13950, 1), (514, .long, 465, 1), (515, .long, 55800, 1), (516, .long, 7200, 1), (518, .int, 30, 0), (519, .int, 30, 0), (520, .int, 30, 0), (521, .int, 30, 0), (522, .int, 30, 0), (523, .int, 30, 0), (524, .long, 30, 1), (525, .int, 4, 0), (526, .int, 4, 0), (528, .int, 30, 0), (529, .int, 16, 0), (531, .byte, 2020, 0), (532, .byte, 2000, 0), (533, .long, 24, 1), (534, .long, 22, 1), (535, .boolean, 288, 0), (536, .int, 22, 0), (537, .int, 60, 0), (538, .int, 60, 0), (539, .int, 60, 0), (540, .int, 60, 0), (541, .int, 60, 0), (542, .int, 60, 0), (543, .int, 1800, 0), (544, .int, 1800, 0), (545, .long, 480, 1), (546, .int, 480, 0), (547, .int, 240, 0), (548, .long, 30, 1), (549, .long, 30, 1), (550, .int, 30, 0), (551, .int, 30, 0), (552, .long, 28830, 1), (553, .long, 10571, 1), (554, .long, 115320, 1), (555, .long, 32, 1), (556, .long, 32, 1), (557, .int, 40, 0), (558, .int, 40, 0), (559, .int, 40, 0), (560, .int, 40, 0), (561, .int, 40, 0), (562, .int, 160, 0), (563, .int, 160, 0), (564, .int, 160, 0), (565, .int, 160, 0), (566, .int, 160, 0), (567, .int, 160, 0), (568, .int, 160, 0), (569, .long, 160, 1), (570, .int, 4, 0), (571, .int, 4, 0), (572, .long, 4, 1), (573, .long, 288, 1), (574, .boolean, 30, 0), (575, .int, 30, 0), (576, .int, 40, 0), (577, .int, 18, 0), (578, .int, 4, 0), (579, .boolean, 40, 0)]
def X_In3 (S : X_S) : Prop := ∀ w : Nat, w < 30 → X_cq1 S [(10 + 8 * w, 8, [.int (iI 0), .int (iI 0), .int (iI 0), .int (iI 0), .int (iI 0), .int (iI 0), .int (iI 0), .int (iI 0), .ref (10 + 8 * w + 1), .ref (10 + 8 * w + 2), .ref (10 + 8 * w + 3), .ref (10 + 8 * w + 4), .ref (10 + 8 * w + 5), .ref (10 + 8 * w + 6), .ref (10 + 8 * w + 7)])] ∧ X_cq2 S [(10 + 8 * w + 1, .long, 8, 1), (10 + 8 * w + 2, .int, 8, 0), (10 + 8 * w + 3, .int, 4, 0), (10 + 8 * w + 4, .int, 4, 0), (10 + 8 * w + 5, .int, 4, 0), (10 + 8 * w + 6, .int, 30, 0), (10 + 8 * w + 7, .int, 30, 0)]
def X_In4 (S : X_S) : Prop := ∀ w : Nat, w < 30 → X_cq1 S [(256 + 8 * w, 8, [.int (iI 0), .int (iI 0), .int (iI 0), .int (iI 0), .int (iI 0), .int (iI 0), .int (iI 0), .int (iI 0), .ref (256 + 8 * w + 1), .ref (256 + 8 * w + 2), .ref (256 + 8 * w + 3), .ref (256 + 8 * w + 4), .ref (256 + 8 * w + 5), .ref (256 + 8 * w + 6), .ref (256 + 8 * w + 7)])] ∧ X_cq2 S [(256 + 8 * w + 1, .long, 8, 1), (256 + 8 * w + 2, .int, 8, 0), (256 + 8 * w + 3, .int, 4, 0), (256 + 8 * w + 4, .int, 4, 0), (256 + 8 * w + 5, .int, 4, 0), (256 + 8 * w + 6, .int, 30, 0), (256 + 8 * w + 7, .int, 30, 0)]
def X_In5 (S : X_S) : Prop := (X_sh (S.1 9) = some (.short, 30, 4) ∧ ∀ w : Nat, w < 30 → X_gq (S.1 9) w = some (10 + 8 * w)) ∧ (X_sh (S.1 255) = some (.short, 30, 4) ∧ ∀ w : Nat, w < 30 → X_gq (S.1 255) w = some (256 + 8 * w)) ∧ X_gi (S.1 8) 0 = 1 ∧ X_gi (S.1 536) 0 = -1
def X_wq3 (S : X_S) (w : Nat) : Bool := X_kq1 S [(10 + 8 * w, 8, [.int (iI 0), .int (iI 0), .int (iI 0), .int (iI 0), .int (iI 0), .int (iI 0), .int (iI 0), .int (iI 0), .ref (10 + 8 * w + 1), .ref (10 + 8 * w + 2), .ref (10 + 8 * w + 3), .ref (10 + 8 * w + 4), .ref (10 + 8 * w + 5), .ref (10 + 8 * w + 6), .ref (10 + 8 * w + 7)])] && X_kq2 S [(10 + 8 * w + 1, .long, 8, 1), (10 + 8 * w + 2, .int, 8, 0), (10 + 8 * w + 3, .int, 4, 0), (10 + 8 * w + 4, .int, 4, 0), (10 + 8 * w + 5, .int, 4, 0), (10 + 8 * w + 6, .int, 30, 0), (10 + 8 * w + 7, .int, 30, 0)]
def X_wq4 (S : X_S) (w : Nat) : Bool := X_kq1 S [(256 + 8 * w, 8, [.int (iI 0), .int (iI 0), .int (iI 0), .int (iI 0), .int (iI 0), .int (iI 0), .int (iI 0), .int (iI 0), .ref (256 + 8 * w + 1), .ref (256 + 8 * w + 2), .ref (256 + 8 * w + 3), .ref (256 + 8 * w + 4), .ref (256 + 8 * w + 5), .ref (256 + 8 * w + 6), .ref (256 + 8 * w + 7)])] && X_kq2 S [(256 + 8 * w + 1, .long, 8, 1), (256 + 8 * w + 2, .int, 8, 0), (256 + 8 * w + 3, .int, 4, 0), (256 + 8 * w + 4, .int, 4, 0), (256 + 8 * w + 5, .int, 4, 0), (256 + 8 * w + 6, .int, 30, 0), (256 + 8 * w + 7, .int, 30, 0)]
theorem X_andl {a b : Bool} (h : (a && b) = true) : a = true := by
  cases a with
  | true => rfl
  | false => exact h
theorem X_andr {a b : Bool} (h : (a && b) = true) : b = true := by
  cases a with
  | true => exact h
  | false => cases h
set_option maxRecDepth 1000000 in
theorem X_InA_k : (X_kq1 X_Sb X_Lq1 && (X_kq2 X_Sb X_Lq2 && ((List.range 30).all (X_wq3 X_Sb) && (List.range 30).all (X_wq4 X_Sb)))) = true := by decide +kernel
theorem X_In1_k : X_kq1 X_Sb X_Lq1 = true := X_andl X_InA_k
theorem X_In1_b : X_In1 X_Sb := X_kq1_c X_Lq1 X_In1_k
theorem X_In2_k : X_kq2 X_Sb X_Lq2 = true := X_andl (X_andr X_InA_k)
theorem X_In2_b : X_In2 X_Sb := X_kq2_c X_Lq2 X_In2_k
theorem X_In3_k : (List.range 30).all (X_wq3 X_Sb) = true := X_andl (X_andr (X_andr X_InA_k))
theorem X_In3_c {S : X_S} (h : (List.range 30).all (X_wq3 S) = true) : X_In3 S := fun w hw => by
  have z : (X_kq1 S [(10 + 8 * w, 8, [.int (iI 0), .int (iI 0), .int (iI 0), .int (iI 0), .int (iI 0), .int (iI 0), .int (iI 0), .int (iI 0), .ref (10 + 8 * w + 1), .ref (10 + 8 * w + 2), .ref (10 + 8 * w + 3), .ref (10 + 8 * w + 4), .ref (10 + 8 * w + 5), .ref (10 + 8 * w + 6), .ref (10 + 8 * w + 7)])] && X_kq2 S [(10 + 8 * w + 1, .long, 8, 1), (10 + 8 * w + 2, .int, 8, 0), (10 + 8 * w + 3, .int, 4, 0), (10 + 8 * w + 4, .int, 4, 0), (10 + 8 * w + 5, .int, 4, 0), (10 + 8 * w + 6, .int, 30, 0), (10 + 8 * w + 7, .int, 30, 0)]) = true := List.all_eq_true.mp h w (List.mem_range.mpr hw)
  rw [Bool.and_eq_true] at z
  exact ⟨X_kq1_c _ z.1, X_kq2_c _ z.2⟩
theorem X_In3_b : X_In3 X_Sb := X_In3_c X_In3_k
theorem X_In4_k : (List.range 30).all (X_wq4 X_Sb) = true := X_andr (X_andr (X_andr X_InA_k))
theorem X_In4_c {S : X_S} (h : (List.range 30).all (X_wq4 S) = true) : X_In4 S := fun w hw => by
  have z : (X_kq1 S [(256 + 8 * w, 8, [.int (iI 0), .int (iI 0), .int (iI 0), .int (iI 0), .int (iI 0), .int (iI 0), .int (iI 0), .int (iI 0), .ref (256 + 8 * w + 1), .ref (256 + 8 * w + 2), .ref (256 + 8 * w + 3), .ref (256 + 8 * w + 4), .ref (256 + 8 * w + 5), .ref (256 + 8 * w + 6), .ref (256 + 8 * w + 7)])] && X_kq2 S [(256 + 8 * w + 1, .long, 8, 1), (256 + 8 * w + 2, .int, 8, 0), (256 + 8 * w + 3, .int, 4, 0), (256 + 8 * w + 4, .int, 4, 0), (256 + 8 * w + 5, .int, 4, 0), (256 + 8 * w + 6, .int, 30, 0), (256 + 8 * w + 7, .int, 30, 0)]) = true := List.all_eq_true.mp h w (List.mem_range.mpr hw)
  rw [Bool.and_eq_true] at z
  exact ⟨X_kq1_c _ z.1, X_kq2_c _ z.2⟩
theorem X_In4_b : X_In4 X_Sb := X_In4_c X_In4_k
set_option maxRecDepth 1000000 in
theorem X_In5_b : X_In5 X_Sb := by
  unfold X_In5
  decide +kernel
theorem X_ws_4 {S : X_S} (h : X_In3 S) : C_ws S 4 (X_D0 S 4) (X_W0 S 4) := fun w h1 h2 => by
  obtain ⟨⟨o, -⟩, a1, a2, a3, a4, a5, a6, a7, -⟩ := h w.toNat (by omega)
  refine ⟨⟨?_, ?_, ?_, ?_, ?_, ?_, ?_, ?_⟩, ?_⟩
  · exact X_ob_eq o
  · exact X_cL_e a1
  · exact X_cI_e a2
  · exact X_cI_e a3
  · exact X_cI_e a4
  · exact X_cI_e a5
  · exact X_cI_e a6
  · exact X_cI_e a7
  · exact ⟨(show (0 : Int) ≤ 0 ∧ (0 : Int) ≤ 11 by omega), (show (0 : Int) ≤ 0 ∧ (0 : Int) ≤ 2 by omega), (show (-1 : Int) ≤ 0 ∧ (0 : Int) ≤ 10 by omega), (show (0 : Int) ≤ 0 ∧ (0 : Int) ≤ 8 by omega), (show (0 : Int) ≤ 0 ∧ (0 : Int) ≤ 4 by omega), (show (-1 : Int) ≤ 0 ∧ (0 : Int) ≤ 30 by omega), (show (0 : Int) ≤ 0 ∧ (0 : Int) ≤ 1 by omega), (show (-2147483648 : Int) ≤ 0 ∧ (0 : Int) ≤ 2147483647 by omega)⟩
theorem X_ws_250 {S : X_S} (h : X_In4 S) : C_ws S 250 (X_D0 S 250) (X_W0 S 250) := fun w h1 h2 => by
  obtain ⟨⟨o, -⟩, a1, a2, a3, a4, a5, a6, a7, -⟩ := h w.toNat (by omega)
  refine ⟨⟨?_, ?_, ?_, ?_, ?_, ?_, ?_, ?_⟩, ?_⟩
  · exact X_ob_eq o
  · exact X_cL_e a1
  · exact X_cI_e a2
  · exact X_cI_e a3
  · exact X_cI_e a4
  · exact X_cI_e a5
  · exact X_cI_e a6
  · exact X_cI_e a7
  · exact ⟨(show (0 : Int) ≤ 0 ∧ (0 : Int) ≤ 11 by omega), (show (0 : Int) ≤ 0 ∧ (0 : Int) ≤ 2 by omega), (show (-1 : Int) ≤ 0 ∧ (0 : Int) ≤ 10 by omega), (show (0 : Int) ≤ 0 ∧ (0 : Int) ≤ 8 by omega), (show (0 : Int) ≤ 0 ∧ (0 : Int) ≤ 4 by omega), (show (-1 : Int) ≤ 0 ∧ (0 : Int) ≤ 30 by omega), (show (0 : Int) ≤ 0 ∧ (0 : Int) ≤ 1 by omega), (show (-2147483648 : Int) ≤ 0 ∧ (0 : Int) ≤ 2147483647 by omega)⟩
theorem X_I0 {S : X_S} (h1 : X_In1 S) (h2 : X_In2 S) (h3 : X_In3 S) (h4 : X_In4 S) (h5 : X_In5 S) : ∃ (tb : Int → Int) (G : X_G), X_Ao 0 tb G 0 0 (fun _ _ => 0) ∧ X_IC S 0 tb 0 G 0 0 (fun _ _ => 0) 0 (-1) ∧ X_IR S 0 tb 0 G 0 0 (fun _ _ => 0) 0 (-1) := by
  obtain ⟨o1, o2, o4, o250, o496, o497, o501, o504, o511, o517, o527, o530, -⟩ := h1
  obtain ⟨a3, a5, a6, a7, a8, a251, a252, a253, a254, a498, a499, a500, a502, a503, a505, a506, a507, a508, a509, a510, a512, a513, a514, a515, a516, a518, a519, a520, a521, a522, a523, a524, a525, a526, a528, a529, a531, a532, a533, a534, a535, a536, a537, a538, a539, a540, a541, a542, a543, a544, a545, a546, a547, a548, a549, a550, a551, a552, a553, a554, a555, a556, a557, a558, a559, a560, a561, a562, a563, a564, a565, a566, a567, a568, a569, a570, a571, a572, a573, a574, a575, a576, a577, a578, a579, -⟩ := h2
  obtain ⟨q4, q250, hab, hku⟩ := h5
  have e8 : X_cI S 8 0 = 1 := by
    show (X_gi (S.1 8) 0).toInt = 1
    rw [hab]; rfl
  have e536 : X_cI S 536 0 = -1 := by
    show (X_gi (S.1 536) 0).toInt = -1
    rw [hku]; rfl
  have hKo : X_Kok (0, 0, 1, 0, X_cL S 533, X_cI S 6, (fun _ => X_cL S 534 0), X_cI S 8, X_D0 S 4, X_W0 S 4) := ⟨(show (0 : Int) ≤ 0 ∧ (0 : Int) ≤ 12 by omega), (show (1 : Int) ≤ 1 ∧ (1 : Int) ≤ 11 by omega), (show (0 : Int) ≤ 0 ∧ (0 : Int) ≤ 30 by omega), fun w g1 g2 => absurd (show w < 0 from g2) (by omega)⟩
  have hK4 : X_K4 (0, 0, 1, 0, X_cL S 533, X_cI S 6, (fun _ => X_cL S 534 0), X_cI S 8, X_D0 S 4, X_W0 S 4) := fun w g1 g2 => absurd (show w < 0 from g2) (by omega)
  have hKg : X_KG 0 (1, 0, X_cI S 6, X_cI S 8, X_D0 S 4, X_W0 S 4, X_cL S 502) (0, 0, 1, 0, X_cL S 533, X_cI S 6, (fun _ => X_cL S 534 0), X_cI S 8, X_D0 S 4, X_W0 S 4) := ⟨rfl, rfl, rfl, rfl, rfl, rfl, fun w f _ _ _ => rfl⟩
  have hRb : R_bk 0 (0, 0, 1, 0, X_cL S 533, X_cI S 6, (fun _ => X_cL S 534 0), X_cI S 8, X_D0 S 4, X_W0 S 4) (X_cL S 533) (X_cL S 534) (X_cI S 535) (X_cI S 536) (X_cI S 537) (X_cI S 538) (X_cI S 539) (X_cI S 540) (X_cI S 541) (X_cI S 542) (X_cI S 543) (X_cI S 544) (X_cL S 545) (X_cI S 546) (X_cI S 547) := by
    refine ⟨⟨fun i g1 g2 => absurd (show i < 0 from g2) (by omega), fun i j g1 g2 => absurd (show i < 0 from g2) (by omega), fun i j g1 g2 => absurd (show i < 0 from g2) (by omega)⟩, ⟨fun i g1 g2 => ?_, fun u g1 g2 => ?_, ?_, fun k g1 g2 => absurd (show k < 1 from g2) (by omega)⟩, fun w g1 g2 => absurd (show w < 0 from g2) (by omega)⟩
    · have g2 : i < 1 := g2
      obtain rfl : i = 0 := by omega
      rfl
    · show X_bt (X_cI S 8 0) u ↔ u = 0
      rw [e8]
      exact X_bt_1 u ⟨g1, g2⟩
    · exact e536
  have hG : X_Gok (1, 0, X_cI S 6, X_cI S 8, X_D0 S 4, X_W0 S 4, X_cL S 502) := by
    refine ⟨(show (0 : Int) ≤ 0 ∧ (0 : Int) ≤ 30 by omega), (show (1 : Int) ≤ 1 ∧ (1 : Int) ≤ 11 by omega), ⟨fun k g1 g2 => ?_, fun k u g1 g2 g3 g4 g5 => ?_⟩, fun w g1 g2 => absurd (show w < 0 from g2) (by omega)⟩
    · have g2 : k < 1 := g2
      obtain rfl : k = 0 := by omega
      show X_bt (X_cI S 8 0) 0 ∧ X_bt (X_cI S 8 0) 0
      rw [e8]
      exact ⟨(X_bt_1 0 (by omega)).mpr rfl, (X_bt_1 0 (by omega)).mpr rfl⟩
    · have g2 : k < 1 := g2
      obtain rfl : k = 0 := by omega
      have g5 : X_bt (X_cI S 8 0) u := g5
      rw [e8, X_bt_1 u ⟨g3, g4⟩] at g5
      show u < 1
      omega
  have hGs : X_Gst (1, 0, X_cI S 6, X_cI S 8, X_D0 S 4, X_W0 S 4, X_cL S 502) := fun w g1 g2 => absurd (show w < 0 from g2) (by omega)
  refine ⟨X_cI S 3, (1, 0, X_cI S 6, X_cI S 8, X_D0 S 4, X_W0 S 4, X_cL S 502), ⟨by omega, fun k g1 g2 => absurd g2 (by omega), hG, hGs, by omega, X_Rok_0 (by omega), fun z => absurd z (by omega)⟩, ?_, ?_⟩
  · exact ⟨4, 250, Or.inl ⟨rfl, rfl⟩, ⟨X_ob_eq o1, X_ob_eq o2, (X_cI_e a3)⟩, ⟨250, 0, -1, 0, 0, 0, X_cI S 498, X_cI S 499, X_cL S 500, X_ob_eq o496, ⟨X_ob_eq o497, X_cI_e a498, X_cI_e a499, X_cL_e a500⟩⟩, ⟨X_cL S 5, X_cL S 7, ⟨X_ob_eq o4, X_cL_e a5, X_cI_e a6, X_cL_e a7, X_cI_e a8, ⟨_, X_gq_e q4.1, q4.2⟩, (show (0 : Int) ≤ 0 ∧ (0 : Int) ≤ 12 by omega), (show (1 : Int) ≤ 1 ∧ (1 : Int) ≤ 11 by omega), (show (0 : Int) ≤ 0 ∧ (0 : Int) ≤ 30 by omega)⟩, X_ws_4 h3⟩, ⟨0, 1, 0, X_cL S 251, X_cI S 252, X_cL S 253, X_cI S 254, X_D0 S 250, X_W0 S 250, ⟨X_ob_eq o250, X_cL_e a251, X_cI_e a252, X_cL_e a253, X_cI_e a254, ⟨_, X_gq_e q250.1, q250.2⟩, (show (0 : Int) ≤ 0 ∧ (0 : Int) ≤ 12 by omega), (show (1 : Int) ≤ 1 ∧ (1 : Int) ≤ 11 by omega), (show (0 : Int) ≤ 0 ∧ (0 : Int) ≤ 30 by omega)⟩, X_ws_250 h4⟩, ⟨(X_cL S 503), X_ob_eq o501, (X_cL_e a502), (X_cL_e a503)⟩, ⟨(X_cI S 505), (X_cI S 506), (X_cI S 507), (X_cI S 508), (X_cI S 509), (X_cI S 510), X_ob_eq o504, (X_cI_e a505), (X_cI_e a506), (X_cI_e a507), (X_cI_e a508), (X_cI_e a509), (X_cI_e a510), (fun n h1 h2 => absurd h2 (by omega)), (fun p h h1 h2 h3 h4 => absurd rfl h4)⟩, ⟨0, (X_cL S 512), (X_cL S 513), (X_cL S 514), (X_cL S 515), (X_cL S 516), X_ob_eq o511, (X_cL_e a512), (X_cL_e a513), (X_cL_e a514), (X_cL_e a515), (X_cL_e a516), (by omega), (fun z => absurd z (by omega))⟩, ⟨0, (X_cI S 518), (X_cI S 519), (X_cI S 520), (X_cI S 521), (X_cI S 522), (X_cI S 523), (X_cL S 524), (X_cI S 525), (X_cI S 526), X_ob_eq o517, (X_cI_e a518), (X_cI_e a519), (X_cI_e a520), (X_cI_e a521), (X_cI_e a522), (X_cI_e a523), (X_cL_e a524), (X_cI_e a525), (X_cI_e a526)⟩, ⟨0, (X_cI S 528), (X_cI S 529), X_ob_eq o527, (X_cI_e a528), (X_cI_e a529)⟩⟩
  · exact ⟨fun k => if k = 6 then -1 else 0, 0, 0, 0, 0, 0, by omega, by omega, Or.inr ⟨rfl, rfl, rfl⟩, X_ob_eq o530, ⟨(X_cI S 531), (X_cI S 532), (X_cI_e a531), (X_cI_e a532), (fun k h1 h2 => absurd h2 (by omega))⟩, ⟨(0, 0, 1, 0, X_cL S 533, X_cI S 6, (fun _ => X_cL S 534 0), X_cI S 8, X_D0 S 4, X_W0 S 4), (X_cL S 533), (X_cL S 534), (X_cI S 535), (X_cI S 536), (X_cI S 537), (X_cI S 538), (X_cI S 539), (X_cI S 540), (X_cI S 541), (X_cI S 542), (X_cI S 543), (X_cI S 544), (X_cL S 545), (X_cI S 546), (X_cI S 547), (X_cL_e a533), (X_cL_e a534), (X_cI_e a535), (X_cI_e a536), (X_cI_e a537), (X_cI_e a538), (X_cI_e a539), (X_cI_e a540), (X_cI_e a541), (X_cI_e a542), (X_cI_e a543), (X_cI_e a544), (X_cL_e a545), (X_cI_e a546), (X_cI_e a547), hKo, hK4, hRb, hKg⟩, ⟨(X_cL S 548), (X_cL S 549), (X_cI S 550), (X_cI S 551), (X_cL_e a548), (X_cL_e a549), (X_cI_e a550), (X_cI_e a551), (fun t h1 h2 => absurd h2 (by omega)), (fun t h1 h2 => absurd h2 (by omega))⟩, ⟨(X_cL S 552), (X_cL S 553), (X_cL S 554), (X_cL S 555), (X_cL S 556), (X_cL_e a552), (X_cL_e a553), (X_cL_e a554), (X_cL_e a555), (X_cL_e a556), (fun i j h1 h2 h3 => absurd h3 (by omega))⟩, ⟨(X_cI S 557), (X_cI S 558), (X_cI S 559), (X_cI S 560), (X_cI S 561), (X_cI_e a557), (X_cI_e a558), (X_cI_e a559), (X_cI_e a560), (X_cI_e a561), (fun n h1 h2 => absurd h2 (by omega))⟩, ⟨(X_cI S 562), (X_cI S 563), (X_cI S 564), (X_cI S 565), (X_cI S 566), (X_cI S 567), (X_cI S 568), (X_cL S 569), (X_cI S 570), (X_cI S 571), (X_cL S 572), (X_cL S 573), (X_cI_e a562), (X_cI_e a563), (X_cI_e a564), (X_cI_e a565), (X_cI_e a566), (X_cI_e a567), (X_cI_e a568), (X_cL_e a569), (X_cI_e a570), (X_cI_e a571), (X_cL_e a572), (X_cL_e a573)⟩, ⟨(X_cI S 574), (X_cI S 575), (X_cI_e a574), (X_cI_e a575), (fun w h1 h2 => absurd (show w < 0 from h2) (by omega))⟩, ⟨(X_cI S 576), (X_cI S 577), (X_cI S 578), (X_cI S 579), (X_cI_e a576), (X_cI_e a577), (X_cI_e a578), (X_cI_e a579)⟩⟩
