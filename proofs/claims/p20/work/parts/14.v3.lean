/-! p20: the books' lines, read -/
theorem V_av {n c : Int} (h : c + 1 < n) : X_av n c = c + 1 := by unfold X_av; rw [if_pos h]
theorem V_ix {g : Int → Int64} {n : Int} {x : Int64} {r : Int} (h0 : 0 ≤ r) (h1 : r < n) (h2 : g r = x) (h3 : ∀ k, 0 ≤ k → k < r → ¬ g k = x) : X_ix g n x = r := (X_ix_e (Or.inl ⟨h0, h1, h2, h3⟩)).symm
theorem V_ix_n {g : Int → Int64} {n : Int} {x : Int64} (h : ∀ k, 0 ≤ k → k < n → ¬ g k = x) : X_ix g n x = -1 := (X_ix_e (Or.inr ⟨rfl, h⟩)).symm
/-- elements: a part's token or a hole -/
def V_ed : List (Option Int64) → (Nat → Int → Int) → Nat → Int → Int
  | [], d => d
  | some _ :: r, d => V_ed r (X_aP d)
  | none :: r, d => V_ed r (X_aH d 0)
def V_eq : List (Option Int64) → (Nat → Int → Int) → (Int → Int64) → Int → Int64
  | [], _, q => q
  | some t :: r, d, q => V_eq r (X_aP d) (X_ug q (d 3 0) t)
  | none :: r, d, q => V_eq r (X_aH d 0) (X_ug q (d 3 0) 0)
def V_ec : List (Option Int64) → (Nat → Int → Int) → (Int → Int64) → Prop
  | [], _, _ => True
  | some t :: r, d, q => d 3 0 < 8 ∧ V_ec r (X_aP d) (X_ug q (d 3 0) t)
  | none :: r, d, q => (d 3 0 < 8 ∧ d 4 0 < 4 ∧ ¬ X_hl d q (d 3 0 - 1)) ∧ V_ec r (X_aH d 0) (X_ug q (d 3 0) 0)
/-- the tokens of these elements stand from c on, a ; behind them -/
def V_et (so : Int → Int) (ct : Int → Int64) : Int → List (Option Int64) → Prop
  | c, [] => so c = 59
  | c, some t :: r => so c = 6 ∧ ct c = t ∧ V_et so ct (c + 1) r
  | c, none :: r => so c = 95 ∧ V_et so ct (c + 1) r
theorem V_et_2 {so : Int → Int} {ct : Int → Int64} {c : Int} {L : List (Option Int64)} (h : V_et so ct c L) : ¬ so c = 2 := by
  cases L with
  | nil => have h : so c = 59 := h; omega
  | cons e r =>
    cases e with
    | none => have := h.1; omega
    | some t => have := h.1; omega
theorem V_el {n : Int} {so : Int → Int} {ct : Int → Int64} {kn : Int → Int64} {kc : Int} : ∀ (L : List (Option Int64)) (k : Nat) (c : Int) (d : Nat → Int → Int) (q : Int → Int64), L.length < k → c + L.length < n → V_et so ct c L → V_ec L d q → sp_el n so ct kn kc k c d q = some (c + L.length, V_ed L d, V_eq L d q) := by
  intro L
  induction L with
  | nil =>
    intro k c d q hk hc ht _
    have ht : so c = 59 := ht
    cases k with
    | zero => exact absurd hk (by simp)
    | succ k =>
      show (if so c = 61 then _ else if so c = 59 then some (c, d, q) else _) = _
      rw [if_neg (by omega), if_pos ht]
      show some (c, d, q) = some (c + ((0 : Nat) : Int), d, q)
      rw [show c + ((0 : Nat) : Int) = c by omega]
  | cons e r ih =>
    intro k c d q hk hc ht hec
    have hl : (e :: r).length = r.length + 1 := rfl
    rw [hl] at hk hc
    cases k with
    | zero => omega
    | succ k =>
      have ha : X_av n c = c + 1 := V_av (by omega)
      cases e with
      | some t =>
        obtain ⟨h1, h2, h3⟩ := ht
        obtain ⟨g1, g2⟩ := hec
        have z := ih k (c + 1) (X_aP d) (X_ug q (d 3 0) t) (by omega) (by omega) h3 g2
        show (if so c = 61 then _ else if so c = 59 then _ else if so c = 6 ∧ d 3 0 < 8 then sp_el n so ct kn kc k (X_av n c) (X_aP d) (X_ug q (d 3 0) (ct c)) else _) = _
        rw [if_neg (by omega), if_neg (by omega), if_pos ⟨h1, g1⟩, ha, h2, z, hl]
        rw [show c + 1 + (r.length : Int) = c + ((r.length + 1 : Nat) : Int) by omega]
        rfl
      | none =>
        obtain ⟨h1, h3⟩ := ht
        obtain ⟨g1, g2⟩ := hec
        have z := ih k (c + 1) (X_aH d 0) (X_ug q (d 3 0) 0) (by omega) (by omega) h3 g2
        show (if so c = 61 then _ else if so c = 59 then _ else if so c = 6 ∧ d 3 0 < 8 then _ else @ite _ (so c = 95 ∧ (d 3 0 < 8 ∧ d 4 0 < 4 ∧ ¬ X_hl d q (d 3 0 - 1))) (Classical.propDecidable _) (if so (X_av n c) = 2 then _ else sp_el n so ct kn kc k (X_av n c) (X_aH d 0) (X_ug q (d 3 0) 0)) none) = _
        rw [if_neg (by omega), if_neg (by omega), if_neg (by omega), if_pos ⟨h1, g1⟩, ha, if_neg (V_et_2 h3), z, hl]
        rw [show c + 1 + (r.length : Int) = c + ((r.length + 1 : Nat) : Int) by omega]
        rfl
/-- a word's line. ln: 0 none, 1 left, 2 right -/
theorem V_wd {n : Int} {so : Int → Int} {ct : Int → Int64} {c rc kc wc i ln b : Int} {rn : Int → Int64} {lo : Int → Int} {kn : Int → Int64} {ab : Int → Int} {D : Int → Nat → Int → Int} {W : Int → Int → Int64} {L : List (Option Int64)} (h0 : so c = 3) (h1 : ct c = Int64.ofNat 2003792484) (hw : wc < 30) (h2 : so (c + 1) = 2) (hi : X_ix rn rc (ct (c + 1)) = i) (hi0 : 0 ≤ i)
    (hln : (ln = 0 ∧ b = c + 2) ∨ (ln = 1 ∧ b = c + 3 ∧ so (c + 2) = 3 ∧ ct (c + 2) = Int64.ofNat 1818584692) ∨ (ln = 2 ∧ b = c + 3 ∧ so (c + 2) = 3 ∧ ct (c + 2) = Int64.ofNat 491394656372)) (h3 : so b = 58) (ht : V_et so ct (b + 1) L) (hL : L.length ≤ 8) (hn : b + 1 + L.length + 1 < n)
    (hec : V_ec L (X_wu (X_wu (X_clr (D wc) i) 1 (fun _ => ln)) 2 (fun _ => 0)) (W wc)) (hen : ¬ ln = 0 → ¬ X_en (V_ed L (X_wu (X_wu (X_clr (D wc) i) 1 (fun _ => ln)) 2 (fun _ => 0))) (V_eq L (X_wu (X_wu (X_clr (D wc) i) 1 (fun _ => ln)) 2 (fun _ => 0)) (W wc)) = 0) (h1l : (V_ed L (X_wu (X_wu (X_clr (D wc) i) 1 (fun _ => ln)) 2 (fun _ => 0))) 1 0 = ln) (h43 : ¬ (V_ed L (X_wu (X_wu (X_clr (D wc) i) 1 (fun _ => ln)) 2 (fun _ => 0))) 4 0 = (V_ed L (X_wu (X_wu (X_clr (D wc) i) 1 (fun _ => ln)) 2 (fun _ => 0))) 3 0) :
    sp_line n so ct (c, rc, kc, wc, rn, lo, kn, ab, D, W) = some (b + 1 + L.length + 1, rc, kc, wc + 1, rn, lo, kn, ab, X_ug D wc (V_ed L (X_wu (X_wu (X_clr (D wc) i) 1 (fun _ => ln)) 2 (fun _ => 0))), X_ug W wc (V_eq L (X_wu (X_wu (X_clr (D wc) i) 1 (fun _ => ln)) 2 (fun _ => 0)) (W wc))) := by
  have e1 : X_av n c = c + 1 := V_av (by omega)
  have e2 : X_av n (c + 1) = c + 2 := (V_av (by omega)).trans (by omega)
  have eC : X_lnC n so ct (c + 2) = b := by
    unfold X_lnC
    rcases hln with ⟨g1, g2⟩ | ⟨g1, g2, g3, g4⟩ | ⟨g1, g2, g3, g4⟩
    · rw [g2] at h3
      rw [if_neg (by omega)]
      exact g2.symm
    · rw [if_pos (Or.inl ⟨g3, g4⟩), V_av (by omega)]
      omega
    · rw [if_pos (Or.inr ⟨g3, g4⟩), V_av (by omega)]
      omega
  have eV : X_lnV so ct (c + 2) 0 = ln := by
    unfold X_lnV
    rcases hln with ⟨g1, g2⟩ | ⟨g1, g2, g3, g4⟩ | ⟨g1, g2, g3, g4⟩
    · rw [g2] at h3
      rw [if_neg (by omega), if_neg (by omega)]
      exact g1.symm
    · rw [if_pos ⟨g3, g4⟩]
      exact g1.symm
    · rw [if_neg (fun z => by rw [g4] at z; exact absurd z.2 (by decide)), if_pos ⟨g3, g4⟩]
      exact g1.symm
  have hel := V_el (n := n) (kn := kn) (kc := kc) L 9 (b + 1) (X_wu (X_wu (X_clr (D wc) i) 1 (fun _ => ln)) 2 (fun _ => 0)) (W wc) (by omega) (by omega) ht hec
  have h59 : so (b + 1 + L.length) = 59 := by
    have key : ∀ (M : List (Option Int64)) (x : Int), V_et so ct x M → so (x + M.length) = 59 := by
      intro M
      induction M with
      | nil => intro x h; rw [show x + (([] : List (Option Int64)).length : Int) = x from Int.add_zero x]; exact h
      | cons e r ih =>
        intro x h
        rw [show x + ((e :: r).length : Int) = x + 1 + (r.length : Int) by rw [List.length_cons]; omega]
        cases e with
        | none => exact ih _ h.2
        | some t => exact ih _ h.2.2
    exact key L (b + 1) ht
  unfold sp_line
  simp only
  rw [if_neg (fun z => by rw [h1] at z; exact absurd z.2 (by decide)), if_neg (fun z => by rw [h1] at z; exact absurd z.2 (by decide)), if_neg (fun z => by rw [h1] at z; exact absurd z.2 (by decide)), if_pos ⟨h0, h1⟩]
  unfold sp_word
  simp only
  rw [if_neg (by omega), e1, if_pos h2, hi, if_neg (by omega), e2, eC, eV]
  unfold sp_wk
  rw [if_neg (by omega)]
  unfold sp_wb
  rw [if_pos h3, V_av (show b + 1 < n by omega), hel]
  simp only [Option.bind]
  unfold sp_we
  rw [h1l]
  by_cases hz : ln = 0
  · rw [if_neg (by omega), if_neg h43, if_neg (by omega), if_pos h59, V_av (by omega)]
  · rw [if_pos hz, if_neg (hen hz), if_neg h43, if_neg (by omega), if_pos h59, V_av (by omega)]
theorem V_rk {n : Int} {so : Int → Int} {ct : Int → Int64} {c rc kc wc : Int} {rn : Int → Int64} {lo : Int → Int} {kn : Int → Int64} {ab : Int → Int} {D : Int → Nat → Int → Int} {W : Int → Int → Int64} (h0 : so c = 3) (h1 : ct c = Int64.ofNat 1918987883) (hr : rc < 12) (h2 : so (c + 1) = 2) (hi : ∀ k, 0 ≤ k → k < rc → ¬ rn k = ct (c + 1)) (h3 : so (c + 2) = 59) (hn : c + 3 < n) :
    sp_line n so ct (c, rc, kc, wc, rn, lo, kn, ab, D, W) = some (c + 3, rc + 1, kc, wc, X_ug rn rc (ct (c + 1)), X_ug lo rc 0, kn, ab, D, W) := by
  have e1 : X_av n c = c + 1 := V_av (by omega)
  have e2 : X_av n (c + 1) = c + 2 := (V_av (by omega)).trans (by omega)
  have e3 : X_av n (c + 2) = c + 3 := (V_av (by omega)).trans (by omega)
  unfold sp_line
  simp only
  rw [if_pos ⟨h0, h1⟩]
  unfold sp_rank
  simp only
  rw [if_neg (by omega), e1, if_pos h2, V_ix_n hi, if_pos rfl, e2, if_pos h3, e3]
