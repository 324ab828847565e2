/-! reading a book's lines. so, ct: the tokens' sorts and contents, n: how many; c: the token that is looked at -/
def X_av (n c : Int) : Int := if c + 1 < n then c + 1 else c
theorem X_av_r {n c : Int} (h : 0 ≤ c ∧ c < n) : 0 ≤ X_av n c ∧ X_av n c < n := by
  unfold X_av
  split <;> omega
/-- the place of a name, -1 if it isn't there -/
noncomputable def X_ix (g : Int → Int64) (n : Int) (x : Int64) : Int := @dite Int (∃ r, X_Ix g n x r) (Classical.propDecidable _) (fun h => Classical.choose h) (fun _ => -1)
theorem X_Ix_u {g : Int → Int64} {n : Int} {x : Int64} {r r' : Int} (h : X_Ix g n x r) (h' : X_Ix g n x r') : r = r' := by
  rcases h with ⟨a1, a2, a3, a4⟩ | ⟨a1, a2⟩ <;> rcases h' with ⟨b1, b2, b3, b4⟩ | ⟨b1, b2⟩
  · by_cases h1 : r < r'
    · exact absurd a3 (b4 r a1 h1)
    · by_cases h2 : r' < r
      · exact absurd b3 (a4 r' b1 h2)
      · omega
  · exact absurd a3 (b2 r a1 a2)
  · exact absurd b3 (a2 r' b1 b2)
  · omega
theorem X_ix_e {g : Int → Int64} {n : Int} {x : Int64} {r : Int} (h : X_Ix g n x r) : r = X_ix g n x := by
  have hx : ∃ r, X_Ix g n x r := ⟨r, h⟩
  have e : X_ix g n x = Classical.choose hx := by
    unfold X_ix
    rw [dif_pos hx]
  rw [e]
  exact X_Ix_u h (Classical.choose_spec hx)
/-- what the reading of a book's text has come to: the token, how many ranks, kinds, words; their names and bits; the words -/
abbrev X_Kp : Type := Int × Int × Int × Int × (Int → Int64) × (Int → Int) × (Int → Int64) × (Int → Int) × (Int → Nat → Int → Int) × (Int → Int → Int64)
def C_pa (S : X_S) (B : Nat) (fl fp : Int) : Prop := S.1 496 = .inr (4, [.ref 497, .ref B, .int (iI fl), .int (iI fp)])
/-- the parser over its lexer and the book it writes -/
def C_K (S : X_S) (B : Nat) (fl fp at_ n : Int) (so pl : Int → Int) (ct : Int → Int64) (K : X_Kp) : Prop :=
  C_pa S B fl fp ∧ C_lx S at_ n K.1 so pl ct ∧ C_bk S B K.2.1 K.2.2.1 K.2.2.2.1 K.2.2.2.2.1 K.2.2.2.2.2.1 K.2.2.2.2.2.2.1 K.2.2.2.2.2.2.2.1 ∧ C_ws S B K.2.2.2.2.2.2.2.2.1 K.2.2.2.2.2.2.2.2.2 ∧ (0 ≤ K.1 ∧ K.1 < n)
noncomputable def sp_rank (n : Int) (so : Int → Int) (ct : Int → Int64) : X_Kp → Option X_Kp
  | (c, rc, kc, wc, rn, lo, kn, ab, D, W) =>
    if rc = 12 then none else if so (X_av n c) = 2 then (if X_ix rn rc (ct (X_av n c)) = -1 then (if so (X_av n (X_av n c)) = 59 then
      some (X_av n (X_av n (X_av n c)), rc + 1, kc, wc, X_ug rn rc (ct (X_av n c)), X_ug lo rc 0, kn, ab, D, W) else none) else none) else none
noncomputable def sp_kind (n : Int) (so : Int → Int) (ct : Int → Int64) : X_Kp → Option X_Kp
  | (c, rc, kc, wc, rn, lo, kn, ab, D, W) =>
    if kc = 11 then none else if so (X_av n c) = 2 then (if X_ix kn kc (ct (X_av n c)) = -1 then
      (if so (X_av n (X_av n c)) = 3 ∧ ct (X_av n (X_av n c)) = Int64.ofNat 504363246962 then
        (if so (X_av n (X_av n (X_av n c))) = 2 then (if X_ix kn kc (ct (X_av n (X_av n (X_av n c)))) = -1 then none else
          (if so (X_av n (X_av n (X_av n (X_av n c)))) = 59 then
            some (X_av n (X_av n (X_av n (X_av n (X_av n c)))), rc, kc + 1, wc, rn, lo, X_ug kn kc (ct (X_av n c)), X_ug ab kc (X_bO (ab (X_ix kn kc (ct (X_av n (X_av n (X_av n c)))))) (X_bS kc)), D, W) else none)) else none)
      else (if so (X_av n (X_av n c)) = 59 then
        some (X_av n (X_av n (X_av n c)), rc, kc + 1, wc, rn, lo, X_ug kn kc (ct (X_av n c)), X_ug ab kc (X_bO (ab 0) (X_bS kc)), D, W) else none)) else none) else none
