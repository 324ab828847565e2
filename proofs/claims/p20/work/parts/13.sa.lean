/-! the class's finder and reading -/
def F_it (G : X_G) (t : X_It) (a b c d w k : Int) (n : Int64) : Prop := a = t.1 ∧ b = t.2.1 ∧ c = t.2.2.1 ∧ d = t.2.2.2.1 ∧ (∀ v, 0 ≤ v → v < gw G → (X_bt w v ↔ X_bt (ga G (gD G v 2 0)) t.2.2.2.2.1 ∧ X_lt G t.2.2.2.2.2.1 t.2.2.2.2.2.2.1 v)) ∧ (∀ z, 0 ≤ z → z < gk G → (X_bt k z ↔ X_bt (ga G z) t.2.2.2.2.1)) ∧ n = iL (t.2.2.2.2.2.2.2 : Int)
def F_st (G : X_G) (wt : Int) (St : Int → X_It) (fF fE fP fH fW fK : Int → Int) (fN : Int → Int64) : Prop := ∀ q, 0 ≤ q → q < wt → F_it G (St q) (fF q) (fE q) (fP q) (fH q) (fW q) (fK q) (fN q)
theorem F_st.push {G : X_G} {wt : Int} {St : Int → X_It} {fF fE fP fH fW fK : Int → Int} {fN : Int → Int64} {t : X_It} {a b c d w k : Int} {n : Int64} {q w1 w2 w3 : Int} {fW' fK' : Int → Int} {fN' : Int → Int64} (h : F_st G wt St fF fE fP fH fW fK fN) (hq : q = wt) (h1 : w1 = wt) (h2 : w2 = wt) (h3 : w3 = wt) (ht : F_it G t a b c d w k n) (e1 : fW' = X_ug fW w1 w) (e2 : fK' = X_ug fK w2 k) (e3 : fN' = X_ug fN w3 n) : F_st G (wt + 1) (X_ug St q t) (X_ug fF wt a) (X_ug fE wt b) (X_ug fP wt c) (X_ug fH wt d) fW' fK' fN' := by
  subst hq; subst e1; subst e2; subst e3; subst h1; subst h2; subst h3
  intro q g1 g2
  by_cases hq : q = w3
  · subst hq
    rw [X_ug_s, X_ug_s, X_ug_s, X_ug_s, X_ug_s, X_ug_s, X_ug_s, X_ug_s]
    exact ht
  · rw [X_ug_n _ _ hq, X_ug_n _ _ hq, X_ug_n _ _ hq, X_ug_n _ _ hq, X_ug_n _ _ hq, X_ug_n _ _ hq, X_ug_n _ _ hq, X_ug_n _ _ hq]
    exact h q g1 (by omega)
theorem F_st.pop {G : X_G} {wt : Int} {St : Int → X_It} {fF fE fP fH fW fK : Int → Int} {fN fN' : Int → Int64} (h : F_st G wt St fF fE fP fH fW fK fN) (hn : ∀ q, ¬ q = wt - 1 → fN' q = fN q) : F_st G (wt - 1) St fF fE fP fH fW fK fN' := fun q g1 g2 => by
  rw [hn q (by omega)]
  exact h q g1 (by omega)
/-- a reading's nodes -/
def F_nd (nc : Int) (N : Int → Int → Int) (nW nF nL nP nH : Int → Int) : Prop := ∀ n, 0 ≤ n → n < nc → nW n = N 0 n ∧ nF n = N 1 n ∧ nL n = N 2 n ∧ nP n = N 3 n ∧ nH n = N 4 n
theorem F_nd.add {nc : Int} {N : Int → Int → Int} {nW nF nL nP nH : Int → Int} {a b c d e : Int} (h : F_nd nc N nW nF nL nP nH) : F_nd (nc + 1) (X_nn N nc a b c d e) (X_ug nW nc a) (X_ug nF nc b) (X_ug nL nc c) (X_ug nP nc d) (X_ug nH nc e) := by
  intro n g1 g2
  unfold X_nn
  by_cases hn : n = nc
  · subst hn
    rw [X_ug_s, X_ug_s, X_ug_s, X_ug_s, X_ug_s]
    simp
  · rw [X_ug_n _ _ hn, X_ug_n _ _ hn, X_ug_n _ _ hn, X_ug_n _ _ hn, X_ug_n _ _ hn]
    simp only [if_neg hn]
    exact h n g1 (by omega)
/-- the last node in a hole, -1 if there is none -/
def X_lc (N : Int → Int → Int) (p h : Int) : Nat → Int
  | 0 => -1
  | n + 1 => if N 3 n = p ∧ N 4 n = h then (n : Int) else X_lc N p h n
theorem X_lc_r {N : Int → Int → Int} {p h : Int} : ∀ n : Nat, -1 ≤ X_lc N p h n ∧ X_lc N p h n < n ∧ (¬ X_lc N p h n = -1 → N 3 (X_lc N p h n) = p ∧ N 4 (X_lc N p h n) = h) := by
  intro n
  induction n with
  | zero => exact ⟨Int.le_refl _, (show (-1 : Int) < 0 by omega), fun z => absurd rfl z⟩
  | succ n ih =>
    unfold X_lc
    split
    · exact ⟨by omega, by omega, fun _ => by assumption⟩
    · exact ⟨ih.1, by omega, ih.2.2⟩
theorem X_lc_c {N N' : Int → Int → Int} {p h : Int} : ∀ n : Nat, (∀ k : Int, 0 ≤ k → k < n → N 3 k = N' 3 k ∧ N 4 k = N' 4 k) → X_lc N p h n = X_lc N' p h n := by
  intro n
  induction n with
  | zero => intro _; rfl
  | succ n ih =>
    intro hh
    unfold X_lc
    rw [ih (fun k h1 h2 => hh k h1 (by omega)), (hh n (by omega) (by omega)).1, (hh n (by omega) (by omega)).2]
theorem X_lc_u {N : Int → Int → Int} {p h k : Int} : ∀ n : Nat, 0 ≤ k → k < n → N 3 k = p → N 4 k = h → k ≤ X_lc N p h n := by
  intro n
  induction n with
  | zero => intro h0 h1; omega
  | succ n ih =>
    intro h0 h1 h2 h3
    unfold X_lc
    by_cases hk : k = n
    · subst hk
      rw [if_pos ⟨h2, h3⟩]
      exact Int.le_refl _
    · have := ih h0 (by omega) h2 h3
      split <;> omega
def F_ch (nc : Int) (N : Int → Int → Int) (nC : Int → Int) : Prop := ∀ p h, 0 ≤ p → 0 ≤ h → h < 4 → ¬ X_lc N p h nc.toNat = -1 → nC (p * 4 + h) = X_lc N p h nc.toNat
theorem X_nn_lc {nc : Int} {N : Int → Int → Int} {a b c d e p h : Int} (h0 : 0 ≤ nc) : X_lc (X_nn N nc a b c d e) p h (nc + 1).toNat = if d = p ∧ e = h then nc else X_lc N p h nc.toNat := by
  rw [show (nc + 1).toNat = nc.toNat + 1 by omega]
  show (if X_nn N nc a b c d e 3 (nc.toNat : Int) = p ∧ X_nn N nc a b c d e 4 (nc.toNat : Int) = h then ((nc.toNat : Nat) : Int) else X_lc (X_nn N nc a b c d e) p h nc.toNat) = _
  rw [show ((nc.toNat : Nat) : Int) = nc by omega]
  have e3 : X_nn N nc a b c d e 3 nc = d := by unfold X_nn; simp
  have e4 : X_nn N nc a b c d e 4 nc = e := by unfold X_nn; simp
  rw [e3, e4, X_lc_c (N' := N) nc.toNat (fun k g1 g2 => by unfold X_nn; rw [if_neg (by omega), if_neg (by omega)]; exact ⟨rfl, rfl⟩)]
theorem F_ch.add {nc : Int} {N : Int → Int → Int} {nC : Int → Int} {a b c d e : Int} (h : F_ch nc N nC) (h0 : 0 ≤ nc) (hd : 0 ≤ d) (he : 0 ≤ e ∧ e < 4) {z : Int} (hz : z = d * 4 + e) : F_ch (nc + 1) (X_nn N nc a b c d e) (X_ug nC z nc) := by
  subst hz
  intro p x h1 h2 h3 h4
  rw [X_nn_lc h0] at h4 ⊢
  by_cases hc : d = p ∧ e = x
  · rw [if_pos hc]
    rw [hc.1, hc.2, X_ug_s]
  · rw [if_neg hc] at h4 ⊢
    rw [X_ug_n _ _ (by omega)]
    exact h p x h1 h2 h3 h4
theorem F_ch.add0 {nc : Int} {N : Int → Int → Int} {nC : Int → Int} {a b c d e : Int} (h : F_ch nc N nC) (h0 : 0 ≤ nc) (hd : d < 0 ∨ e < 0) : F_ch (nc + 1) (X_nn N nc a b c d e) nC := by
  intro p x h1 h2 h3 h4
  rw [X_nn_lc h0, if_neg (by omega)] at h4 ⊢
  exact h p x h1 h2 h3 h4
/-- longs that are numbers -/
theorem iL_sub {a b : Nat} (h : b ≤ a) : iL (a : Int) - iL (b : Int) = iL ((a - b : Nat) : Int) := by
  show Int64.ofInt (a : Int) - Int64.ofInt (b : Int) = _
  rw [← Int64.ofInt_sub, show ((a - b : Nat) : Int) = (a : Int) - (b : Int) by omega]
theorem iL_st {m : Int} {a : Nat} (h : a ≤ 9223372036854775807) : X_st m a = iL (a : Int) := X_st_lo h
theorem iL_rem {a b : Nat} (ha : a ≤ 9223372036854775807) (hb : 0 < b ∧ b ≤ 9223372036854775807) : iL (a : Int) - iL (a : Int) / iL (b : Int) * iL (b : Int) = iL ((a % b : Nat) : Int) ∧ iL (a : Int) / iL (b : Int) = iL ((a / b : Nat) : Int) := by
  have h1 : iL (a : Int) / iL (b : Int) = iL ((a / b : Nat) : Int) := by
    rw [iL_div (by omega) (by omega)]
    rfl
  refine ⟨?_, h1⟩
  rw [h1]
  show Int64.ofInt (a : Int) - Int64.ofInt ((a / b : Nat) : Int) * Int64.ofInt (b : Int) = _
  rw [← Int64.ofInt_mul, ← Int64.ofInt_sub]
  congr 1
  have := Nat.div_add_mod a b
  rw [Nat.mul_comm] at this
  have h2 : ((a / b : Nat) : Int) * (b : Int) = ((a / b * b : Nat) : Int) := (Int.natCast_mul _ _).symm
  rw [h2]
  omega
