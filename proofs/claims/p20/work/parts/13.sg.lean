theorem X_An_m1 {N : Int → Int → Int} {nc : Int} (ht : X_tr0 N nc) : ∀ (k : Nat) (n : Int), n < k → n < nc → -1 ≤ n → X_An N n (-1) := by
  intro k
  induction k with
  | zero => intro n h1 h2 h3; rw [show n = -1 by omega]; exact X_An.rf
  | succ k ih =>
    intro n h1 h2 h3
    by_cases h0 : n = -1
    · rw [h0]; exact X_An.rf
    · have h6 := ht n (by omega) h2
      exact X_An.up (by omega) (ih (N 3 n) (by omega) (by omega) h6.1)
theorem X_An_neg {N : Int → Int → Int} {m : Int} (h : X_An N (-1) m) : m = -1 := by
  refine Classical.byContradiction (fun z => ?_)
  have := (h.dn (fun e => z e.symm)).1
  omega
/-- where a node's chain ends -/
theorem X_wn_A {G : X_G} {tn nc nx : Int} {N : Int → Int → Int} (hR : X_Rok G tn nc N) (h : 1 ≤ nx ∧ nx ≤ nc) : X_An N (nx - 1) (X_wn N nc nx) ∧ -1 ≤ X_wn N nc nx ∧ X_wn N nc nx < nx := by
  obtain ⟨-, t0, t1, -⟩ := hR
  unfold X_wn
  by_cases hn : nx < nc
  · rw [if_pos hn]
    have h1 := t1 nx h.1 hn
    have h2 := t0 nx (by omega) hn
    exact ⟨h1.2, by omega, h2.2⟩
  · rw [if_neg hn]
    exact ⟨X_An_m1 t0 nx.toNat (nx - 1) (by omega) (by omega) (by omega), by omega, by omega⟩
theorem X_out2_f {s a b z : Int} (hs : X_isOp s) (h : (s = 43 ∧ iI z = iI a + iI b) ∨ (s = 45 ∧ iI z = iI a - iI b) ∨ (s = 42 ∧ iI z = iI a * iI b) ∨ (s = 47 ∧ iI z = iI a / iI b) ∨ (s = 37 ∧ iI z = iI a - iI a / iI b * iI b) ∨ (s = 60 ∧ z = bI (a < b))) : iI z = iI (X_out2 s a b) := by
  unfold X_out2
  rcases h with ⟨h1, h2⟩ | ⟨h1, h2⟩ | ⟨h1, h2⟩ | ⟨h1, h2⟩ | ⟨h1, h2⟩ | ⟨h1, h2⟩
  · rw [if_pos h1, h2, ← iI_of]
  · rw [if_neg (by omega), if_pos h1, h2, ← iI_of]
  · rw [if_neg (by omega), if_neg (by omega), if_pos h1, h2, ← iI_of]
  · rw [if_neg (by omega), if_neg (by omega), if_neg (by omega), if_pos h1, h2, ← iI_of]
  · rw [if_neg (by omega), if_neg (by omega), if_neg (by omega), if_neg (by omega), if_pos h1, h2, ← iI_of]
  · rw [if_neg (by omega), if_neg (by omega), if_neg (by omega), if_neg (by omega), if_neg (by omega), h2]
theorem X_wi_s {G : X_G} {bo va V : Int → Int} {N : Int → Int → Int} {nc out n : Int} {f : Nat} (h : out < n) (h0 : (X_ev G bo va N nc V n).1 = 0) : X_wi G bo va N nc out (f + 1) n V = X_wi G bo va N nc out f (N 3 n) (X_ug V n (X_ev G bo va N nc V n).2) := by
  show (if out < n then _ else _) = _
  rw [if_pos h, if_pos h0]
theorem X_wi_x {G : X_G} {bo va V : Int → Int} {N : Int → Int → Int} {nc out n : Int} {f : Nat} (h : out < n) (h0 : ¬ (X_ev G bo va N nc V n).1 = 0) : X_wi G bo va N nc out (f + 1) n V = (((X_ev G bo va N nc V n).1, n), V) := by
  show (if out < n then _ else _) = _
  rw [if_pos h, if_neg h0]
theorem X_wi_e {G : X_G} {bo va V : Int → Int} {N : Int → Int → Int} {nc out n : Int} {f : Nat} (h : ¬ out < n) : X_wi G bo va N nc out f n V = ((0, n), V) := by
  cases f with
  | zero => rfl
  | succ f =>
    show (if out < n then _ else _) = _
    rw [if_neg h]
theorem X_wo_s {G : X_G} {bo va V V' : Int → Int} {N : Int → Int → Int} {nc nx n : Int} (hn : nx ≤ nc) (h : X_wi G bo va N nc (X_wn N nc nx) 31 (nx - 1) V = ((0, n), V')) : X_wo G bo va N nc (nc + 1 - nx).toNat nx V = X_wo G bo va N nc (nc + 1 - (nx + 1)).toNat (nx + 1) V' := by
  rw [show (nc + 1 - nx).toNat = (nc + 1 - (nx + 1)).toNat + 1 by omega]
  show (if (X_wi G bo va N nc (X_wn N nc nx) 31 (nx - 1) V).1.1 = 0 then X_wo G bo va N nc (nc + 1 - (nx + 1)).toNat (nx + 1) (X_wi G bo va N nc (X_wn N nc nx) 31 (nx - 1) V).2 else _) = _
  rw [h, if_pos rfl]
theorem X_wo_x {G : X_G} {bo va V V' : Int → Int} {N : Int → Int → Int} {nc nx n c : Int} (hn : nx ≤ nc) (hc : ¬ c = 0) (h : X_wi G bo va N nc (X_wn N nc nx) 31 (nx - 1) V = ((c, n), V')) : X_wo G bo va N nc (nc + 1 - nx).toNat nx V = (c, n, 0) := by
  rw [show (nc + 1 - nx).toNat = (nc + 1 - (nx + 1)).toNat + 1 by omega]
  show (if (X_wi G bo va N nc (X_wn N nc nx) 31 (nx - 1) V).1.1 = 0 then _ else ((X_wi G bo va N nc (X_wn N nc nx) 31 (nx - 1) V).1.1, (X_wi G bo va N nc (X_wn N nc nx) 31 (nx - 1) V).1.2, 0)) = _
  rw [h, if_neg hc]
