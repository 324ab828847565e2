/-- the reference's cells of one stretch; of all -/
def R_rc (G : X_G) (i j : Int) (oW oK oH : Int → Int64) : Prop := (∀ w, 0 ≤ w → w < gw G → oW (961 * w + (31 * i + j)) = X_st (-1) ((X_T_ G).1 w i j)) ∧ (∀ k, 0 ≤ k → k < gk G → oK (961 * k + (31 * i + j)) = X_st (-1) ((X_T_ G).2 k i j)) ∧ ∀ w, 0 ≤ w → w < gw G → ∀ h, 0 ≤ h → h < gD G w 4 0 → oH (961 * (4 * w + h) + (31 * i + j)) = X_st (-1) (X_Hh G w h i j)
def R_ct (G : X_G) (tn : Int) (oW oK oH : Int → Int64) : Prop := ∀ i j, 0 ≤ i → i < j → j ≤ tn → R_rc G i j oW oK oH
theorem X_ix_ne {v w i j i' j' : Int} (h1 : 0 ≤ i ∧ i ≤ 30) (h2 : 0 ≤ j ∧ j ≤ 30) (h3 : 0 ≤ i' ∧ i' ≤ 30) (h4 : 0 ≤ j' ∧ j' ≤ 30) (hn : ¬ (v = w ∧ i = i' ∧ j = j')) : ¬ 961 * v + (31 * i + j) = 961 * w + (31 * i' + j') := by
  intro h
  obtain ⟨a, ha⟩ : ∃ a, a = 31 * v + i := ⟨_, rfl⟩
  obtain ⟨c, hc⟩ : ∃ c, c = 31 * w + i' := ⟨_, rfl⟩
  have h5 : 31 * a + j = 31 * c + j' := by omega
  have h6 : a = c := by omega
  have h7 : j = j' := by omega
  have h8 : v = w := by omega
  exact hn ⟨h8, by omega, h7⟩
