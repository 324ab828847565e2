/-! what a chart's cells tell -/
theorem X_plus_f {m : Int} (hm : -2 ≤ m ∧ m ≤ -1) {a b : Nat} {r : Int64} (h : ((X_st m a = iL m ∨ X_st m b = iL m) ∧ r = iL m) ∨ (¬ X_st m a = iL m ∧ ¬ X_st m b = iL m ∧ X_st m a + X_st m b < iL 0 ∧ r = iL m) ∨ (¬ X_st m a = iL m ∧ ¬ X_st m b = iL m ∧ ¬ X_st m a + X_st m b < iL 0 ∧ r = X_st m a + X_st m b)) : r = X_st m (a + b) := by
  rw [X_st_m hm, X_st_m hm] at h
  rcases h with ⟨h1, h2⟩ | ⟨h1, h2, h3, h4⟩ | ⟨h1, h2, h3, h4⟩
  · rw [h2, X_st_hi (by omega)]
  · rcases X_st_a hm (a := a) (b := b) (by omega) (by omega) with ⟨-, -, g⟩ | ⟨g, -⟩
    · exact absurd h3 g
    · rw [h4, X_st_hi g]
  · rcases X_st_a hm (a := a) (b := b) (by omega) (by omega) with ⟨-, g, -⟩ | ⟨-, g⟩
    · rw [h4, g]
    · exact absurd g h3
theorem X_times_f {m : Int} (hm : -2 ≤ m ∧ m ≤ -1) {a b : Nat} {r : Int64} (h : ((X_st m a = iL 0 ∨ X_st m b = iL 0) ∧ r = iL 0) ∨ (¬ X_st m a = iL 0 ∧ ¬ X_st m b = iL 0 ∧ (X_st m a = iL m ∨ X_st m b = iL m) ∧ r = iL m) ∨ (¬ X_st m a = iL 0 ∧ ¬ X_st m b = iL 0 ∧ ¬ X_st m a = iL m ∧ ¬ X_st m b = iL m ∧ iL 9223372036854775807 / X_st m b < X_st m a ∧ r = iL m) ∨ (¬ X_st m a = iL 0 ∧ ¬ X_st m b = iL 0 ∧ ¬ X_st m a = iL m ∧ ¬ X_st m b = iL m ∧ ¬ iL 9223372036854775807 / X_st m b < X_st m a ∧ r = X_st m a * X_st m b)) : r = X_st m (a * b) := by
  rw [X_st_m hm, X_st_m hm, X_st_z hm, X_st_z hm] at h
  rcases h with ⟨h1, h2⟩ | ⟨h1, h2, h3, h4⟩ | ⟨h1, h2, h3, h4, h5, h6⟩ | ⟨h1, h2, h3, h4, h5, h6⟩
  · rcases h1 with h1 | h1
    · rw [h2, h1, Nat.zero_mul]; rfl
    · rw [h2, h1, Nat.mul_zero]; rfl
  · have g1 : a * 1 ≤ a * b := Nat.mul_le_mul_left a (by omega)
    have g2 : 1 * b ≤ a * b := Nat.mul_le_mul_right b (by omega)
    rw [h4, X_st_hi (by omega)]
  · rcases X_st_p hm (a := a) (b := b) (by omega) (by omega) h2 with ⟨-, -, g⟩ | ⟨g, -⟩
    · exact absurd h5 g
    · rw [h6, X_st_hi g]
  · rcases X_st_p hm (a := a) (b := b) (by omega) (by omega) h2 with ⟨-, g, -⟩ | ⟨-, g⟩
    · rw [h6, g]
    · exact absurd g h5
/-- a book that was told rightly, as the chart needs it: of each word -/
def X_gw (G : X_G) (w : Int) : Prop := (1 ≤ gD G w 3 0 ∧ gD G w 3 0 ≤ 8) ∧ (0 ≤ gD G w 4 0 ∧ gD G w 4 0 ≤ 4 ∧ gD G w 4 0 < gD G w 3 0) ∧ X_pw G w ∧ (0 ≤ gD G w 0 0 ∧ gD G w 0 0 ≤ 11) ∧ (0 ≤ gD G w 1 0 ∧ gD G w 1 0 ≤ 2) ∧ (0 ≤ gD G w 2 0 ∧ gD G w 2 0 < gk G) ∧ gD G w 4 0 = X_hn (gW G w) (gD G w 3 0) ∧ (∀ e, 0 ≤ e → e < gD G w 3 0 → gW G w e = 0 → gD G w 8 e = X_hn (gW G w) e) ∧ (∀ h, 0 ≤ h → h < gD G w 4 0 → 0 ≤ gD G w 9 h ∧ gD G w 9 h < gk G) ∧
  (∀ e, 0 ≤ e → e < gD G w 3 0 → ¬ gW G w e = 0 → X_nv (gW G w e) = -1 ∧ ¬ gW G w e = iL 40 ∧ ¬ gW G w e = iL 41) ∧
  ∀ e, 0 ≤ e → e < gD G w 3 0 → gW G w e = 0 → (∀ k, 0 ≤ k → k < 32 → (X_bt (gD G w 11 (gD G w 8 e)) k ↔ k < gk G ∧ X_bt (ga G k) (gD G w 9 (gD G w 8 e)))) ∧ (∀ v, 0 ≤ v → v < 32 → (X_bt (gD G w 10 (gD G w 8 e)) v ↔ v < gw G ∧ X_bt (ga G (gD G v 2 0)) (gD G w 9 (gD G w 8 e)) ∧ X_lt G w (X_eo G w e) v))
/-- kinds: all is above all; what is under what is under u is under u -/
def X_gkd (G : X_G) : Prop := (∀ k, 0 ≤ k → k < gk G → X_bt (ga G k) 0 ∧ X_bt (ga G k) k) ∧ ∀ k u, 0 ≤ k → k < gk G → 0 ≤ u → u < 32 → X_bt (ga G k) u → u < gk G
def X_Gok (G : X_G) : Prop := (0 ≤ gw G ∧ gw G ≤ 30) ∧ (1 ≤ gk G ∧ gk G ≤ 11) ∧ X_gkd G ∧ ∀ w, 0 ≤ w → w < gw G → X_gw G w
/-- the cells of one stretch -/
def X_rw (G : X_G) (m : Int) (i j : Int) (oK oW oA oH : Int → Int64) : Prop := (∀ k, 0 ≤ k → k < gk G → oK (X_ro i j * 11 + k) = X_st m (X_nm G k i j + (X_T_ G).2 k i j)) ∧ (∀ w, 0 ≤ w → w < gw G → oW (X_ro i j * 30 + w) = X_st m ((X_T_ G).1 w i j)) ∧ oA (X_ro i j) = X_st m (X_all G i j) ∧
  ∀ w, 0 ≤ w → w < gw G → ∀ e, 0 ≤ e → e < gD G w 3 0 → gW G w e = 0 → oH ((X_ro i j * 30 + w) * 4 + gD G w 8 e) = X_st m (X_Hw G (X_T_ G) w e i j)
/-- the tails of word w at a place -/
def X_tl (G : X_G) (m w p j : Int) (tl : Int → Int64) : Prop := ∀ e, 1 ≤ e → e < gD G w 3 0 → tl ((w * 8 + e) * 30 + p) = X_st m (X_Ew G (X_T_ G) w e p j)
theorem X_gw.hole {G : X_G} {w e : Int} (h : X_gw G w) (h1 : 0 ≤ e) (h2 : e < gD G w 3 0) (h3 : gW G w e = 0) : 0 ≤ gD G w 8 e ∧ gD G w 8 e < gD G w 4 0 := by
  obtain ⟨-, -, -, -, -, -, a1, a2, -⟩ := h
  rw [a2 e h1 h2 h3, a1]
  exact ⟨(X_hn_b h1).1, X_hn_l h1 h2 h3⟩
theorem X_gw.inj {G : X_G} {w e e' : Int} (h : X_gw G w) (h1 : 0 ≤ e) (h2 : e < gD G w 3 0) (h3 : gW G w e = 0) (h1' : 0 ≤ e') (h2' : e' < gD G w 3 0) (h3' : gW G w e' = 0) (he : gD G w 8 e = gD G w 8 e') : e = e' := by
  obtain ⟨-, -, -, -, -, -, a1, a2, -⟩ := h
  rw [a2 e h1 h2 h3, a2 e' h1' h2' h3'] at he
  by_cases hl : e < e'
  · have := X_hn_l (q := gW G w) h1 hl h3; omega
  · by_cases hl2 : e' < e
    · have := X_hn_l (q := gW G w) h1' hl2 h3'; omega
    · omega
theorem X_hl_g {G : X_G} {w e : Int} : X_hl (gD G w) (gW G w) e ↔ 0 ≤ e ∧ e < gD G w 3 0 ∧ gW G w e = 0 := Iff.rfl
theorem X_Gok.kd {G : X_G} (h : X_Gok G) : ∀ v, 0 ≤ v → v < gw G → 0 ≤ gD G v 2 0 ∧ gD G v 2 0 < gk G := fun v h1 h2 => (h.2.2.2 v h1 h2).2.2.2.2.2.1
