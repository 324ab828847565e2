theorem X_ch {G : X_G} {u o en i j : Int} {k : Nat} (hG : X_Gok G) (hk : k < X_Hc G (X_T_ G) u o en i j) (hp : ¬ k < X_Hq G (X_T_ G) u i j) : ∃ v k2, X_fd (X_cF G u o en i j) (gw G).toNat 0 (k - X_Hq G (X_T_ G) u i j) = (v, k2) ∧ (0 ≤ v ∧ v < gw G) ∧ (X_bt (ga G (gD G v 2 0)) u ∧ X_lt G o en v) ∧ k = X_Hq G (X_T_ G) u i j + X_Su (X_cF G u o en i j) 0 v + k2 ∧ k2 < (X_T_ G).1 v i j := by
  have c1 := hG.1
  have e : X_Hc G (X_T_ G) u o en i j = X_Hq G (X_T_ G) u i j + X_Su (X_cF G u o en i j) 0 (gw G) := rfl
  rw [e] at hk
  obtain ⟨v, r, h1, h2, h3, h4, h5⟩ := X_fd_s (F := X_cF G u o en i j) (gw G).toNat 0 (k - X_Hq G (X_T_ G) u i j) (by rw [show (0 : Int) + ((gw G).toNat : Int) = gw G by omega]; omega)
  have hok : X_bt (ga G (gD G v 2 0)) u ∧ X_lt G o en v := Classical.byContradiction (fun z => by
    have : X_cF G u o en i j v = 0 := X_if_f z
    omega)
  have hv : X_cF G u o en i j v = (X_T_ G).1 v i j := X_if_t hok
  exact ⟨v, r, h1, ⟨h2, by omega⟩, hok, by omega, by omega⟩
/-- the class, the reference find the same word -/
theorem X_ch_u {G : X_G} {u o en i j v : Int} {k k2 : Nat} (hG : X_Gok G) (hv : 0 ≤ v ∧ v < gw G) (hok : X_bt (ga G (gD G v 2 0)) u ∧ X_lt G o en v) (hk : k = X_Hq G (X_T_ G) u i j + X_Su (X_cF G u o en i j) 0 v + k2) (h2 : k2 < (X_T_ G).1 v i j) : X_fd (X_cF G u o en i j) (gw G).toNat 0 (k - X_Hq G (X_T_ G) u i j) = (v, k2) :=
  X_fd_u _ _ _ _ _ hv.1 (by omega) (by omega) (by rw [show X_cF G u o en i j v = (X_T_ G).1 v i j from X_if_t hok]; exact h2)
noncomputable def X_sF (G : X_G) (w e p j : Int) (b : Nat) : Int → Nat := fun m => b * X_Hw G (X_T_ G) w e p m * X_Ew G (X_T_ G) w (e + 1) m j
theorem X_sF_e {G : X_G} {w e p j : Int} {b : Nat} (he : e < gD G w 3 0) (hq : gW G w e = 0) : X_Su (X_sF G w e p j b) (p + 1) (j + 1) = b * X_Ew G (X_T_ G) w e p j := by
  rw [X_Ew_h he hq, ← X_Su_mul]
  exact X_Su_c (fun m _ _ => Nat.mul_assoc _ _ _)
theorem X_sp_h {G : X_G} {w e p j : Int} {b l : Nat} (he : e < gD G w 3 0) (hq : gW G w e = 0) (hp : p ≤ j) (hl : l < b * X_Ew G (X_T_ G) w e p j) : ∃ m r, X_fd (X_sF G w e p j b) (j - p).toNat (p + 1) l = (m, r) ∧ p < m ∧ m ≤ j ∧ l = X_Su (X_sF G w e p j b) (p + 1) m + r ∧ r < X_sF G w e p j b m := by
  rw [← X_sF_e he hq] at hl
  obtain ⟨m, r, h1, h2, h3, h4, h5⟩ := X_fd_s (F := X_sF G w e p j b) (j - p).toNat (p + 1) l (by rw [show p + 1 + ((j - p).toNat : Int) = j + 1 by omega]; exact hl)
  exact ⟨m, r, h1, by omega, by omega, h4, h5⟩
theorem X_sp_u {G : X_G} {w e p j m : Int} {b l r : Nat} (hm : p < m ∧ m ≤ j) (hl : l = X_Su (X_sF G w e p j b) (p + 1) m + r) (hr : r < X_sF G w e p j b m) : X_fd (X_sF G w e p j b) (j - p).toNat (p + 1) l = (m, r) := X_fd_u _ _ _ _ _ (by omega) (by omega) hl hr
theorem X_sp_p {G : X_G} {w e p j : Int} {b l : Nat} (he : e < gD G w 3 0) (hq : ¬ gW G w e = 0) (hl : l < b * X_Ew G (X_T_ G) w e p j) : p < j ∧ gt G p = gW G w e ∧ l < b * X_Ew G (X_T_ G) w (e + 1) (p + 1) j := by
  rw [X_Ew_p he hq] at hl
  by_cases h : p < j ∧ gt G p = gW G w e
  · rw [X_if_t h] at hl
    exact ⟨h.1, h.2, hl⟩
  · rw [X_if_f h, Nat.mul_zero] at hl
    omega
theorem X_spl_p {G : X_G} {w j e p : Int} {n l b : Nat} {HF HE : Int → Int} (hq : ¬ gW G w e = 0) : X_spl G w j (n + 1) e p l b HF HE = X_spl G w j n (e + 1) (p + 1) l b HF HE := by
  show (if gW G w e = 0 then _ else _) = _
  rw [if_neg hq]
theorem X_spl_h {G : X_G} {w j e p m : Int} {n l b r : Nat} {HF HE : Int → Int} (hq : gW G w e = 0) (h : X_fd (X_sF G w e p j b) (j - p).toNat (p + 1) l = (m, r)) : X_spl G w j (n + 1) e p l b HF HE = X_spl G w j n (e + 1) m r (b * X_Hw G (X_T_ G) w e p m) (X_ug HF (gD G w 8 e) p) (X_ug HE (gD G w 8 e) m) := by
  show (if gW G w e = 0 then X_spl G w j n (e + 1) (X_fd (X_sF G w e p j b) (j - p).toNat (p + 1) l).1 (X_fd (X_sF G w e p j b) (j - p).toNat (p + 1) l).2 (b * X_Hw G (X_T_ G) w e p (X_fd (X_sF G w e p j b) (j - p).toNat (p + 1) l).1) (X_ug HF (gD G w 8 e) p) (X_ug HE (gD G w 8 e) (X_fd (X_sF G w e p j b) (j - p).toNat (p + 1) l).1) else _) = _
  rw [if_pos hq, h]
/-- where the holes of a word stand -/
theorem X_spl_ok {G : X_G} {w j : Int} (hg : X_gw G w) : ∀ (n : Nat) (e p : Int) (l b : Nat) (HF HE : Int → Int), 0 ≤ e → e + n = gD G w 3 0 → p ≤ j → l < b * X_Ew G (X_T_ G) w e p j →
    (∀ h, h < X_hn (gW G w) e → (X_spl G w j n e p l b HF HE).2.1 h = HF h ∧ (X_spl G w j n e p l b HF HE).2.2 h = HE h) ∧
    (∀ h, X_hn (gW G w) e ≤ h → h < gD G w 4 0 → p ≤ (X_spl G w j n e p l b HF HE).2.1 h ∧ (X_spl G w j n e p l b HF HE).2.1 h < (X_spl G w j n e p l b HF HE).2.2 h ∧ (X_spl G w j n e p l b HF HE).2.2 h ≤ j ∧ 0 < X_Hh G w h ((X_spl G w j n e p l b HF HE).2.1 h) ((X_spl G w j n e p l b HF HE).2.2 h)) ∧
    (X_Su (fun h => ((X_spl G w j n e p l b HF HE).2.2 h - (X_spl G w j n e p l b HF HE).2.1 h).toNat) (X_hn (gW G w) e) (gD G w 4 0) : Int) = j - p - ((gD G w 3 0 - e) - (gD G w 4 0 - X_hn (gW G w) e)) := by
  intro n
  have hhn := hg.2.2.2.2.2.2.1
  induction n with
  | zero =>
    intro e p l b HF HE h0 he hp hl
    have e1 : e = gD G w 3 0 := by omega
    rw [e1] at hl ⊢
    rw [X_Ew_e rfl] at hl
    have hpj : p = j := Classical.byContradiction (fun z => by rw [if_neg z, Nat.mul_zero] at hl; omega)
    refine ⟨fun h _ => ⟨rfl, rfl⟩, fun h h1 h2 => absurd h2 (by omega), ?_⟩
    rw [X_Su_e (by omega)]
    omega
  | succ n ih =>
    intro e p l b HF HE h0 he hp hl
    by_cases hq : gW G w e = 0
    · obtain ⟨m, r, h1, h2, h3, h4, h5⟩ := X_sp_h (by omega) hq hp hl
      rw [X_spl_h hq h1]
      have hs := X_hn_s (q := gW G w) (e := e) h0
      rw [if_pos hq] at hs
      have h8 := hg.2.2.2.2.2.2.2.1 e h0 (by omega) hq
      have hle := X_hn_m (q := gW G w) (a := e + 1) (b := gD G w 3 0) (by omega)
      obtain ⟨i1, i2, i3⟩ := ih (e + 1) m r (b * X_Hw G (X_T_ G) w e p m) (X_ug HF (gD G w 8 e) p) (X_ug HE (gD G w 8 e) m) (by omega) (by omega) h3 h5
      have g1 := i1 (gD G w 8 e) (by omega)
      rw [X_ug_s, X_ug_s] at g1
      have hH0 : 0 < X_Hh G w (gD G w 8 e) p m := by
        rw [← X_Hw_h hg h0 (by omega) hq]
        refine Nat.pos_of_ne_zero (fun z => ?_)
        have : X_sF G w e p j b m = 0 := by
          unfold X_sF
          rw [z, Nat.mul_zero, Nat.zero_mul]
        omega
      refine ⟨fun h hh => ?_, fun h hh hh2 => ?_, ?_⟩
      · have := i1 h (by omega)
        rw [X_ug_n _ _ (by omega), X_ug_n _ _ (by omega)] at this
        exact this
      · by_cases hx : h = X_hn (gW G w) e
        · rw [hx, ← h8, g1.1, g1.2]
          exact ⟨Int.le_refl _, h2, h3, hH0⟩
        · have := i2 h (by omega) hh2
          exact ⟨by omega, this.2⟩
      · rw [X_Su_f (show X_hn (gW G w) e < gD G w 4 0 by omega), ← hs]
        rw [← h8, g1.1, g1.2]
        omega
    · obtain ⟨h1, h2, h3⟩ := X_sp_p (by omega) hq hl
      rw [X_spl_p hq]
      have hs := X_hn_s (q := gW G w) (e := e) h0
      rw [if_neg hq, Int.add_zero] at hs
      obtain ⟨i1, i2, i3⟩ := ih (e + 1) (p + 1) l b HF HE (by omega) (by omega) (by omega) h3
      rw [hs] at i1 i2 i3
      refine ⟨i1, fun h hh hh2 => ?_, by omega⟩
      have := i2 h hh hh2
      exact ⟨by omega, this.2⟩
