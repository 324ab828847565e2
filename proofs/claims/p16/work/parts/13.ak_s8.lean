section
theorem X_ch {G : X_G} {u o en i j : Int} {k : Nat} (hG : X_Gok G) (hk : k < X_Hc G (X_T_ G) u o en i j) (hp : ¬ k < X_Hq G (X_T_ G) u i j) : ∃ v k2, X_fd (X_cF G u o en i j) (gw G).toNat 0 (k - X_Hq G (X_T_ G) u i j) = (v, k2) ∧ (0 ≤ v ∧ v < gw G) ∧ (X_bt (ga G (gD G v 2 0)) u ∧ X_lt G o en v) ∧ k = X_Hq G (X_T_ G) u i j + X_Su (X_cF G u o en i j) 0 v + k2 ∧ k2 < (X_T_ G).1 v i j := by
  have c1 := hG.1
  have e : X_Hc G (X_T_ G) u o en i j = X_Hq G (X_T_ G) u i j + X_Su (X_cF G u o en i j) 0 (gw G) := rfl
  rw [e] at hk
  obtain ⟨v, r, h1, h2, h3, h4, h5⟩ := X_fd_s (F := X_cF G u o en i j) (gw G).toNat 0 (k - X_Hq G (X_T_ G) u i j) (by rw [show (0 : Int) + ((gw G).toNat : Int) = gw G by omega]; omega)
  have hok : X_bt (ga G (gD G v 2 0)) u ∧ X_lt G o en v := Classical.byContradiction (fun z => by
    have : X_cF G u o en i j v = 0 := X_if_f z
    omega)
  have hv : X_cF G u o en i j v = (X_T_ G).1 v i j := X_if_t hok
  exact ⟨v, r, h1, ⟨h2, by omega⟩, hok, by omega, by omega⟩
/-- the class, the reference find the same word -/
theorem X_ch_u {G : X_G} {u o en i j v : Int} {k k2 : Nat} (hG : X_Gok G) (hv : 0 ≤ v ∧ v < gw G) (hok : X_bt (ga G (gD G v 2 0)) u ∧ X_lt G o en v) (hk : k = X_Hq G (X_T_ G) u i j + X_Su (X_cF G u o en i j) 0 v + k2) (h2 : k2 < (X_T_ G).1 v i j) : X_fd (X_cF G u o en i j) (gw G).toNat 0 (k - X_Hq G (X_T_ G) u i j) = (v, k2) :=
  X_fd_u _ _ _ _ _ hv.1 (by omega) (by omega) (by rw [show X_cF G u o en i j v = (X_T_ G).1 v i j from X_if_t hok]; exact h2)
noncomputable def X_sF (G : X_G) (w e p j : Int) (b : Nat) : Int → Nat := fun m => b * X_Hw G (X_T_ G) w e p m * X_Ew G (X_T_ G) w (e + 1) m j
theorem X_sF_e {G : X_G} {w e p j : Int} {b : Nat} (he : e < gD G w 3 0) (hq : gW G w e = 0) : X_Su (X_sF G w e p j b) (p + 1) (j + 1) = b * X_Ew G (X_T_ G) w e p j := by
  rw [X_Ew_h he hq, ← X_Su_mul]
  exact X_Su_c (fun m _ _ => Nat.mul_assoc _ _ _)
theorem X_sp_h {G : X_G} {w e p j : Int} {b l : Nat} (he : e < gD G w 3 0) (hq : gW G w e = 0) (hp : p ≤ j) (hl : l < b * X_Ew G (X_T_ G) w e p j) : ∃ m r, X_fd (X_sF G w e p j b) (j - p).toNat (p + 1) l = (m, r) ∧ p < m ∧ m ≤ j ∧ l = X_Su (X_sF G w e p j b) (p + 1) m + r ∧ r < X_sF G w e p j b m := by
  rw [← X_sF_e he hq] at hl
  obtain ⟨m, r, h1, h2, h3, h4, h5⟩ := X_fd_s (F := X_sF G w e p j b) (j - p).toNat (p + 1) l (by rw [show p + 1 + ((j - p).toNat : Int) = j + 1 by omega]; exact hl)
  exact ⟨m, r, h1, by omega, by omega, h4, h5⟩
theorem X_sp_u {G : X_G} {w e p j m : Int} {b l r : Nat} (hm : p < m ∧ m ≤ j) (hl : l = X_Su (X_sF G w e p j b) (p + 1) m + r) (hr : r < X_sF G w e p j b m) : X_fd (X_sF G w e p j b) (j - p).toNat (p + 1) l = (m, r) := X_fd_u _ _ _ _ _ (by omega) (by omega) hl hr
theorem X_sp_p {G : X_G} {w e p j : Int} {b l : Nat} (he : e < gD G w 3 0) (hq : ¬ gW G w e = 0) (hl : l < b * X_Ew G (X_T_ G) w e p j) : p < j ∧ gt G p = gW G w e ∧ l < b * X_Ew G (X_T_ G) w (e + 1) (p + 1) j := by
  rw [X_Ew_p he hq] at hl
  by_cases h : p < j ∧ gt G p = gW G w e
  · rw [X_if_t h] at hl
    exact ⟨h.1, h.2, hl⟩
  · rw [X_if_f h, Nat.mul_zero] at hl
    omega
theorem X_spl_p {G : X_G} {w j e p : Int} {n l b : Nat} {HF HE : Int → Int} (hq : ¬ gW G w e = 0) : X_spl G w j (n + 1) e p l b HF HE = X_spl G w j n (e + 1) (p + 1) l b HF HE := by
  show (if gW G w e = 0 then _ else _) = _
  rw [if_neg hq]
theorem X_spl_h {G : X_G} {w j e p m : Int} {n l b r : Nat} {HF HE : Int → Int} (hq : gW G w e = 0) (h : X_fd (X_sF G w e p j b) (j - p).toNat (p + 1) l = (m, r)) : X_spl G w j (n + 1) e p l b HF HE = X_spl G w j n (e + 1) m r (b * X_Hw G (X_T_ G) w e p m) (X_ug HF (gD G w 8 e) p) (X_ug HE (gD G w 8 e) m) := by
  show (if gW G w e = 0 then X_spl G w j n (e + 1) (X_fd (X_sF G w e p j b) (j - p).toNat (p + 1) l).1 (X_fd (X_sF G w e p j b) (j - p).toNat (p + 1) l).2 (b * X_Hw G (X_T_ G) w e p (X_fd (X_sF G w e p j b) (j - p).toNat (p + 1) l).1) (X_ug HF (gD G w 8 e) p) (X_ug HE (gD G w 8 e) (X_fd (X_sF G w e p j b) (j - p).toNat (p + 1) l).1) else _) = _
  rw [if_pos hq, h]
/-- where the holes of a word stand -/
theorem X_spl_ok {G : X_G} {w j : Int} (hg : X_gw G w) : ∀ (n : Nat) (e p : Int) (l b : Nat) (HF HE : Int → Int), 0 ≤ e → e + n = gD G w 3 0 → p ≤ j → l < b * X_Ew G (X_T_ G) w e p j →
    (∀ h, h < X_hn (gW G w) e → (X_spl G w j n e p l b HF HE).2.1 h = HF h ∧ (X_spl G w j n e p l b HF HE).2.2 h = HE h) ∧
    (∀ h, X_hn (gW G w) e ≤ h → h < gD G w 4 0 → p ≤ (X_spl G w j n e p l b HF HE).2.1 h ∧ (X_spl G w j n e p l b HF HE).2.1 h < (X_spl G w j n e p l b HF HE).2.2 h ∧ (X_spl G w j n e p l b HF HE).2.2 h ≤ j ∧ 0 < X_Hh G w h ((X_spl G w j n e p l b HF HE).2.1 h) ((X_spl G w j n e p l b HF HE).2.2 h)) ∧
    (X_Su (fun h => ((X_spl G w j n e p l b HF HE).2.2 h - (X_spl G w j n e p l b HF HE).2.1 h).toNat) (X_hn (gW G w) e) (gD G w 4 0) : Int) = j - p - ((gD G w 3 0 - e) - (gD G w 4 0 - X_hn (gW G w) e)) := by
  intro n
  have hhn := hg.2.2.2.2.2.2.1
  induction n with
  | zero =>
    intro e p l b HF HE h0 he hp hl
    have e1 : e = gD G w 3 0 := by omega
    rw [e1] at hl ⊢
    rw [X_Ew_e rfl] at hl
    have hpj : p = j := Classical.byContradiction (fun z => by rw [if_neg z, Nat.mul_zero] at hl; omega)
    refine ⟨fun h _ => ⟨rfl, rfl⟩, fun h h1 h2 => absurd h2 (by omega), ?_⟩
    rw [X_Su_e (by omega)]
    omega
  | succ n ih =>
    intro e p l b HF HE h0 he hp hl
    by_cases hq : gW G w e = 0
    · obtain ⟨m, r, h1, h2, h3, h4, h5⟩ := X_sp_h (by omega) hq hp hl
      rw [X_spl_h hq h1]
      have hs := X_hn_s (q := gW G w) (e := e) h0
      rw [if_pos hq] at hs
      have h8 := hg.2.2.2.2.2.2.2.1 e h0 (by omega) hq
      have hle := X_hn_m (q := gW G w) (a := e + 1) (b := gD G w 3 0) (by omega)
      obtain ⟨i1, i2, i3⟩ := ih (e + 1) m r (b * X_Hw G (X_T_ G) w e p m) (X_ug HF (gD G w 8 e) p) (X_ug HE (gD G w 8 e) m) (by omega) (by omega) h3 h5
      have g1 := i1 (gD G w 8 e) (by omega)
      rw [X_ug_s, X_ug_s] at g1
      have hH0 : 0 < X_Hh G w (gD G w 8 e) p m := by
        rw [← X_Hw_h hg h0 (by omega) hq]
        refine Nat.pos_of_ne_zero (fun z => ?_)
        have : X_sF G w e p j b m = 0 := by
          unfold X_sF
          rw [z, Nat.mul_zero, Nat.zero_mul]
        omega
      refine ⟨fun h hh => ?_, fun h hh hh2 => ?_, ?_⟩
      · have := i1 h (by omega)
        rw [X_ug_n _ _ (by omega), X_ug_n _ _ (by omega)] at this
        exact this
      · by_cases hx : h = X_hn (gW G w) e
        · rw [hx, ← h8, g1.1, g1.2]
          exact ⟨Int.le_refl _, h2, h3, hH0⟩
        · have := i2 h (by omega) hh2
          exact ⟨by omega, this.2⟩
      · rw [X_Su_f (show X_hn (gW G w) e < gD G w 4 0 by omega), ← hs]
        rw [← h8, g1.1, g1.2]
        omega
    · obtain ⟨h1, h2, h3⟩ := X_sp_p (by omega) hq hl
      rw [X_spl_p hq]
      have hs := X_hn_s (q := gW G w) (e := e) h0
      rw [if_neg hq, Int.add_zero] at hs
      obtain ⟨i1, i2, i3⟩ := ih (e + 1) (p + 1) l b HF HE (by omega) (by omega) (by omega) h3
      rw [hs] at i1 i2 i3
      refine ⟨i1, fun h hh hh2 => ?_, by omega⟩
      have := i2 h hh hh2
      exact ⟨by omega, this.2⟩
end
section
theorem X_eh_r {G : X_G} {w h : Int} : 0 ≤ X_eh G w h ∧ X_eh G w h ≤ 2 := by
  unfold X_eh
  split
  · omega
  · split <;> omega
theorem X_iok.up {G : X_G} {tn nc : Int} {t : X_It} (h : X_iok G tn nc t) : X_iok G tn (nc + 1) t := by
  obtain ⟨h1, h2, h3⟩ := h
  exact ⟨h1, by omega, h3⟩
theorem X_pus_ok {G : X_G} {tn nc w : Int} {HF HE : Int → Int} (hG : X_Gok G) (hw : 0 ≤ w ∧ w < gw G) (hnc : 0 ≤ nc) : ∀ (h : Nat) (l : Nat) (s : Int × (Int → X_It)), (h : Int) ≤ gD G w 4 0 → (∀ x : Int, 0 ≤ x → x < h → (0 ≤ HF x ∧ HF x < HE x ∧ HE x ≤ tn) ∧ 0 < X_Hh G w x (HF x) (HE x)) → l ≤ 9223372036854775807 → 0 ≤ s.1 → (∀ q, 0 ≤ q → q < s.1 → X_iok G tn (nc + 1) (s.2 q)) →
    (X_pus G w nc HF HE h l s).1 = s.1 + h ∧ (∀ q, 0 ≤ q → q < (X_pus G w nc HF HE h l s).1 → X_iok G tn (nc + 1) ((X_pus G w nc HF HE h l s).2 q)) ∧ X_Su (X_lw (X_pus G w nc HF HE h l s).2) 0 (X_pus G w nc HF HE h l s).1 = X_Su (X_lw s.2) 0 s.1 + X_Su (fun x => (HE x - HF x).toNat) 0 h ∧ ∀ q, q < s.1 → (X_pus G w nc HF HE h l s).2 q = s.2 q := by
  intro h
  have hg := hG.2.2.2 w hw.1 hw.2
  have c1 := hG.1
  induction h with
  | zero =>
    intro l s _ _ _ h0 hs
    exact ⟨by show s.1 = s.1 + 0; omega, hs, by show _ = _ + X_Su _ 0 0; rw [X_Su_e (Int.le_refl 0)]; rfl, fun q _ => rfl⟩
  | succ h ih =>
    intro l s hh hx hl h0 hs
    have hx1 := hx h (by omega) (by omega)
    have hH : l % X_Hh G w h (HF h) (HE h) < X_Hh G w h (HF h) (HE h) := Nat.mod_lt _ hx1.2
    have hH2 : l % X_Hh G w h (HF h) (HE h) ≤ l := Nat.mod_le _ _
    have hH3 : l / X_Hh G w h (HF h) (HE h) ≤ l := Nat.div_le_self _ _
    have h9 := hg.2.2.2.2.2.2.2.2.1 h (by omega) (by omega)
    have hb := hg.2.1
    have he := X_eh_r (G := G) (w := w) (h := (h : Int))
    obtain ⟨i1, i2, i3, i4⟩ := ih (l / X_Hh G w h (HF h) (HE h)) (s.1 + 1, X_ug s.2 s.1 (HF h, HE h, nc, h, gD G w 9 h, w, X_eh G w h, l % X_Hh G w h (HF h) (HE h))) (by omega) (fun x g1 g2 => hx x g1 (by omega)) (by omega) (show 0 ≤ s.1 + 1 by omega) (fun q g1 g2 => by
      by_cases hq : q = s.1
      · subst hq
        show X_iok G tn (nc + 1) (X_ug s.2 s.1 _ s.1)
        rw [X_ug_s]
        exact ⟨⟨hx1.1.1, hx1.1.2.1, hx1.1.2.2⟩, Or.inl ⟨by show -1 ≤ nc; omega, by show nc < nc + 1; omega⟩, ⟨by show -1 ≤ (h : Int); omega, by show (h : Int) ≤ 3; omega⟩, fun _ => (show (0 : Int) ≤ (h : Int) by omega), h9, ⟨hw.1, Or.inl hw.2, (show w < 30 by omega)⟩, he, hH, (show l % X_Hh G w h (HF h) (HE h) ≤ 9223372036854775807 by omega)⟩
      · show X_iok G tn (nc + 1) (X_ug s.2 s.1 _ q)
        rw [X_ug_n _ _ hq]
        exact hs q g1 (by have : q < s.1 + 1 := g2; omega))
    refine ⟨i1.trans (by show s.1 + 1 + (h : Int) = s.1 + ((h + 1 : Nat) : Int); omega), i2, i3.trans ?_, fun q hq => (i4 q (show q < s.1 + 1 by omega)).trans (X_ug_n _ _ (by omega))⟩
    show X_Su (X_lw (X_ug s.2 s.1 _)) 0 (s.1 + 1) + _ = _
    rw [X_Su_s h0, X_Su_c (f := X_lw (X_ug s.2 s.1 (HF h, HE h, nc, (h : Int), gD G w 9 h, w, X_eh G w h, l % X_Hh G w h (HF h) (HE h)))) (g := X_lw s.2) (fun q g1 g2 => by unfold X_lw; rw [X_ug_n _ _ (by omega)])]
    rw [show ((h + 1 : Nat) : Int) = (h : Int) + 1 by omega, X_Su_s (by omega)]
    have : X_lw (X_ug s.2 s.1 (HF h, HE h, nc, (h : Int), gD G w 9 h, w, X_eh G w h, l % X_Hh G w h (HF h) (HE h))) s.1 = (HE h - HF h).toNat := by
      unfold X_lw
      rw [X_ug_s]
    rw [this]
    omega
section X_MK
variable {G : X_G} {wt nc i j p h u o en tn : Int} {St : Int → X_It} {N : Int → Int → Int} {k : Nat}
theorem X_mk_n (ht : St (wt - 1) = (i, j, p, h, u, o, en, k)) (hk : k < X_Hq G (X_T_ G) u i j) (hj : j = i + 1) : X_mk G (wt, St, nc, N) = (wt - 1, St, nc + 1, X_nn N nc (-2) i (j - i) p h) := by
  unfold X_mk
  simp only [ht]
  rw [if_pos hk, if_pos hj]
theorem X_mk_b (ht : St (wt - 1) = (i, j, p, h, u, o, en, k)) (hk : k < X_Hq G (X_T_ G) u i j) (hj : ¬ j = i + 1) : X_mk G (wt, St, nc, N) = (wt, X_ug St (wt - 1) (i + 1, j - 1, nc, 0, u, 0, 0, k), nc + 1, X_nn N nc (-3) i (j - i) p h) := by
  unfold X_mk
  simp only [ht]
  rw [if_pos hk, if_neg hj]
theorem X_mk_w {v : Int} {k2 l : Nat} {HF HE : Int → Int} (ht : St (wt - 1) = (i, j, p, h, u, o, en, k)) (hk : ¬ k < X_Hq G (X_T_ G) u i j) (hf : X_fd (X_cF G u o en i j) (gw G).toNat 0 (k - X_Hq G (X_T_ G) u i j) = (v, k2)) (hs : X_spl G v j (gD G v 3 0).toNat 0 i k2 1 (fun _ => 0) (fun _ => 0) = (l, HF, HE)) : X_mk G (wt, St, nc, N) = ((X_pus G v nc HF HE (gD G v 4 0).toNat l (wt - 1, St)).1, (X_pus G v nc HF HE (gD G v 4 0).toNat l (wt - 1, St)).2, nc + 1, X_nn N nc v i (j - i) p h) := by
  unfold X_mk
  simp only [ht]
  rw [if_neg hk, hf]
  simp only [hs]
theorem X_lw_top (ht : St (wt - 1) = (i, j, p, h, u, o, en, k)) (hw : 0 < wt) : X_Su (X_lw St) 0 wt = X_Su (X_lw St) 0 (wt - 1) + (j - i).toNat := by
  have e : X_Su (X_lw St) 0 (wt - 1 + 1) = X_Su (X_lw St) 0 (wt - 1) + X_lw St (wt - 1) := X_Su_s (by omega)
  rw [show wt - 1 + 1 = wt by omega] at e
  rw [e]
  unfold X_lw
  rw [ht]
/-- each that waits has a token at least -/
theorem X_Mok.le (hM : X_Mok G tn (wt, St, nc, N)) : wt ≤ (X_Su (X_lw St) 0 wt : Int) := by
  obtain ⟨h1, h2, h3, h4⟩ := hM
  have h1 : 0 ≤ wt := h1
  refine X_Su_ind (a := 0) (b := wt) (fun m => m ≤ wt → m ≤ (X_Su (X_lw St) 0 m : Int)) (fun _ => by omega) (fun m g1 g2 ih g3 => ?_) h1 (Int.le_refl _)
  have hi := (h3 m g1 g2).1
  have : 1 ≤ X_lw St m := by
    unfold X_lw
    have hi2 : (St m).1 < (St m).2.1 := hi.2.1
    omega
  rw [X_Su_s g1]
  have := ih (by omega)
  omega
theorem X_Mok_n (hM : X_Mok G tn (wt, St, nc, N)) (hw : 0 < wt) (ht : St (wt - 1) = (i, j, p, h, u, o, en, k)) {N' : Int → Int → Int} : X_Mok G tn (wt - 1, St, nc + 1, N') := by
  obtain ⟨h1, h2, h3, h4⟩ := hM
  have h1 : 0 ≤ wt := h1
  have h2 : 0 ≤ nc := h2
  have h4 : nc + (X_Su (X_lw St) 0 wt : Int) ≤ tn := h4
  have hi : 0 ≤ i ∧ i < j ∧ j ≤ tn := by
    have := (h3 (wt - 1) (by omega) (show wt - 1 < wt by omega)).1
    rw [show (wt, St, nc, N).2.1 (wt - 1) = (i, j, p, h, u, o, en, k) from ht] at this
    exact this
  rw [X_lw_top ht hw] at h4
  refine ⟨show 0 ≤ wt - 1 by omega, show 0 ≤ nc + 1 by omega, fun q g1 g2 => (h3 q g1 (show q < wt by have : q < wt - 1 := g2; omega)).up, ?_⟩
  show nc + 1 + (X_Su (X_lw St) 0 (wt - 1) : Int) ≤ tn
  omega
theorem X_Mok_b (hG : X_Gok G) (h30 : tn ≤ 30) (hM : X_Mok G tn (wt, St, nc, N)) (hw : 0 < wt) (ht : St (wt - 1) = (i, j, p, h, u, o, en, k)) (hk : k < X_Hq G (X_T_ G) u i j) (hj : ¬ j = i + 1) {N' : Int → Int → Int} : X_brk G i j ∧ X_Mok G tn (wt, X_ug St (wt - 1) (i + 1, j - 1, nc, 0, u, 0, 0, k), nc + 1, N') := by
  obtain ⟨h1, h2, h3, h4⟩ := hM
  have h1 : 0 ≤ wt := h1
  have h2 : 0 ≤ nc := h2
  have h4 : nc + (X_Su (X_lw St) 0 wt : Int) ≤ tn := h4
  have hi := h3 (wt - 1) (by omega) (show wt - 1 < wt by omega)
  rw [show (wt, St, nc, N).2.1 (wt - 1) = (i, j, p, h, u, o, en, k) from ht] at hi
  have hij : 0 ≤ i ∧ i < j ∧ j ≤ tn := hi.1
  have hbk : X_brk G i j := Classical.byContradiction (fun z => by
    rw [X_Hq_b hG hij.2.1 (by omega) hj, X_if_f z] at hk
    omega)
  rw [X_Hq_b hG hij.2.1 (by omega) hj, X_if_t hbk] at hk
  rw [X_lw_top ht hw] at h4
  refine ⟨hbk, h1, show 0 ≤ nc + 1 by omega, fun q g1 g2 => ?_, ?_⟩
  · show X_iok G tn (nc + 1) (X_ug St (wt - 1) (i + 1, j - 1, nc, 0, u, 0, 0, k) q)
    by_cases hq : q = wt - 1
    · subst hq
      rw [X_ug_s]
      have hb1 := hbk.1
      exact ⟨⟨show 0 ≤ i + 1 by omega, show i + 1 < j - 1 by omega, show j - 1 ≤ tn by omega⟩, Or.inl ⟨show -1 ≤ nc by omega, show nc < nc + 1 by omega⟩, ⟨(show (-1 : Int) ≤ 0 by omega), (show (0 : Int) ≤ 3 by omega)⟩, fun _ => Int.le_refl (0 : Int), hi.2.2.2.2.1, ⟨Int.le_refl (0 : Int), Or.inr rfl, (show (0 : Int) < 30 by omega)⟩, ⟨Int.le_refl (0 : Int), (show (0 : Int) ≤ 2 by omega)⟩, hk, hi.2.2.2.2.2.2.2.2⟩
    · rw [X_ug_n _ _ hq]
      exact (h3 q g1 g2).up
  · show nc + 1 + (X_Su (X_lw (X_ug St (wt - 1) (i + 1, j - 1, nc, 0, u, 0, 0, k))) 0 wt : Int) ≤ tn
    have hb1 := hbk.1
    rw [X_lw_top (wt := wt) (St := X_ug St (wt - 1) (i + 1, j - 1, nc, 0, u, 0, 0, k)) (X_ug_s _ _ _) hw, X_Su_c (g := X_lw St) (fun q g1 g2 => by unfold X_lw; rw [X_ug_n _ _ (by omega)])]
    omega
theorem X_Mok_w (hG : X_Gok G) (h30 : tn ≤ 30) (hM : X_Mok G tn (wt, St, nc, N)) (hw : 0 < wt) (ht : St (wt - 1) = (i, j, p, h, u, o, en, k)) {v : Int} {k2 l : Nat} {HF HE : Int → Int} (hv : 0 ≤ v ∧ v < gw G) (hk2 : k2 < (X_T_ G).1 v i j) (hk3 : k2 ≤ 9223372036854775807) (hs : X_spl G v j (gD G v 3 0).toNat 0 i k2 1 (fun _ => 0) (fun _ => 0) = (l, HF, HE)) (hl : l ≤ 9223372036854775807) {N' : Int → Int → Int} :
    (∀ x, 0 ≤ x → x < gD G v 4 0 → (i ≤ HF x ∧ HF x < HE x ∧ HE x ≤ j) ∧ 0 < X_Hh G v x (HF x) (HE x)) ∧ wt - 1 + gD G v 4 0 + nc + 1 ≤ tn ∧ (X_pus G v nc HF HE (gD G v 4 0).toNat l (wt - 1, St)).1 = wt - 1 + gD G v 4 0 ∧ X_Mok G tn ((X_pus G v nc HF HE (gD G v 4 0).toNat l (wt - 1, St)).1, (X_pus G v nc HF HE (gD G v 4 0).toNat l (wt - 1, St)).2, nc + 1, N') := by
  have hle := X_Mok.le hM
  obtain ⟨h1, h2, h3, h4⟩ := hM
  have h1 : 0 ≤ wt := h1
  have h2 : 0 ≤ nc := h2
  have h4 : nc + (X_Su (X_lw St) 0 wt : Int) ≤ tn := h4
  have hi := h3 (wt - 1) (by omega) (show wt - 1 < wt by omega)
  rw [show (wt, St, nc, N).2.1 (wt - 1) = (i, j, p, h, u, o, en, k) from ht] at hi
  have hij : 0 ≤ i ∧ i < j ∧ j ≤ tn := hi.1
  have hg := hG.2.2.2 v hv.1 hv.2
  have hgs := hg.1
  have hgh := hg.2.1
  rw [X_T_W hg.2.2.1 hij.2.1 (by omega)] at hk2
  have hsp := X_spl_ok (j := j) hg (gD G v 3 0).toNat 0 i k2 1 (fun _ => 0) (fun _ => 0) (Int.le_refl 0) (by omega) (by omega) (by rw [Nat.one_mul]; exact hk2)
  rw [hs] at hsp
  have z0 : X_hn (gW G v) 0 = 0 := rfl
  rw [z0] at hsp
  obtain ⟨-, s2, s3⟩ := hsp
  have s2 : ∀ x, 0 ≤ x → x < gD G v 4 0 → i ≤ HF x ∧ HF x < HE x ∧ HE x ≤ j ∧ 0 < X_Hh G v x (HF x) (HE x) := s2
  have s3 : (X_Su (fun h => (HE h - HF h).toNat) 0 (gD G v 4 0) : Int) = j - i - ((gD G v 3 0 - 0) - (gD G v 4 0 - 0)) := s3
  rw [X_lw_top ht hw] at h4 hle
  have hp := X_pus_ok (tn := tn) (nc := nc) (HF := HF) (HE := HE) hG hv h2 (gD G v 4 0).toNat l (wt - 1, St) (by omega) (fun x g1 g2 => by have := s2 x g1 (by omega); exact ⟨by omega, this.2.2.2⟩) hl (show 0 ≤ wt - 1 by omega) (fun q g1 g2 => (h3 q g1 (show q < wt by have : q < wt - 1 := g2; omega)).up)
  obtain ⟨p1, p2, p3, -⟩ := hp
  have p1 : (X_pus G v nc HF HE (gD G v 4 0).toNat l (wt - 1, St)).1 = wt - 1 + ((gD G v 4 0).toNat : Int) := p1
  have p3 : X_Su (X_lw (X_pus G v nc HF HE (gD G v 4 0).toNat l (wt - 1, St)).2) 0 (X_pus G v nc HF HE (gD G v 4 0).toNat l (wt - 1, St)).1 = X_Su (X_lw St) 0 (wt - 1) + X_Su (fun x => (HE x - HF x).toNat) 0 ((gD G v 4 0).toNat : Int) := p3
  rw [show ((gD G v 4 0).toNat : Int) = gD G v 4 0 by omega] at p1 p3
  have hM' : X_Mok G tn ((X_pus G v nc HF HE (gD G v 4 0).toNat l (wt - 1, St)).1, (X_pus G v nc HF HE (gD G v 4 0).toNat l (wt - 1, St)).2, nc + 1, N') := by
    refine ⟨show 0 ≤ (X_pus G v nc HF HE (gD G v 4 0).toNat l (wt - 1, St)).1 by omega, show 0 ≤ nc + 1 by omega, p2, ?_⟩
    show nc + 1 + (X_Su (X_lw (X_pus G v nc HF HE (gD G v 4 0).toNat l (wt - 1, St)).2) 0 (X_pus G v nc HF HE (gD G v 4 0).toNat l (wt - 1, St)).1 : Int) ≤ tn
    rw [p3]
    omega
  have hl2 := X_Mok.le hM'
  rw [p3, p1] at hl2
  exact ⟨fun x g1 g2 => by have := s2 x g1 g2; exact ⟨by omega, this.2.2.2⟩, by omega, p1, hM'⟩
end X_MK
end
section
/-! the class's finder and reading -/
def F_it (G : X_G) (t : X_It) (a b c d w k : Int) (n : Int64) : Prop := a = t.1 ∧ b = t.2.1 ∧ c = t.2.2.1 ∧ d = t.2.2.2.1 ∧ (∀ v, 0 ≤ v → v < gw G → (X_bt w v ↔ X_bt (ga G (gD G v 2 0)) t.2.2.2.2.1 ∧ X_lt G t.2.2.2.2.2.1 t.2.2.2.2.2.2.1 v)) ∧ (∀ z, 0 ≤ z → z < gk G → (X_bt k z ↔ X_bt (ga G z) t.2.2.2.2.1)) ∧ n = iL (t.2.2.2.2.2.2.2 : Int)
def F_st (G : X_G) (wt : Int) (St : Int → X_It) (fF fE fP fH fW fK : Int → Int) (fN : Int → Int64) : Prop := ∀ q, 0 ≤ q → q < wt → F_it G (St q) (fF q) (fE q) (fP q) (fH q) (fW q) (fK q) (fN q)
theorem F_st.push {G : X_G} {wt : Int} {St : Int → X_It} {fF fE fP fH fW fK : Int → Int} {fN : Int → Int64} {t : X_It} {a b c d w k : Int} {n : Int64} {q w1 w2 w3 : Int} {fW' fK' : Int → Int} {fN' : Int → Int64} (h : F_st G wt St fF fE fP fH fW fK fN) (hq : q = wt) (h1 : w1 = wt) (h2 : w2 = wt) (h3 : w3 = wt) (ht : F_it G t a b c d w k n) (e1 : fW' = X_ug fW w1 w) (e2 : fK' = X_ug fK w2 k) (e3 : fN' = X_ug fN w3 n) : F_st G (wt + 1) (X_ug St q t) (X_ug fF wt a) (X_ug fE wt b) (X_ug fP wt c) (X_ug fH wt d) fW' fK' fN' := by
  subst hq; subst e1; subst e2; subst e3; subst h1; subst h2; subst h3
  intro q g1 g2
  by_cases hq : q = w3
  · subst hq
    rw [X_ug_s, X_ug_s, X_ug_s, X_ug_s, X_ug_s, X_ug_s, X_ug_s, X_ug_s]
    exact ht
  · rw [X_ug_n _ _ hq, X_ug_n _ _ hq, X_ug_n _ _ hq, X_ug_n _ _ hq, X_ug_n _ _ hq, X_ug_n _ _ hq, X_ug_n _ _ hq, X_ug_n _ _ hq]
    exact h q g1 (by omega)
theorem F_st.pop {G : X_G} {wt : Int} {St : Int → X_It} {fF fE fP fH fW fK : Int → Int} {fN fN' : Int → Int64} (h : F_st G wt St fF fE fP fH fW fK fN) (hn : ∀ q, ¬ q = wt - 1 → fN' q = fN q) : F_st G (wt - 1) St fF fE fP fH fW fK fN' := fun q g1 g2 => by
  rw [hn q (by omega)]
  exact h q g1 (by omega)
/-- a reading's nodes -/
def F_nd (nc : Int) (N : Int → Int → Int) (nW nF nL nP nH : Int → Int) : Prop := ∀ n, 0 ≤ n → n < nc → nW n = N 0 n ∧ nF n = N 1 n ∧ nL n = N 2 n ∧ nP n = N 3 n ∧ nH n = N 4 n
theorem F_nd.add {nc : Int} {N : Int → Int → Int} {nW nF nL nP nH : Int → Int} {a b c d e : Int} (h : F_nd nc N nW nF nL nP nH) : F_nd (nc + 1) (X_nn N nc a b c d e) (X_ug nW nc a) (X_ug nF nc b) (X_ug nL nc c) (X_ug nP nc d) (X_ug nH nc e) := by
  intro n g1 g2
  unfold X_nn
  by_cases hn : n = nc
  · subst hn
    rw [X_ug_s, X_ug_s, X_ug_s, X_ug_s, X_ug_s]
    simp
  · rw [X_ug_n _ _ hn, X_ug_n _ _ hn, X_ug_n _ _ hn, X_ug_n _ _ hn, X_ug_n _ _ hn]
    simp only [if_neg hn]
    exact h n g1 (by omega)
/-- the last node in a hole, -1 if there is none -/
def X_lc (N : Int → Int → Int) (p h : Int) : Nat → Int
  | 0 => -1
  | n + 1 => if N 3 n = p ∧ N 4 n = h then (n : Int) else X_lc N p h n
theorem X_lc_r {N : Int → Int → Int} {p h : Int} : ∀ n : Nat, -1 ≤ X_lc N p h n ∧ X_lc N p h n < n ∧ (¬ X_lc N p h n = -1 → N 3 (X_lc N p h n) = p ∧ N 4 (X_lc N p h n) = h) := by
  intro n
  induction n with
  | zero => exact ⟨Int.le_refl _, (show (-1 : Int) < 0 by omega), fun z => absurd rfl z⟩
  | succ n ih =>
    unfold X_lc
    split
    · exact ⟨by omega, by omega, fun _ => by assumption⟩
    · exact ⟨ih.1, by omega, ih.2.2⟩
theorem X_lc_c {N N' : Int → Int → Int} {p h : Int} : ∀ n : Nat, (∀ k : Int, 0 ≤ k → k < n → N 3 k = N' 3 k ∧ N 4 k = N' 4 k) → X_lc N p h n = X_lc N' p h n := by
  intro n
  induction n with
  | zero => intro _; rfl
  | succ n ih =>
    intro hh
    unfold X_lc
    rw [ih (fun k h1 h2 => hh k h1 (by omega)), (hh n (by omega) (by omega)).1, (hh n (by omega) (by omega)).2]
theorem X_lc_u {N : Int → Int → Int} {p h k : Int} : ∀ n : Nat, 0 ≤ k → k < n → N 3 k = p → N 4 k = h → k ≤ X_lc N p h n := by
  intro n
  induction n with
  | zero => intro h0 h1; omega
  | succ n ih =>
    intro h0 h1 h2 h3
    unfold X_lc
    by_cases hk : k = n
    · subst hk
      rw [if_pos ⟨h2, h3⟩]
      exact Int.le_refl _
    · have := ih h0 (by omega) h2 h3
      split <;> omega
def F_ch (nc : Int) (N : Int → Int → Int) (nC : Int → Int) : Prop := ∀ p h, 0 ≤ p → 0 ≤ h → h < 4 → ¬ X_lc N p h nc.toNat = -1 → nC (p * 4 + h) = X_lc N p h nc.toNat
theorem X_nn_lc {nc : Int} {N : Int → Int → Int} {a b c d e p h : Int} (h0 : 0 ≤ nc) : X_lc (X_nn N nc a b c d e) p h (nc + 1).toNat = if d = p ∧ e = h then nc else X_lc N p h nc.toNat := by
  rw [show (nc + 1).toNat = nc.toNat + 1 by omega]
  show (if X_nn N nc a b c d e 3 (nc.toNat : Int) = p ∧ X_nn N nc a b c d e 4 (nc.toNat : Int) = h then ((nc.toNat : Nat) : Int) else X_lc (X_nn N nc a b c d e) p h nc.toNat) = _
  rw [show ((nc.toNat : Nat) : Int) = nc by omega]
  have e3 : X_nn N nc a b c d e 3 nc = d := by unfold X_nn; simp
  have e4 : X_nn N nc a b c d e 4 nc = e := by unfold X_nn; simp
  rw [e3, e4, X_lc_c (N' := N) nc.toNat (fun k g1 g2 => by unfold X_nn; rw [if_neg (by omega), if_neg (by omega)]; exact ⟨rfl, rfl⟩)]
theorem F_ch.add {nc : Int} {N : Int → Int → Int} {nC : Int → Int} {a b c d e : Int} (h : F_ch nc N nC) (h0 : 0 ≤ nc) (hd : 0 ≤ d) (he : 0 ≤ e ∧ e < 4) {z : Int} (hz : z = d * 4 + e) : F_ch (nc + 1) (X_nn N nc a b c d e) (X_ug nC z nc) := by
  subst hz
  intro p x h1 h2 h3 h4
  rw [X_nn_lc h0] at h4 ⊢
  by_cases hc : d = p ∧ e = x
  · rw [if_pos hc]
    rw [hc.1, hc.2, X_ug_s]
  · rw [if_neg hc] at h4 ⊢
    rw [X_ug_n _ _ (by omega)]
    exact h p x h1 h2 h3 h4
theorem F_ch.add0 {nc : Int} {N : Int → Int → Int} {nC : Int → Int} {a b c d e : Int} (h : F_ch nc N nC) (h0 : 0 ≤ nc) (hd : d < 0 ∨ e < 0) : F_ch (nc + 1) (X_nn N nc a b c d e) nC := by
  intro p x h1 h2 h3 h4
  rw [X_nn_lc h0, if_neg (by omega)] at h4 ⊢
  exact h p x h1 h2 h3 h4
/-- longs that are numbers -/
theorem iL_sub {a b : Nat} (h : b ≤ a) : iL (a : Int) - iL (b : Int) = iL ((a - b : Nat) : Int) := by
  show Int64.ofInt (a : Int) - Int64.ofInt (b : Int) = _
  rw [← Int64.ofInt_sub, show ((a - b : Nat) : Int) = (a : Int) - (b : Int) by omega]
theorem iL_st {m : Int} {a : Nat} (h : a ≤ 9223372036854775807) : X_st m a = iL (a : Int) := X_st_lo h
theorem iL_rem {a b : Nat} (ha : a ≤ 9223372036854775807) (hb : 0 < b ∧ b ≤ 9223372036854775807) : iL (a : Int) - iL (a : Int) / iL (b : Int) * iL (b : Int) = iL ((a % b : Nat) : Int) ∧ iL (a : Int) / iL (b : Int) = iL ((a / b : Nat) : Int) := by
  have h1 : iL (a : Int) / iL (b : Int) = iL ((a / b : Nat) : Int) := by
    rw [iL_div (by omega) (by omega)]
    rfl
  refine ⟨?_, h1⟩
  rw [h1]
  show Int64.ofInt (a : Int) - Int64.ofInt ((a / b : Nat) : Int) * Int64.ofInt (b : Int) = _
  rw [← Int64.ofInt_mul, ← Int64.ofInt_sub]
  congr 1
  have := Nat.div_add_mod a b
  rw [Nat.mul_comm] at this
  have h2 : ((a / b : Nat) : Int) * (b : Int) = ((a / b * b : Nat) : Int) := (Int.natCast_mul _ _).symm
  rw [h2]
  omega
end
section
theorem X_pus_s {G : X_G} {w node h : Int} {HF HE : Int → Int} {l : Nat} {s : Int × (Int → X_It)} (h0 : 0 ≤ h) : X_pus G w node HF HE (h + 1).toNat l s = X_pus G w node HF HE h.toNat (l / X_Hh G w h (HF h) (HE h)) (s.1 + 1, X_ug s.2 s.1 (HF h, HE h, node, h, gD G w 9 h, w, X_eh G w h, l % X_Hh G w h (HF h) (HE h))) := by
  rw [show (h + 1).toNat = h.toNat + 1 by omega]
  show X_pus G w node HF HE h.toNat (l / X_Hh G w ((h.toNat : Nat) : Int) (HF ((h.toNat : Nat) : Int)) (HE ((h.toNat : Nat) : Int))) (s.1 + 1, X_ug s.2 s.1 (HF ((h.toNat : Nat) : Int), HE ((h.toNat : Nat) : Int), node, ((h.toNat : Nat) : Int), gD G w 9 ((h.toNat : Nat) : Int), w, X_eh G w ((h.toNat : Nat) : Int), l % X_Hh G w ((h.toNat : Nat) : Int) (HF ((h.toNat : Nat) : Int)) (HE ((h.toNat : Nat) : Int)))) = _
  rw [show ((h.toNat : Nat) : Int) = h by omega]
/-- what a hole takes, by its number -/
theorem X_gw.bits {G : X_G} {w h : Int} (hg : X_gw G w) (h1 : 0 ≤ h) (h2 : h < gD G w 4 0) (hG : X_Gok G) : (∀ v, 0 ≤ v → v < gw G → (X_bt (gD G w 10 h) v ↔ X_bt (ga G (gD G v 2 0)) (gD G w 9 h) ∧ X_lt G w (X_eh G w h) v)) ∧ (∀ z, 0 ≤ z → z < gk G → (X_bt (gD G w 11 h) z ↔ X_bt (ga G z) (gD G w 9 h))) := by
  obtain ⟨e, he1, he2, he3, he4⟩ := hg.ex h1 h2
  have c1 := hG.1
  have c2 := hG.2.1
  obtain ⟨b1, b2⟩ := hg.2.2.2.2.2.2.2.2.2.2 e he1 he2 he3
  rw [X_eo_h hg he1 he2 he3, he4] at b2
  rw [he4] at b1
  exact ⟨fun v g1 g2 => by rw [b2 v g1 (by omega)]; exact ⟨fun z => z.2, fun z => ⟨g2, z⟩⟩, fun v g1 g2 => by rw [b1 v g1 (by omega)]; exact ⟨fun z => z.2, fun z => ⟨g2, z⟩⟩⟩
theorem X_rw.hh {G : X_G} {m i j w h : Int} {oK oW oA oH : Int → Int64} (hr : X_rw G m i j oK oW oA oH) (hw : 0 ≤ w ∧ w < gw G) (hg : X_gw G w) (h1 : 0 ≤ h) (h2 : h < gD G w 4 0) : oH ((X_ro i j * 30 + w) * 4 + h) = X_st m (X_Hh G w h i j) := by
  obtain ⟨e, he1, he2, he3, he4⟩ := hg.ex h1 h2
  have := hr.2.2.2 w hw.1 hw.2 e he1 he2 he3
  rw [X_Hw_h hg he1 he2 he3, he4] at this
  exact this
end
section
theorem X_mks_e {G : X_G} {n : Nat} {s : X_Ms} (h : s.1 ≤ 0) : X_mks G n s = s := by
  cases n with
  | zero => rfl
  | succ n =>
    show (if s.1 ≤ 0 then s else _) = s
    rw [if_pos h]
theorem X_mks_s {G : X_G} {n : Int} {s s' : X_Ms} (h : 0 < s.1) (hn : n < 30) (hm : X_mk G s = s') : X_mks G (30 - n).toNat s = X_mks G (30 - (n + 1)).toNat s' := by
  rw [show (30 - n).toNat = (30 - (n + 1)).toNat + 1 by omega]
  show (if s.1 ≤ 0 then s else X_mks G (30 - (n + 1)).toNat (X_mk G s)) = _
  rw [if_neg (by omega), hm]
theorem X_Mok_0 {G : X_G} {tn : Int} {k : Nat} (hG : X_Gok G) (htn : 1 ≤ tn ∧ tn ≤ 30) (hk : k < X_all G 0 tn) (hkm : k ≤ 9223372036854775807) : X_Mok G tn (1, fun _ => (0, tn, -1, -1, 0, 0, 0, k), 0, fun _ _ => 0) := by
  have c2 := hG.2.1
  have c1 := hG.1
  refine ⟨(show (0 : Int) ≤ 1 by omega), Int.le_refl (0 : Int), fun q g1 g2 => ?_, ?_⟩
  · exact ⟨⟨Int.le_refl (0 : Int), (show (0 : Int) < tn by omega), Int.le_refl tn⟩, Or.inr rfl, ⟨Int.le_refl (-1 : Int), (show (-1 : Int) ≤ 3 by omega)⟩, fun h => absurd (show (0 : Int) ≤ -1 from h) (by omega), ⟨Int.le_refl (0 : Int), (show 0 < gk G by omega)⟩, ⟨Int.le_refl (0 : Int), Or.inr rfl, (show (0 : Int) < 30 by omega)⟩, ⟨Int.le_refl (0 : Int), (show (0 : Int) ≤ 2 by omega)⟩, (by
      show k < X_Hc G (X_T_ G) 0 0 0 0 tn
      rw [X_Hc_all hG]
      exact hk), hkm⟩
  · show (0 : Int) + (X_Su (X_lw fun _ => (0, tn, -1, -1, 0, 0, 0, k)) 0 (0 + 1) : Int) ≤ tn
    rw [X_Su_s (Int.le_refl 0), X_Su_e (Int.le_refl 0)]
    unfold X_lw
    show (0 : Int) + ((0 + (tn - 0).toNat : Nat) : Int) ≤ tn
    omega
end
section
/-! WORK -/
section X_T6
variable {sc : X_Sc} {j : Nat} {Q : Option Value → X_S → Prop} {pc t : Nat} {ls : X_L} {r : List Value} {S : X_S}
theorem T_tsk {d lo hi : Int} {offs : Array Int} {n : Nat} {ax : Nat × Nat × Nat} {z c off : Int} (hr : X_row j pc = some (pc, (.tableswitch d lo hi offs, n), ax)) (hz : z = c) (hi1 : lo ≤ c ∧ c ≤ hi) (hb : -2147483648 ≤ c ∧ c ≤ 2147483647) (ho : offs[(c - lo).toNat]? = some off) (ht : X_tg pc off = some t) (k : X_T sc j (t, ls, r, S) Q) : X_T sc j (pc, ls, .int (iI z) :: r, S) Q := by
  subst hz
  refine T_p hr rfl ?_ k
  have e : (iI z).toInt = z := iI_t hb.1 hb.2
  simp only [X_pstep, e]
  rw [if_neg (by omega), ho]
  simp only [ht]
theorem T_tsd {d lo hi : Int} {offs : Array Int} {n : Nat} {ax : Nat × Nat × Nat} {z : Int} (hr : X_row j pc = some (pc, (.tableswitch d lo hi offs, n), ax)) (hz : z < lo ∨ hi < z) (hb : -2147483648 ≤ z ∧ z ≤ 2147483647) (ht : X_tg pc d = some t) (k : X_T sc j (t, ls, r, S) Q) : X_T sc j (pc, ls, .int (iI z) :: r, S) Q := by
  refine T_p hr rfl ?_ k
  have e : (iI z).toInt = z := iI_t hb.1 hb.2
  simp only [X_pstep, e]
  rw [if_pos hz, ht]
end X_T6
/-- an operation's outcome -/
noncomputable def X_out2 (s a b : Int) : Int := if s = 43 then (iI a + iI b).toInt else if s = 45 then (iI a - iI b).toInt else if s = 42 then (iI a * iI b).toInt else if s = 47 then (iI a / iI b).toInt else if s = 37 then (iI a - iI a / iI b * iI b).toInt else bI (a < b)
theorem X_out2_r {s a b : Int} : -2147483648 ≤ X_out2 s a b ∧ X_out2 s a b ≤ 2147483647 := by
  unfold X_out2
  have := bI_r (a < b)
  repeat' split
  all_goals first | exact iI_rng _ | omega
/-- the pile behind so many steps; none where an / or % is by 0 -/
noncomputable def X_wS (d : Nat → Int → Int) (ch : Int → Int) : Nat → Option (Int × (Int → Int))
  | 0 => some (0, fun _ => 0)
  | k + 1 => (X_wS d ch k).bind fun r =>
      if d 12 (k : Int) = 4 then some (r.1 + 1, X_ug r.2 r.1 (iI (d 13 (k : Int))).toInt) else if d 12 (k : Int) = 64 then some (r.1 + 1, X_ug r.2 r.1 (iI (ch (d 13 (k : Int) - 1))).toInt)
      else if (d 12 (k : Int) = 47 ∨ d 12 (k : Int) = 37) ∧ r.2 (r.1 - 1) = 0 then none else some (r.1 - 1, X_ug r.2 (r.1 - 2) (X_out2 (d 12 (k : Int)) (r.2 (r.1 - 2)) (r.2 (r.1 - 1))))
theorem X_wS_s (d : Nat → Int → Int) (ch : Int → Int) {k : Int} (h : 0 ≤ k) : X_wS d ch (k + 1).toNat = (X_wS d ch k.toNat).bind fun r =>
      if d 12 k = 4 then some (r.1 + 1, X_ug r.2 r.1 (iI (d 13 k)).toInt) else if d 12 k = 64 then some (r.1 + 1, X_ug r.2 r.1 (iI (ch (d 13 k - 1))).toInt)
      else if (d 12 k = 47 ∨ d 12 k = 37) ∧ r.2 (r.1 - 1) = 0 then none else some (r.1 - 1, X_ug r.2 (r.1 - 2) (X_out2 (d 12 k) (r.2 (r.1 - 2)) (r.2 (r.1 - 1)))) := by
  rw [show (k + 1).toNat = k.toNat + 1 by omega]
  show (X_wS d ch k.toNat).bind (fun r =>
      if d 12 ((k.toNat : Nat) : Int) = 4 then some (r.1 + 1, X_ug r.2 r.1 (iI (d 13 ((k.toNat : Nat) : Int))).toInt) else if d 12 ((k.toNat : Nat) : Int) = 64 then some (r.1 + 1, X_ug r.2 r.1 (iI (ch (d 13 ((k.toNat : Nat) : Int) - 1))).toInt)
      else if (d 12 ((k.toNat : Nat) : Int) = 47 ∨ d 12 ((k.toNat : Nat) : Int) = 37) ∧ r.2 (r.1 - 1) = 0 then none else some (r.1 - 1, X_ug r.2 (r.1 - 2) (X_out2 (d 12 ((k.toNat : Nat) : Int)) (r.2 (r.1 - 2)) (r.2 (r.1 - 1))))) = _
  rw [show ((k.toNat : Nat) : Int) = k by omega]
theorem X_wS_none {d : Nat → Int → Int} {ch : Int → Int} {k : Int} (h : 0 ≤ k) (hn : X_wS d ch k.toNat = none) : ∀ n : Nat, X_wS d ch (k.toNat + n) = none := by
  intro n
  induction n with
  | zero => exact hn
  | succ n ih =>
    show (X_wS d ch (k.toNat + n)).bind _ = none
    rw [ih]
    rfl
theorem X_wS_h {d : Nat → Int → Int} {ch : Int → Int} (hs : X_sok d) : ∀ (k : Nat) (r : Int × (Int → Int)), (k : Int) ≤ d 5 0 → X_wS d ch k = some r → r.1 = X_ph (d 12) k := by
  intro k
  induction k with
  | zero => intro r _ h; cases h; rfl
  | succ k ih =>
    intro r hk h
    cases hp : X_wS d ch k with
    | none =>
      have h : (X_wS d ch k).bind _ = some r := h
      rw [hp] at h
      cases h
    | some q =>
      have e := ih q (by omega) hp
      have h : (X_wS d ch k).bind _ = some r := h
      rw [hp] at h
      simp only [Option.bind] at h
      have hst := hs.2.2 (k : Int) (by omega) (by omega)
      show r.1 = X_ph (d 12) k + @ite Int (X_isOp (d 12 (k : Int))) (Classical.propDecidable _) (-1) 1
      rcases hst with ⟨h1, -⟩ | ⟨h1, h2, -⟩
      · rw [if_pos h1]
        unfold X_isOp at h1
        rw [if_neg (by omega), if_neg (by omega)] at h
        split at h
        · cases h
        · cases h
          show q.1 - 1 = _
          omega
      · rw [if_neg h1]
        split at h
        · cases h
          show q.1 + 1 = _
          omega
        · rcases h2 with h2 | h2
          · exact absurd h2 (by assumption)
          · rw [if_pos h2.1] at h
            cases h
            show q.1 + 1 = _
            omega
theorem X_wS_r {d : Nat → Int → Int} {ch : Int → Int} : ∀ (k : Nat) (r : Int × (Int → Int)), X_wS d ch k = some r → ∀ q, -2147483648 ≤ r.2 q ∧ r.2 q ≤ 2147483647 := by
  intro k
  induction k with
  | zero => intro r h q; cases h; exact ⟨(show (-2147483648 : Int) ≤ 0 by omega), (show (0 : Int) ≤ 2147483647 by omega)⟩
  | succ k ih =>
    intro r h q
    cases hp : X_wS d ch k with
    | none =>
      have h : (X_wS d ch k).bind _ = some r := h
      rw [hp] at h
      cases h
    | some z =>
      have e := ih z hp
      have key : ∀ (a v : Int), (-2147483648 ≤ v ∧ v ≤ 2147483647) → -2147483648 ≤ X_ug z.2 a v q ∧ X_ug z.2 a v q ≤ 2147483647 := fun a v hv => by
        by_cases hq : q = a
        · rw [hq, X_ug_s]; exact hv
        · rw [X_ug_n _ _ hq]; exact e q
      have h : (X_wS d ch k).bind _ = some r := h
      rw [hp] at h
      simp only [Option.bind] at h
      split at h
      · cases h; exact key _ _ (iI_rng _)
      · split at h
        · cases h; exact key _ _ (iI_rng _)
        · split at h
          · cases h
          · cases h; exact key _ _ X_out2_r
/-- a node's value: 0 and it; 1 an / or % by 0; 2 a word without a value -/
noncomputable def X_ev (G : X_G) (bo va : Int → Int) (N : Int → Int → Int) (nc : Int) (V : Int → Int) (n : Int) : Int × Int :=
  if N 0 n = -2 then (0, X_nv (gt G (N 1 n))) else if N 0 n = -3 then (0, V (X_lc N n 0 nc.toNat)) else
    if ¬ gD G (N 0 n) 5 0 = -1 then (match X_wS (gD G (N 0 n)) (fun h => V (X_lc N n h nc.toNat)) (gD G (N 0 n) 5 0).toNat with
      | none => (1, 0)
      | some r => (0, r.2 0))
    else if bo (N 0 n) = 1 then (0, va (N 0 n)) else (2, 0)
def X_wn (N : Int → Int → Int) (nc nx : Int) : Int := if nx < nc then N 3 nx else -1
noncomputable def X_wi (G : X_G) (bo va : Int → Int) (N : Int → Int → Int) (nc out : Int) : Nat → Int → (Int → Int) → (Int × Int) × (Int → Int)
  | 0, n, V => ((0, n), V)
  | f + 1, n, V => if out < n then (if (X_ev G bo va N nc V n).1 = 0 then X_wi G bo va N nc out f (N 3 n) (X_ug V n (X_ev G bo va N nc V n).2) else (((X_ev G bo va N nc V n).1, n), V)) else ((0, n), V)
noncomputable def X_wo (G : X_G) (bo va : Int → Int) (N : Int → Int → Int) (nc : Int) : Nat → Int → (Int → Int) → Int × Int × Int
  | 0, _, V => (0, -1, V 0)
  | m + 1, nx, V => if (X_wi G bo va N nc (X_wn N nc nx) 31 (nx - 1) V).1.1 = 0 then X_wo G bo va N nc m (nx + 1) (X_wi G bo va N nc (X_wn N nc nx) 31 (nx - 1) V).2 else ((X_wi G bo va N nc (X_wn N nc nx) 31 (nx - 1) V).1.1, (X_wi G bo va N nc (X_wn N nc nx) 31 (nx - 1) V).1.2, 0)
/-- the work on a reading: how it ended, where, the value -/
noncomputable def X_wk (G : X_G) (bo va : Int → Int) (N : Int → Int → Int) (nc : Int) : Int × Int × Int := X_wo G bo va N nc nc.toNat 1 (fun _ => 0)
/-- the nodes that one is in, itself too -/
def X_up (N : Int → Int → Int) : Nat → Int → Int
  | 0, n => n
  | t + 1, n => if n < 0 then n else X_up N t (N 3 n)
def X_An (N : Int → Int → Int) (n m : Int) : Prop := ∃ t, X_up N t n = m
theorem X_An.rf {N : Int → Int → Int} {n : Int} : X_An N n n := ⟨0, rfl⟩
theorem X_An.up {N : Int → Int → Int} {n m : Int} (h0 : 0 ≤ n) (h : X_An N (N 3 n) m) : X_An N n m := by
  obtain ⟨t, ht⟩ := h
  refine ⟨t + 1, ?_⟩
  show (if n < 0 then n else X_up N t (N 3 n)) = m
  rw [if_neg (by omega)]
  exact ht
theorem X_An.dn {N : Int → Int → Int} {n m : Int} (h : X_An N n m) (hne : ¬ n = m) : 0 ≤ n ∧ X_An N (N 3 n) m := by
  obtain ⟨t, ht⟩ := h
  cases t with
  | zero => exact absurd ht hne
  | succ t =>
    have ht : (if n < 0 then n else X_up N t (N 3 n)) = m := ht
    by_cases h0 : n < 0
    · rw [if_pos h0] at ht
      exact absurd ht hne
    · rw [if_neg h0] at ht
      exact ⟨by omega, t, ht⟩
/-- nodes are in nodes ahead of them -/
def X_tr0 (N : Int → Int → Int) (nc : Int) : Prop := ∀ k, 0 ≤ k → k < nc → -1 ≤ N 3 k ∧ N 3 k < k
theorem X_An_le {N : Int → Int → Int} {nc : Int} (ht : X_tr0 N nc) : ∀ (k : Nat) (n m : Int), n < k → n < nc → -1 ≤ n → X_An N n m → -1 ≤ m ∧ m ≤ n := by
  intro k
  induction k with
  | zero =>
    intro n m h1 h2 h3 h
    by_cases hne : n = m
    · omega
    · have := (h.dn hne).1; omega
  | succ k ih =>
    intro n m h1 h2 h3 h
    by_cases hne : n = m
    · omega
    · obtain ⟨h4, h5⟩ := h.dn hne
      have h6 := ht n h4 h2
      have := ih (N 3 n) m (by omega) (by omega) h6.1 h5
      omega
theorem X_An.le {N : Int → Int → Int} {nc n m : Int} (h : X_An N n m) (ht : X_tr0 N nc) (h1 : n < nc) (h2 : -1 ≤ n) : -1 ≤ m ∧ m ≤ n := X_An_le ht (n + 1).toNat n m (by omega) h1 h2 h
theorem X_An_tr {N : Int → Int → Int} {nc : Int} (ht : X_tr0 N nc) : ∀ (k : Nat) (n m l : Int), n < k → n < nc → X_An N n m → X_An N m l → X_An N n l := by
  intro k
  induction k with
  | zero =>
    intro n m l h1 h2 h h'
    by_cases hne : n = m
    · rw [hne]; exact h'
    · have := (h.dn hne).1; omega
  | succ k ih =>
    intro n m l h1 h2 h h'
    by_cases hne : n = m
    · rw [hne]; exact h'
    · obtain ⟨h4, h5⟩ := h.dn hne
      have h6 := ht n h4 h2
      exact X_An.up h4 (ih (N 3 n) m l (by omega) (by omega) h5 h')
theorem X_An.tr {N : Int → Int → Int} {nc n m l : Int} (h : X_An N n m) (h' : X_An N m l) (ht : X_tr0 N nc) (h1 : n < nc) : X_An N n l := X_An_tr ht (n + 1).toNat n m l (by omega) h1 h h'
/-- two that one is in: one is in the other -/
theorem X_An_cp {N : Int → Int → Int} {nc : Int} (ht : X_tr0 N nc) : ∀ (k : Nat) (n a b : Int), n < k → n < nc → -1 ≤ n → X_An N n a → X_An N n b → b ≤ a → X_An N a b := by
  intro k
  induction k with
  | zero =>
    intro n a b h1 h2 h3 ha hb hab
    by_cases hne : n = a
    · rw [← hne]; exact hb
    · have := (ha.dn hne).1; omega
  | succ k ih =>
    intro n a b h1 h2 h3 ha hb hab
    by_cases hne : n = a
    · rw [← hne]; exact hb
    · obtain ⟨h4, h5⟩ := ha.dn hne
      have h6 := ht n h4 h2
      have h7 := h5.le ht (by omega) (by omega)
      have h8 : ¬ n = b := by omega
      exact ih (N 3 n) a b (by omega) (by omega) h6.1 h5 (hb.dn h8).2 hab
theorem X_An.cp {N : Int → Int → Int} {nc n a b : Int} (ha : X_An N n a) (hb : X_An N n b) (hab : b ≤ a) (ht : X_tr0 N nc) (h1 : n < nc) (h2 : -1 ≤ n) : X_An N a b := X_An_cp ht (n + 1).toNat n a b (by omega) h1 h2 ha hb hab
/-- each node is in the one ahead of it, or in one that that one is in -/
def X_tr1 (N : Int → Int → Int) (nc : Int) : Prop := ∀ k, 1 ≤ k → k < nc → 0 ≤ N 3 k ∧ X_An N (k - 1) (N 3 k)
theorem X_An_no {N : Int → Int → Int} {nc nx n : Int} (ht : X_tr0 N nc) (ht1 : X_tr1 N nc) (h1 : 1 ≤ nx) (hn : n < nx) (ho : X_wn N nc nx < n) (h0 : 0 ≤ n) : ∀ (m : Nat) (k : Int), k = nx + m → k < nc → ¬ X_An N k n := by
  intro m
  induction m with
  | zero =>
    intro k hk hkn h
    have hk : k = nx := by omega
    subst hk
    obtain ⟨-, h5⟩ := h.dn (by omega)
    have h6 := ht k (by omega) hkn
    have h7 := h5.le ht (by omega) h6.1
    unfold X_wn at ho
    rw [if_pos hkn] at ho
    omega
  | succ m ih =>
    intro k hk hkn h
    obtain ⟨-, h5⟩ := h.dn (by omega)
    obtain ⟨h6, h7⟩ := ht1 k (by omega) hkn
    exact ih (k - 1) (by omega) (by omega) (X_An.tr h7 h5 ht (by omega))
end
section
/-- a reading that is being made is a tree -/
def X_Tre (G : X_G) (tn : Int) (wt : Int) (St : Int → X_It) (nc : Int) (N : Int → Int → Int) : Prop :=
  X_tr0 N nc ∧ X_tr1 N nc ∧ ((nc = 0 → wt = 1 ∧ (St 0).2.2.1 = -1) ∧ (0 < nc → N 3 0 = -1)) ∧
  ((∀ q, 0 ≤ q → q < wt → 0 < nc → 0 ≤ (St q).2.2.1 ∧ X_An N (nc - 1) (St q).2.2.1) ∧ ∀ q q', 0 ≤ q → q ≤ q' → q' < wt → (St q).2.2.1 ≤ (St q').2.2.1) ∧
  (∀ n, 0 ≤ n → n < nc → (N 0 n = -2 ∨ N 0 n = -3 ∨ (0 ≤ N 0 n ∧ N 0 n < gw G)) ∧ (N 0 n = -2 → (0 ≤ N 1 n ∧ N 1 n < tn) ∧ 0 ≤ X_nv (gt G (N 1 n))) ∧ (-1 ≤ N 4 n ∧ N 4 n ≤ 3) ∧ (1 ≤ n → 0 ≤ N 4 n) ∧ (0 ≤ N 1 n ∧ 1 ≤ N 2 n ∧ N 1 n + N 2 n ≤ tn)) ∧
  (∀ n, 0 ≤ n → n < nc → 0 ≤ N 0 n → ∀ h, 0 ≤ h → h < gD G (N 0 n) 4 0 → (∃ k, n < k ∧ k < nc ∧ N 3 k = n ∧ N 4 k = h) ∨ (∃ q, 0 ≤ q ∧ q < wt ∧ (St q).2.2.1 = n ∧ (St q).2.2.2.1 = h)) ∧
  ∀ n, 0 ≤ n → n < nc → N 0 n = -3 → (n + 1 = nc → 0 < wt ∧ (St (wt - 1)).2.2.1 = n ∧ (St (wt - 1)).2.2.2.1 = 0 ∧ ∀ q, 0 ≤ q → q < wt - 1 → ¬ (St q).2.2.1 = n) ∧ (n + 1 < nc → N 3 (n + 1) = n ∧ N 4 (n + 1) = 0 ∧ (∀ k, n + 1 < k → k < nc → ¬ N 3 k = n) ∧ ∀ q, 0 ≤ q → q < wt → ¬ (St q).2.2.1 = n)
theorem X_An_c {N N' : Int → Int → Int} {nc : Int} (ht : X_tr0 N nc) (hc : ∀ k, 0 ≤ k → k < nc → N' 3 k = N 3 k) : ∀ (f : Nat) (n m : Int), n < f → n < nc → X_An N n m → X_An N' n m := by
  intro f
  induction f with
  | zero =>
    intro n m h1 h2 h
    by_cases hne : n = m
    · rw [hne]; exact X_An.rf
    · have := (h.dn hne).1; omega
  | succ f ih =>
    intro n m h1 h2 h
    by_cases hne : n = m
    · rw [hne]; exact X_An.rf
    · obtain ⟨h4, h5⟩ := h.dn hne
      have h6 := ht n h4 h2
      refine X_An.up h4 ?_
      rw [hc n h4 h2]
      exact ih (N 3 n) m (by omega) (by omega) h5
theorem X_nn_o {N : Int → Int → Int} {nc a b c d e f n : Int} (h : ¬ n = nc) : X_nn N nc a b c d e f n = N f n := by
  unfold X_nn
  rw [if_neg h]
theorem X_nn_0 {N : Int → Int → Int} {nc a b c d e : Int} : X_nn N nc a b c d e 0 nc = a := by unfold X_nn; simp
theorem X_nn_1 {N : Int → Int → Int} {nc a b c d e : Int} : X_nn N nc a b c d e 1 nc = b := by unfold X_nn; simp
theorem X_nn_2 {N : Int → Int → Int} {nc a b c d e : Int} : X_nn N nc a b c d e 2 nc = c := by unfold X_nn; simp
theorem X_nn_3 {N : Int → Int → Int} {nc a b c d e : Int} : X_nn N nc a b c d e 3 nc = d := by unfold X_nn; simp
theorem X_nn_4 {N : Int → Int → Int} {nc a b c d e : Int} : X_nn N nc a b c d e 4 nc = e := by unfold X_nn; simp
theorem X_Tre_st {G : X_G} {tn wt wt' nc i j p h w : Int} {St St' : Int → X_It} {N : Int → Int → Int} (hT : X_Tre G tn wt St nc N) (hw : 0 < wt) (hnc : 0 ≤ nc) (hij : 0 ≤ i ∧ i < j ∧ j ≤ tn) (hpr : (-1 ≤ p ∧ p < nc) ∨ p = -1) (hh : -1 ≤ h ∧ h ≤ 3) (hph : 0 ≤ p → 0 ≤ h) (hp : (St (wt - 1)).2.2.1 = p) (hho : (St (wt - 1)).2.2.2.1 = h) (h1 : wt - 1 ≤ wt') (h2 : ∀ q, 0 ≤ q → q < wt - 1 → St' q = St q) (h3 : ∀ q, wt - 1 ≤ q → q < wt' → (St' q).2.2.1 = nc)
    (h4 : (w = -2 ∨ w = -3 ∨ (0 ≤ w ∧ w < gw G)) ∧ (w = -2 → (0 ≤ i ∧ i < tn) ∧ 0 ≤ X_nv (gt G i))) (h5 : 0 ≤ w → ∀ x, 0 ≤ x → x < gD G w 4 0 → ∃ q, wt - 1 ≤ q ∧ q < wt' ∧ (St' q).2.2.2.1 = x) (h6 : w = -3 → wt' = wt ∧ (St' (wt - 1)).2.2.2.1 = 0) : X_Tre G tn wt' St' (nc + 1) (X_nn N nc w i (j - i) p h) := by
  obtain ⟨t0, t1, ⟨t2, t2b⟩, ⟨t3, t3b⟩, t4, t5, t6⟩ := hT
  have hoc : ∀ k, 0 ≤ k → k < nc → X_nn N nc w i (j - i) p h 3 k = N 3 k := fun k g1 g2 => X_nn_o (by omega)
  have hpl : ∀ q, 0 ≤ q → q < wt - 1 → (St q).2.2.1 ≤ p := fun q g1 g2 => by rw [← hp]; exact t3b q (wt - 1) g1 (by omega) (by omega)
  have hA : ∀ n m, n < nc → X_An N n m → X_An (X_nn N nc w i (j - i) p h) n m := fun n m g1 g2 => X_An_c t0 hoc (n + 1).toNat n m (by omega) g1 g2
  have hr0 : X_tr0 (X_nn N nc w i (j - i) p h) (nc + 1) := fun k g1 g2 => by
    by_cases hk : k = nc
    · rw [hk, X_nn_3]; omega
    · rw [X_nn_o hk]; exact t0 k g1 (by omega)
  refine ⟨hr0, fun k g1 g2 => ?_, ⟨fun z => by omega, fun z => ?_⟩, ⟨fun q g1 g2 g3 => ?_, fun q q' g1 g2 g3 => ?_⟩, fun n g1 g2 => ?_, fun n g1 g2 g3 x g4 g5 => ?_, fun n g1 g2 g3 => ⟨fun g4 => ?_, fun g4 => ?_⟩⟩
  · by_cases hk : k = nc
    · rw [hk, X_nn_3]
      have := t3 (wt - 1) (by omega) (by omega) (by omega)
      rw [hp] at this
      exact ⟨this.1, hA _ _ (by omega) this.2⟩
    · rw [X_nn_o hk]
      have := t1 k g1 (by omega)
      exact ⟨this.1, hA _ _ (by omega) this.2⟩
  · by_cases h0 : nc = 0
    · rw [h0, X_nn_3, ← hp, (t2 h0).1]
      exact (t2 h0).2
    · rw [X_nn_o (by omega)]
      exact t2b (by omega)
  · rw [show nc + 1 - 1 = nc by omega]
    by_cases hq : wt - 1 ≤ q
    · rw [h3 q hq g2]
      exact ⟨hnc, X_An.rf⟩
    · rw [h2 q g1 (by omega)]
      have h0 : 0 < nc := by
        refine Classical.byContradiction (fun z => ?_)
        have := (t2 (by omega)).1
        omega
      have e1 := t3 q g1 (by omega) h0
      have e2 := t3 (wt - 1) (by omega) (by omega) h0
      rw [hp] at e2
      refine ⟨e1.1, X_An.up hnc ?_⟩
      rw [X_nn_3]
      exact hA _ _ (by omega) (X_An.cp e2.2 e1.2 (hpl q g1 (by omega)) t0 (by omega) (by omega))
  · by_cases hq : wt - 1 ≤ q
    · rw [h3 q hq (by omega), h3 q' (by omega) g3]
      exact Int.le_refl _
    · rw [h2 q g1 (by omega)]
      have := hpl q g1 (by omega)
      by_cases hq' : wt - 1 ≤ q'
      · rw [h3 q' hq' g3]
        omega
      · rw [h2 q' (by omega) (by omega)]
        exact t3b q q' g1 g2 (by omega)
  · by_cases hn : n = nc
    · rw [hn, X_nn_0, X_nn_1, X_nn_2, X_nn_4]
      refine ⟨h4.1, h4.2, hh, fun z => hph ?_, by omega⟩
      have := t3 (wt - 1) (by omega) (by omega) (by omega)
      rw [hp] at this
      exact this.1
    · rw [X_nn_o hn, X_nn_o hn, X_nn_o hn, X_nn_o hn]
      exact t4 n g1 (by omega)
  · by_cases hn : n = nc
    · rw [hn, X_nn_0] at g3 g5
      obtain ⟨q, e1, e2, e3⟩ := h5 g3 x g4 g5
      exact Or.inr ⟨q, by omega, e2, by rw [h3 q e1 e2, hn], e3⟩
    · rw [X_nn_o hn] at g3 g5
      rcases t5 n g1 (by omega) g3 x g4 g5 with ⟨k, e1, e2, e3, e4⟩ | ⟨q, e1, e2, e3, e4⟩
      · exact Or.inl ⟨k, e1, by omega, by rw [X_nn_o (by omega)]; exact e3, by rw [X_nn_o (by omega)]; exact e4⟩
      · by_cases hq : q = wt - 1
        · rw [hq, hp] at e3
          rw [hq, hho] at e4
          exact Or.inl ⟨nc, by omega, by omega, by rw [X_nn_3]; exact e3, by rw [X_nn_4]; exact e4⟩
        · exact Or.inr ⟨q, e1, by omega, by rw [h2 q e1 (by omega)]; exact e3, by rw [h2 q e1 (by omega)]; exact e4⟩
  · have hn : n = nc := by omega
    rw [hn, X_nn_0] at g3
    obtain ⟨e1, e2⟩ := h6 g3
    rw [e1]
    refine ⟨hw, by rw [h3 (wt - 1) (Int.le_refl _) (by omega), hn], e2, fun q z1 z2 => ?_⟩
    rw [h2 q z1 z2]
    have := hpl q z1 z2
    omega
  · have hn : ¬ n = nc := by omega
    rw [X_nn_o hn] at g3
    obtain ⟨e1, e2⟩ := t6 n g1 (by omega) g3
    by_cases hn1 : n + 1 = nc
    · obtain ⟨-, a2, a3, a4⟩ := e1 hn1
      rw [hn1, X_nn_3, X_nn_4]
      refine ⟨by rw [← hp]; exact a2, by rw [← hho]; exact a3, fun k z1 z2 => by omega, fun q z1 z2 => ?_⟩
      by_cases hq : wt - 1 ≤ q
      · rw [h3 q hq z2]; omega
      · rw [h2 q z1 (by omega)]; exact a4 q z1 (by omega)
    · obtain ⟨a1, a2, a3, a4⟩ := e2 (by omega)
      rw [X_nn_o (by omega), X_nn_o (by omega)]
      refine ⟨a1, a2, fun k z1 z2 => ?_, fun q z1 z2 => ?_⟩
      · by_cases hk : k = nc
        · rw [hk, X_nn_3, ← hp]
          exact a4 (wt - 1) (by omega) (by omega)
        · rw [X_nn_o hk]
          exact a3 k z1 (by omega)
      · by_cases hq : wt - 1 ≤ q
        · rw [h3 q hq z2]; omega
        · rw [h2 q z1 (by omega)]; exact a4 q z1 (by omega)
theorem X_pus_pa {G : X_G} {w nc : Int} {HF HE : Int → Int} : ∀ (h : Nat) (l : Nat) (s : Int × (Int → X_It)), (X_pus G w nc HF HE h l s).1 = s.1 + h ∧ (∀ q, q < s.1 → (X_pus G w nc HF HE h l s).2 q = s.2 q) ∧ ∀ q, s.1 ≤ q → q < s.1 + h → ((X_pus G w nc HF HE h l s).2 q).2.2.1 = nc ∧ ((X_pus G w nc HF HE h l s).2 q).2.2.2.1 = s.1 + h - 1 - q := by
  intro h
  induction h with
  | zero => intro l s; exact ⟨by show s.1 = s.1 + 0; omega, fun q _ => rfl, fun q h1 h2 => by omega⟩
  | succ h ih =>
    intro l s
    obtain ⟨i1, i2, i3⟩ := ih (l / X_Hh G w h (HF h) (HE h)) (s.1 + 1, X_ug s.2 s.1 (HF h, HE h, nc, h, gD G w 9 h, w, X_eh G w h, l % X_Hh G w h (HF h) (HE h)))
    have i1 : (X_pus G w nc HF HE (h + 1) l s).1 = s.1 + 1 + (h : Int) := i1
    refine ⟨by omega, fun q hq => (i2 q (show q < s.1 + 1 by omega)).trans (X_ug_n _ _ (by omega)), fun q h1 h2 => ?_⟩
    by_cases hq : q = s.1
    · have := i2 q (show q < s.1 + 1 by omega)
      have e : (X_pus G w nc HF HE (h + 1) l s).2 q = (HF h, HE h, nc, (h : Int), gD G w 9 h, w, X_eh G w h, l % X_Hh G w h (HF h) (HE h)) := this.trans (by rw [hq]; exact X_ug_s _ _ _)
      rw [e]
      exact ⟨rfl, (show (h : Int) = s.1 + ((h + 1 : Nat) : Int) - 1 - q by omega)⟩
    · have := i3 q (show s.1 + 1 ≤ q by omega) (show q < s.1 + 1 + (h : Int) by omega)
      refine ⟨this.1, this.2.trans ?_⟩
      show s.1 + 1 + (h : Int) - 1 - q = _
      omega
theorem X_Hq_n {G : X_G} {u i j : Int} {k : Nat} (hk : k < X_Hq G (X_T_ G) u i j) (hj : j = i + 1) : 0 ≤ X_nv (gt G i) := by
  refine Classical.byContradiction (fun z => ?_)
  have : X_Hq G (X_T_ G) u i j = 0 := X_Su_0 (fun q h1 h2 => by
    rw [(X_nmB (k := q) (i := i) (j := j) (by omega) (by omega)).1 hj, X_if_f (p := 0 ≤ X_nv (gt G i) ∧ q = bI (1 < gk G)) (fun y => z y.1)]
    exact X_if_0)
  omega
/-- one more node: what waits stays readable, the nodes a tree -/
theorem X_Mok_mk {G : X_G} {tn : Int} (hG : X_Gok G) (htn : tn ≤ 30) {wt nc : Int} {St : Int → X_It} {N : Int → Int → Int} (hM : X_Mok G tn (wt, St, nc, N)) (hw : 0 < wt) (hT : X_Tre G tn wt St nc N) : X_Mok G tn (X_mk G (wt, St, nc, N)) ∧ (X_mk G (wt, St, nc, N)).2.2.1 = nc + 1 ∧ X_Tre G tn (X_mk G (wt, St, nc, N)).1 (X_mk G (wt, St, nc, N)).2.1 (nc + 1) (X_mk G (wt, St, nc, N)).2.2.2 := by
  obtain ⟨⟨i, j, p, h, u, o, en, k⟩, ht⟩ : ∃ t : X_It, St (wt - 1) = t := ⟨_, rfl⟩
  have hnc : 0 ≤ nc := hM.2.1
  have hI := hM.2.2.1 (wt - 1) (show 0 ≤ wt - 1 by omega) (show wt - 1 < wt by omega)
  rw [show (wt, St, nc, N).2.1 (wt - 1) = (i, j, p, h, u, o, en, k) from ht] at hI
  obtain ⟨hIij, hIp, hIh, hIph, hIu, hIo, hIe, hIk, hIm⟩ := hI
  have hij : 0 ≤ i ∧ i < j ∧ j ≤ tn := hIij
  have hp : (St (wt - 1)).2.2.1 = p := by rw [ht]
  have hh : (St (wt - 1)).2.2.2.1 = h := by rw [ht]
  by_cases hk : k < X_Hq G (X_T_ G) u i j
  · by_cases hj : j = i + 1
    · rw [X_mk_n ht hk hj]
      refine ⟨X_Mok_n hM hw ht, rfl, ?_⟩
      exact X_Tre_st hT hw hnc hij hIp hIh hIph hp hh (Int.le_refl _) (fun q _ _ => rfl) (fun q g1 g2 => by have : q < wt - 1 := g2; omega) ⟨Or.inl rfl, fun _ => ⟨by omega, X_Hq_n hk hj⟩⟩ (fun z => absurd z (by omega)) (fun z => absurd z (by omega))
    · rw [X_mk_b ht hk hj]
      refine ⟨(X_Mok_b hG htn hM hw ht hk hj).2, rfl, ?_⟩
      refine X_Tre_st hT hw hnc hij hIp hIh hIph hp hh (show wt - 1 ≤ wt by omega) (fun q g1 g2 => X_ug_n _ _ (by omega)) (fun q g1 g2 => ?_) ⟨Or.inr (Or.inl rfl), fun z => absurd z (by omega)⟩ (fun z => absurd z (by omega)) (fun _ => ⟨rfl, by show (X_ug St (wt - 1) (i + 1, j - 1, nc, 0, u, 0, 0, k) (wt - 1)).2.2.2.1 = 0; rw [X_ug_s]⟩)
      have g2 : q < wt := g2
      show (X_ug St (wt - 1) (i + 1, j - 1, nc, 0, u, 0, 0, k) q).2.2.1 = nc
      rw [show q = wt - 1 by omega, X_ug_s]
  · obtain ⟨v, k2, c1, c2, c3, c4, c5⟩ := X_ch hG hIk hk
    obtain ⟨⟨l, HF, HE⟩, hs⟩ : ∃ r, X_spl G v j (gD G v 3 0).toNat 0 i k2 1 (fun _ => 0) (fun _ => 0) = r := ⟨_, rfl⟩
    rw [X_mk_w ht hk c1 hs]
    have hIm : k ≤ 9223372036854775807 := hIm
    have hg := hG.2.2.2 v c2.1 c2.2
    have hl : l ≤ k2 := by
      have key : ∀ (n : Nat) (e p : Int) (l b : Nat) (HF HE : Int → Int), (X_spl G v j n e p l b HF HE).1 ≤ l := by
        intro n
        induction n with
        | zero => intro e p l b HF HE; exact Nat.le_refl _
        | succ n ih =>
          intro e p l b HF HE
          have kf : ∀ (F : Int → Nat) (m : Nat) (a : Int) (x : Nat), (X_fd F m a x).2 ≤ x := by
            intro F m
            induction m with
            | zero => intro a x; exact Nat.le_refl _
            | succ m ih2 =>
              intro a x
              unfold X_fd
              split
              · exact Nat.le_refl _
              · exact Nat.le_trans (ih2 _ _) (Nat.sub_le _ _)
          unfold X_spl
          split
          · exact Nat.le_trans (ih _ _ _ _ _ _) (kf _ _ _ _)
          · exact ih _ _ _ _ _ _
      have := key (gD G v 3 0).toNat 0 i k2 1 (fun _ => 0) (fun _ => 0)
      rw [hs] at this
      exact this
    have hW := X_Mok_w (N' := X_nn N nc v i (j - i) p h) hG htn hM hw ht c2 c5 (by omega) hs (by omega)
    obtain ⟨b1, b2, b3⟩ := X_pus_pa (G := G) (w := v) (nc := nc) (HF := HF) (HE := HE) (gD G v 4 0).toNat l (wt - 1, St)
    have hb := hg.2.1
    refine ⟨hW.2.2.2, rfl, ?_⟩
    refine X_Tre_st hT hw hnc hij hIp hIh hIph hp hh (by show wt - 1 ≤ (X_pus G v nc HF HE (gD G v 4 0).toNat l (wt - 1, St)).1; have := hW.2.2.1; omega) (fun q g1 g2 => b2 q g2) (fun q g1 g2 => (b3 q g1 (by have : q < (X_pus G v nc HF HE (gD G v 4 0).toNat l (wt - 1, St)).1 := g2; rw [b1] at this; exact this)).1) ⟨Or.inr (Or.inr c2), fun z => absurd z (by omega)⟩ (fun _ x g1 g2 => ?_) (fun z => absurd z (by omega))
    refine ⟨wt - 1 + (gD G v 4 0 - 1 - x), by omega, ?_, ?_⟩
    · show _ < (X_pus G v nc HF HE (gD G v 4 0).toNat l (wt - 1, St)).1
      rw [b1]
      show _ < wt - 1 + ((gD G v 4 0).toNat : Int)
      omega
    · have := (b3 (wt - 1 + (gD G v 4 0 - 1 - x)) (show wt - 1 ≤ _ by omega) (show _ < wt - 1 + ((gD G v 4 0).toNat : Int) by omega)).2
      refine this.trans ?_
      show wt - 1 + ((gD G v 4 0).toNat : Int) - 1 - _ = x
      omega
end
section
/-- a book's steps are sound -/
def X_Gst (G : X_G) : Prop := ∀ w, 0 ≤ w → w < gw G → gD G w 5 0 = -1 ∨ (X_sok (gD G w) ∧ gD G w 5 0 ≤ 30 ∧ X_ph (gD G w 12) (gD G w 5 0).toNat = 1)
/-- a reading, or none -/
def X_Rok (G : X_G) (tn nc : Int) (N : Int → Int → Int) : Prop :=
  (0 ≤ nc ∧ nc ≤ tn ∧ tn ≤ 30) ∧ X_tr0 N nc ∧ X_tr1 N nc ∧ (0 < nc → N 3 0 = -1) ∧
  (∀ n, 0 ≤ n → n < nc → (N 0 n = -2 ∨ N 0 n = -3 ∨ (0 ≤ N 0 n ∧ N 0 n < gw G)) ∧ (N 0 n = -2 → (0 ≤ N 1 n ∧ N 1 n < tn) ∧ 0 ≤ X_nv (gt G (N 1 n))) ∧ (-1 ≤ N 4 n ∧ N 4 n ≤ 3) ∧ (1 ≤ n → 0 ≤ N 4 n) ∧ (0 ≤ N 1 n ∧ 1 ≤ N 2 n ∧ N 1 n + N 2 n ≤ tn)) ∧
  (∀ n, 0 ≤ n → n < nc → 0 ≤ N 0 n → ∀ h, 0 ≤ h → h < gD G (N 0 n) 4 0 → ¬ X_lc N n h nc.toNat = -1) ∧
  ∀ n, 0 ≤ n → n < nc → N 0 n = -3 → n + 1 < nc ∧ X_lc N n 0 nc.toNat = n + 1 ∧ N 3 (n + 1) = n ∧ ∀ k, n + 1 < k → k < nc → ¬ N 3 k = n
theorem X_Rok_0 {G : X_G} {tn : Int} {N : Int → Int → Int} (h : 0 ≤ tn ∧ tn ≤ 30) : X_Rok G tn 0 N := ⟨⟨Int.le_refl _, h.1, h.2⟩, fun k h1 h2 => by omega, fun k h1 h2 => by omega, fun z => by omega, fun n h1 h2 => by omega, fun n h1 h2 => by omega, fun n h1 h2 => by omega⟩
theorem X_Tre.ok {G : X_G} {tn wt nc : Int} {St : Int → X_It} {N : Int → Int → Int} (h : X_Tre G tn wt St nc N) (hw : wt ≤ 0) (hn : 0 ≤ nc ∧ nc ≤ tn ∧ tn ≤ 30) : X_Rok G tn nc N := by
  obtain ⟨t0, t1, ⟨t2, t2b⟩, t3, t4, t5, t6⟩ := h
  refine ⟨hn, t0, t1, t2b, t4, fun n g1 g2 g3 x g4 g5 => ?_, fun n g1 g2 g3 => ?_⟩
  · rcases t5 n g1 g2 g3 x g4 g5 with ⟨k, e1, e2, e3, e4⟩ | ⟨q, e1, e2, -⟩
    · have := X_lc_u (N := N) (p := n) (h := x) (k := k) nc.toNat (by omega) (by omega) e3 e4
      omega
    · omega
  · obtain ⟨e1, e2⟩ := t6 n g1 g2 g3
    by_cases hn1 : n + 1 = nc
    · have := (e1 hn1).1
      omega
    · obtain ⟨a1, a2, a3, a4⟩ := e2 (by omega)
      refine ⟨by omega, ?_, a1, a3⟩
      have h1 := X_lc_u (N := N) (p := n) (h := 0) (k := n + 1) nc.toNat (by omega) (by omega) a1 a2
      have h2 := X_lc_r (N := N) (p := n) (h := 0) nc.toNat
      have h3 := (h2.2.2 (by omega)).1
      refine Classical.byContradiction (fun z => ?_)
      exact a3 _ (by omega) (by omega) h3
theorem X_mks_ok {G : X_G} {tn : Int} (hG : X_Gok G) (htn : tn ≤ 30) : ∀ (m : Nat) (s : X_Ms), s.2.2.1 + m = 30 → X_Mok G tn s → X_Tre G tn s.1 s.2.1 s.2.2.1 s.2.2.2 → (X_mks G m s).1 ≤ 0 ∧ s.2.2.1 ≤ (X_mks G m s).2.2.1 ∧ X_Mok G tn (X_mks G m s) ∧ X_Tre G tn (X_mks G m s).1 (X_mks G m s).2.1 (X_mks G m s).2.2.1 (X_mks G m s).2.2.2 := by
  intro m
  induction m with
  | zero =>
    intro s h1 h2 h3
    obtain ⟨wt, St, nc, N⟩ := s
    have h1 : nc + ((0 : Nat) : Int) = 30 := h1
    have hl := X_Mok.le h2
    have h4 : nc + (X_Su (X_lw St) 0 wt : Int) ≤ tn := h2.2.2.2
    exact ⟨(show wt ≤ 0 by omega), Int.le_refl _, h2, h3⟩
  | succ m ih =>
    intro s h1 h2 h3
    by_cases hw : s.1 ≤ 0
    · rw [X_mks_e hw]
      exact ⟨hw, Int.le_refl _, h2, h3⟩
    · have e : X_mks G (m + 1) s = X_mks G m (X_mk G s) := by
        show (if s.1 ≤ 0 then s else _) = _
        rw [if_neg hw]
      obtain ⟨wt, St, nc, N⟩ := s
      have h1 : nc + ((m + 1 : Nat) : Int) = 30 := h1
      obtain ⟨a1, a2, a3⟩ := X_Mok_mk hG htn h2 (show 0 < wt by have : ¬ wt ≤ 0 := hw; omega) h3
      rw [e]
      have := ih (X_mk G (wt, St, nc, N)) (by omega) a1 (by rw [a2]; exact a3)
      exact ⟨this.1, by show nc ≤ _; omega, this.2.2⟩
theorem X_rd_ok {G : X_G} {tn : Int} {k : Nat} (hG : X_Gok G) (htn : 1 ≤ tn ∧ tn ≤ 30) (hk : k < X_all G 0 tn) (hkm : k ≤ 9223372036854775807) : 1 ≤ (X_rd G tn k).2.2.1 ∧ X_Rok G tn (X_rd G tn k).2.2.1 (X_rd G tn k).2.2.2 := by
  have hM := X_Mok_0 hG htn hk hkm
  have hT0 : X_Tre G tn 1 (fun _ => (0, tn, -1, -1, 0, 0, 0, k)) 0 (fun _ _ => 0) := ⟨fun z h1 h2 => by omega, fun z h1 h2 => by omega, ⟨fun _ => ⟨rfl, rfl⟩, fun z => by omega⟩, ⟨fun q h1 h2 h3 => by omega, fun q q' _ _ _ => Int.le_refl _⟩, fun n h1 h2 => by omega, fun n h1 h2 => by omega, fun n h1 h2 => by omega⟩
  have e : X_rd G tn k = X_mks G 29 (X_mk G (1, fun _ => (0, tn, -1, -1, 0, 0, 0, k), 0, fun _ _ => 0)) := by
    have key : ∀ s : X_Ms, 0 < s.1 → X_mks G 30 s = X_mks G 29 (X_mk G s) := fun s hs => by
      show (if s.1 ≤ 0 then s else X_mks G 29 (X_mk G s)) = _
      rw [if_neg (by omega)]
    exact key _ (show (0 : Int) < 1 by omega)
  obtain ⟨a1, a2, a3⟩ := X_Mok_mk hG htn.2 hM (show (0 : Int) < 1 by omega) hT0
  have h := X_mks_ok hG htn.2 29 _ (by rw [a2]; omega) a1 (by rw [a2]; exact a3)
  rw [← e] at h
  obtain ⟨b1, b2, b3, b4⟩ := h
  have hs : ∀ s : X_Ms, X_Mok G tn s → 0 ≤ s.2.2.1 ∧ s.2.2.1 ≤ tn := fun s hs => ⟨hs.2.1, by have := hs.2.2.2; omega⟩
  have h5 := hs _ b3
  exact ⟨by omega, b4.ok b1 ⟨h5.1, h5.2, htn.2⟩⟩
/-- a node's holes are worked ahead of it -/
theorem X_ch_ev {G : X_G} {tn nc nx n h : Int} {N : Int → Int → Int} (hR : X_Rok G tn nc N) (hnx : 1 ≤ nx ∧ nx ≤ nc) (hA : X_An N (nx - 1) n) (h0 : 0 ≤ n) (ho : X_wn N nc nx < n) (hc : ¬ X_lc N n h nc.toNat = -1) : n < X_lc N n h nc.toNat ∧ X_lc N n h nc.toNat < nx ∧ ¬ X_An N n (X_lc N n h nc.toNat) := by
  obtain ⟨-, t0, t1, -⟩ := hR
  have hr := X_lc_r (N := N) (p := n) (h := h) nc.toNat
  have h3 := (hr.2.2 hc).1
  have hn := hA.le t0 (by omega) (by omega)
  have hk := t0 _ (show 0 ≤ X_lc N n h nc.toNat by omega) (by omega)
  have hlt : n < X_lc N n h nc.toNat := by omega
  refine ⟨hlt, ?_, fun z => ?_⟩
  · refine Classical.byContradiction (fun z => ?_)
    refine X_An_no t0 t1 hnx.1 (by omega) ho h0 (X_lc N n h nc.toNat - nx).toNat (X_lc N n h nc.toNat) (by omega) (by omega) ?_
    refine X_An.up (by omega) ?_
    rw [h3]
    exact X_An.rf
  · have := z.le t0 (by omega) (by omega)
    omega
/-- what has been worked: a holds V there -/
def X_Wr (N : Int → Int → Int) (nx n : Int) (V a : Int → Int) : Prop := ∀ m, 0 ≤ m → m < nx → ¬ X_An N n m → a m = V m
theorem X_Wr.st {N : Int → Int → Int} {nx n v : Int} {V a a' : Int → Int} (h : X_Wr N nx n V a) (h0 : 0 ≤ n) (ha : a' n = v) (ho : ∀ m, ¬ m = n → a' m = a m) : X_Wr N nx (N 3 n) (X_ug V n v) a' := fun m h1 h2 h3 => by
  by_cases hm : m = n
  · rw [hm, X_ug_s, ha]
  · rw [X_ug_n _ _ hm, ho m hm]
    exact h m h1 h2 (fun z => h3 (z.dn (fun e => hm e.symm)).2)
theorem X_Wr.nx {N : Int → Int → Int} {nx n : Int} {V a : Int → Int} (h : X_Wr N nx n V a) (h0 : 0 ≤ nx) (hn : N 3 nx = n) : X_Wr N (nx + 1) nx V a := fun m h1 h2 h3 => by
  by_cases hm : m = nx
  · exact absurd (by rw [hm]; exact X_An.rf) h3
  · refine h m h1 (by omega) (fun z => h3 (X_An.up h0 ?_))
    rw [hn]
    exact z
end
