theorem X_eh_r {G : X_G} {w h : Int} : 0 ≤ X_eh G w h ∧ X_eh G w h ≤ 2 := by
  unfold X_eh
  split
  · omega
  · split <;> omega
theorem X_iok.up {G : X_G} {tn nc : Int} {t : X_It} (h : X_iok G tn nc t) : X_iok G tn (nc + 1) t := by
  obtain ⟨h1, h2, h3⟩ := h
  exact ⟨h1, by omega, h3⟩
theorem X_pus_ok {G : X_G} {tn nc w : Int} {HF HE : Int → Int} (hG : X_Gok G) (hw : 0 ≤ w ∧ w < gw G) (hnc : 0 ≤ nc) : ∀ (h : Nat) (l : Nat) (s : Int × (Int → X_It)), (h : Int) ≤ gD G w 4 0 → (∀ x : Int, 0 ≤ x → x < h → (0 ≤ HF x ∧ HF x < HE x ∧ HE x ≤ tn) ∧ 0 < X_Hh G w x (HF x) (HE x)) → l ≤ 9223372036854775807 → 0 ≤ s.1 → (∀ q, 0 ≤ q → q < s.1 → X_iok G tn (nc + 1) (s.2 q)) →
    (X_pus G w nc HF HE h l s).1 = s.1 + h ∧ (∀ q, 0 ≤ q → q < (X_pus G w nc HF HE h l s).1 → X_iok G tn (nc + 1) ((X_pus G w nc HF HE h l s).2 q)) ∧ X_Su (X_lw (X_pus G w nc HF HE h l s).2) 0 (X_pus G w nc HF HE h l s).1 = X_Su (X_lw s.2) 0 s.1 + X_Su (fun x => (HE x - HF x).toNat) 0 h ∧ ∀ q, q < s.1 → (X_pus G w nc HF HE h l s).2 q = s.2 q := by
  intro h
  have hg := hG.2.2.2 w hw.1 hw.2
  have c1 := hG.1
  induction h with
  | zero =>
    intro l s _ _ _ h0 hs
    exact ⟨by show s.1 = s.1 + 0; omega, hs, by show _ = _ + X_Su _ 0 0; rw [X_Su_e (Int.le_refl 0)]; rfl, fun q _ => rfl⟩
  | succ h ih =>
    intro l s hh hx hl h0 hs
    have hx1 := hx h (by omega) (by omega)
    have hH : l % X_Hh G w h (HF h) (HE h) < X_Hh G w h (HF h) (HE h) := Nat.mod_lt _ hx1.2
    have hH2 : l % X_Hh G w h (HF h) (HE h) ≤ l := Nat.mod_le _ _
    have hH3 : l / X_Hh G w h (HF h) (HE h) ≤ l := Nat.div_le_self _ _
    have h9 := hg.2.2.2.2.2.2.2.2.1 h (by omega) (by omega)
    have hb := hg.2.1
    have he := X_eh_r (G := G) (w := w) (h := (h : Int))
    obtain ⟨i1, i2, i3, i4⟩ := ih (l / X_Hh G w h (HF h) (HE h)) (s.1 + 1, X_ug s.2 s.1 (HF h, HE h, nc, h, gD G w 9 h, w, X_eh G w h, l % X_Hh G w h (HF h) (HE h))) (by omega) (fun x g1 g2 => hx x g1 (by omega)) (by omega) (show 0 ≤ s.1 + 1 by omega) (fun q g1 g2 => by
      by_cases hq : q = s.1
      · subst hq
        show X_iok G tn (nc + 1) (X_ug s.2 s.1 _ s.1)
        rw [X_ug_s]
        exact ⟨⟨hx1.1.1, hx1.1.2.1, hx1.1.2.2⟩, Or.inl ⟨by show -1 ≤ nc; omega, by show nc < nc + 1; omega⟩, ⟨by show -1 ≤ (h : Int); omega, by show (h : Int) ≤ 3; omega⟩, fun _ => (show (0 : Int) ≤ (h : Int) by omega), h9, ⟨hw.1, Or.inl hw.2, (show w < 30 by omega)⟩, he, hH, (show l % X_Hh G w h (HF h) (HE h) ≤ 9223372036854775807 by omega)⟩
      · show X_iok G tn (nc + 1) (X_ug s.2 s.1 _ q)
        rw [X_ug_n _ _ hq]
        exact hs q g1 (by have : q < s.1 + 1 := g2; omega))
    refine ⟨i1.trans (by show s.1 + 1 + (h : Int) = s.1 + ((h + 1 : Nat) : Int); omega), i2, i3.trans ?_, fun q hq => (i4 q (show q < s.1 + 1 by omega)).trans (X_ug_n _ _ (by omega))⟩
    show X_Su (X_lw (X_ug s.2 s.1 _)) 0 (s.1 + 1) + _ = _
    rw [X_Su_s h0, X_Su_c (f := X_lw (X_ug s.2 s.1 (HF h, HE h, nc, (h : Int), gD G w 9 h, w, X_eh G w h, l % X_Hh G w h (HF h) (HE h)))) (g := X_lw s.2) (fun q g1 g2 => by unfold X_lw; rw [X_ug_n _ _ (by omega)])]
    rw [show ((h + 1 : Nat) : Int) = (h : Int) + 1 by omega, X_Su_s (by omega)]
    have : X_lw (X_ug s.2 s.1 (HF h, HE h, nc, (h : Int), gD G w 9 h, w, X_eh G w h, l % X_Hh G w h (HF h) (HE h))) s.1 = (HE h - HF h).toNat := by
      unfold X_lw
      rw [X_ug_s]
    rw [this]
    omega
section X_MK
variable {G : X_G} {wt nc i j p h u o en tn : Int} {St : Int → X_It} {N : Int → Int → Int} {k : Nat}
theorem X_mk_n (ht : St (wt - 1) = (i, j, p, h, u, o, en, k)) (hk : k < X_Hq G (X_T_ G) u i j) (hj : j = i + 1) : X_mk G (wt, St, nc, N) = (wt - 1, St, nc + 1, X_nn N nc (-2) i (j - i) p h) := by
  unfold X_mk
  simp only [ht]
  rw [if_pos hk, if_pos hj]
theorem X_mk_b (ht : St (wt - 1) = (i, j, p, h, u, o, en, k)) (hk : k < X_Hq G (X_T_ G) u i j) (hj : ¬ j = i + 1) : X_mk G (wt, St, nc, N) = (wt, X_ug St (wt - 1) (i + 1, j - 1, nc, 0, u, 0, 0, k), nc + 1, X_nn N nc (-3) i (j - i) p h) := by
  unfold X_mk
  simp only [ht]
  rw [if_pos hk, if_neg hj]
theorem X_mk_w {v : Int} {k2 l : Nat} {HF HE : Int → Int} (ht : St (wt - 1) = (i, j, p, h, u, o, en, k)) (hk : ¬ k < X_Hq G (X_T_ G) u i j) (hf : X_fd (X_cF G u o en i j) (gw G).toNat 0 (k - X_Hq G (X_T_ G) u i j) = (v, k2)) (hs : X_spl G v j (gD G v 3 0).toNat 0 i k2 1 (fun _ => 0) (fun _ => 0) = (l, HF, HE)) : X_mk G (wt, St, nc, N) = ((X_pus G v nc HF HE (gD G v 4 0).toNat l (wt - 1, St)).1, (X_pus G v nc HF HE (gD G v 4 0).toNat l (wt - 1, St)).2, nc + 1, X_nn N nc v i (j - i) p h) := by
  unfold X_mk
  simp only [ht]
  rw [if_neg hk, hf]
  simp only [hs]
theorem X_lw_top (ht : St (wt - 1) = (i, j, p, h, u, o, en, k)) (hw : 0 < wt) : X_Su (X_lw St) 0 wt = X_Su (X_lw St) 0 (wt - 1) + (j - i).toNat := by
  have e : X_Su (X_lw St) 0 (wt - 1 + 1) = X_Su (X_lw St) 0 (wt - 1) + X_lw St (wt - 1) := X_Su_s (by omega)
  rw [show wt - 1 + 1 = wt by omega] at e
  rw [e]
  unfold X_lw
  rw [ht]
/-- each that waits has a token at least -/
theorem X_Mok.le (hM : X_Mok G tn (wt, St, nc, N)) : wt ≤ (X_Su (X_lw St) 0 wt : Int) := by
  obtain ⟨h1, h2, h3, h4⟩ := hM
  have h1 : 0 ≤ wt := h1
  refine X_Su_ind (a := 0) (b := wt) (fun m => m ≤ wt → m ≤ (X_Su (X_lw St) 0 m : Int)) (fun _ => by omega) (fun m g1 g2 ih g3 => ?_) h1 (Int.le_refl _)
  have hi := (h3 m g1 g2).1
  have : 1 ≤ X_lw St m := by
    unfold X_lw
    have hi2 : (St m).1 < (St m).2.1 := hi.2.1
    omega
  rw [X_Su_s g1]
  have := ih (by omega)
  omega
theorem X_Mok_n (hM : X_Mok G tn (wt, St, nc, N)) (hw : 0 < wt) (ht : St (wt - 1) = (i, j, p, h, u, o, en, k)) {N' : Int → Int → Int} : X_Mok G tn (wt - 1, St, nc + 1, N') := by
  obtain ⟨h1, h2, h3, h4⟩ := hM
  have h1 : 0 ≤ wt := h1
  have h2 : 0 ≤ nc := h2
  have h4 : nc + (X_Su (X_lw St) 0 wt : Int) ≤ tn := h4
  have hi : 0 ≤ i ∧ i < j ∧ j ≤ tn := by
    have := (h3 (wt - 1) (by omega) (show wt - 1 < wt by omega)).1
    rw [show (wt, St, nc, N).2.1 (wt - 1) = (i, j, p, h, u, o, en, k) from ht] at this
    exact this
  rw [X_lw_top ht hw] at h4
  refine ⟨show 0 ≤ wt - 1 by omega, show 0 ≤ nc + 1 by omega, fun q g1 g2 => (h3 q g1 (show q < wt by have : q < wt - 1 := g2; omega)).up, ?_⟩
  show nc + 1 + (X_Su (X_lw St) 0 (wt - 1) : Int) ≤ tn
  omega
theorem X_Mok_b (hG : X_Gok G) (h30 : tn ≤ 30) (hM : X_Mok G tn (wt, St, nc, N)) (hw : 0 < wt) (ht : St (wt - 1) = (i, j, p, h, u, o, en, k)) (hk : k < X_Hq G (X_T_ G) u i j) (hj : ¬ j = i + 1) {N' : Int → Int → Int} : X_brk G i j ∧ X_Mok G tn (wt, X_ug St (wt - 1) (i + 1, j - 1, nc, 0, u, 0, 0, k), nc + 1, N') := by
  obtain ⟨h1, h2, h3, h4⟩ := hM
  have h1 : 0 ≤ wt := h1
  have h2 : 0 ≤ nc := h2
  have h4 : nc + (X_Su (X_lw St) 0 wt : Int) ≤ tn := h4
  have hi := h3 (wt - 1) (by omega) (show wt - 1 < wt by omega)
  rw [show (wt, St, nc, N).2.1 (wt - 1) = (i, j, p, h, u, o, en, k) from ht] at hi
  have hij : 0 ≤ i ∧ i < j ∧ j ≤ tn := hi.1
  have hbk : X_brk G i j := Classical.byContradiction (fun z => by
    rw [X_Hq_b hG hij.2.1 (by omega) hj, X_if_f z] at hk
    omega)
  rw [X_Hq_b hG hij.2.1 (by omega) hj, X_if_t hbk] at hk
  rw [X_lw_top ht hw] at h4
  refine ⟨hbk, h1, show 0 ≤ nc + 1 by omega, fun q g1 g2 => ?_, ?_⟩
  · show X_iok G tn (nc + 1) (X_ug St (wt - 1) (i + 1, j - 1, nc, 0, u, 0, 0, k) q)
    by_cases hq : q = wt - 1
    · subst hq
      rw [X_ug_s]
      have hb1 := hbk.1
      exact ⟨⟨show 0 ≤ i + 1 by omega, show i + 1 < j - 1 by omega, show j - 1 ≤ tn by omega⟩, Or.inl ⟨show -1 ≤ nc by omega, show nc < nc + 1 by omega⟩, ⟨(show (-1 : Int) ≤ 0 by omega), (show (0 : Int) ≤ 3 by omega)⟩, fun _ => Int.le_refl (0 : Int), hi.2.2.2.2.1, ⟨Int.le_refl (0 : Int), Or.inr rfl, (show (0 : Int) < 30 by omega)⟩, ⟨Int.le_refl (0 : Int), (show (0 : Int) ≤ 2 by omega)⟩, hk, hi.2.2.2.2.2.2.2.2⟩
    · rw [X_ug_n _ _ hq]
      exact (h3 q g1 g2).up
  · show nc + 1 + (X_Su (X_lw (X_ug St (wt - 1) (i + 1, j - 1, nc, 0, u, 0, 0, k))) 0 wt : Int) ≤ tn
    have hb1 := hbk.1
    rw [X_lw_top (wt := wt) (St := X_ug St (wt - 1) (i + 1, j - 1, nc, 0, u, 0, 0, k)) (X_ug_s _ _ _) hw, X_Su_c (g := X_lw St) (fun q g1 g2 => by unfold X_lw; rw [X_ug_n _ _ (by omega)])]
    omega
theorem X_Mok_w (hG : X_Gok G) (h30 : tn ≤ 30) (hM : X_Mok G tn (wt, St, nc, N)) (hw : 0 < wt) (ht : St (wt - 1) = (i, j, p, h, u, o, en, k)) {v : Int} {k2 l : Nat} {HF HE : Int → Int} (hv : 0 ≤ v ∧ v < gw G) (hk2 : k2 < (X_T_ G).1 v i j) (hk3 : k2 ≤ 9223372036854775807) (hs : X_spl G v j (gD G v 3 0).toNat 0 i k2 1 (fun _ => 0) (fun _ => 0) = (l, HF, HE)) (hl : l ≤ 9223372036854775807) {N' : Int → Int → Int} :
    (∀ x, 0 ≤ x → x < gD G v 4 0 → (i ≤ HF x ∧ HF x < HE x ∧ HE x ≤ j) ∧ 0 < X_Hh G v x (HF x) (HE x)) ∧ wt - 1 + gD G v 4 0 + nc + 1 ≤ tn ∧ (X_pus G v nc HF HE (gD G v 4 0).toNat l (wt - 1, St)).1 = wt - 1 + gD G v 4 0 ∧ X_Mok G tn ((X_pus G v nc HF HE (gD G v 4 0).toNat l (wt - 1, St)).1, (X_pus G v nc HF HE (gD G v 4 0).toNat l (wt - 1, St)).2, nc + 1, N') := by
  have hle := X_Mok.le hM
  obtain ⟨h1, h2, h3, h4⟩ := hM
  have h1 : 0 ≤ wt := h1
  have h2 : 0 ≤ nc := h2
  have h4 : nc + (X_Su (X_lw St) 0 wt : Int) ≤ tn := h4
  have hi := h3 (wt - 1) (by omega) (show wt - 1 < wt by omega)
  rw [show (wt, St, nc, N).2.1 (wt - 1) = (i, j, p, h, u, o, en, k) from ht] at hi
  have hij : 0 ≤ i ∧ i < j ∧ j ≤ tn := hi.1
  have hg := hG.2.2.2 v hv.1 hv.2
  have hgs := hg.1
  have hgh := hg.2.1
  rw [X_T_W hg.2.2.1 hij.2.1 (by omega)] at hk2
  have hsp := X_spl_ok (j := j) hg (gD G v 3 0).toNat 0 i k2 1 (fun _ => 0) (fun _ => 0) (Int.le_refl 0) (by omega) (by omega) (by rw [Nat.one_mul]; exact hk2)
  rw [hs] at hsp
  have z0 : X_hn (gW G v) 0 = 0 := rfl
  rw [z0] at hsp
  obtain ⟨-, s2, s3⟩ := hsp
  have s2 : ∀ x, 0 ≤ x → x < gD G v 4 0 → i ≤ HF x ∧ HF x < HE x ∧ HE x ≤ j ∧ 0 < X_Hh G v x (HF x) (HE x) := s2
  have s3 : (X_Su (fun h => (HE h - HF h).toNat) 0 (gD G v 4 0) : Int) = j - i - ((gD G v 3 0 - 0) - (gD G v 4 0 - 0)) := s3
  rw [X_lw_top ht hw] at h4 hle
  have hp := X_pus_ok (tn := tn) (nc := nc) (HF := HF) (HE := HE) hG hv h2 (gD G v 4 0).toNat l (wt - 1, St) (by omega) (fun x g1 g2 => by have := s2 x g1 (by omega); exact ⟨by omega, this.2.2.2⟩) hl (show 0 ≤ wt - 1 by omega) (fun q g1 g2 => (h3 q g1 (show q < wt by have : q < wt - 1 := g2; omega)).up)
  obtain ⟨p1, p2, p3, -⟩ := hp
  have p1 : (X_pus G v nc HF HE (gD G v 4 0).toNat l (wt - 1, St)).1 = wt - 1 + ((gD G v 4 0).toNat : Int) := p1
  have p3 : X_Su (X_lw (X_pus G v nc HF HE (gD G v 4 0).toNat l (wt - 1, St)).2) 0 (X_pus G v nc HF HE (gD G v 4 0).toNat l (wt - 1, St)).1 = X_Su (X_lw St) 0 (wt - 1) + X_Su (fun x => (HE x - HF x).toNat) 0 ((gD G v 4 0).toNat : Int) := p3
  rw [show ((gD G v 4 0).toNat : Int) = gD G v 4 0 by omega] at p1 p3
  have hM' : X_Mok G tn ((X_pus G v nc HF HE (gD G v 4 0).toNat l (wt - 1, St)).1, (X_pus G v nc HF HE (gD G v 4 0).toNat l (wt - 1, St)).2, nc + 1, N') := by
    refine ⟨show 0 ≤ (X_pus G v nc HF HE (gD G v 4 0).toNat l (wt - 1, St)).1 by omega, show 0 ≤ nc + 1 by omega, p2, ?_⟩
    show nc + 1 + (X_Su (X_lw (X_pus G v nc HF HE (gD G v 4 0).toNat l (wt - 1, St)).2) 0 (X_pus G v nc HF HE (gD G v 4 0).toNat l (wt - 1, St)).1 : Int) ≤ tn
    rw [p3]
    omega
  have hl2 := X_Mok.le hM'
  rw [p3, p1] at hl2
  exact ⟨fun x g1 g2 => by have := s2 x g1 g2; exact ⟨by omega, this.2.2.2⟩, by omega, p1, hM'⟩
end X_MK
