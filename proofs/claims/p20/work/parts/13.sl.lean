/-! A BOOK THAT IS TOLD is fit for counting -/
def X_wp (d : Nat → Int → Int) (q : Int → Int64) : Prop := ∀ e, 0 ≤ e → e < d 3 0 → ¬ q e = 0 → X_pt (q e)
theorem X_wp.P {d : Nat → Int → Int} {q : Int → Int64} {t : Int64} (h : X_wp d q) (ht : X_pt t) : X_wp (X_aP d) (X_ug q (d 3 0) t) := fun e h1 h2 h3 => by
  have h2 : e < d 3 0 + 1 := h2
  by_cases he : e = d 3 0
  · rw [he, X_ug_s]; exact ht
  · rw [X_ug_n _ _ he] at h3 ⊢
    exact h e h1 (by omega) h3
theorem X_wp.H {d : Nat → Int → Int} {q : Int → Int64} {k : Int} (h : X_wp d q) : X_wp (X_aH d k) (X_ug q (d 3 0) 0) := fun e h1 h2 h3 => by
  have h2 : e < d 3 0 + 1 := h2
  by_cases he : e = d 3 0
  · rw [he, X_ug_s] at h3; exact absurd rfl h3
  · rw [X_ug_n _ _ he] at h3 ⊢
    exact h e h1 (by omega) h3
theorem sp_el_pt {n : Int} {so : Int → Int} {ct : Int → Int64} {kn : Int → Int64} {kc : Int} (hct : ∀ i, 0 ≤ i → i < n → so i = 6 → X_pt (ct i)) : ∀ (k : Nat) (c : Int) (d : Nat → Int → Int) (q : Int → Int64) (r : Int × (Nat → Int → Int) × (Int → Int64)), (0 ≤ c ∧ c < n) → sp_el n so ct kn kc k c d q = some r → X_wp d q → X_wp r.2.1 r.2.2 := by
  intro k
  induction k with
  | zero => intro c d q r hcr h; cases h
  | succ k ih =>
    intro c d q r hcr h ho
    unfold sp_el at h
    split at h
    · cases h; exact ho
    · split at h
      · cases h; exact ho
      · split at h
        · rename_i h6
          exact ih _ _ _ _ (X_av_r hcr) h (ho.P (hct _ hcr.1 hcr.2 h6.1))
        · split at h
          · split at h
            · split at h
              · cases h
              · exact ih _ _ _ _ (X_av_r (X_av_r hcr)) h ho.H
            · exact ih _ _ _ _ (X_av_r hcr) h ho.H
          · cases h
theorem sp_wb_pt {n : Int} {so : Int → Int} {ct : Int → Int64} {kn : Int → Int64} {kc c : Int} {d : Nat → Int → Int} {q : Int → Int64} {r : Int × (Nat → Int → Int) × (Int → Int64)} (hkc : 1 ≤ kc) (hct : ∀ i, 0 ≤ i → i < n → so i = 6 → X_pt (ct i)) (hct0 : ∀ i, 0 ≤ i → i < n → so i = 6 → ¬ ct i = 0) (hcr : 0 ≤ c ∧ c < n) (h3 : d 3 0 = 0) (h4 : d 4 0 = 0) (h : sp_wb n so ct kn kc c d q = some r) : X_wp r.2.1 r.2.2 := by
  unfold sp_wb at h
  split at h
  · cases hs : sp_el n so ct kn kc 9 (X_av n c) d q with
    | none => rw [hs] at h; cases h
    | some z =>
      rw [hs] at h
      have h : sp_we n so ct z.1 z.2.1 z.2.2 = some r := h
      have b0 := sp_el_pt hct _ _ _ _ _ (X_av_r hcr) hs (fun e h1 h2 => by omega)
      obtain ⟨-, -, -, b3⟩ := sp_el_ok hkc hct0 _ _ _ _ _ (X_av_r hcr) hs (X_eok_0 h3 h4)
      obtain ⟨e1, -, e3, -, -⟩ := sp_we_ok b3 h
      intro e g1 g2 g3
      rw [e3 3 (by decide) (by decide) (by decide)] at g2
      rw [e1] at g3 ⊢
      exact b0 e g1 g2 g3
  · cases h
theorem sp_wk_pt {n : Int} {so : Int → Int} {ct : Int → Int64} {kn : Int → Int64} {kc c : Int} {d : Nat → Int → Int} {q : Int → Int64} {r : Int × (Nat → Int → Int) × (Int → Int64)} (hkc : 1 ≤ kc) (hct : ∀ i, 0 ≤ i → i < n → so i = 6 → X_pt (ct i)) (hct0 : ∀ i, 0 ≤ i → i < n → so i = 6 → ¬ ct i = 0) (hcr : 0 ≤ c ∧ c < n) (h3 : d 3 0 = 0) (h4 : d 4 0 = 0) (h : sp_wk n so ct kn kc c d q = some r) : X_wp r.2.1 r.2.2 := by
  unfold sp_wk at h
  split at h
  · split at h
    · cases h
    · exact sp_wb_pt (d := X_wu d 2 (fun _ => X_ix kn kc (ct c))) hkc hct hct0 (X_av_r hcr) h3 h4 h
  · exact sp_wb_pt (d := X_wu d 2 (fun _ => 0)) hkc hct hct0 hcr h3 h4 h
/-- kinds: each is under itself and all; parts are parts -/
def X_Kab (kc : Int) (ab : Int → Int) : Prop := (∀ k, 0 ≤ k → k < kc → X_bt (ab k) 0 ∧ X_bt (ab k) k) ∧ ∀ k u, 0 ≤ k → k < kc → 0 ≤ u → u < 32 → X_bt (ab k) u → u < kc
def X_Kp2 (K : X_Kp) : Prop := X_Kab K.2.2.1 K.2.2.2.2.2.2.2.1 ∧ ∀ w, 0 ≤ w → w < K.2.2.2.1 → X_wp (K.2.2.2.2.2.2.2.2.1 w) (K.2.2.2.2.2.2.2.2.2 w)
theorem X_Kab.ad {kc u : Int} {ab : Int → Int} (h : X_Kab kc ab) (hk : 1 ≤ kc ∧ kc < 11) (hu : 0 ≤ u ∧ u < kc) : X_Kab (kc + 1) (X_ug ab kc (X_bO (ab u) (X_bS kc))) := by
  refine ⟨fun k h1 h2 => ?_, fun k v h1 h2 h3 h4 h5 => ?_⟩
  · by_cases he : k = kc
    · rw [he, X_ug_s]
      exact ⟨(X_bt_or _ _ _ (by omega)).mpr (Or.inl (h.1 u hu.1 hu.2).1), (X_bt_or _ _ _ (by omega)).mpr (Or.inr ((X_bt_sh _ _ (by omega) (by omega)).mpr rfl))⟩
    · rw [X_ug_n _ _ he]
      exact h.1 k h1 (by omega)
  · by_cases he : k = kc
    · rw [he, X_ug_s, X_bt_or _ _ _ (by omega), X_bt_sh _ _ (by omega) (by omega)] at h5
      rcases h5 with h5 | h5
      · have := h.2 u v hu.1 hu.2 h3 h4 h5; omega
      · omega
    · rw [X_ug_n _ _ he] at h5
      have := h.2 k v h1 (by omega) h3 h4 h5
      omega
theorem sp_line_p2 {n : Int} {so : Int → Int} {ct : Int → Int64} {K K' : X_Kp} (hct : ∀ i, 0 ≤ i → i < n → so i = 6 → X_pt (ct i)) (hct0 : ∀ i, 0 ≤ i → i < n → so i = 6 → ¬ ct i = 0) (hcr : 0 ≤ K.1 ∧ K.1 < n) (hK : X_Kok K) (h2 : X_Kp2 K) (h : sp_line n so ct K = some K') : X_Kp2 K' := by
  obtain ⟨c, rc, kc, wc, rn, lo, kn, ab, D, W⟩ := K
  have hkc := hK.2.1.1
  obtain ⟨hab, hwp⟩ := h2
  simp only at hkc hcr hab hwp
  unfold sp_line at h
  split at h
  · simp only [sp_rank] at h
    repeat' split at h
    all_goals first | (cases h; done) | (cases h; exact ⟨hab, hwp⟩)
  · split at h
    · simp only [sp_tight] at h
      repeat' split at h
      all_goals first | (cases h; done) | (cases h; exact ⟨hab, hwp⟩)
    · split at h
      · have hk11 : kc ≤ 11 := hK.2.1.2
        simp only [sp_kind] at h
        split at h
        · cases h
        · split at h
          · split at h
            · split at h
              · split at h
                · split at h
                  · cases h
                  · split at h
                    · cases h
                      have hr := X_ix_r (g := kn) (n := kc) (x := ct (X_av n (X_av n (X_av n c)))) (by omega)
                      exact ⟨X_Kab.ad hab ⟨hkc, by omega⟩ ⟨by omega, by omega⟩, hwp⟩
                    · cases h
                · cases h
              · split at h
                · cases h
                  exact ⟨X_Kab.ad hab ⟨hkc, by omega⟩ ⟨Int.le_refl _, by omega⟩, hwp⟩
                · cases h
            · cases h
          · cases h
      · split at h
        · simp only [sp_word] at h
          split at h
          · cases h
          · split at h
            · split at h
              · cases h
              · cases hs : sp_wk n so ct kn kc (X_lnC n so ct (X_av n (X_av n c))) (X_wu (X_clr (D wc) (X_ix rn rc (ct (X_av n c)))) 1 (fun _ => X_lnV so ct (X_av n (X_av n c)) 0)) (W wc) with
                | none => rw [hs] at h; cases h
                | some z =>
                  rw [hs] at h
                  cases h
                  refine ⟨hab, fun w g1 g2 => ?_⟩
                  have g2 : w < wc + 1 := g2
                  show X_wp (X_ug D wc z.2.1 w) (X_ug W wc z.2.2 w)
                  by_cases hw : w = wc
                  · rw [hw, X_ug_s, X_ug_s]
                    exact sp_wk_pt hkc hct hct0 (X_lnC_r (X_av_r (X_av_r hcr))) rfl rfl hs
                  · rw [X_ug_n _ _ hw, X_ug_n _ _ hw]
                    exact hwp w g1 (show w < wc by omega)
            · cases h
        · cases h
theorem sp_lines_p2 {n : Int} {so : Int → Int} {ct : Int → Int64} (hct : ∀ i, 0 ≤ i → i < n → so i = 6 → X_pt (ct i)) (hct0 : ∀ i, 0 ≤ i → i < n → so i = 6 → ¬ ct i = 0) : ∀ (m : Nat) (K K' : X_Kp), (0 ≤ K.1 ∧ K.1 < n) → X_Kok K → X_K4 K → X_Kp2 K → sp_lines n so ct m K = some K' → X_Kok K' ∧ X_K4 K' ∧ X_Kp2 K' := by
  intro m
  induction m with
  | zero => intro K K' _ h1 h2 h3 h; cases h; exact ⟨h1, h2, h3⟩
  | succ m ih =>
    intro K K' hc h1 h2 h3 h
    have h : (if so K.1 = 0 then some K else (sp_line n so ct K).bind (sp_lines n so ct m)) = some K' := h
    split at h
    · cases h; exact ⟨h1, h2, h3⟩
    · cases hs : sp_line n so ct K with
      | none => rw [hs] at h; cases h
      | some z =>
        rw [hs] at h
        have a := sp_line_ok hct0 hc h1 hs
        exact ih z K' a.2 a.1 (sp_line_h4 hct0 hc h1 h2 hs) (sp_line_p2 hct hct0 hc h1 h3 hs) h
/-- a word's hole fits as the class tells it -/
theorem X_fi_lt {G : X_G} {w e v : Int} (he : 0 ≤ e) (h2 : 1 < gD G w 3 0) : X_fi (gl G) (gD G) (gW G) (gD G w) e v ↔ X_lt G w (X_eo G w e) v := by
  unfold X_fi X_lt X_eo
  by_cases h0 : e = 0
  · rw [if_pos h0]
    constructor
    · rintro (⟨a, -⟩ | a | a | ⟨a | a, b⟩)
      · exact absurd h0 a
      · exact Or.inr (Or.inl a)
      · exact Or.inr (Or.inr (Or.inl a))
      · exact Or.inr (Or.inr (Or.inr ⟨b, a.2⟩))
      · omega
    · rintro (a | a | a | ⟨a, b⟩)
      · omega
      · exact Or.inr (Or.inl a)
      · exact Or.inr (Or.inr (Or.inl a))
      · exact Or.inr (Or.inr (Or.inr ⟨Or.inl ⟨h0, b⟩, a⟩))
  · rw [if_neg h0]
    by_cases hl : e = gD G w 3 0 - 1
    · rw [if_pos hl]
      constructor
      · rintro (⟨-, a⟩ | a | a | ⟨a | a, b⟩)
        · exact absurd hl a
        · exact Or.inr (Or.inl a)
        · exact Or.inr (Or.inr (Or.inl a))
        · exact absurd a.1 h0
        · exact Or.inr (Or.inr (Or.inr ⟨b, a.2⟩))
      · rintro (a | a | a | ⟨a, b⟩)
        · omega
        · exact Or.inr (Or.inl a)
        · exact Or.inr (Or.inr (Or.inl a))
        · exact Or.inr (Or.inr (Or.inr ⟨Or.inr ⟨hl, b⟩, a⟩))
    · rw [if_neg hl]
      exact ⟨fun _ => Or.inl rfl, fun _ => Or.inl ⟨h0, hl⟩⟩
theorem X_Gok_of {c rc kc wc : Int} {rn : Int → Int64} {lo : Int → Int} {kn : Int → Int64} {ab : Int → Int} {D D2 : Int → Nat → Int → Int} {W : Int → Int → Int64} {tt : Int → Int64} (hK : X_Kok (c, rc, kc, wc, rn, lo, kn, ab, D, W)) (h4 : X_K4 (c, rc, kc, wc, rn, lo, kn, ab, D, W)) (h2 : X_Kp2 (c, rc, kc, wc, rn, lo, kn, ab, D, W)) (hD : X_sD D D2) (hT : ∀ w, 0 ≤ w → w < wc → ∀ e, X_hl (D w) (W w) e → X_tkn lo ab kc wc D W w e (D2 w 11 (D w 8 e)) (D2 w 10 (D w 8 e))) : X_Gok (kc, wc, lo, ab, D2, W, tt) ∧ X_Gst (kc, wc, lo, ab, D2, W, tt) := by
  obtain ⟨a1, a2, a3, a4⟩ := hK
  obtain ⟨hab, hwp⟩ := h2
  simp only at a1 a2 a3 a4 hab hwp
  have e : ∀ w f, f ≠ 10 → f ≠ 11 → D2 w f = D w f := hD
  have h4 : ∀ w, 0 ≤ w → w < wc → D w 4 0 ≤ 4 := h4
  refine ⟨⟨a3, a2, hab, fun w g1 g2 => ?_⟩, fun w g1 g2 => ?_⟩
  · obtain ⟨⟨b1, b2, b3, b4⟩, b5, b6, b7, b8, b9, b10⟩ := a4 w g1 g2
    have hp := hwp w g1 g2
    have h4w := h4 w g1 g2
    have hh := X_hn_b (q := W w) b1.1
    have q0 := e w 0 (by decide) (by decide)
    have q1 := e w 1 (by decide) (by decide)
    have q2 := e w 2 (by decide) (by decide)
    have q3 := e w 3 (by decide) (by decide)
    have q4 := e w 4 (by decide) (by decide)
    have q8 := e w 8 (by decide) (by decide)
    have q9 := e w 9 (by decide) (by decide)
    have hpw : X_pw (kc, wc, lo, ab, D2, W, tt) w := by
      refine ⟨show 1 ≤ D2 w 3 0 by rw [q3]; omega, ?_⟩
      by_cases h1 : 1 < D w 3 0
      · exact Or.inl (show 1 < D2 w 3 0 by rw [q3]; exact h1)
      · refine Or.inr (fun z => ?_)
        have z : W w 0 = 0 := z
        have s := X_hn_s (q := W w) (e := 0) (Int.le_refl 0)
        have z0 : X_hn (W w) 0 = 0 := rfl
        rw [if_pos z, z0] at s
        have e1 : D w 3 0 = 0 + 1 := by omega
        rw [e1, s] at b2
        omega
    refine ⟨show 1 ≤ D2 w 3 0 ∧ D2 w 3 0 ≤ 8 by rw [q3]; omega, show 0 ≤ D2 w 4 0 ∧ D2 w 4 0 ≤ 4 ∧ D2 w 4 0 < D2 w 3 0 by rw [q3, q4]; omega, hpw, show 0 ≤ D2 w 0 0 ∧ D2 w 0 0 ≤ 11 by rw [q0]; omega, show 0 ≤ D2 w 1 0 ∧ D2 w 1 0 ≤ 2 by rw [q1]; omega, show 0 ≤ D2 w 2 0 ∧ D2 w 2 0 < kc by rw [q2]; exact b7, show D2 w 4 0 = X_hn (W w) (D2 w 3 0) by rw [q3, q4]; exact b2, fun z z1 z2 z3 => ?_, fun z z1 z2 => ?_, fun z z1 z2 z3 => ?_, fun z z1 z2 z3 => ?_⟩
    · have z2 : z < D2 w 3 0 := z2
      rw [q3] at z2
      show D2 w 8 z = X_hn (W w) z
      rw [q8]
      exact b3 z z1 z2 z3
    · have z2 : z < D2 w 4 0 := z2
      rw [q4] at z2
      show 0 ≤ D2 w 9 z ∧ D2 w 9 z < kc
      rw [q9]
      exact b4 z z1 z2
    · have z2 : z < D2 w 3 0 := z2
      rw [q3] at z2
      exact hp z z1 z2 z3
    · have z2 : z < D2 w 3 0 := z2
      rw [q3] at z2
      obtain ⟨t1, t2⟩ := hT w g1 g2 z ⟨z1, z2, z3⟩
      have h1z : 1 < D2 w 3 0 := by
        rcases hpw.2 with y | y
        · exact y
        · rw [q3]
          refine Classical.byContradiction (fun x => ?_)
          have : z = 0 := by omega
          rw [this] at z3
          exact y z3
      constructor
      · intro k k1 k2
        show X_bt (D2 w 11 (D2 w 8 z)) k ↔ k < kc ∧ X_bt (ab k) (D2 w 9 (D2 w 8 z))
        rw [q8, q9]
        exact t1 k k1 k2
      · intro v v1 v2
        have hft := X_fi_lt (G := (kc, wc, lo, ab, D2, W, tt)) (w := w) (e := z) (v := v) z1 h1z
        show X_bt (D2 w 10 (D2 w 8 z)) v ↔ v < wc ∧ X_bt (ab (D2 v 2 0)) (D2 w 9 (D2 w 8 z)) ∧ _
        rw [q8, q9, ← hft, t2 v v1 v2, e v 2 (by decide) (by decide)]
        show v < wc ∧ X_bt (D2 w 11 (D w 8 z)) (D v 2 0) ∧ X_fi lo D W (D w) z v ↔ v < wc ∧ X_bt (ab (D v 2 0)) (D w 9 (D w 8 z)) ∧ X_fi lo D2 W (D2 w) z v
        rw [X_fi_c (D := D) (D' := D2) (d := D w) (d' := D2 w) hD q0 q1 q3]
        constructor
        · rintro ⟨y1, y2, y3⟩
          have hk := (a4 v v1 y1).2.2.2.1
          exact ⟨y1, ((t1 _ hk.1 (by omega)).mp y2).2, y3⟩
        · rintro ⟨y1, y2, y3⟩
          have hk := (a4 v v1 y1).2.2.2.1
          exact ⟨y1, (t1 _ hk.1 (by omega)).mpr ⟨hk.2, y2⟩, y3⟩
  · obtain ⟨-, -, -, -, -, -, b10⟩ := a4 w g1 g2
    have q4 := e w 4 (by decide) (by decide)
    have q5 := e w 5 (by decide) (by decide)
    have q12 := e w 12 (by decide) (by decide)
    have q13 := e w 13 (by decide) (by decide)
    show D2 w 5 0 = -1 ∨ (X_sok (D2 w) ∧ D2 w 5 0 ≤ 30 ∧ X_ph (D2 w 12) (D2 w 5 0).toNat = 1)
    unfold X_sok
    rw [q4, q5, q12, q13]
    exact b10
