/-- a token is one alone -/
theorem X_TokN_u {tb : Int → Int} {len p r r' : Int} {ct ct' : Int64} {e e' : Int} (h : X_TokN tb len p r ct e) (h' : X_TokN tb len p r' ct' e') : r = r' ∧ ct = ct' ∧ e = e' := by
  obtain ⟨-, h1, h2⟩ := h
  obtain ⟨-, g1, g2⟩ := h'
  have he : e = e' := h1.trans g1.symm
  subst he
  rcases h2 with ⟨a1, a2, a3⟩ | ⟨a1, a2, a3⟩ <;> rcases g2 with ⟨b1, b2, b3⟩ | ⟨b1, b2, b3⟩
  · exact ⟨a2.trans b2.symm, a3.trans b3.symm, rfl⟩
  · omega
  · omega
  · have hc : ct = ct' := a2.trans b2.symm
    subst hc
    rcases a3 with ⟨c1, c2⟩ | ⟨c1, c2⟩ <;> rcases b3 with ⟨d1, d2⟩ | ⟨d1, d2⟩
    · exact ⟨c2.trans d2.symm, rfl, rfl⟩
    · exact absurd c1 d1
    · exact absurd d1 c1
    · exact ⟨c2.trans d2.symm, rfl, rfl⟩
theorem X_TokD_u {tb : Int → Int} {len p r r' : Int} {ct ct' : Int64} {e e' : Int} (h : X_TokD tb len p r ct e) (h' : X_TokD tb len p r' ct' e') : r = r' ∧ ct = ct' ∧ e = e' := by
  obtain ⟨-, h1, h2⟩ := h
  obtain ⟨-, g1, g2⟩ := h'
  have he : e = e' := h1.trans g1.symm
  subst he
  rcases h2 with ⟨a1, a2, a3⟩ | ⟨a1, a2, a3, a4⟩ <;> rcases g2 with ⟨b1, b2, b3⟩ | ⟨b1, b2, b3, b4⟩
  · exact ⟨a2.trans b2.symm, a3.trans b3.symm, rfl⟩
  · rcases a1 with a1 | a1
    · omega
    · exact absurd a1 b2
  · rcases b1 with b1 | b1
    · omega
    · exact absurd b1 a2
  · exact ⟨by omega, a3.trans b3.symm, rfl⟩
theorem X_TokP_u {tb : Int → Int} {len p r r' : Int} {ct ct' : Int64} {e e' : Int} (h : X_TokP tb len p r ct e) (h' : X_TokP tb len p r' ct' e') : r = r' ∧ ct = ct' ∧ e = e' := by
  obtain ⟨-, m, h1, h2⟩ := h
  obtain ⟨-, m', g1, g2⟩ := h'
  have he : m = m' := h1.trans g1.symm
  subst he
  rcases h2 with ⟨a1, a2, a3, a4⟩ | ⟨a1, a2, a3, a4, a5, a6⟩ <;> rcases g2 with ⟨b1, b2, b3, b4⟩ | ⟨b1, b2, b3, b4, b5, b6⟩
  · exact ⟨a2.trans b2.symm, a3.trans b3.symm, a4.trans b4.symm⟩
  · rcases a1 with a1 | a1 | a1
    · exact absurd b1 a1
    · omega
    · exact absurd a1 b3
  · rcases b1 with b1 | b1 | b1
    · exact absurd a1 b1
    · omega
    · exact absurd b1 a3
  · exact ⟨a4.trans b4.symm, a5.trans b5.symm, a6.trans b6.symm⟩
theorem X_TokS_u {tb : Int → Int} {len p r r' : Int} {ct ct' : Int64} {e e' : Int} (h : X_TokS tb len p r ct e) (h' : X_TokS tb len p r' ct' e') : r = r' ∧ ct = ct' ∧ e = e' := by
  obtain ⟨-, -, -, -, h1, h2, h3⟩ := h
  obtain ⟨-, -, -, -, g1, g2, g3⟩ := h'
  refine ⟨?_, h1.trans g1.symm, h2.trans g2.symm⟩
  rcases h3 with ⟨a1, a2, a3⟩ | ⟨a1, a2⟩ <;> rcases g3 with ⟨b1, b2, b3⟩ | ⟨b1, b2⟩
  · exact a3.trans b3.symm
  · rcases b1 with b1 | b1
    · exact absurd a1 b1
    · exact absurd b1 a2
  · rcases a1 with a1 | a1
    · exact absurd b1 a1
    · exact absurd a1 b2
  · exact a2.trans b2.symm
theorem X_Tok_u {tb : Int → Int} {len p r r' : Int} {ct ct' : Int64} {e e' : Int} (h : X_Tok tb len p r ct e) (h' : X_Tok tb len p r' ct' e') : r = r' ∧ ct = ct' ∧ e = e' := by
  have k1 : ∀ {r ct e}, X_TokN tb len p r ct e → X_isL (X_at tb len p) := fun h => h.1
  have k2 : ∀ {r ct e}, X_TokD tb len p r ct e → X_isD (X_at tb len p) := fun h => h.1
  have k3 : ∀ {r ct e}, X_TokP tb len p r ct e → X_at tb len p = 34 := fun h => h.1
  have k4 : ∀ {r ct e}, X_TokS tb len p r ct e → ¬ X_isL (X_at tb len p) ∧ ¬ X_isD (X_at tb len p) ∧ ¬ X_at tb len p = 34 ∧ ¬ X_at tb len p = -1 := fun h => ⟨h.1, h.2.1, h.2.2.1, h.2.2.2.1⟩
  unfold X_isL at k1 k4
  unfold X_isD at k2 k4
  rcases h with ⟨a1, a2, a3, a4⟩ | h | h | h | h <;> rcases h' with ⟨b1, b2, b3, b4⟩ | h' | h' | h' | h'
  · exact ⟨a2.trans b2.symm, a3.trans b3.symm, a4.trans b4.symm⟩
  · have := k1 h'; omega
  · have := k2 h'; omega
  · have := k3 h'; omega
  · have := k4 h'; omega
  · have := k1 h; omega
  · exact X_TokN_u h h'
  · have := k1 h; have := k2 h'; omega
  · have := k1 h; have := k3 h'; omega
  · have := k1 h; have := k4 h'; omega
  · have := k2 h; omega
  · have := k2 h; have := k1 h'; omega
  · exact X_TokD_u h h'
  · have := k2 h; have := k3 h'; omega
  · have := k2 h; have := k4 h'; omega
  · have := k3 h; omega
  · have := k3 h; have := k1 h'; omega
  · have := k3 h; have := k2 h'; omega
  · exact X_TokP_u h h'
  · have := k3 h; have := k4 h'; omega
  · have := k4 h; omega
  · have := k4 h; have := k1 h'; omega
  · have := k4 h; have := k2 h'; omega
  · have := k4 h; have := k3 h'; omega
  · exact X_TokS_u h h'
/-- a text's tokens with their ends -/
def X_TxE (tb : Int → Int) (len n : Int) (so pl : Int → Int) (ct : Int → Int64) (E : Int → Int) : Prop := (0 ≤ len ∧ len ≤ 2000) ∧ (1 ≤ n ∧ n ≤ 2001) ∧ X_Tks tb len n so pl ct E ∧ (∀ i, 0 ≤ i → i < n - 1 → so i ≠ 0 ∧ so i ≠ 1) ∧ (so (n - 1) = 0 ∨ so (n - 1) = 1)
theorem X_by_id {x : Int} (h : -128 ≤ x ∧ x ≤ 127) : X_by x = x := by
  have key : ∀ k : Fin 256, X_by (((k : Nat) : Int) - 128) = ((k : Nat) : Int) - 128 := by decide +kernel
  have := key ⟨(x + 128).toNat, by omega⟩
  simp only at this
  rw [show (((x + 128).toNat : Nat) : Int) - 128 = x by omega] at this
  exact this
theorem sp_el_h4 {n : Int} {so : Int → Int} {ct : Int → Int64} {kn : Int → Int64} {kc : Int} : ∀ (k : Nat) (c : Int) (d : Nat → Int → Int) (q : Int → Int64) (r : Int × (Nat → Int → Int) × (Int → Int64)), sp_el n so ct kn kc k c d q = some r → d 4 0 ≤ 4 → r.2.1 4 0 ≤ 4 := by
  intro k
  induction k with
  | zero => intro c d q r h; cases h
  | succ k ih =>
    intro c d q r h h4
    have kH : ∀ z, d 4 0 < 4 → X_aH d z 4 0 ≤ 4 := fun z hz => by show d 4 0 + 1 ≤ 4; omega
    unfold sp_el at h
    split at h
    · cases h; exact h4
    · split at h
      · cases h; exact h4
      · split at h
        · exact ih _ _ _ _ h h4
        · split at h
          · rename_i h6
            split at h
            · split at h
              · cases h
              · exact ih _ _ _ _ h (kH _ h6.2.2.1)
            · exact ih _ _ _ _ h (kH _ h6.2.2.1)
          · cases h
theorem sp_wb_h4 {n : Int} {so : Int → Int} {ct : Int → Int64} {kn : Int → Int64} {kc c : Int} {d : Nat → Int → Int} {q : Int → Int64} {r : Int × (Nat → Int → Int) × (Int → Int64)} (hkc : 1 ≤ kc) (hct : ∀ i, 0 ≤ i → i < n → so i = 6 → ¬ ct i = 0) (hcr : 0 ≤ c ∧ c < n) (h3 : d 3 0 = 0) (h4 : d 4 0 = 0) (h : sp_wb n so ct kn kc c d q = some r) : r.2.1 4 0 ≤ 4 := by
  unfold sp_wb at h
  split at h
  · cases hs : sp_el n so ct kn kc 9 (X_av n c) d q with
    | none => rw [hs] at h; cases h
    | some z =>
      rw [hs] at h
      have h : sp_we n so ct z.1 z.2.1 z.2.2 = some r := h
      obtain ⟨-, -, -, b3⟩ := sp_el_ok hkc hct _ _ _ _ _ (X_av_r hcr) hs (X_eok_0 h3 h4)
      obtain ⟨-, -, e3, -, -⟩ := sp_we_ok b3 h
      rw [e3 4 (by decide) (by decide) (by decide)]
      exact sp_el_h4 _ _ _ _ _ hs (by omega)
  · cases h
theorem sp_wk_h4 {n : Int} {so : Int → Int} {ct : Int → Int64} {kn : Int → Int64} {kc c : Int} {d : Nat → Int → Int} {q : Int → Int64} {r : Int × (Nat → Int → Int) × (Int → Int64)} (hkc : 1 ≤ kc) (hct : ∀ i, 0 ≤ i → i < n → so i = 6 → ¬ ct i = 0) (hcr : 0 ≤ c ∧ c < n) (h3 : d 3 0 = 0) (h4 : d 4 0 = 0) (h : sp_wk n so ct kn kc c d q = some r) : r.2.1 4 0 ≤ 4 := by
  unfold sp_wk at h
  split at h
  · split at h
    · cases h
    · exact sp_wb_h4 (d := X_wu d 2 (fun _ => X_ix kn kc (ct c))) hkc hct (X_av_r hcr) h3 h4 h
  · exact sp_wb_h4 (d := X_wu d 2 (fun _ => 0)) hkc hct hcr h3 h4 h
def X_K4 (K : X_Kp) : Prop := ∀ w, 0 ≤ w → w < K.2.2.2.1 → K.2.2.2.2.2.2.2.2.1 w 4 0 ≤ 4
theorem sp_line_h4 {n : Int} {so : Int → Int} {ct : Int → Int64} {K K' : X_Kp} (hct : ∀ i, 0 ≤ i → i < n → so i = 6 → ¬ ct i = 0) (hcr : 0 ≤ K.1 ∧ K.1 < n) (hK : X_Kok K) (h4 : X_K4 K) (h : sp_line n so ct K = some K') : X_K4 K' := by
  obtain ⟨c, rc, kc, wc, rn, lo, kn, ab, D, W⟩ := K
  have hkc := hK.2.1.1
  simp only at hkc hcr
  unfold sp_line at h
  split at h
  · simp only [sp_rank] at h
    repeat' split at h
    all_goals first | (cases h; done) | (cases h; exact h4)
  · split at h
    · simp only [sp_tight] at h
      repeat' split at h
      all_goals first | (cases h; done) | (cases h; exact h4)
    · split at h
      · simp only [sp_kind] at h
        repeat' split at h
        all_goals first | (cases h; done) | (cases h; exact h4)
      · split at h
        · simp only [sp_word] at h
          split at h
          · cases h
          · split at h
            · split at h
              · cases h
              · cases hs : sp_wk n so ct kn kc (X_lnC n so ct (X_av n (X_av n c))) (X_wu (X_clr (D wc) (X_ix rn rc (ct (X_av n c)))) 1 (fun _ => X_lnV so ct (X_av n (X_av n c)) 0)) (W wc) with
                | none => rw [hs] at h; cases h
                | some z =>
                  rw [hs] at h
                  cases h
                  intro w g1 g2
                  have g2 : w < wc + 1 := g2
                  show X_ug D wc z.2.1 w 4 0 ≤ 4
                  by_cases hw : w = wc
                  · subst hw
                    rw [X_ug_s]
                    exact sp_wk_h4 hkc hct (X_lnC_r (X_av_r (X_av_r hcr))) rfl rfl hs
                  · rw [X_ug_n _ _ hw]
                    exact h4 w g1 (show w < wc by omega)
            · cases h
        · cases h
theorem sp_lines_at {n : Int} {so : Int → Int} {ct : Int → Int64} {m : Nat} {K : X_Kp} (hm : 0 < m) : sp_lines n so ct m K = if so K.1 = 0 then some K else (sp_line n so ct K).bind (sp_lines n so ct (m - 1)) := by
  cases m with
  | zero => omega
  | succ m => rfl
