theorem xr_162_264 : X_row 162 264 = some (264, (.aload_n 0, 1), (0, 0, 0)) := by decide +kernel
theorem xr_162_265 : X_row 162 265 = some (265, (.invokevirtual 78, 3), (141, 0, 0)) := by decide +kernel
theorem xr_162_268 : X_row 162 268 = some (268, (.aload_n 0, 1), (0, 0, 0)) := by decide +kernel
theorem xr_162_269 : X_row 162 269 = some (269, (.invokevirtual 100, 3), (140, 14, 0)) := by decide +kernel
theorem xr_162_272 : X_row 162 272 = some (272, (.ifCond .ne 6, 3), (0, 0, 0)) := by decide +kernel
theorem xr_162_278 : X_row 162 278 = some (278, (.lload_n 1, 1), (0, 0, 0)) := by decide +kernel
theorem xr_162_279 : X_row 162 279 = some (279, (.ldc2_w 45, 3), (1918987883, 1285, 0)) := by decide +kernel
theorem xr_162_282 : X_row 162 282 = some (282, (.lcmp, 1), (0, 0, 0)) := by decide +kernel
theorem xr_162_283 : X_row 162 283 = some (283, (.ifCond .ne 10, 3), (0, 0, 0)) := by decide +kernel
theorem xr_162_286 : X_row 162 286 = some (286, (.aload_n 0, 1), (0, 0, 0)) := by decide +kernel
theorem xr_162_287 : X_row 162 287 = some (287, (.invokevirtual 296, 3), (153, 20, 0)) := by decide +kernel
theorem xr_162_290 : X_row 162 290 = some (290, (.goto 37, 3), (0, 0, 0)) := by decide +kernel
theorem xr_162_293 : X_row 162 293 = some (293, (.lload_n 1, 1), (0, 0, 0)) := by decide +kernel
theorem xr_162_294 : X_row 162 294 = some (294, (.ldc2_w 47, 3), (32766990153442674, 1286, 0)) := by decide +kernel
theorem xr_162_297 : X_row 162 297 = some (297, (.lcmp, 1), (0, 0, 0)) := by decide +kernel
theorem xr_162_298 : X_row 162 298 = some (298, (.ifCond .ne 10, 3), (0, 0, 0)) := by decide +kernel
theorem xr_162_301 : X_row 162 301 = some (301, (.aload_n 0, 1), (0, 0, 0)) := by decide +kernel
theorem xr_162_302 : X_row 162 302 = some (302, (.invokevirtual 299, 3), (155, 28, 0)) := by decide +kernel
theorem xr_162_305 : X_row 162 305 = some (305, (.goto 22, 3), (0, 0, 0)) := by decide +kernel
theorem xr_162_308 : X_row 162 308 = some (308, (.lload_n 1, 1), (0, 0, 0)) := by decide +kernel
theorem xr_162_309 : X_row 162 309 = some (309, (.ldc2_w 49, 3), (1802071652, 1287, 0)) := by decide +kernel
theorem xr_162_312 : X_row 162 312 = some (312, (.lcmp, 1), (0, 0, 0)) := by decide +kernel
theorem xr_162_313 : X_row 162 313 = some (313, (.ifCond .ne 10, 3), (0, 0, 0)) := by decide +kernel
theorem xr_162_316 : X_row 162 316 = some (316, (.aload_n 0, 1), (0, 0, 0)) := by decide +kernel
theorem xr_162_317 : X_row 162 317 = some (317, (.invokevirtual 302, 3), (156, 34, 0)) := by decide +kernel
theorem xr_162_320 : X_row 162 320 = some (320, (.goto 7, 3), (0, 0, 0)) := by decide +kernel
theorem xr_162_323 : X_row 162 323 = some (323, (.aload_n 0, 1), (0, 0, 0)) := by decide +kernel
theorem xr_162_324 : X_row 162 324 = some (324, (.invokevirtual 305, 3), (157, 42, 0)) := by decide +kernel
theorem xr_162_327 : X_row 162 327 = some (327, (.goto (-214), 3), (0, 0, 0)) := by decide +kernel
theorem xn_162 : X_nL 162 = 4 := by decide +kernel
theorem xf_162 : X_na 162 = 0 ∧ X_ci 162 = 11 ∧ X_rt 162 = (some .int) := by decide +kernel
theorem X_av_le {n c : Int} : c ≤ X_av n c := by
  unfold X_av
  split <;> omega
theorem sp_el_le {n : Int} {so : Int → Int} {ct : Int → Int64} {kn : Int → Int64} {kc : Int} : ∀ (k : Nat) (c : Int) (d : Nat → Int → Int) (q : Int → Int64) (r : Int × (Nat → Int → Int) × (Int → Int64)), sp_el n so ct kn kc k c d q = some r → c ≤ r.1 := by
  intro k
  induction k with
  | zero => intro c d q r h; cases h
  | succ k ih =>
    intro c d q r h
    have h1 := X_av_le (n := n) (c := c)
    have h2 := X_av_le (n := n) (c := X_av n c)
    unfold sp_el at h
    repeat' split at h
    all_goals first
      | (cases h; done)
      | (cases h; exact Int.le_refl _)
      | (have := ih _ _ _ _ h; omega)
theorem sp_stF_le {n c s v pile : Int} {d : Nat → Int → Int} {r : Int × (Nat → Int → Int) × Int} (h : sp_stF n c s v d pile = some r) : c ≤ r.1 := by
  unfold sp_stF at h
  repeat' split at h
  all_goals first
    | (cases h; done)
    | (cases h; exact X_av_le)
theorem sp_step_le {n : Int} {so : Int → Int} {ct : Int → Int64} {c : Int} {d : Nat → Int → Int} {pile : Int} {r : Int × (Nat → Int → Int) × Int} (h : sp_step n so ct c d pile = some r) : c ≤ r.1 := by
  have h1 := X_av_le (n := n) (c := c)
  unfold sp_step at h
  repeat' split at h
  all_goals first
    | (cases h; done)
    | (have := sp_stF_le h; omega)
theorem sp_sl_le {n : Int} {so : Int → Int} {ct : Int → Int64} : ∀ (k : Nat) (c : Int) (d : Nat → Int → Int) (p : Int) (r : Int × (Nat → Int → Int) × Int), sp_sl n so ct k c d p = some r → c ≤ r.1 := by
  intro k
  induction k with
  | zero => intro c d p r h; cases h; exact Int.le_refl _
  | succ k ih =>
    intro c d p r h
    unfold sp_sl at h
    split at h
    · cases h; exact Int.le_refl _
    · cases hs : sp_step n so ct c d p with
      | none => rw [hs] at h; cases h
      | some z =>
        rw [hs] at h
        have := ih _ _ _ _ h
        have := sp_step_le hs
        omega
theorem sp_steps_le {n : Int} {so : Int → Int} {ct : Int → Int64} {c : Int} {d : Nat → Int → Int} {r : Int × (Nat → Int → Int)} (h : sp_steps n so ct c d = some r) : c ≤ r.1 := by
  unfold sp_steps at h
  cases hs : sp_sl n so ct 30 (X_av n c) (X_wu d 5 (fun _ => 0)) 0 with
  | none => rw [hs] at h; cases h
  | some z =>
    rw [hs] at h
    have h : (if so z.1 = 59 then (if z.2.2 = 1 then some (X_av n z.1, z.2.1) else none) else none) = some r := h
    have h1 := sp_sl_le _ _ _ _ _ hs
    have h2 := X_av_le (n := n) (c := c)
    have h3 := X_av_le (n := n) (c := z.1)
    repeat' split at h
    all_goals first
      | (cases h; done)
      | (cases h; show c ≤ X_av n z.1; omega)
theorem sp_we_le {n : Int} {so : Int → Int} {ct : Int → Int64} {c : Int} {d : Nat → Int → Int} {q : Int → Int64} {r : Int × (Nat → Int → Int) × (Int → Int64)} (h : sp_we n so ct c d q = some r) : c ≤ r.1 := by
  have h1 := X_av_le (n := n) (c := c)
  have key : ∀ z, (sp_steps n so ct c d).bind (fun r => some (r.1, r.2, q)) = some z → c ≤ z.1 := by
    intro z hz
    cases hs : sp_steps n so ct c d with
    | none => rw [hs] at hz; cases hz
    | some y =>
      rw [hs] at hz
      cases hz
      exact sp_steps_le hs
  unfold sp_we at h
  repeat' split at h
  all_goals first
    | (cases h; done)
    | exact key _ h
    | (cases h; exact h1)
theorem sp_wb_le {n : Int} {so : Int → Int} {ct : Int → Int64} {kn : Int → Int64} {kc c : Int} {d : Nat → Int → Int} {q : Int → Int64} {r : Int × (Nat → Int → Int) × (Int → Int64)} (h : sp_wb n so ct kn kc c d q = some r) : c ≤ r.1 := by
  unfold sp_wb at h
  split at h
  · cases hs : sp_el n so ct kn kc 9 (X_av n c) d q with
    | none => rw [hs] at h; cases h
    | some z =>
      rw [hs] at h
      have h1 := sp_we_le (show sp_we n so ct z.1 z.2.1 z.2.2 = some r from h)
      have h2 := sp_el_le _ _ _ _ _ hs
      have h3 := X_av_le (n := n) (c := c)
      omega
  · cases h
theorem sp_wk_le {n : Int} {so : Int → Int} {ct : Int → Int64} {kn : Int → Int64} {kc c : Int} {d : Nat → Int → Int} {q : Int → Int64} {r : Int × (Nat → Int → Int) × (Int → Int64)} (h : sp_wk n so ct kn kc c d q = some r) : c ≤ r.1 := by
  have h3 := X_av_le (n := n) (c := c)
  unfold sp_wk at h
  repeat' split at h
  all_goals first
    | (cases h; done)
    | (have := sp_wb_le h; omega)
theorem X_lnC_le {n : Int} {so : Int → Int} {ct : Int → Int64} {c : Int} : c ≤ X_lnC n so ct c := by
  unfold X_lnC
  split
  · exact X_av_le
  · exact Int.le_refl _
theorem sp_line_gt {n : Int} {so : Int → Int} {ct : Int → Int64} {K K' : X_Kp} (hc : K.1 + 1 < n) (h : sp_line n so ct K = some K') : K.1 + 1 ≤ K'.1 := by
  have e : X_av n K.1 = K.1 + 1 := by unfold X_av; rw [if_pos hc]
  obtain ⟨c, rc, kc, wc, rn, lo, kn, ab, D, W⟩ := K
  simp only at e hc ⊢
  have a1 := X_av_le (n := n) (c := X_av n c)
  have a2 := X_av_le (n := n) (c := X_av n (X_av n c))
  have a3 := X_av_le (n := n) (c := X_av n (X_av n (X_av n c)))
  have a4 := X_av_le (n := n) (c := X_av n (X_av n (X_av n (X_av n c))))
  unfold sp_line at h
  split at h
  · simp only [sp_rank] at h
    repeat' split at h
    all_goals first | (cases h; done) | (cases h; show c + 1 ≤ X_av n (X_av n (X_av n c)); omega)
  · split at h
    · simp only [sp_tight] at h
      repeat' split at h
      all_goals first | (cases h; done) | (cases h; show c + 1 ≤ X_av n (X_av n (X_av n (X_av n c))); omega)
    · split at h
      · simp only [sp_kind] at h
        repeat' split at h
        all_goals first
          | (cases h; done)
          | (cases h; show c + 1 ≤ X_av n (X_av n (X_av n (X_av n (X_av n c)))); omega)
          | (cases h; show c + 1 ≤ X_av n (X_av n (X_av n c)); omega)
      · split at h
        · simp only [sp_word] at h
          split at h
          · cases h
          · split at h
            · split at h
              · cases h
              · cases hs : sp_wk n so ct kn kc (X_lnC n so ct (X_av n (X_av n c))) (X_wu (X_clr (D wc) (X_ix rn rc (ct (X_av n c)))) 1 (fun _ => X_lnV so ct (X_av n (X_av n c)) 0)) (W wc) with
                | none => rw [hs] at h; cases h
                | some z =>
                  rw [hs] at h
                  cases h
                  have b1 := sp_wk_le hs
                  have b2 := X_lnC_le (n := n) (so := so) (ct := ct) (c := X_av n (X_av n c))
                  show c + 1 ≤ z.1
                  omega
            · cases h
        · cases h
/-- a bank of the reference holds what K tells -/
def R_bk (b : Int) (K : X_Kp) (rN kN : Int → Int64) (tg kU wR wL wK wM wH wS sO sN : Int → Int) (eP : Int → Int64) (eH hK : Int → Int) : Prop :=
  R_rk b K.2.1 K.2.2.2.2.1 K.2.2.2.2.2.1 rN tg ∧ R_kd b K.2.2.1 K.2.2.2.2.2.2.1 K.2.2.2.2.2.2.2.1 kN kU ∧ ∀ w, 0 ≤ w → w < K.2.2.2.1 → R_w (30 * b + w) (K.2.2.2.2.2.2.2.2.1 w) (K.2.2.2.2.2.2.2.2.2 w) wR wL wK wM wH wS sO sN eP eH hK
theorem X_Kok.wd {K : X_Kp} (h : X_Kok K) : ∀ w, 0 ≤ w → w < K.2.2.2.1 → K.2.2.2.2.2.2.2.2.1 w 3 0 ≤ 8 ∧ K.2.2.2.2.2.2.2.2.1 w 4 0 ≤ 8 ∧ K.2.2.2.2.2.2.2.2.1 w 5 0 ≤ 30 := fun w h1 h2 => by
  obtain ⟨a1, a2, -, -, -, -, a3⟩ := h.2.2.2 w h1 h2
  have a4 := a1.le
  have a5 := a1.1
  refine ⟨a5.2, by omega, ?_⟩
  rcases a3 with a3 | a3
  · omega
  · exact a3.2.1
section X_RBK
variable {b b' : Int} {K : X_Kp} {rN kN rN' kN' : Int → Int64} {tg kU wR wL wK wM wH wS sO sN tg' kU' wR' wL' wK' wM' wH' wS' sO' sN' : Int → Int} {eP eP' : Int → Int64} {eH hK eH' hK' : Int → Int}
theorem R_bk.frR (hb : 0 ≤ b ∧ b ≤ 1 ∧ 0 ≤ b' ∧ b' ≤ 1 ∧ ¬ b = b') (hK0 : X_Kok K) (h : R_bk b K rN kN tg kU wR wL wK wM wH wS sO sN eP eH hK) (h1 : R_ob 12 b' rN rN') (h2 : R_ob 144 b' tg tg') : R_bk b K rN' kN tg' kU wR wL wK wM wH wS sO sN eP eH hK := by
  obtain ⟨⟨a1, a2, a3⟩, a4, a5⟩ := h
  have hr := hK0.1
  exact ⟨⟨fun i g1 g2 => by rw [h1 _ (by omega)]; exact a1 i g1 g2, fun i j g1 g2 g3 g4 => by rw [h2 _ (by omega)]; exact a2 i j g1 g2 g3 g4, a3⟩, a4, a5⟩
theorem R_bk.frK (hb : 0 ≤ b ∧ b ≤ 1 ∧ 0 ≤ b' ∧ b' ≤ 1 ∧ ¬ b = b') (hK0 : X_Kok K) (h : R_bk b K rN kN tg kU wR wL wK wM wH wS sO sN eP eH hK) (h1 : R_ob 11 b' kN kN') (h2 : R_ob 11 b' kU kU') : R_bk b K rN kN' tg kU' wR wL wK wM wH wS sO sN eP eH hK := by
  obtain ⟨a1, ⟨c1, c2, c3, c4⟩, a5⟩ := h
  have hr := hK0.2.1
  refine ⟨a1, ⟨fun i g1 g2 => by rw [h1 _ (by omega)]; exact c1 i g1 g2, c2, by rw [h2 _ (by omega)]; exact c3, fun k g1 g2 => ?_⟩, a5⟩
  rw [h2 _ (by omega)]
  exact c4 k g1 g2
theorem R_bk.frW {w0 : Int} (hb : 0 ≤ b ∧ b ≤ 1 ∧ 0 ≤ b' ∧ b' ≤ 1 ∧ ¬ b = b') (hw0 : 0 ≤ w0 ∧ w0 < 30) (hK0 : X_Kok K) (h : R_bk b K rN kN tg kU wR wL wK wM wH wS sO sN eP eH hK) (h4 : ∀ w, 0 ≤ w → w < K.2.2.2.1 → K.2.2.2.2.2.2.2.2.1 w 4 0 ≤ 4)
    (o1 : R_ob 1 (30 * b' + w0) wR wR') (o2 : R_ob 1 (30 * b' + w0) wL wL') (o3 : R_ob 1 (30 * b' + w0) wK wK') (o4 : R_ob 1 (30 * b' + w0) wM wM') (o5 : R_ob 1 (30 * b' + w0) wH wH') (o6 : R_ob 1 (30 * b' + w0) wS wS') (o7 : R_ob 30 (30 * b' + w0) sO sO') (o8 : R_ob 30 (30 * b' + w0) sN sN') (o9 : R_ob 8 (30 * b' + w0) eP eP') (o10 : R_ob 8 (30 * b' + w0) eH eH') (o11 : R_ob 4 (30 * b' + w0) hK hK') : R_bk b K rN kN tg kU wR' wL' wK' wM' wH' wS' sO' sN' eP' eH' hK' := by
  have hw := hK0.2.2.1
  exact ⟨h.1, h.2.1, fun w g1 g2 => R_w.fr (y := 30 * b' + w0) (by omega) ⟨(hK0.wd w g1 g2).1, h4 w g1 g2, (hK0.wd w g1 g2).2.2⟩ (h.2.2 w g1 g2) o1 o2 o3 o4 o5 o6 o7 o8 o9 o10 o11⟩
theorem R_bk.adW {c c2 rc kc wc : Int} {rn : Int → Int64} {lo : Int → Int} {kn : Int → Int64} {ab : Int → Int} {D : Int → Nat → Int → Int} {W : Int → Int → Int64} {d2 : Nat → Int → Int} {q2 : Int → Int64} (hK0 : X_Kok (c, rc, kc, wc, rn, lo, kn, ab, D, W)) (h : R_bk b (c, rc, kc, wc, rn, lo, kn, ab, D, W) rN kN tg kU wR wL wK wM wH wS sO sN eP eH hK) (h4 : ∀ w, 0 ≤ w → w < wc → D w 4 0 ≤ 4)
    (hn : R_w (30 * b + wc) d2 q2 wR' wL' wK' wM' wH' wS' sO' sN' eP' eH' hK')
    (o1 : R_ob 1 (30 * b + wc) wR wR') (o2 : R_ob 1 (30 * b + wc) wL wL') (o3 : R_ob 1 (30 * b + wc) wK wK') (o4 : R_ob 1 (30 * b + wc) wM wM') (o5 : R_ob 1 (30 * b + wc) wH wH') (o6 : R_ob 1 (30 * b + wc) wS wS') (o7 : R_ob 30 (30 * b + wc) sO sO') (o8 : R_ob 30 (30 * b + wc) sN sN') (o9 : R_ob 8 (30 * b + wc) eP eP') (o10 : R_ob 8 (30 * b + wc) eH eH') (o11 : R_ob 4 (30 * b + wc) hK hK') : R_bk b (c2, rc, kc, wc + 1, rn, lo, kn, ab, X_ug D wc d2, X_ug W wc q2) rN kN tg kU wR' wL' wK' wM' wH' wS' sO' sN' eP' eH' hK' := by
  refine ⟨h.1, h.2.1, fun w g1 g2 => ?_⟩
  have g2 : w < wc + 1 := g2
  show R_w (30 * b + w) (X_ug D wc d2 w) (X_ug W wc q2 w) _ _ _ _ _ _ _ _ _ _ _
  by_cases hw : w = wc
  · subst hw
    rw [X_ug_s, X_ug_s]
    exact hn
  · rw [X_ug_n _ _ hw, X_ug_n _ _ hw]
    have g3 : w < wc := by omega
    exact R_w.fr (y := 30 * b + wc) (by omega) ⟨(hK0.wd w g1 g3).1, h4 w g1 g3, (hK0.wd w g1 g3).2.2⟩ (h.2.2 w g1 g3) o1 o2 o3 o4 o5 o6 o7 o8 o9 o10 o11
end X_RBK
theorem X_by_id {x : Int} (h : -128 ≤ x ∧ x ≤ 127) : X_by x = x := by
  have key : ∀ k : Fin 256, X_by (((k : Nat) : Int) - 128) = ((k : Nat) : Int) - 128 := by decide +kernel
  have := key ⟨(x + 128).toNat, by omega⟩
  simp only at this
  rw [show (((x + 128).toNat : Nat) : Int) - 128 = x by omega] at this
  exact this
theorem sp_el_h4 {n : Int} {so : Int → Int} {ct : Int → Int64} {kn : Int → Int64} {kc : Int} : ∀ (k : Nat) (c : Int) (d : Nat → Int → Int) (q : Int → Int64) (r : Int × (Nat → Int → Int) × (Int → Int64)), sp_el n so ct kn kc k c d q = some r → d 4 0 ≤ 4 → r.2.1 4 0 ≤ 4 := by
  intro k
  induction k with
  | zero => intro c d q r h; cases h
  | succ k ih =>
    intro c d q r h h4
    have kH : ∀ z, d 4 0 < 4 → X_aH d z 4 0 ≤ 4 := fun z hz => by show d 4 0 + 1 ≤ 4; omega
    unfold sp_el at h
    split at h
    · cases h; exact h4
    · split at h
      · cases h; exact h4
      · split at h
        · exact ih _ _ _ _ h h4
        · split at h
          · rename_i h6
            split at h
            · split at h
              · cases h
              · exact ih _ _ _ _ h (kH _ h6.2.2.1)
            · exact ih _ _ _ _ h (kH _ h6.2.2.1)
          · cases h
theorem sp_wb_h4 {n : Int} {so : Int → Int} {ct : Int → Int64} {kn : Int → Int64} {kc c : Int} {d : Nat → Int → Int} {q : Int → Int64} {r : Int × (Nat → Int → Int) × (Int → Int64)} (hkc : 1 ≤ kc) (hct : ∀ i, 0 ≤ i → i < n → so i = 6 → ¬ ct i = 0) (hcr : 0 ≤ c ∧ c < n) (h3 : d 3 0 = 0) (h4 : d 4 0 = 0) (h : sp_wb n so ct kn kc c d q = some r) : r.2.1 4 0 ≤ 4 := by
  unfold sp_wb at h
  split at h
  · cases hs : sp_el n so ct kn kc 9 (X_av n c) d q with
    | none => rw [hs] at h; cases h
    | some z =>
      rw [hs] at h
      have h : sp_we n so ct z.1 z.2.1 z.2.2 = some r := h
      obtain ⟨-, -, -, b3⟩ := sp_el_ok hkc hct _ _ _ _ _ (X_av_r hcr) hs (X_eok_0 h3 h4)
      obtain ⟨-, -, e3, -, -⟩ := sp_we_ok b3 h
      rw [e3 4 (by decide) (by decide) (by decide)]
      exact sp_el_h4 _ _ _ _ _ hs (by omega)
  · cases h
theorem sp_wk_h4 {n : Int} {so : Int → Int} {ct : Int → Int64} {kn : Int → Int64} {kc c : Int} {d : Nat → Int → Int} {q : Int → Int64} {r : Int × (Nat → Int → Int) × (Int → Int64)} (hkc : 1 ≤ kc) (hct : ∀ i, 0 ≤ i → i < n → so i = 6 → ¬ ct i = 0) (hcr : 0 ≤ c ∧ c < n) (h3 : d 3 0 = 0) (h4 : d 4 0 = 0) (h : sp_wk n so ct kn kc c d q = some r) : r.2.1 4 0 ≤ 4 := by
  unfold sp_wk at h
  split at h
  · split at h
    · cases h
    · exact sp_wb_h4 (d := X_wu d 2 (fun _ => X_ix kn kc (ct c))) hkc hct (X_av_r hcr) h3 h4 h
  · exact sp_wb_h4 (d := X_wu d 2 (fun _ => 0)) hkc hct hcr h3 h4 h
def X_K4 (K : X_Kp) : Prop := ∀ w, 0 ≤ w → w < K.2.2.2.1 → K.2.2.2.2.2.2.2.2.1 w 4 0 ≤ 4
theorem sp_line_h4 {n : Int} {so : Int → Int} {ct : Int → Int64} {K K' : X_Kp} (hct : ∀ i, 0 ≤ i → i < n → so i = 6 → ¬ ct i = 0) (hcr : 0 ≤ K.1 ∧ K.1 < n) (hK : X_Kok K) (h4 : X_K4 K) (h : sp_line n so ct K = some K') : X_K4 K' := by
  obtain ⟨c, rc, kc, wc, rn, lo, kn, ab, D, W⟩ := K
  have hkc := hK.2.1.1
  simp only at hkc hcr
  unfold sp_line at h
  split at h
  · simp only [sp_rank] at h
    repeat' split at h
    all_goals first | (cases h; done) | (cases h; exact h4)
  · split at h
    · simp only [sp_tight] at h
      repeat' split at h
      all_goals first | (cases h; done) | (cases h; exact h4)
    · split at h
      · simp only [sp_kind] at h
        repeat' split at h
        all_goals first | (cases h; done) | (cases h; exact h4)
      · split at h
        · simp only [sp_word] at h
          split at h
          · cases h
          · split at h
            · split at h
              · cases h
              · cases hs : sp_wk n so ct kn kc (X_lnC n so ct (X_av n (X_av n c))) (X_wu (X_clr (D wc) (X_ix rn rc (ct (X_av n c)))) 1 (fun _ => X_lnV so ct (X_av n (X_av n c)) 0)) (W wc) with
                | none => rw [hs] at h; cases h
                | some z =>
                  rw [hs] at h
                  cases h
                  intro w g1 g2
                  have g2 : w < wc + 1 := g2
                  show X_ug D wc z.2.1 w 4 0 ≤ 4
                  by_cases hw : w = wc
                  · subst hw
                    rw [X_ug_s]
                    exact sp_wk_h4 hkc hct (X_lnC_r (X_av_r (X_av_r hcr))) rfl rfl hs
                  · rw [X_ug_n _ _ hw]
                    exact h4 w g1 (show w < wc by omega)
            · cases h
        · cases h
theorem sp_lines_at {n : Int} {so : Int → Int} {ct : Int → Int64} {m : Nat} {K : X_Kp} (hm : 0 < m) : sp_lines n so ct m K = if so K.1 = 0 then some K else (sp_line n so ct K).bind (sp_lines n so ct (m - 1)) := by
  cases m with
  | zero => omega
  | succ m => rfl

set_option maxHeartbeats 4000000 in
theorem r_lnR (sc : X_Sc) (S : X_S) (o : Nat → Int) (nm : Int64) (tx : Int → Int) (rN : Int → Int64) (tg : Int → Int) (tb : Int → Int) (len : Int) (n : Int) (so : Int → Int) (pl : Int → Int) (ct : Int → Int64) (E : Int → Int) (c : Int) (rc : Int) (kc : Int) (wc : Int) (rn : Int → Int64) (lo : Int → Int) (kn : Int → Int64) (ab : Int → Int) (D : Int → Nat → Int → Int) (W : Int → Int → Int64) (hM : M_o S o nm) (hA532 : S.1 532 = .inl (.byte, 2000, .inl fun k : Nat => iI (tx (k : Int)))) (hA533 : S.1 533 = .inl (.long, 24, .inr (.inl fun k : Nat => rN (k : Int)))) (hA535 : S.1 535 = .inl (.boolean, 288, .inl fun k : Nat => iI (tg (k : Int)))) (hlen : o 3 = len) (hl : 0 ≤ len ∧ len ≤ 2000) (htx : ∀ k, 0 ≤ k → k < len → tx k = tb k) (hX : X_TxE tb len n so pl ct E) (hT : R_tk n so pl ct E c (o 7) (o 8) (o 9) (o 10) (o 11) nm) (h5 : o 5 = 0) (hrc : o 28 = rc) (hkc : o 29 = kc) (hwc : o 30 = wc) (hb : 0 ≤ o 4 ∧ o 4 ≤ 1) (hkw : so c = 3 ∧ ct c = Int64.ofNat 1918987883) (hcr : 0 ≤ rc ∧ rc < 12) (hR : R_rk (o 4) rc rn lo rN tg) (Q : Option Value → X_S → Prop) (hk : ∀ S' : X_S, ((∃ (at1 : Int) (en1 : Int) (tk1 : Int) (nu1 : Int) (dg1 : Int) (nm1 : Int64) (rN1 : Int → Int64) (tg1 : Int → Int), R_tk n so pl ct E (X_av n (X_av n (X_av n c))) at1 en1 tk1 nu1 dg1 nm1 ∧ sp_rank n so ct (c, rc, kc, wc, rn, lo, kn, ab, D, W) = some (X_av n (X_av n (X_av n c)), rc + 1, kc, wc, X_ug rn rc (ct (X_av n c)), X_ug lo rc 0, kn, ab, D, W) ∧ R_rk (o 4) (rc + 1) (X_ug rn rc (ct (X_av n c))) (X_ug lo rc 0) rN1 tg1 ∧ (R_ob 12 (o 4) rN rN1 ∧ R_ob 144 (o 4) tg tg1) ∧ M_o S' (X_ou (X_ou (X_ou (X_ou (X_ou (X_ou o 7 at1) 8 en1) 9 tk1) 10 nu1) 11 dg1) 28 (rc + 1)) nm1 ∧ S'.1 533 = .inl (.long, 24, .inr (.inl fun k : Nat => rN1 (k : Int))) ∧ S'.1 535 = .inl (.boolean, 288, .inl fun k : Nat => iI (tg1 (k : Int))) ∧ (X_Fr (fun q => q = 530 ∨ q = 533 ∨ q = 535) S S')) ∨ (∃ (at1 : Int) (en1 : Int) (tk1 : Int) (nu1 : Int) (dg1 : Int) (nm1 : Int64) (f1 : Int) (g1 : Int) (rc1 : Int) (rN1 : Int → Int64) (tg1 : Int → Int), (1 ≤ f1 ∧ f1 ≤ 5) ∧ sp_rank n so ct (c, rc, kc, wc, rn, lo, kn, ab, D, W) = none ∧ (R_ob 12 (o 4) rN rN1 ∧ R_ob 144 (o 4) tg tg1) ∧ M_o S' (X_ou (X_ou (X_ou (X_ou (X_ou (X_ou (X_ou (X_ou o 7 at1) 8 en1) 9 tk1) 10 nu1) 11 dg1) 5 f1) 6 g1) 28 rc1) nm1 ∧ S'.1 533 = .inl (.long, 24, .inr (.inl fun k : Nat => rN1 (k : Int))) ∧ S'.1 535 = .inl (.boolean, 288, .inl fun k : Nat => iI (tg1 (k : Int))) ∧ (X_Fr (fun q => q = 530 ∨ q = 533 ∨ q = 535) S S'))) → X_T sc 162 (113, [(0, .ref 530)], [], S') Q) : X_T sc 162 (264, [(1, .long (ct c)), (0, .ref 530)], [], S) Q := by
  obtain ⟨⟨hc0, hcn⟩, ⟨hs0, hs1⟩, hk0, ⟨ha0, ha1⟩, hk0e, ⟨_, _⟩, ⟨_, _⟩⟩ := R_tk_f hX hT
  have hn2 := hX.2.1
  refine T_p xr_162_264 xn_162 (pc' := 265) (ls' := [(1, .long (ct c)), (0, .ref 530)]) (st' := [.ref 530]) rfl ?_
  refine T_cv (S := S) (q := 530) xr_162_265 xf_141.1 xf_141.2.1 xn_141 (as := []) (r := []) rfl hM (Nat.le_of_ble_eq_true rfl) (Nat.le_of_ble_eq_true rfl) (pc' := 268) rfl (ls' := [(0, .ref 530)]) rfl ?_
  refine T_mono (r_nx sc S o nm tx tb len n so pl ct E c hM hA532 (show (o 3) = len from by first | assumption | omega) hl htx hX hT (by omega)) (fun v4894 S4895 h4896 => ?_)
  rcases h4896 with ⟨at4897, en4898, tk4899, nu4900, dg4901, nm4902, hv4903, hp4904, hM4905, hf4906⟩
  rw [hv4903]
  have h4907 : S4895.1 530 = .inr (11, [.ref 531, .int (iI (o 1)), .ref 532, .int (iI (o 3)), .int (iI (o 4)), .int (iI (o 5)), .int (iI (o 6)), .int (iI at4897), .int (iI en4898), .int (iI tk4899), .int (iI nu4900), .int (iI dg4901), .long nm4902, .ref 533, .ref 534, .ref 535, .ref 536, .ref 537, .ref 538, .ref 539, .ref 540, .ref 541, .ref 542, .ref 543, .ref 544, .ref 545, .ref 546, .ref 547, .int (iI (o 28)), .int (iI (o 29)), .int (iI (o 30)), .int (iI (o 31)), .int (iI (o 32)), .int (iI (o 33)), .ref 548, .ref 549, .ref 550, .ref 551, .int (iI (o 38)), .ref 552, .ref 553, .ref 554, .ref 555, .ref 556, .ref 557, .ref 558, .ref 559, .ref 560, .ref 561, .int (iI (o 49)), .ref 562, .ref 563, .ref 564, .ref 565, .ref 566, .ref 567, .ref 568, .ref 569, .int (iI (o 58)), .ref 570, .ref 571, .ref 572, .ref 573, .ref 574, .ref 575, .ref 576, .ref 577, .ref 578, .int (iI (o 68)), .int (iI (o 69)), .int (iI (o 70)), .ref 579]) := hM4905
  obtain ⟨⟨_, _⟩, ⟨_, _⟩, hk4908, ⟨_, _⟩, hk4908e, ⟨_, _⟩, ⟨_, _⟩⟩ := R_tk_f hX hp4904
  show X_T sc 162 (268, [(1, .long (ct c)), (0, .ref 530)], [], S4895) _
  refine T_p xr_162_268 xn_162 (pc' := 269) (ls' := [(1, .long (ct c)), (0, .ref 530)]) (st' := [.ref 530]) rfl ?_
  refine T_cv (S := S4895) (q := 530) xr_162_269 xf_140.1 xf_140.2.1 xn_140 (as := []) (r := []) rfl h4907 (Nat.le_of_ble_eq_true rfl) (Nat.le_of_ble_eq_true rfl) (pc' := 272) rfl (ls' := [(0, .ref 530)]) rfl ?_
  refine T_mono (r_isGood sc S4895 (X_ou (X_ou (X_ou (X_ou (X_ou o 7 at4897) 8 en4898) 9 tk4899) 10 nu4900) 11 dg4901) nm4902 h4907 (show 0 ≤ (o 5) ∧ (o 5) ≤ 5 from by omega)) (fun v4909 S4910 h4911 => ?_)
  rcases h4911 with ⟨hv4912, hf4913⟩
  rw [hv4912]
  rw [hf4913]
  show X_T sc 162 (272, [(1, .long (ct c)), (0, .ref 530)], [.int (iI (bI ((o 5) = 0)))], S4895) _
  refine T_bif_ne xr_162_272 (t := 278) (pc' := 275) rfl rfl (fun c4914 => ?_) (fun c4914 => ?_)
  · skip
    have c4914 : ((o 5) = 0) := c4914
    refine T_p xr_162_278 xn_162 (pc' := 279) (ls' := [(1, .long (ct c)), (0, .ref 530)]) (st' := [.long (ct c)]) rfl ?_
    refine T_p xr_162_279 xn_162 (pc' := 282) (ls' := [(1, .long (ct c)), (0, .ref 530)]) (st' := [.long (Int64.ofNat 1918987883), .long (ct c)]) rfl ?_
    refine T_lc_ne xr_162_282 xr_162_283 (t := 293) (pc' := 286) rfl rfl (fun c4915 => ?_) (fun c4915 => ?_)
    · skip
      have c4915 : ¬ (ct c) = (Int64.ofNat 1918987883) := c4915
      exact absurd hkw.2 c4915
    · skip
      have c4915 : ¬ (¬ (ct c) = (Int64.ofNat 1918987883)) := c4915
      refine T_p xr_162_286 xn_162 (pc' := 287) (ls' := [(1, .long (ct c)), (0, .ref 530)]) (st' := [.ref 530]) rfl ?_
      refine T_cv (S := S4895) (q := 530) xr_162_287 xf_153.1 xf_153.2.1 xn_153 (as := []) (r := []) rfl h4907 (Nat.le_of_ble_eq_true rfl) (Nat.le_of_ble_eq_true rfl) (pc' := 290) rfl (ls' := [(0, .ref 530)]) rfl ?_
      have h4916 := (hf4906.1 532 (by omega)).trans (hA532)
      have h4917 := (hf4906.1 533 (by omega)).trans (hA533)
      have h4918 := (hf4906.1 535 (by omega)).trans (hA535)
      refine T_mono (r_readRank sc S4895 (X_ou (X_ou (X_ou (X_ou (X_ou o 7 at4897) 8 en4898) 9 tk4899) 10 nu4900) 11 dg4901) nm4902 tx rN tg tb len n so pl ct E (X_av n c) c rc kc wc rn lo kn ab D W h4907 h4916 h4917 h4918 (show (o 3) = len from by first | assumption | omega) hl htx hX hp4904 (show (o 5) = 0 from by omega) (show (o 28) = rc from by omega) (by omega) (show 0 ≤ (o 4) ∧ (o 4) ≤ 1 from by omega) (by omega) hR) (fun v4919 S4920 h4921 => ?_)
      rcases h4921 with ⟨at4922, en4923, tk4924, nu4925, dg4926, nm4927, rN4928, tg4929, hv4930, hp4931, hp4932, hp4933, hp4934, hM4935, ha4936, ha4937, hf4938⟩ | ⟨at4939, en4940, tk4941, nu4942, dg4943, nm4944, rc4945, f4946, g4947, rN4948, tg4949, hv4950, hp4951, hp4952, hp4953, hM4954, ha4955, ha4956, hf4957⟩
      · skip
        rw [hv4930]
        have h4958 : S4920.1 530 = .inr (11, [.ref 531, .int (iI (o 1)), .ref 532, .int (iI (o 3)), .int (iI (o 4)), .int (iI (o 5)), .int (iI (o 6)), .int (iI at4922), .int (iI en4923), .int (iI tk4924), .int (iI nu4925), .int (iI dg4926), .long nm4927, .ref 533, .ref 534, .ref 535, .ref 536, .ref 537, .ref 538, .ref 539, .ref 540, .ref 541, .ref 542, .ref 543, .ref 544, .ref 545, .ref 546, .ref 547, .int (iI (rc + 1)), .int (iI (o 29)), .int (iI (o 30)), .int (iI (o 31)), .int (iI (o 32)), .int (iI (o 33)), .ref 548, .ref 549, .ref 550, .ref 551, .int (iI (o 38)), .ref 552, .ref 553, .ref 554, .ref 555, .ref 556, .ref 557, .ref 558, .ref 559, .ref 560, .ref 561, .int (iI (o 49)), .ref 562, .ref 563, .ref 564, .ref 565, .ref 566, .ref 567, .ref 568, .ref 569, .int (iI (o 58)), .ref 570, .ref 571, .ref 572, .ref 573, .ref 574, .ref 575, .ref 576, .ref 577, .ref 578, .int (iI (o 68)), .int (iI (o 69)), .int (iI (o 70)), .ref 579]) := hM4935
        have hp4933 : R_rk ((o 4)) (rc + 1) (X_ug rn rc (ct (X_av n c))) (X_ug lo rc 0) rN4928 tg4929 := hp4933
        have hp4934 : R_ob 12 ((o 4)) rN rN4928 ∧ R_ob 144 ((o 4)) tg tg4929 := hp4934
        obtain ⟨⟨_, _⟩, ⟨_, _⟩, hk4959, ⟨_, _⟩, hk4959e, ⟨_, _⟩, ⟨_, _⟩⟩ := R_tk_f hX hp4931
        show X_T sc 162 (290, [(1, .long (ct c)), (0, .ref 530)], [], S4920) _
        refine T_p xr_162_290 xn_162 (pc' := 327) (ls' := [(1, .long (ct c)), (0, .ref 530)]) (st' := []) rfl ?_
        refine T_p xr_162_327 xn_162 (pc' := 113) (ls' := [(1, .long (ct c)), (0, .ref 530)]) (st' := []) rfl ?_
        refine T_sub (ls := [(0, .ref 530)]) ⟨rfl, trivial⟩ rfl rfl ?_
        refine hk _ ?_
        exact Or.inl ⟨at4922, en4923, tk4924, nu4925, dg4926, nm4927, rN4928, tg4929, hp4931, hp4932, hp4933, hp4934, h4958, ha4936, ha4937, ((X_Fr.rf).tr (X_Fr.mono ⟨hf4906.1, hf4906.2⟩ (fun q hq => (by omega)))).tr (X_Fr.mono ⟨hf4938.1, hf4938.2⟩ (fun q hq => (by omega)))⟩
      · skip
        rw [hv4950]
        have h4960 : S4920.1 530 = .inr (11, [.ref 531, .int (iI (o 1)), .ref 532, .int (iI (o 3)), .int (iI (o 4)), .int (iI f4946), .int (iI g4947), .int (iI at4939), .int (iI en4940), .int (iI tk4941), .int (iI nu4942), .int (iI dg4943), .long nm4944, .ref 533, .ref 534, .ref 535, .ref 536, .ref 537, .ref 538, .ref 539, .ref 540, .ref 541, .ref 542, .ref 543, .ref 544, .ref 545, .ref 546, .ref 547, .int (iI rc4945), .int (iI (o 29)), .int (iI (o 30)), .int (iI (o 31)), .int (iI (o 32)), .int (iI (o 33)), .ref 548, .ref 549, .ref 550, .ref 551, .int (iI (o 38)), .ref 552, .ref 553, .ref 554, .ref 555, .ref 556, .ref 557, .ref 558, .ref 559, .ref 560, .ref 561, .int (iI (o 49)), .ref 562, .ref 563, .ref 564, .ref 565, .ref 566, .ref 567, .ref 568, .ref 569, .int (iI (o 58)), .ref 570, .ref 571, .ref 572, .ref 573, .ref 574, .ref 575, .ref 576, .ref 577, .ref 578, .int (iI (o 68)), .int (iI (o 69)), .int (iI (o 70)), .ref 579]) := hM4954
        have hp4953 : R_ob 12 ((o 4)) rN rN4948 ∧ R_ob 144 ((o 4)) tg tg4949 := hp4953
        show X_T sc 162 (290, [(1, .long (ct c)), (0, .ref 530)], [], S4920) _
        refine T_p xr_162_290 xn_162 (pc' := 327) (ls' := [(1, .long (ct c)), (0, .ref 530)]) (st' := []) rfl ?_
        refine T_p xr_162_327 xn_162 (pc' := 113) (ls' := [(1, .long (ct c)), (0, .ref 530)]) (st' := []) rfl ?_
        refine T_sub (ls := [(0, .ref 530)]) ⟨rfl, trivial⟩ rfl rfl ?_
        refine hk _ ?_
        exact Or.inr ⟨at4939, en4940, tk4941, nu4942, dg4943, nm4944, f4946, g4947, rc4945, rN4948, tg4949, hp4951, hp4952, hp4953, h4960, ha4955, ha4956, ((X_Fr.rf).tr (X_Fr.mono ⟨hf4906.1, hf4906.2⟩ (fun q hq => (by omega)))).tr (X_Fr.mono ⟨hf4957.1, hf4957.2⟩ (fun q hq => (by omega)))⟩
  · skip
    have c4914 : ¬ ((o 5) = 0) := c4914
    exact (show False by first | contradiction | omega).elim
set_option maxHeartbeats 4000000 in
theorem r_lnT (sc : X_Sc) (S : X_S) (o : Nat → Int) (nm : Int64) (tx : Int → Int) (rN : Int → Int64) (tg : Int → Int) (tb : Int → Int) (len : Int) (n : Int) (so : Int → Int) (pl : Int → Int) (ct : Int → Int64) (E : Int → Int) (c : Int) (rc : Int) (kc : Int) (wc : Int) (rn : Int → Int64) (lo : Int → Int) (kn : Int → Int64) (ab : Int → Int) (D : Int → Nat → Int → Int) (W : Int → Int → Int64) (hM : M_o S o nm) (hA532 : S.1 532 = .inl (.byte, 2000, .inl fun k : Nat => iI (tx (k : Int)))) (hA533 : S.1 533 = .inl (.long, 24, .inr (.inl fun k : Nat => rN (k : Int)))) (hA535 : S.1 535 = .inl (.boolean, 288, .inl fun k : Nat => iI (tg (k : Int)))) (hlen : o 3 = len) (hl : 0 ≤ len ∧ len ≤ 2000) (htx : ∀ k, 0 ≤ k → k < len → tx k = tb k) (hX : X_TxE tb len n so pl ct E) (hT : R_tk n so pl ct E c (o 7) (o 8) (o 9) (o 10) (o 11) nm) (h5 : o 5 = 0) (hrc : o 28 = rc) (hkc : o 29 = kc) (hwc : o 30 = wc) (hb : 0 ≤ o 4 ∧ o 4 ≤ 1) (hkw : so c = 3 ∧ ct c = Int64.ofNat 32766990153442674) (hcr : 0 ≤ rc ∧ rc ≤ 12) (hR : R_rk (o 4) rc rn lo rN tg) (Q : Option Value → X_S → Prop) (hk : ∀ S' : X_S, ((∃ (at1 : Int) (en1 : Int) (tk1 : Int) (nu1 : Int) (dg1 : Int) (nm1 : Int64) (tg1 : Int → Int), R_tk n so pl ct E (X_av n (X_av n (X_av n (X_av n c)))) at1 en1 tk1 nu1 dg1 nm1 ∧ sp_tight n so ct (c, rc, kc, wc, rn, lo, kn, ab, D, W) = some (X_av n (X_av n (X_av n (X_av n c))), rc, kc, wc, rn, X_tf rc lo (X_ix rn rc (ct (X_av n c))) (X_ix rn rc (ct (X_av n (X_av n c)))), kn, ab, D, W) ∧ R_rk (o 4) rc rn (X_tf rc lo (X_ix rn rc (ct (X_av n c))) (X_ix rn rc (ct (X_av n (X_av n c))))) rN tg1 ∧ R_ob 144 (o 4) tg tg1 ∧ M_o S' (X_ou (X_ou (X_ou (X_ou (X_ou o 7 at1) 8 en1) 9 tk1) 10 nu1) 11 dg1) nm1 ∧ S'.1 535 = .inl (.boolean, 288, .inl fun k : Nat => iI (tg1 (k : Int))) ∧ (X_Fr (fun q => q = 530 ∨ q = 535) S S')) ∨ (∃ (at1 : Int) (en1 : Int) (tk1 : Int) (nu1 : Int) (dg1 : Int) (nm1 : Int64) (f1 : Int) (g1 : Int) (tg1 : Int → Int), (1 ≤ f1 ∧ f1 ≤ 5) ∧ sp_tight n so ct (c, rc, kc, wc, rn, lo, kn, ab, D, W) = none ∧ R_ob 144 (o 4) tg tg1 ∧ M_o S' (X_ou (X_ou (X_ou (X_ou (X_ou (X_ou (X_ou o 7 at1) 8 en1) 9 tk1) 10 nu1) 11 dg1) 5 f1) 6 g1) nm1 ∧ S'.1 535 = .inl (.boolean, 288, .inl fun k : Nat => iI (tg1 (k : Int))) ∧ (X_Fr (fun q => q = 530 ∨ q = 535) S S'))) → X_T sc 162 (113, [(0, .ref 530)], [], S') Q) : X_T sc 162 (264, [(1, .long (ct c)), (0, .ref 530)], [], S) Q := by
  obtain ⟨⟨hc0, hcn⟩, ⟨hs0, hs1⟩, hk0, ⟨ha0, ha1⟩, hk0e, ⟨_, _⟩, ⟨_, _⟩⟩ := R_tk_f hX hT
  have hn2 := hX.2.1
  refine T_p xr_162_264 xn_162 (pc' := 265) (ls' := [(1, .long (ct c)), (0, .ref 530)]) (st' := [.ref 530]) rfl ?_
  refine T_cv (S := S) (q := 530) xr_162_265 xf_141.1 xf_141.2.1 xn_141 (as := []) (r := []) rfl hM (Nat.le_of_ble_eq_true rfl) (Nat.le_of_ble_eq_true rfl) (pc' := 268) rfl (ls' := [(0, .ref 530)]) rfl ?_
  refine T_mono (r_nx sc S o nm tx tb len n so pl ct E c hM hA532 (show (o 3) = len from by first | assumption | omega) hl htx hX hT (by omega)) (fun v4961 S4962 h4963 => ?_)
  rcases h4963 with ⟨at4964, en4965, tk4966, nu4967, dg4968, nm4969, hv4970, hp4971, hM4972, hf4973⟩
  rw [hv4970]
  have h4974 : S4962.1 530 = .inr (11, [.ref 531, .int (iI (o 1)), .ref 532, .int (iI (o 3)), .int (iI (o 4)), .int (iI (o 5)), .int (iI (o 6)), .int (iI at4964), .int (iI en4965), .int (iI tk4966), .int (iI nu4967), .int (iI dg4968), .long nm4969, .ref 533, .ref 534, .ref 535, .ref 536, .ref 537, .ref 538, .ref 539, .ref 540, .ref 541, .ref 542, .ref 543, .ref 544, .ref 545, .ref 546, .ref 547, .int (iI (o 28)), .int (iI (o 29)), .int (iI (o 30)), .int (iI (o 31)), .int (iI (o 32)), .int (iI (o 33)), .ref 548, .ref 549, .ref 550, .ref 551, .int (iI (o 38)), .ref 552, .ref 553, .ref 554, .ref 555, .ref 556, .ref 557, .ref 558, .ref 559, .ref 560, .ref 561, .int (iI (o 49)), .ref 562, .ref 563, .ref 564, .ref 565, .ref 566, .ref 567, .ref 568, .ref 569, .int (iI (o 58)), .ref 570, .ref 571, .ref 572, .ref 573, .ref 574, .ref 575, .ref 576, .ref 577, .ref 578, .int (iI (o 68)), .int (iI (o 69)), .int (iI (o 70)), .ref 579]) := hM4972
  obtain ⟨⟨_, _⟩, ⟨_, _⟩, hk4975, ⟨_, _⟩, hk4975e, ⟨_, _⟩, ⟨_, _⟩⟩ := R_tk_f hX hp4971
  show X_T sc 162 (268, [(1, .long (ct c)), (0, .ref 530)], [], S4962) _
  refine T_p xr_162_268 xn_162 (pc' := 269) (ls' := [(1, .long (ct c)), (0, .ref 530)]) (st' := [.ref 530]) rfl ?_
  refine T_cv (S := S4962) (q := 530) xr_162_269 xf_140.1 xf_140.2.1 xn_140 (as := []) (r := []) rfl h4974 (Nat.le_of_ble_eq_true rfl) (Nat.le_of_ble_eq_true rfl) (pc' := 272) rfl (ls' := [(0, .ref 530)]) rfl ?_
  refine T_mono (r_isGood sc S4962 (X_ou (X_ou (X_ou (X_ou (X_ou o 7 at4964) 8 en4965) 9 tk4966) 10 nu4967) 11 dg4968) nm4969 h4974 (show 0 ≤ (o 5) ∧ (o 5) ≤ 5 from by omega)) (fun v4976 S4977 h4978 => ?_)
  rcases h4978 with ⟨hv4979, hf4980⟩
  rw [hv4979]
  rw [hf4980]
  show X_T sc 162 (272, [(1, .long (ct c)), (0, .ref 530)], [.int (iI (bI ((o 5) = 0)))], S4962) _
  refine T_bif_ne xr_162_272 (t := 278) (pc' := 275) rfl rfl (fun c4981 => ?_) (fun c4981 => ?_)
  · skip
    have c4981 : ((o 5) = 0) := c4981
    refine T_p xr_162_278 xn_162 (pc' := 279) (ls' := [(1, .long (ct c)), (0, .ref 530)]) (st' := [.long (ct c)]) rfl ?_
    refine T_p xr_162_279 xn_162 (pc' := 282) (ls' := [(1, .long (ct c)), (0, .ref 530)]) (st' := [.long (Int64.ofNat 1918987883), .long (ct c)]) rfl ?_
    refine T_lc_ne xr_162_282 xr_162_283 (t := 293) (pc' := 286) rfl rfl (fun c4982 => ?_) (fun c4982 => ?_)
    · skip
      have c4982 : ¬ (ct c) = (Int64.ofNat 1918987883) := c4982
      refine T_p xr_162_293 xn_162 (pc' := 294) (ls' := [(1, .long (ct c)), (0, .ref 530)]) (st' := [.long (ct c)]) rfl ?_
      refine T_p xr_162_294 xn_162 (pc' := 297) (ls' := [(1, .long (ct c)), (0, .ref 530)]) (st' := [.long (Int64.ofNat 32766990153442674), .long (ct c)]) rfl ?_
      refine T_lc_ne xr_162_297 xr_162_298 (t := 308) (pc' := 301) rfl rfl (fun c4983 => ?_) (fun c4983 => ?_)
      · skip
        have c4983 : ¬ (ct c) = (Int64.ofNat 32766990153442674) := c4983
        exact absurd hkw.2 c4983
      · skip
        have c4983 : ¬ (¬ (ct c) = (Int64.ofNat 32766990153442674)) := c4983
        refine T_p xr_162_301 xn_162 (pc' := 302) (ls' := [(1, .long (ct c)), (0, .ref 530)]) (st' := [.ref 530]) rfl ?_
        refine T_cv (S := S4962) (q := 530) xr_162_302 xf_155.1 xf_155.2.1 xn_155 (as := []) (r := []) rfl h4974 (Nat.le_of_ble_eq_true rfl) (Nat.le_of_ble_eq_true rfl) (pc' := 305) rfl (ls' := [(0, .ref 530)]) rfl ?_
        have h4984 := (hf4973.1 532 (by omega)).trans (hA532)
        have h4985 := (hf4973.1 533 (by omega)).trans (hA533)
        have h4986 := (hf4973.1 535 (by omega)).trans (hA535)
        refine T_mono (r_readTighter sc S4962 (X_ou (X_ou (X_ou (X_ou (X_ou o 7 at4964) 8 en4965) 9 tk4966) 10 nu4967) 11 dg4968) nm4969 tx rN tg tb len n so pl ct E (X_av n c) c rc kc wc rn lo kn ab D W h4974 h4984 h4985 h4986 (show (o 3) = len from by first | assumption | omega) hl htx hX hp4971 (show (o 5) = 0 from by omega) (show (o 28) = rc from by omega) (by omega) (show 0 ≤ (o 4) ∧ (o 4) ≤ 1 from by omega) (by omega) hR) (fun v4987 S4988 h4989 => ?_)
        rcases h4989 with ⟨at4990, en4991, tk4992, nu4993, dg4994, nm4995, tg4996, hv4997, hp4998, hp4999, hp5000, hp5001, hM5002, ha5003, hf5004⟩ | ⟨at5005, en5006, tk5007, nu5008, dg5009, nm5010, f5011, g5012, tg5013, hv5014, hp5015, hp5016, hp5017, hM5018, ha5019, hf5020⟩
        · skip
          rw [hv4997]
          have h5021 : S4988.1 530 = .inr (11, [.ref 531, .int (iI (o 1)), .ref 532, .int (iI (o 3)), .int (iI (o 4)), .int (iI (o 5)), .int (iI (o 6)), .int (iI at4990), .int (iI en4991), .int (iI tk4992), .int (iI nu4993), .int (iI dg4994), .long nm4995, .ref 533, .ref 534, .ref 535, .ref 536, .ref 537, .ref 538, .ref 539, .ref 540, .ref 541, .ref 542, .ref 543, .ref 544, .ref 545, .ref 546, .ref 547, .int (iI (o 28)), .int (iI (o 29)), .int (iI (o 30)), .int (iI (o 31)), .int (iI (o 32)), .int (iI (o 33)), .ref 548, .ref 549, .ref 550, .ref 551, .int (iI (o 38)), .ref 552, .ref 553, .ref 554, .ref 555, .ref 556, .ref 557, .ref 558, .ref 559, .ref 560, .ref 561, .int (iI (o 49)), .ref 562, .ref 563, .ref 564, .ref 565, .ref 566, .ref 567, .ref 568, .ref 569, .int (iI (o 58)), .ref 570, .ref 571, .ref 572, .ref 573, .ref 574, .ref 575, .ref 576, .ref 577, .ref 578, .int (iI (o 68)), .int (iI (o 69)), .int (iI (o 70)), .ref 579]) := hM5002
          have hp5000 : R_rk ((o 4)) rc rn (X_tf rc lo (X_ix rn rc (ct (X_av n c))) (X_ix rn rc (ct (X_av n (X_av n c))))) rN tg4996 := hp5000
          have hp5001 : R_ob 144 ((o 4)) tg tg4996 := hp5001
          obtain ⟨⟨_, _⟩, ⟨_, _⟩, hk5022, ⟨_, _⟩, hk5022e, ⟨_, _⟩, ⟨_, _⟩⟩ := R_tk_f hX hp4998
          show X_T sc 162 (305, [(1, .long (ct c)), (0, .ref 530)], [], S4988) _
          refine T_p xr_162_305 xn_162 (pc' := 327) (ls' := [(1, .long (ct c)), (0, .ref 530)]) (st' := []) rfl ?_
          refine T_p xr_162_327 xn_162 (pc' := 113) (ls' := [(1, .long (ct c)), (0, .ref 530)]) (st' := []) rfl ?_
          refine T_sub (ls := [(0, .ref 530)]) ⟨rfl, trivial⟩ rfl rfl ?_
          refine hk _ ?_
          exact Or.inl ⟨at4990, en4991, tk4992, nu4993, dg4994, nm4995, tg4996, hp4998, hp4999, hp5000, hp5001, h5021, ha5003, ((X_Fr.rf).tr (X_Fr.mono ⟨hf4973.1, hf4973.2⟩ (fun q hq => (by omega)))).tr (X_Fr.mono ⟨hf5004.1, hf5004.2⟩ (fun q hq => (by omega)))⟩
        · skip
          rw [hv5014]
          have h5023 : S4988.1 530 = .inr (11, [.ref 531, .int (iI (o 1)), .ref 532, .int (iI (o 3)), .int (iI (o 4)), .int (iI f5011), .int (iI g5012), .int (iI at5005), .int (iI en5006), .int (iI tk5007), .int (iI nu5008), .int (iI dg5009), .long nm5010, .ref 533, .ref 534, .ref 535, .ref 536, .ref 537, .ref 538, .ref 539, .ref 540, .ref 541, .ref 542, .ref 543, .ref 544, .ref 545, .ref 546, .ref 547, .int (iI (o 28)), .int (iI (o 29)), .int (iI (o 30)), .int (iI (o 31)), .int (iI (o 32)), .int (iI (o 33)), .ref 548, .ref 549, .ref 550, .ref 551, .int (iI (o 38)), .ref 552, .ref 553, .ref 554, .ref 555, .ref 556, .ref 557, .ref 558, .ref 559, .ref 560, .ref 561, .int (iI (o 49)), .ref 562, .ref 563, .ref 564, .ref 565, .ref 566, .ref 567, .ref 568, .ref 569, .int (iI (o 58)), .ref 570, .ref 571, .ref 572, .ref 573, .ref 574, .ref 575, .ref 576, .ref 577, .ref 578, .int (iI (o 68)), .int (iI (o 69)), .int (iI (o 70)), .ref 579]) := hM5018
          have hp5017 : R_ob 144 ((o 4)) tg tg5013 := hp5017
          show X_T sc 162 (305, [(1, .long (ct c)), (0, .ref 530)], [], S4988) _
          refine T_p xr_162_305 xn_162 (pc' := 327) (ls' := [(1, .long (ct c)), (0, .ref 530)]) (st' := []) rfl ?_
          refine T_p xr_162_327 xn_162 (pc' := 113) (ls' := [(1, .long (ct c)), (0, .ref 530)]) (st' := []) rfl ?_
          refine T_sub (ls := [(0, .ref 530)]) ⟨rfl, trivial⟩ rfl rfl ?_
          refine hk _ ?_
          exact Or.inr ⟨at5005, en5006, tk5007, nu5008, dg5009, nm5010, f5011, g5012, tg5013, hp5015, hp5016, hp5017, h5023, ha5019, ((X_Fr.rf).tr (X_Fr.mono ⟨hf4973.1, hf4973.2⟩ (fun q hq => (by omega)))).tr (X_Fr.mono ⟨hf5020.1, hf5020.2⟩ (fun q hq => (by omega)))⟩
    · skip
      have c4982 : ¬ (¬ (ct c) = (Int64.ofNat 1918987883)) := c4982
      exact absurd ((hkw.2).symm.trans (show ct c = Int64.ofNat 1918987883 from (by first | exact c4982 | exact Classical.not_not.mp c4982))) (by decide)
  · skip
    have c4981 : ¬ ((o 5) = 0) := c4981
    exact (show False by first | contradiction | omega).elim
set_option maxHeartbeats 4000000 in
theorem r_lnK (sc : X_Sc) (S : X_S) (o : Nat → Int) (nm : Int64) (tx : Int → Int) (kN : Int → Int64) (kU : Int → Int) (tb : Int → Int) (len : Int) (n : Int) (so : Int → Int) (pl : Int → Int) (ct : Int → Int64) (E : Int → Int) (c : Int) (rc : Int) (kc : Int) (wc : Int) (rn : Int → Int64) (lo : Int → Int) (kn : Int → Int64) (ab : Int → Int) (D : Int → Nat → Int → Int) (W : Int → Int → Int64) (hM : M_o S o nm) (hA532 : S.1 532 = .inl (.byte, 2000, .inl fun k : Nat => iI (tx (k : Int)))) (hA534 : S.1 534 = .inl (.long, 22, .inr (.inl fun k : Nat => kN (k : Int)))) (hA536 : S.1 536 = .inl (.int, 22, .inl fun k : Nat => iI (kU (k : Int)))) (hlen : o 3 = len) (hl : 0 ≤ len ∧ len ≤ 2000) (htx : ∀ k, 0 ≤ k → k < len → tx k = tb k) (hX : X_TxE tb len n so pl ct E) (hT : R_tk n so pl ct E c (o 7) (o 8) (o 9) (o 10) (o 11) nm) (h5 : o 5 = 0) (hrc : o 28 = rc) (hkc : o 29 = kc) (hwc : o 30 = wc) (hb : 0 ≤ o 4 ∧ o 4 ≤ 1) (hkw : so c = 3 ∧ ct c = Int64.ofNat 1802071652) (hcr : 1 ≤ kc ∧ kc < 11) (hR : R_kd (o 4) kc kn ab kN kU) (Q : Option Value → X_S → Prop) (hk : ∀ S' : X_S, ((∃ (at1 : Int) (en1 : Int) (tk1 : Int) (nu1 : Int) (dg1 : Int) (nm1 : Int64) (c2 : Int) (ab1 : Int → Int) (kN1 : Int → Int64) (kU1 : Int → Int), R_tk n so pl ct E c2 at1 en1 tk1 nu1 dg1 nm1 ∧ sp_kind n so ct (c, rc, kc, wc, rn, lo, kn, ab, D, W) = some (c2, rc, kc + 1, wc, rn, lo, X_ug kn kc (ct (X_av n c)), ab1, D, W) ∧ R_kd (o 4) (kc + 1) (X_ug kn kc (ct (X_av n c))) ab1 kN1 kU1 ∧ R_ob 11 (o 4) kN kN1 ∧ R_ob 11 (o 4) kU kU1 ∧ M_o S' (X_ou (X_ou (X_ou (X_ou (X_ou (X_ou o 7 at1) 8 en1) 9 tk1) 10 nu1) 11 dg1) 29 (kc + 1)) nm1 ∧ S'.1 534 = .inl (.long, 22, .inr (.inl fun k : Nat => kN1 (k : Int))) ∧ S'.1 536 = .inl (.int, 22, .inl fun k : Nat => iI (kU1 (k : Int))) ∧ (X_Fr (fun q => q = 530 ∨ q = 534 ∨ q = 536) S S')) ∨ (∃ (at1 : Int) (en1 : Int) (tk1 : Int) (nu1 : Int) (dg1 : Int) (nm1 : Int64) (f1 : Int) (g1 : Int) (kc1 : Int) (kN1 : Int → Int64) (kU1 : Int → Int), (1 ≤ f1 ∧ f1 ≤ 5) ∧ sp_kind n so ct (c, rc, kc, wc, rn, lo, kn, ab, D, W) = none ∧ R_ob 11 (o 4) kN kN1 ∧ R_ob 11 (o 4) kU kU1 ∧ M_o S' (X_ou (X_ou (X_ou (X_ou (X_ou (X_ou (X_ou (X_ou o 7 at1) 8 en1) 9 tk1) 10 nu1) 11 dg1) 5 f1) 6 g1) 29 kc1) nm1 ∧ S'.1 534 = .inl (.long, 22, .inr (.inl fun k : Nat => kN1 (k : Int))) ∧ S'.1 536 = .inl (.int, 22, .inl fun k : Nat => iI (kU1 (k : Int))) ∧ (X_Fr (fun q => q = 530 ∨ q = 534 ∨ q = 536) S S'))) → X_T sc 162 (113, [(0, .ref 530)], [], S') Q) : X_T sc 162 (264, [(1, .long (ct c)), (0, .ref 530)], [], S) Q := by
  obtain ⟨⟨hc0, hcn⟩, ⟨hs0, hs1⟩, hk0, ⟨ha0, ha1⟩, hk0e, ⟨_, _⟩, ⟨_, _⟩⟩ := R_tk_f hX hT
  have hn2 := hX.2.1
  refine T_p xr_162_264 xn_162 (pc' := 265) (ls' := [(1, .long (ct c)), (0, .ref 530)]) (st' := [.ref 530]) rfl ?_
  refine T_cv (S := S) (q := 530) xr_162_265 xf_141.1 xf_141.2.1 xn_141 (as := []) (r := []) rfl hM (Nat.le_of_ble_eq_true rfl) (Nat.le_of_ble_eq_true rfl) (pc' := 268) rfl (ls' := [(0, .ref 530)]) rfl ?_
  refine T_mono (r_nx sc S o nm tx tb len n so pl ct E c hM hA532 (show (o 3) = len from by first | assumption | omega) hl htx hX hT (by omega)) (fun v5024 S5025 h5026 => ?_)
  rcases h5026 with ⟨at5027, en5028, tk5029, nu5030, dg5031, nm5032, hv5033, hp5034, hM5035, hf5036⟩
  rw [hv5033]
  have h5037 : S5025.1 530 = .inr (11, [.ref 531, .int (iI (o 1)), .ref 532, .int (iI (o 3)), .int (iI (o 4)), .int (iI (o 5)), .int (iI (o 6)), .int (iI at5027), .int (iI en5028), .int (iI tk5029), .int (iI nu5030), .int (iI dg5031), .long nm5032, .ref 533, .ref 534, .ref 535, .ref 536, .ref 537, .ref 538, .ref 539, .ref 540, .ref 541, .ref 542, .ref 543, .ref 544, .ref 545, .ref 546, .ref 547, .int (iI (o 28)), .int (iI (o 29)), .int (iI (o 30)), .int (iI (o 31)), .int (iI (o 32)), .int (iI (o 33)), .ref 548, .ref 549, .ref 550, .ref 551, .int (iI (o 38)), .ref 552, .ref 553, .ref 554, .ref 555, .ref 556, .ref 557, .ref 558, .ref 559, .ref 560, .ref 561, .int (iI (o 49)), .ref 562, .ref 563, .ref 564, .ref 565, .ref 566, .ref 567, .ref 568, .ref 569, .int (iI (o 58)), .ref 570, .ref 571, .ref 572, .ref 573, .ref 574, .ref 575, .ref 576, .ref 577, .ref 578, .int (iI (o 68)), .int (iI (o 69)), .int (iI (o 70)), .ref 579]) := hM5035
  obtain ⟨⟨_, _⟩, ⟨_, _⟩, hk5038, ⟨_, _⟩, hk5038e, ⟨_, _⟩, ⟨_, _⟩⟩ := R_tk_f hX hp5034
  show X_T sc 162 (268, [(1, .long (ct c)), (0, .ref 530)], [], S5025) _
  refine T_p xr_162_268 xn_162 (pc' := 269) (ls' := [(1, .long (ct c)), (0, .ref 530)]) (st' := [.ref 530]) rfl ?_
  refine T_cv (S := S5025) (q := 530) xr_162_269 xf_140.1 xf_140.2.1 xn_140 (as := []) (r := []) rfl h5037 (Nat.le_of_ble_eq_true rfl) (Nat.le_of_ble_eq_true rfl) (pc' := 272) rfl (ls' := [(0, .ref 530)]) rfl ?_
  refine T_mono (r_isGood sc S5025 (X_ou (X_ou (X_ou (X_ou (X_ou o 7 at5027) 8 en5028) 9 tk5029) 10 nu5030) 11 dg5031) nm5032 h5037 (show 0 ≤ (o 5) ∧ (o 5) ≤ 5 from by omega)) (fun v5039 S5040 h5041 => ?_)
  rcases h5041 with ⟨hv5042, hf5043⟩
  rw [hv5042]
  rw [hf5043]
  show X_T sc 162 (272, [(1, .long (ct c)), (0, .ref 530)], [.int (iI (bI ((o 5) = 0)))], S5025) _
  refine T_bif_ne xr_162_272 (t := 278) (pc' := 275) rfl rfl (fun c5044 => ?_) (fun c5044 => ?_)
  · skip
    have c5044 : ((o 5) = 0) := c5044
    refine T_p xr_162_278 xn_162 (pc' := 279) (ls' := [(1, .long (ct c)), (0, .ref 530)]) (st' := [.long (ct c)]) rfl ?_
    refine T_p xr_162_279 xn_162 (pc' := 282) (ls' := [(1, .long (ct c)), (0, .ref 530)]) (st' := [.long (Int64.ofNat 1918987883), .long (ct c)]) rfl ?_
    refine T_lc_ne xr_162_282 xr_162_283 (t := 293) (pc' := 286) rfl rfl (fun c5045 => ?_) (fun c5045 => ?_)
    · skip
      have c5045 : ¬ (ct c) = (Int64.ofNat 1918987883) := c5045
      refine T_p xr_162_293 xn_162 (pc' := 294) (ls' := [(1, .long (ct c)), (0, .ref 530)]) (st' := [.long (ct c)]) rfl ?_
      refine T_p xr_162_294 xn_162 (pc' := 297) (ls' := [(1, .long (ct c)), (0, .ref 530)]) (st' := [.long (Int64.ofNat 32766990153442674), .long (ct c)]) rfl ?_
      refine T_lc_ne xr_162_297 xr_162_298 (t := 308) (pc' := 301) rfl rfl (fun c5046 => ?_) (fun c5046 => ?_)
      · skip
        have c5046 : ¬ (ct c) = (Int64.ofNat 32766990153442674) := c5046
        refine T_p xr_162_308 xn_162 (pc' := 309) (ls' := [(1, .long (ct c)), (0, .ref 530)]) (st' := [.long (ct c)]) rfl ?_
        refine T_p xr_162_309 xn_162 (pc' := 312) (ls' := [(1, .long (ct c)), (0, .ref 530)]) (st' := [.long (Int64.ofNat 1802071652), .long (ct c)]) rfl ?_
        refine T_lc_ne xr_162_312 xr_162_313 (t := 323) (pc' := 316) rfl rfl (fun c5047 => ?_) (fun c5047 => ?_)
        · skip
          have c5047 : ¬ (ct c) = (Int64.ofNat 1802071652) := c5047
          exact absurd hkw.2 c5047
        · skip
          have c5047 : ¬ (¬ (ct c) = (Int64.ofNat 1802071652)) := c5047
          refine T_p xr_162_316 xn_162 (pc' := 317) (ls' := [(1, .long (ct c)), (0, .ref 530)]) (st' := [.ref 530]) rfl ?_
          refine T_cv (S := S5025) (q := 530) xr_162_317 xf_156.1 xf_156.2.1 xn_156 (as := []) (r := []) rfl h5037 (Nat.le_of_ble_eq_true rfl) (Nat.le_of_ble_eq_true rfl) (pc' := 320) rfl (ls' := [(0, .ref 530)]) rfl ?_
          have h5048 := (hf5036.1 532 (by omega)).trans (hA532)
          have h5049 := (hf5036.1 534 (by omega)).trans (hA534)
          have h5050 := (hf5036.1 536 (by omega)).trans (hA536)
          refine T_mono (r_readKind sc S5025 (X_ou (X_ou (X_ou (X_ou (X_ou o 7 at5027) 8 en5028) 9 tk5029) 10 nu5030) 11 dg5031) nm5032 tx kN kU tb len n so pl ct E (X_av n c) c rc kc wc rn lo kn ab D W h5037 h5048 h5049 h5050 (show (o 3) = len from by first | assumption | omega) hl htx hX hp5034 (show (o 5) = 0 from by omega) (show (o 29) = kc from by omega) (by omega) (show 0 ≤ (o 4) ∧ (o 4) ≤ 1 from by omega) (by omega) hR) (fun v5051 S5052 h5053 => ?_)
          rcases h5053 with ⟨at5054, en5055, tk5056, nu5057, dg5058, nm5059, c5060, ab5061, kN5062, kU5063, hv5064, hp5065, hp5066, hp5067, hp5068, hp5069, hM5070, ha5071, ha5072, hf5073⟩ | ⟨at5074, en5075, tk5076, nu5077, dg5078, nm5079, kc5080, f5081, g5082, kN5083, kU5084, hv5085, hp5086, hp5087, hp5088, hp5089, hM5090, ha5091, ha5092, hf5093⟩
          · skip
            rw [hv5064]
            have h5094 : S5052.1 530 = .inr (11, [.ref 531, .int (iI (o 1)), .ref 532, .int (iI (o 3)), .int (iI (o 4)), .int (iI (o 5)), .int (iI (o 6)), .int (iI at5054), .int (iI en5055), .int (iI tk5056), .int (iI nu5057), .int (iI dg5058), .long nm5059, .ref 533, .ref 534, .ref 535, .ref 536, .ref 537, .ref 538, .ref 539, .ref 540, .ref 541, .ref 542, .ref 543, .ref 544, .ref 545, .ref 546, .ref 547, .int (iI (o 28)), .int (iI (kc + 1)), .int (iI (o 30)), .int (iI (o 31)), .int (iI (o 32)), .int (iI (o 33)), .ref 548, .ref 549, .ref 550, .ref 551, .int (iI (o 38)), .ref 552, .ref 553, .ref 554, .ref 555, .ref 556, .ref 557, .ref 558, .ref 559, .ref 560, .ref 561, .int (iI (o 49)), .ref 562, .ref 563, .ref 564, .ref 565, .ref 566, .ref 567, .ref 568, .ref 569, .int (iI (o 58)), .ref 570, .ref 571, .ref 572, .ref 573, .ref 574, .ref 575, .ref 576, .ref 577, .ref 578, .int (iI (o 68)), .int (iI (o 69)), .int (iI (o 70)), .ref 579]) := hM5070
            have hp5067 : R_kd ((o 4)) (kc + 1) (X_ug kn kc (ct (X_av n c))) ab5061 kN5062 kU5063 := hp5067
            have hp5068 : R_ob 11 ((o 4)) kN kN5062 := hp5068
            have hp5069 : R_ob 11 ((o 4)) kU kU5063 := hp5069
            obtain ⟨⟨_, _⟩, ⟨_, _⟩, hk5095, ⟨_, _⟩, hk5095e, ⟨_, _⟩, ⟨_, _⟩⟩ := R_tk_f hX hp5065
            show X_T sc 162 (320, [(1, .long (ct c)), (0, .ref 530)], [], S5052) _
            refine T_p xr_162_320 xn_162 (pc' := 327) (ls' := [(1, .long (ct c)), (0, .ref 530)]) (st' := []) rfl ?_
            refine T_p xr_162_327 xn_162 (pc' := 113) (ls' := [(1, .long (ct c)), (0, .ref 530)]) (st' := []) rfl ?_
            refine T_sub (ls := [(0, .ref 530)]) ⟨rfl, trivial⟩ rfl rfl ?_
            refine hk _ ?_
            exact Or.inl ⟨at5054, en5055, tk5056, nu5057, dg5058, nm5059, c5060, ab5061, kN5062, kU5063, hp5065, hp5066, hp5067, hp5068, hp5069, h5094, ha5071, ha5072, ((X_Fr.rf).tr (X_Fr.mono ⟨hf5036.1, hf5036.2⟩ (fun q hq => (by omega)))).tr (X_Fr.mono ⟨hf5073.1, hf5073.2⟩ (fun q hq => (by omega)))⟩
          · skip
            rw [hv5085]
            have h5096 : S5052.1 530 = .inr (11, [.ref 531, .int (iI (o 1)), .ref 532, .int (iI (o 3)), .int (iI (o 4)), .int (iI f5081), .int (iI g5082), .int (iI at5074), .int (iI en5075), .int (iI tk5076), .int (iI nu5077), .int (iI dg5078), .long nm5079, .ref 533, .ref 534, .ref 535, .ref 536, .ref 537, .ref 538, .ref 539, .ref 540, .ref 541, .ref 542, .ref 543, .ref 544, .ref 545, .ref 546, .ref 547, .int (iI (o 28)), .int (iI kc5080), .int (iI (o 30)), .int (iI (o 31)), .int (iI (o 32)), .int (iI (o 33)), .ref 548, .ref 549, .ref 550, .ref 551, .int (iI (o 38)), .ref 552, .ref 553, .ref 554, .ref 555, .ref 556, .ref 557, .ref 558, .ref 559, .ref 560, .ref 561, .int (iI (o 49)), .ref 562, .ref 563, .ref 564, .ref 565, .ref 566, .ref 567, .ref 568, .ref 569, .int (iI (o 58)), .ref 570, .ref 571, .ref 572, .ref 573, .ref 574, .ref 575, .ref 576, .ref 577, .ref 578, .int (iI (o 68)), .int (iI (o 69)), .int (iI (o 70)), .ref 579]) := hM5090
            have hp5088 : R_ob 11 ((o 4)) kN kN5083 := hp5088
            have hp5089 : R_ob 11 ((o 4)) kU kU5084 := hp5089
            show X_T sc 162 (320, [(1, .long (ct c)), (0, .ref 530)], [], S5052) _
            refine T_p xr_162_320 xn_162 (pc' := 327) (ls' := [(1, .long (ct c)), (0, .ref 530)]) (st' := []) rfl ?_
            refine T_p xr_162_327 xn_162 (pc' := 113) (ls' := [(1, .long (ct c)), (0, .ref 530)]) (st' := []) rfl ?_
            refine T_sub (ls := [(0, .ref 530)]) ⟨rfl, trivial⟩ rfl rfl ?_
            refine hk _ ?_
            exact Or.inr ⟨at5074, en5075, tk5076, nu5077, dg5078, nm5079, f5081, g5082, kc5080, kN5083, kU5084, hp5086, hp5087, hp5088, hp5089, h5096, ha5091, ha5092, ((X_Fr.rf).tr (X_Fr.mono ⟨hf5036.1, hf5036.2⟩ (fun q hq => (by omega)))).tr (X_Fr.mono ⟨hf5093.1, hf5093.2⟩ (fun q hq => (by omega)))⟩
      · skip
        have c5046 : ¬ (¬ (ct c) = (Int64.ofNat 32766990153442674)) := c5046
        exact absurd ((hkw.2).symm.trans (show ct c = Int64.ofNat 32766990153442674 from (by first | exact c5046 | exact Classical.not_not.mp c5046))) (by decide)
    · skip
      have c5045 : ¬ (¬ (ct c) = (Int64.ofNat 1918987883)) := c5045
      exact absurd ((hkw.2).symm.trans (show ct c = Int64.ofNat 1918987883 from (by first | exact c5045 | exact Classical.not_not.mp c5045))) (by decide)
  · skip
    have c5044 : ¬ ((o 5) = 0) := c5044
    exact (show False by first | contradiction | omega).elim
set_option maxHeartbeats 4000000 in
theorem r_lnW (sc : X_Sc) (S : X_S) (o : Nat → Int) (nm : Int64) (tx : Int → Int) (rN : Int → Int64) (kN : Int → Int64) (wR : Int → Int) (wL : Int → Int) (wK : Int → Int) (wM : Int → Int) (wH : Int → Int) (wS : Int → Int) (sO : Int → Int) (sN : Int → Int) (eP : Int → Int64) (eH : Int → Int) (hK : Int → Int) (tb : Int → Int) (len : Int) (n : Int) (so : Int → Int) (pl : Int → Int) (ct : Int → Int64) (E : Int → Int) (c : Int) (rc : Int) (kc : Int) (wc : Int) (rn : Int → Int64) (lo : Int → Int) (kn : Int → Int64) (ab : Int → Int) (D : Int → Nat → Int → Int) (W : Int → Int → Int64) (hM : M_o S o nm) (hA532 : S.1 532 = .inl (.byte, 2000, .inl fun k : Nat => iI (tx (k : Int)))) (hA533 : S.1 533 = .inl (.long, 24, .inr (.inl fun k : Nat => rN (k : Int)))) (hA534 : S.1 534 = .inl (.long, 22, .inr (.inl fun k : Nat => kN (k : Int)))) (hA537 : S.1 537 = .inl (.int, 60, .inl fun k : Nat => iI (wR (k : Int)))) (hA538 : S.1 538 = .inl (.int, 60, .inl fun k : Nat => iI (wL (k : Int)))) (hA539 : S.1 539 = .inl (.int, 60, .inl fun k : Nat => iI (wK (k : Int)))) (hA540 : S.1 540 = .inl (.int, 60, .inl fun k : Nat => iI (wM (k : Int)))) (hA541 : S.1 541 = .inl (.int, 60, .inl fun k : Nat => iI (wH (k : Int)))) (hA542 : S.1 542 = .inl (.int, 60, .inl fun k : Nat => iI (wS (k : Int)))) (hA543 : S.1 543 = .inl (.int, 1800, .inl fun k : Nat => iI (sO (k : Int)))) (hA544 : S.1 544 = .inl (.int, 1800, .inl fun k : Nat => iI (sN (k : Int)))) (hA545 : S.1 545 = .inl (.long, 480, .inr (.inl fun k : Nat => eP (k : Int)))) (hA546 : S.1 546 = .inl (.int, 480, .inl fun k : Nat => iI (eH (k : Int)))) (hA547 : S.1 547 = .inl (.int, 240, .inl fun k : Nat => iI (hK (k : Int)))) (hlen : o 3 = len) (hl : 0 ≤ len ∧ len ≤ 2000) (htx : ∀ k, 0 ≤ k → k < len → tx k = tb k) (hX : X_TxE tb len n so pl ct E) (hT : R_tk n so pl ct E c (o 7) (o 8) (o 9) (o 10) (o 11) nm) (h5 : o 5 = 0) (hrc : o 28 = rc) (hkc : o 29 = kc) (hwc : o 30 = wc) (hb : 0 ≤ o 4 ∧ o 4 ≤ 1) (hkw : so c = 3 ∧ ct c = Int64.ofNat 2003792484) (hcr : (0 ≤ rc ∧ rc ≤ 12) ∧ 1 ≤ kc ∧ kc ≤ 11) (hwl : 0 ≤ wc ∧ wc < 30) (hN1 : ∀ i, 0 ≤ i → i < rc → rN (12 * o 4 + i) = rn i) (hN2 : ∀ i, 0 ≤ i → i < kc → kN (11 * o 4 + i) = kn i) (hct : ∀ i, 0 ≤ i → i < n → so i = 6 → ¬ ct i = 0) (Q : Option Value → X_S → Prop) (hk : ∀ S' : X_S, ((∃ (at1 : Int) (en1 : Int) (tk1 : Int) (nu1 : Int) (dg1 : Int) (nm1 : Int64) (g1 : Int) (c2 : Int) (d2 : Nat → Int → Int) (q2 : Int → Int64) (wR1 : Int → Int) (wL1 : Int → Int) (wK1 : Int → Int) (wM1 : Int → Int) (wH1 : Int → Int) (wS1 : Int → Int) (sO1 : Int → Int) (sN1 : Int → Int) (eP1 : Int → Int64) (eH1 : Int → Int) (hK1 : Int → Int), R_tk n so pl ct E c2 at1 en1 tk1 nu1 dg1 nm1 ∧ sp_word n so ct (c, rc, kc, wc, rn, lo, kn, ab, D, W) = some (c2, rc, kc, wc + 1, rn, lo, kn, ab, X_ug D wc d2, X_ug W wc q2) ∧ R_w (30 * o 4 + wc) d2 q2 wR1 wL1 wK1 wM1 wH1 wS1 sO1 sN1 eP1 eH1 hK1 ∧ R_ob 1 (30 * o 4 + wc) wR wR1 ∧ R_ob 1 (30 * o 4 + wc) wL wL1 ∧ R_ob 1 (30 * o 4 + wc) wK wK1 ∧ R_ob 1 (30 * o 4 + wc) wM wM1 ∧ R_ob 1 (30 * o 4 + wc) wH wH1 ∧ R_ob 1 (30 * o 4 + wc) wS wS1 ∧ R_ob 30 (30 * o 4 + wc) sO sO1 ∧ R_ob 30 (30 * o 4 + wc) sN sN1 ∧ R_ob 8 (30 * o 4 + wc) eP eP1 ∧ R_ob 8 (30 * o 4 + wc) eH eH1 ∧ R_ob 4 (30 * o 4 + wc) hK hK1 ∧ M_o S' (X_ou (X_ou (X_ou (X_ou (X_ou (X_ou (X_ou o 7 at1) 8 en1) 9 tk1) 10 nu1) 11 dg1) 6 g1) 30 (wc + 1)) nm1 ∧ S'.1 537 = .inl (.int, 60, .inl fun k : Nat => iI (wR1 (k : Int))) ∧ S'.1 538 = .inl (.int, 60, .inl fun k : Nat => iI (wL1 (k : Int))) ∧ S'.1 539 = .inl (.int, 60, .inl fun k : Nat => iI (wK1 (k : Int))) ∧ S'.1 540 = .inl (.int, 60, .inl fun k : Nat => iI (wM1 (k : Int))) ∧ S'.1 541 = .inl (.int, 60, .inl fun k : Nat => iI (wH1 (k : Int))) ∧ S'.1 542 = .inl (.int, 60, .inl fun k : Nat => iI (wS1 (k : Int))) ∧ S'.1 543 = .inl (.int, 1800, .inl fun k : Nat => iI (sO1 (k : Int))) ∧ S'.1 544 = .inl (.int, 1800, .inl fun k : Nat => iI (sN1 (k : Int))) ∧ S'.1 545 = .inl (.long, 480, .inr (.inl fun k : Nat => eP1 (k : Int))) ∧ S'.1 546 = .inl (.int, 480, .inl fun k : Nat => iI (eH1 (k : Int))) ∧ S'.1 547 = .inl (.int, 240, .inl fun k : Nat => iI (hK1 (k : Int))) ∧ (X_Fr (fun q => q = 530 ∨ q = 537 ∨ q = 538 ∨ q = 539 ∨ q = 540 ∨ q = 541 ∨ q = 542 ∨ q = 543 ∨ q = 544 ∨ q = 545 ∨ q = 546 ∨ q = 547) S S')) ∨ (∃ (at1 : Int) (en1 : Int) (tk1 : Int) (nu1 : Int) (dg1 : Int) (nm1 : Int64) (f1 : Int) (g1 : Int) (wc1 : Int) (wR1 : Int → Int) (wL1 : Int → Int) (wK1 : Int → Int) (wM1 : Int → Int) (wH1 : Int → Int) (wS1 : Int → Int) (sO1 : Int → Int) (sN1 : Int → Int) (eP1 : Int → Int64) (eH1 : Int → Int) (hK1 : Int → Int), (1 ≤ f1 ∧ f1 ≤ 5) ∧ sp_word n so ct (c, rc, kc, wc, rn, lo, kn, ab, D, W) = none ∧ R_ob 1 (30 * o 4 + wc) wR wR1 ∧ R_ob 1 (30 * o 4 + wc) wL wL1 ∧ R_ob 1 (30 * o 4 + wc) wK wK1 ∧ R_ob 1 (30 * o 4 + wc) wM wM1 ∧ R_ob 1 (30 * o 4 + wc) wH wH1 ∧ R_ob 1 (30 * o 4 + wc) wS wS1 ∧ R_ob 30 (30 * o 4 + wc) sO sO1 ∧ R_ob 30 (30 * o 4 + wc) sN sN1 ∧ R_ob 8 (30 * o 4 + wc) eP eP1 ∧ R_ob 8 (30 * o 4 + wc) eH eH1 ∧ R_ob 4 (30 * o 4 + wc) hK hK1 ∧ M_o S' (X_ou (X_ou (X_ou (X_ou (X_ou (X_ou (X_ou (X_ou o 7 at1) 8 en1) 9 tk1) 10 nu1) 11 dg1) 5 f1) 6 g1) 30 wc1) nm1 ∧ S'.1 537 = .inl (.int, 60, .inl fun k : Nat => iI (wR1 (k : Int))) ∧ S'.1 538 = .inl (.int, 60, .inl fun k : Nat => iI (wL1 (k : Int))) ∧ S'.1 539 = .inl (.int, 60, .inl fun k : Nat => iI (wK1 (k : Int))) ∧ S'.1 540 = .inl (.int, 60, .inl fun k : Nat => iI (wM1 (k : Int))) ∧ S'.1 541 = .inl (.int, 60, .inl fun k : Nat => iI (wH1 (k : Int))) ∧ S'.1 542 = .inl (.int, 60, .inl fun k : Nat => iI (wS1 (k : Int))) ∧ S'.1 543 = .inl (.int, 1800, .inl fun k : Nat => iI (sO1 (k : Int))) ∧ S'.1 544 = .inl (.int, 1800, .inl fun k : Nat => iI (sN1 (k : Int))) ∧ S'.1 545 = .inl (.long, 480, .inr (.inl fun k : Nat => eP1 (k : Int))) ∧ S'.1 546 = .inl (.int, 480, .inl fun k : Nat => iI (eH1 (k : Int))) ∧ S'.1 547 = .inl (.int, 240, .inl fun k : Nat => iI (hK1 (k : Int))) ∧ (X_Fr (fun q => q = 530 ∨ q = 537 ∨ q = 538 ∨ q = 539 ∨ q = 540 ∨ q = 541 ∨ q = 542 ∨ q = 543 ∨ q = 544 ∨ q = 545 ∨ q = 546 ∨ q = 547) S S'))) → X_T sc 162 (113, [(0, .ref 530)], [], S') Q) : X_T sc 162 (264, [(1, .long (ct c)), (0, .ref 530)], [], S) Q := by
  obtain ⟨⟨hc0, hcn⟩, ⟨hs0, hs1⟩, hk0, ⟨ha0, ha1⟩, hk0e, ⟨_, _⟩, ⟨_, _⟩⟩ := R_tk_f hX hT
  have hn2 := hX.2.1
  refine T_p xr_162_264 xn_162 (pc' := 265) (ls' := [(1, .long (ct c)), (0, .ref 530)]) (st' := [.ref 530]) rfl ?_
  refine T_cv (S := S) (q := 530) xr_162_265 xf_141.1 xf_141.2.1 xn_141 (as := []) (r := []) rfl hM (Nat.le_of_ble_eq_true rfl) (Nat.le_of_ble_eq_true rfl) (pc' := 268) rfl (ls' := [(0, .ref 530)]) rfl ?_
  refine T_mono (r_nx sc S o nm tx tb len n so pl ct E c hM hA532 (show (o 3) = len from by first | assumption | omega) hl htx hX hT (by omega)) (fun v5097 S5098 h5099 => ?_)
  rcases h5099 with ⟨at5100, en5101, tk5102, nu5103, dg5104, nm5105, hv5106, hp5107, hM5108, hf5109⟩
  rw [hv5106]
  have h5110 : S5098.1 530 = .inr (11, [.ref 531, .int (iI (o 1)), .ref 532, .int (iI (o 3)), .int (iI (o 4)), .int (iI (o 5)), .int (iI (o 6)), .int (iI at5100), .int (iI en5101), .int (iI tk5102), .int (iI nu5103), .int (iI dg5104), .long nm5105, .ref 533, .ref 534, .ref 535, .ref 536, .ref 537, .ref 538, .ref 539, .ref 540, .ref 541, .ref 542, .ref 543, .ref 544, .ref 545, .ref 546, .ref 547, .int (iI (o 28)), .int (iI (o 29)), .int (iI (o 30)), .int (iI (o 31)), .int (iI (o 32)), .int (iI (o 33)), .ref 548, .ref 549, .ref 550, .ref 551, .int (iI (o 38)), .ref 552, .ref 553, .ref 554, .ref 555, .ref 556, .ref 557, .ref 558, .ref 559, .ref 560, .ref 561, .int (iI (o 49)), .ref 562, .ref 563, .ref 564, .ref 565, .ref 566, .ref 567, .ref 568, .ref 569, .int (iI (o 58)), .ref 570, .ref 571, .ref 572, .ref 573, .ref 574, .ref 575, .ref 576, .ref 577, .ref 578, .int (iI (o 68)), .int (iI (o 69)), .int (iI (o 70)), .ref 579]) := hM5108
  obtain ⟨⟨_, _⟩, ⟨_, _⟩, hk5111, ⟨_, _⟩, hk5111e, ⟨_, _⟩, ⟨_, _⟩⟩ := R_tk_f hX hp5107
  show X_T sc 162 (268, [(1, .long (ct c)), (0, .ref 530)], [], S5098) _
  refine T_p xr_162_268 xn_162 (pc' := 269) (ls' := [(1, .long (ct c)), (0, .ref 530)]) (st' := [.ref 530]) rfl ?_
  refine T_cv (S := S5098) (q := 530) xr_162_269 xf_140.1 xf_140.2.1 xn_140 (as := []) (r := []) rfl h5110 (Nat.le_of_ble_eq_true rfl) (Nat.le_of_ble_eq_true rfl) (pc' := 272) rfl (ls' := [(0, .ref 530)]) rfl ?_
  refine T_mono (r_isGood sc S5098 (X_ou (X_ou (X_ou (X_ou (X_ou o 7 at5100) 8 en5101) 9 tk5102) 10 nu5103) 11 dg5104) nm5105 h5110 (show 0 ≤ (o 5) ∧ (o 5) ≤ 5 from by omega)) (fun v5112 S5113 h5114 => ?_)
  rcases h5114 with ⟨hv5115, hf5116⟩
  rw [hv5115]
  rw [hf5116]
  show X_T sc 162 (272, [(1, .long (ct c)), (0, .ref 530)], [.int (iI (bI ((o 5) = 0)))], S5098) _
  refine T_bif_ne xr_162_272 (t := 278) (pc' := 275) rfl rfl (fun c5117 => ?_) (fun c5117 => ?_)
  · skip
    have c5117 : ((o 5) = 0) := c5117
    refine T_p xr_162_278 xn_162 (pc' := 279) (ls' := [(1, .long (ct c)), (0, .ref 530)]) (st' := [.long (ct c)]) rfl ?_
    refine T_p xr_162_279 xn_162 (pc' := 282) (ls' := [(1, .long (ct c)), (0, .ref 530)]) (st' := [.long (Int64.ofNat 1918987883), .long (ct c)]) rfl ?_
    refine T_lc_ne xr_162_282 xr_162_283 (t := 293) (pc' := 286) rfl rfl (fun c5118 => ?_) (fun c5118 => ?_)
    · skip
      have c5118 : ¬ (ct c) = (Int64.ofNat 1918987883) := c5118
      refine T_p xr_162_293 xn_162 (pc' := 294) (ls' := [(1, .long (ct c)), (0, .ref 530)]) (st' := [.long (ct c)]) rfl ?_
      refine T_p xr_162_294 xn_162 (pc' := 297) (ls' := [(1, .long (ct c)), (0, .ref 530)]) (st' := [.long (Int64.ofNat 32766990153442674), .long (ct c)]) rfl ?_
      refine T_lc_ne xr_162_297 xr_162_298 (t := 308) (pc' := 301) rfl rfl (fun c5119 => ?_) (fun c5119 => ?_)
      · skip
        have c5119 : ¬ (ct c) = (Int64.ofNat 32766990153442674) := c5119
        refine T_p xr_162_308 xn_162 (pc' := 309) (ls' := [(1, .long (ct c)), (0, .ref 530)]) (st' := [.long (ct c)]) rfl ?_
        refine T_p xr_162_309 xn_162 (pc' := 312) (ls' := [(1, .long (ct c)), (0, .ref 530)]) (st' := [.long (Int64.ofNat 1802071652), .long (ct c)]) rfl ?_
        refine T_lc_ne xr_162_312 xr_162_313 (t := 323) (pc' := 316) rfl rfl (fun c5120 => ?_) (fun c5120 => ?_)
        · skip
          have c5120 : ¬ (ct c) = (Int64.ofNat 1802071652) := c5120
          refine T_p xr_162_323 xn_162 (pc' := 324) (ls' := [(1, .long (ct c)), (0, .ref 530)]) (st' := [.ref 530]) rfl ?_
          refine T_cv (S := S5098) (q := 530) xr_162_324 xf_157.1 xf_157.2.1 xn_157 (as := []) (r := []) rfl h5110 (Nat.le_of_ble_eq_true rfl) (Nat.le_of_ble_eq_true rfl) (pc' := 327) rfl (ls' := [(0, .ref 530)]) rfl ?_
          have h5121 := (hf5109.1 532 (by omega)).trans (hA532)
          have h5122 := (hf5109.1 533 (by omega)).trans (hA533)
          have h5123 := (hf5109.1 534 (by omega)).trans (hA534)
          have h5124 := (hf5109.1 537 (by omega)).trans (hA537)
          have h5125 := (hf5109.1 538 (by omega)).trans (hA538)
          have h5126 := (hf5109.1 539 (by omega)).trans (hA539)
          have h5127 := (hf5109.1 540 (by omega)).trans (hA540)
          have h5128 := (hf5109.1 541 (by omega)).trans (hA541)
          have h5129 := (hf5109.1 542 (by omega)).trans (hA542)
          have h5130 := (hf5109.1 543 (by omega)).trans (hA543)
          have h5131 := (hf5109.1 544 (by omega)).trans (hA544)
          have h5132 := (hf5109.1 545 (by omega)).trans (hA545)
          have h5133 := (hf5109.1 546 (by omega)).trans (hA546)
          have h5134 := (hf5109.1 547 (by omega)).trans (hA547)
          refine T_mono (r_readWord sc S5098 (X_ou (X_ou (X_ou (X_ou (X_ou o 7 at5100) 8 en5101) 9 tk5102) 10 nu5103) 11 dg5104) nm5105 tx rN kN wR wL wK wM wH wS sO sN eP eH hK tb len n so pl ct E (X_av n c) c rc kc wc rn lo kn ab D W h5110 h5121 h5122 h5123 h5124 h5125 h5126 h5127 h5128 h5129 h5130 h5131 h5132 h5133 h5134 (show (o 3) = len from by first | assumption | omega) hl htx hX hp5107 (show (o 5) = 0 from by omega) (show (o 28) = rc from by omega) (show (o 29) = kc from by omega) (show (o 30) = wc from by omega) (by omega) (show 0 ≤ (o 4) ∧ (o 4) ≤ 1 from by omega) (by omega) (by omega) hN1 hN2 hct) (fun v5135 S5136 h5137 => ?_)
          rcases h5137 with ⟨at5138, en5139, tk5140, nu5141, dg5142, nm5143, g5144, c5145, d5146, q5147, wR5148, wL5149, wK5150, wM5151, wH5152, wS5153, sO5154, sN5155, eP5156, eH5157, hK5158, hv5159, hp5160, hp5161, hp5162, hp5163, hp5164, hp5165, hp5166, hp5167, hp5168, hp5169, hp5170, hp5171, hp5172, hp5173, hM5174, ha5175, ha5176, ha5177, ha5178, ha5179, ha5180, ha5181, ha5182, ha5183, ha5184, ha5185, hf5186⟩ | ⟨at5187, en5188, tk5189, nu5190, dg5191, nm5192, wc5193, f5194, g5195, wR5196, wL5197, wK5198, wM5199, wH5200, wS5201, sO5202, sN5203, eP5204, eH5205, hK5206, hv5207, hp5208, hp5209, hp5210, hp5211, hp5212, hp5213, hp5214, hp5215, hp5216, hp5217, hp5218, hp5219, hp5220, hM5221, ha5222, ha5223, ha5224, ha5225, ha5226, ha5227, ha5228, ha5229, ha5230, ha5231, ha5232, hf5233⟩
          · skip
            rw [hv5159]
            have h5234 : S5136.1 530 = .inr (11, [.ref 531, .int (iI (o 1)), .ref 532, .int (iI (o 3)), .int (iI (o 4)), .int (iI (o 5)), .int (iI g5144), .int (iI at5138), .int (iI en5139), .int (iI tk5140), .int (iI nu5141), .int (iI dg5142), .long nm5143, .ref 533, .ref 534, .ref 535, .ref 536, .ref 537, .ref 538, .ref 539, .ref 540, .ref 541, .ref 542, .ref 543, .ref 544, .ref 545, .ref 546, .ref 547, .int (iI (o 28)), .int (iI (o 29)), .int (iI (wc + 1)), .int (iI (o 31)), .int (iI (o 32)), .int (iI (o 33)), .ref 548, .ref 549, .ref 550, .ref 551, .int (iI (o 38)), .ref 552, .ref 553, .ref 554, .ref 555, .ref 556, .ref 557, .ref 558, .ref 559, .ref 560, .ref 561, .int (iI (o 49)), .ref 562, .ref 563, .ref 564, .ref 565, .ref 566, .ref 567, .ref 568, .ref 569, .int (iI (o 58)), .ref 570, .ref 571, .ref 572, .ref 573, .ref 574, .ref 575, .ref 576, .ref 577, .ref 578, .int (iI (o 68)), .int (iI (o 69)), .int (iI (o 70)), .ref 579]) := hM5174
            have hp5162 : R_w (30 * (o 4) + wc) d5146 q5147 wR5148 wL5149 wK5150 wM5151 wH5152 wS5153 sO5154 sN5155 eP5156 eH5157 hK5158 := hp5162
            have hp5163 : R_ob 1 (30 * (o 4) + wc) wR wR5148 := hp5163
            have hp5164 : R_ob 1 (30 * (o 4) + wc) wL wL5149 := hp5164
            have hp5165 : R_ob 1 (30 * (o 4) + wc) wK wK5150 := hp5165
            have hp5166 : R_ob 1 (30 * (o 4) + wc) wM wM5151 := hp5166
            have hp5167 : R_ob 1 (30 * (o 4) + wc) wH wH5152 := hp5167
            have hp5168 : R_ob 1 (30 * (o 4) + wc) wS wS5153 := hp5168
            have hp5169 : R_ob 30 (30 * (o 4) + wc) sO sO5154 := hp5169
            have hp5170 : R_ob 30 (30 * (o 4) + wc) sN sN5155 := hp5170
            have hp5171 : R_ob 8 (30 * (o 4) + wc) eP eP5156 := hp5171
            have hp5172 : R_ob 8 (30 * (o 4) + wc) eH eH5157 := hp5172
            have hp5173 : R_ob 4 (30 * (o 4) + wc) hK hK5158 := hp5173
            obtain ⟨⟨_, _⟩, ⟨_, _⟩, hk5235, ⟨_, _⟩, hk5235e, ⟨_, _⟩, ⟨_, _⟩⟩ := R_tk_f hX hp5160
            show X_T sc 162 (327, [(1, .long (ct c)), (0, .ref 530)], [], S5136) _
            refine T_p xr_162_327 xn_162 (pc' := 113) (ls' := [(1, .long (ct c)), (0, .ref 530)]) (st' := []) rfl ?_
            refine T_sub (ls := [(0, .ref 530)]) ⟨rfl, trivial⟩ rfl rfl ?_
            refine hk _ ?_
            exact Or.inl ⟨at5138, en5139, tk5140, nu5141, dg5142, nm5143, g5144, c5145, d5146, q5147, wR5148, wL5149, wK5150, wM5151, wH5152, wS5153, sO5154, sN5155, eP5156, eH5157, hK5158, hp5160, hp5161, hp5162, hp5163, hp5164, hp5165, hp5166, hp5167, hp5168, hp5169, hp5170, hp5171, hp5172, hp5173, h5234, ha5175, ha5176, ha5177, ha5178, ha5179, ha5180, ha5181, ha5182, ha5183, ha5184, ha5185, ((X_Fr.rf).tr (X_Fr.mono ⟨hf5109.1, hf5109.2⟩ (fun q hq => (by omega)))).tr (X_Fr.mono ⟨hf5186.1, hf5186.2⟩ (fun q hq => (by omega)))⟩
          · skip
            rw [hv5207]
            have h5236 : S5136.1 530 = .inr (11, [.ref 531, .int (iI (o 1)), .ref 532, .int (iI (o 3)), .int (iI (o 4)), .int (iI f5194), .int (iI g5195), .int (iI at5187), .int (iI en5188), .int (iI tk5189), .int (iI nu5190), .int (iI dg5191), .long nm5192, .ref 533, .ref 534, .ref 535, .ref 536, .ref 537, .ref 538, .ref 539, .ref 540, .ref 541, .ref 542, .ref 543, .ref 544, .ref 545, .ref 546, .ref 547, .int (iI (o 28)), .int (iI (o 29)), .int (iI wc5193), .int (iI (o 31)), .int (iI (o 32)), .int (iI (o 33)), .ref 548, .ref 549, .ref 550, .ref 551, .int (iI (o 38)), .ref 552, .ref 553, .ref 554, .ref 555, .ref 556, .ref 557, .ref 558, .ref 559, .ref 560, .ref 561, .int (iI (o 49)), .ref 562, .ref 563, .ref 564, .ref 565, .ref 566, .ref 567, .ref 568, .ref 569, .int (iI (o 58)), .ref 570, .ref 571, .ref 572, .ref 573, .ref 574, .ref 575, .ref 576, .ref 577, .ref 578, .int (iI (o 68)), .int (iI (o 69)), .int (iI (o 70)), .ref 579]) := hM5221
            have hp5210 : R_ob 1 (30 * (o 4) + wc) wR wR5196 := hp5210
            have hp5211 : R_ob 1 (30 * (o 4) + wc) wL wL5197 := hp5211
            have hp5212 : R_ob 1 (30 * (o 4) + wc) wK wK5198 := hp5212
            have hp5213 : R_ob 1 (30 * (o 4) + wc) wM wM5199 := hp5213
            have hp5214 : R_ob 1 (30 * (o 4) + wc) wH wH5200 := hp5214
            have hp5215 : R_ob 1 (30 * (o 4) + wc) wS wS5201 := hp5215
            have hp5216 : R_ob 30 (30 * (o 4) + wc) sO sO5202 := hp5216
            have hp5217 : R_ob 30 (30 * (o 4) + wc) sN sN5203 := hp5217
            have hp5218 : R_ob 8 (30 * (o 4) + wc) eP eP5204 := hp5218
            have hp5219 : R_ob 8 (30 * (o 4) + wc) eH eH5205 := hp5219
            have hp5220 : R_ob 4 (30 * (o 4) + wc) hK hK5206 := hp5220
            show X_T sc 162 (327, [(1, .long (ct c)), (0, .ref 530)], [], S5136) _
            refine T_p xr_162_327 xn_162 (pc' := 113) (ls' := [(1, .long (ct c)), (0, .ref 530)]) (st' := []) rfl ?_
            refine T_sub (ls := [(0, .ref 530)]) ⟨rfl, trivial⟩ rfl rfl ?_
            refine hk _ ?_
            exact Or.inr ⟨at5187, en5188, tk5189, nu5190, dg5191, nm5192, f5194, g5195, wc5193, wR5196, wL5197, wK5198, wM5199, wH5200, wS5201, sO5202, sN5203, eP5204, eH5205, hK5206, hp5208, hp5209, hp5210, hp5211, hp5212, hp5213, hp5214, hp5215, hp5216, hp5217, hp5218, hp5219, hp5220, h5236, ha5222, ha5223, ha5224, ha5225, ha5226, ha5227, ha5228, ha5229, ha5230, ha5231, ha5232, ((X_Fr.rf).tr (X_Fr.mono ⟨hf5109.1, hf5109.2⟩ (fun q hq => (by omega)))).tr (X_Fr.mono ⟨hf5233.1, hf5233.2⟩ (fun q hq => (by omega)))⟩
        · skip
          have c5120 : ¬ (¬ (ct c) = (Int64.ofNat 1802071652)) := c5120
          exact absurd ((hkw.2).symm.trans (show ct c = Int64.ofNat 1802071652 from (by first | exact c5120 | exact Classical.not_not.mp c5120))) (by decide)
      · skip
        have c5119 : ¬ (¬ (ct c) = (Int64.ofNat 32766990153442674)) := c5119
        exact absurd ((hkw.2).symm.trans (show ct c = Int64.ofNat 32766990153442674 from (by first | exact c5119 | exact Classical.not_not.mp c5119))) (by decide)
    · skip
      have c5118 : ¬ (¬ (ct c) = (Int64.ofNat 1918987883)) := c5118
      exact absurd ((hkw.2).symm.trans (show ct c = Int64.ofNat 1918987883 from (by first | exact c5118 | exact Classical.not_not.mp c5118))) (by decide)
  · skip
    have c5117 : ¬ ((o 5) = 0) := c5117
    exact (show False by first | contradiction | omega).elim
