theorem xr_16_0 : X_row 16 0 = some (0, (.iconst 0, 1), (0, 0, 0)) := by decide +kernel
theorem xr_16_1 : X_row 16 1 = some (1, (.istore_n 1, 1), (0, 0, 0)) := by decide +kernel
theorem xr_16_2 : X_row 16 2 = some (2, (.iload_n 1, 1), (0, 0, 0)) := by decide +kernel
theorem xr_16_3 : X_row 16 3 = some (3, (.aload_n 0, 1), (0, 0, 0)) := by decide +kernel
theorem xr_16_4 : X_row 16 4 = some (4, (.getfield 42, 3), (0, 2, 22)) := by decide +kernel
theorem xr_16_7 : X_row 16 7 = some (7, (.if_icmp .ge 90, 3), (0, 0, 0)) := by decide +kernel
theorem xr_16_10 : X_row 16 10 = some (10, (.aload_n 0, 1), (0, 0, 0)) := by decide +kernel
theorem xr_16_11 : X_row 16 11 = some (11, (.getfield 27, 3), (0, 7, 32)) := by decide +kernel
theorem xr_16_14 : X_row 16 14 = some (14, (.iload_n 1, 1), (0, 0, 0)) := by decide +kernel
theorem xr_16_15 : X_row 16 15 = some (15, (.aaload, 1), (0, 0, 0)) := by decide +kernel
theorem xr_16_16 : X_row 16 16 = some (16, (.astore_n 2, 1), (0, 0, 0)) := by decide +kernel
theorem xr_16_17 : X_row 16 17 = some (17, (.iconst 0, 1), (0, 0, 0)) := by decide +kernel
theorem xr_16_18 : X_row 16 18 = some (18, (.istore_n 3, 1), (0, 0, 0)) := by decide +kernel
theorem xr_16_19 : X_row 16 19 = some (19, (.iload_n 3, 1), (0, 0, 0)) := by decide +kernel
theorem xr_16_20 : X_row 16 20 = some (20, (.aload_n 2, 1), (0, 0, 0)) := by decide +kernel
theorem xr_16_21 : X_row 16 21 = some (21, (.getfield 68, 3), (8, 3, 7)) := by decide +kernel
theorem xr_16_24 : X_row 16 24 = some (24, (.if_icmp .ge 67, 3), (0, 0, 0)) := by decide +kernel
theorem xr_16_27 : X_row 16 27 = some (27, (.aload_n 2, 1), (0, 0, 0)) := by decide +kernel
theorem xr_16_28 : X_row 16 28 = some (28, (.iload_n 3, 1), (0, 0, 0)) := by decide +kernel
theorem xr_16_29 : X_row 16 29 = some (29, (.invokevirtual 71, 3), (100, 12, 0)) := by decide +kernel
theorem xr_16_32 : X_row 16 32 = some (32, (.ifCond .eq 53, 3), (0, 0, 0)) := by decide +kernel
theorem xr_16_35 : X_row 16 35 = some (35, (.aload_n 2, 1), (0, 0, 0)) := by decide +kernel
theorem xr_16_36 : X_row 16 36 = some (36, (.getfield 74, 3), (8, 9, 11)) := by decide +kernel
theorem xr_16_39 : X_row 16 39 = some (39, (.iload_n 3, 1), (0, 0, 0)) := by decide +kernel
theorem xr_16_40 : X_row 16 40 = some (40, (.iaload, 1), (0, 0, 0)) := by decide +kernel
theorem xr_16_41 : X_row 16 41 = some (41, (.istore 4, 2), (0, 0, 0)) := by decide +kernel
theorem xr_16_43 : X_row 16 43 = some (43, (.aload_n 0, 1), (0, 0, 0)) := by decide +kernel
theorem xr_16_44 : X_row 16 44 = some (44, (.aload_n 2, 1), (0, 0, 0)) := by decide +kernel
theorem xr_16_45 : X_row 16 45 = some (45, (.getfield 77, 3), (8, 10, 13)) := by decide +kernel
theorem xr_16_48 : X_row 16 48 = some (48, (.iload 4, 2), (0, 0, 0)) := by decide +kernel
theorem xr_16_50 : X_row 16 50 = some (50, (.iaload, 1), (0, 0, 0)) := by decide +kernel
theorem xr_16_51 : X_row 16 51 = some (51, (.invokevirtual 80, 3), (14, 14, 0)) := by decide +kernel
theorem xr_16_54 : X_row 16 54 = some (54, (.istore 5, 2), (0, 0, 0)) := by decide +kernel
theorem xr_16_56 : X_row 16 56 = some (56, (.aload_n 2, 1), (0, 0, 0)) := by decide +kernel
theorem xr_16_57 : X_row 16 57 = some (57, (.getfield 84, 3), (8, 12, 17)) := by decide +kernel
theorem xr_16_60 : X_row 16 60 = some (60, (.iload 4, 2), (0, 0, 0)) := by decide +kernel
theorem xr_16_62 : X_row 16 62 = some (62, (.iload 5, 2), (0, 0, 0)) := by decide +kernel
theorem xr_16_64 : X_row 16 64 = some (64, (.iastore, 1), (0, 0, 0)) := by decide +kernel
theorem xr_16_65 : X_row 16 65 = some (65, (.aload_n 2, 1), (0, 0, 0)) := by decide +kernel
theorem xr_16_66 : X_row 16 66 = some (66, (.getfield 87, 3), (8, 11, 15)) := by decide +kernel
theorem xr_16_69 : X_row 16 69 = some (69, (.iload 4, 2), (0, 0, 0)) := by decide +kernel
theorem xr_16_71 : X_row 16 71 = some (71, (.aload_n 0, 1), (0, 0, 0)) := by decide +kernel
theorem xr_16_72 : X_row 16 72 = some (72, (.iload 5, 2), (0, 0, 0)) := by decide +kernel
theorem xr_16_74 : X_row 16 74 = some (74, (.invokevirtual 90, 3), (15, 18, 0)) := by decide +kernel
theorem xr_16_77 : X_row 16 77 = some (77, (.aload_n 0, 1), (0, 0, 0)) := by decide +kernel
theorem xr_16_78 : X_row 16 78 = some (78, (.aload_n 2, 1), (0, 0, 0)) := by decide +kernel
theorem xr_16_79 : X_row 16 79 = some (79, (.iload_n 3, 1), (0, 0, 0)) := by decide +kernel
theorem xr_16_80 : X_row 16 80 = some (80, (.invokevirtual 93, 3), (17, 20, 0)) := by decide +kernel
theorem xr_16_83 : X_row 16 83 = some (83, (.iand, 1), (0, 0, 0)) := by decide +kernel
theorem xr_16_84 : X_row 16 84 = some (84, (.iastore, 1), (0, 0, 0)) := by decide +kernel
theorem xr_16_85 : X_row 16 85 = some (85, (.iinc 3 1, 3), (0, 0, 0)) := by decide +kernel
theorem xr_16_88 : X_row 16 88 = some (88, (.goto (-69), 3), (0, 0, 0)) := by decide +kernel
theorem xr_16_91 : X_row 16 91 = some (91, (.iinc 1 1, 3), (0, 0, 0)) := by decide +kernel
theorem xr_16_94 : X_row 16 94 = some (94, (.goto (-92), 3), (0, 0, 0)) := by decide +kernel
theorem xr_16_97 : X_row 16 97 = some (97, (.return_, 1), (0, 0, 0)) := by decide +kernel
theorem xn_16 : X_nL 16 = 6 := by decide +kernel
theorem xf_16 : X_na 16 = 0 ∧ X_ci 16 = 0 ∧ X_rt 16 = none := by decide +kernel
def X_sD (D D' : Int → Nat → Int → Int) : Prop := ∀ v f, f ≠ 10 → f ≠ 11 → D' v f = D v f
theorem X_sD_up {D D1 : Int → Nat → Int → Int} (w : Int) (tw tk : Int → Int) (h : X_sD D D1) : X_sD D (X_ug D1 w (X_wu (X_wu (D1 w) 10 tw) 11 tk)) := by
  intro v f h1 h2
  by_cases hv : v = w
  · subst hv
    rw [X_ug_s]
    show X_wu (X_wu (D1 v) 10 tw) 11 tk f = D v f
    unfold X_wu
    rw [if_neg h2, if_neg h1]
    exact h v f h1 h2
  · rw [X_ug_n _ _ hv]
    exact h v f h1 h2
theorem X_hl_c {d d' : Nat → Int → Int} {q : Int → Int64} {e : Int} (h : d' 3 = d 3) : X_hl d' q e ↔ X_hl d q e := by
  unfold X_hl
  rw [h]
theorem X_en_c {d d' : Nat → Int → Int} {q : Int → Int64} (h : d' 3 = d 3) : X_en d' q = X_en d q := by
  unfold X_en X_hl
  rw [h]
theorem X_fi_c {lo : Int → Int} {D D' : Int → Nat → Int → Int} {W : Int → Int → Int64} {d d' : Nat → Int → Int} {e v : Int} (h : X_sD D D') (h0 : d' 0 = d 0) (h1 : d' 1 = d 1) (h3 : d' 3 = d 3) : X_fi lo D' W d' e v ↔ X_fi lo D W d e v := by
  unfold X_fi
  rw [X_en_c (h v 3 (by decide) (by decide)), h v 0 (by decide) (by decide), h0, h1, h3]
/-- what a hole takes: kinds, words -/
def X_tkn (lo ab : Int → Int) (kc wc : Int) (D : Int → Nat → Int → Int) (W : Int → Int → Int64) (w e tk tw : Int) : Prop :=
  (∀ k, 0 ≤ k → k < 32 → (X_bt tk k ↔ k < kc ∧ X_bt (ab k) (D w 9 (D w 8 e)))) ∧ (∀ v, 0 ≤ v → v < 32 → (X_bt tw v ↔ v < wc ∧ X_bt tk (D v 2 0) ∧ X_fi lo D W (D w) e v))
/-- a word's holes are told apart -/
def X_wg (d : Nat → Int → Int) (q : Int → Int64) : Prop := (∀ e, X_hl d q e → 0 ≤ d 8 e ∧ d 8 e < d 4 0) ∧ (∀ e e', X_hl d q e → X_hl d q e' → d 8 e = d 8 e' → e = e')
theorem C_ws.upd {S S' : X_S} {B a : Nat} {D : Int → Nat → Int → Int} {W : Int → Int → Int64} {w : Int} {d' : Nat → Int → Int} (h : C_ws S B D W) (hf : X_Fr (fun r => a ≤ r ∧ r ≤ a + 7) S S') (ha : a = B + 6 + 8 * w.toNat) (h0 : 0 ≤ w) (hd : C_wd S' a d' (W w)) (hr : X_wr d') : C_ws S' B (X_ug D w d') W := by
  intro v h1 h2
  by_cases hv : v = w
  · subst hv
    rw [X_ug_s, ← ha]
    exact ⟨hd, hr⟩
  · rw [X_ug_n _ _ hv]
    exact ⟨(h v h1 h2).1.fr hf (fun k hk => by omega), (h v h1 h2).2⟩
theorem c_settleHoles (sc : X_Sc) (S : X_S) (B : Nat) (rc kc wc : Int) (rn : Int → Int64) (lo : Int → Int) (kn : Int → Int64) (ab : Int → Int) (D : Int → Nat → Int → Int) (W : Int → Int → Int64) (hb : C_bk S B rc kc wc rn lo kn ab) (hs : C_ws S B D W) (hg : ∀ w, 0 ≤ w → w < wc → X_wg (D w) (W w)) : X_T sc 16 (0, [(0, .ref B)], [], S) (fun v S' => v = none ∧ (∃ D', C_ws S' B D' W ∧ X_sD D D' ∧ ∀ w, 0 ≤ w → w < wc → ∀ e, X_hl (D w) (W w) e → X_tkn lo ab kc wc D W w e (D' w 11 (D w 8 e)) (D' w 10 (D w 8 e))) ∧ X_Fr (fun r => B + 6 ≤ r ∧ r < B + 246) S S') := by
  obtain ⟨hb0, hb1, hb2, hb3, hb4, ⟨f, hb5, hf⟩, ⟨hrc, hrcb⟩, ⟨hkc, hkcb⟩, ⟨hwc, hwcb⟩⟩ := id hb
  refine X_QI (fun Q hQ => ?_)
  refine T_p xr_16_0 xn_16 (pc' := 1) (ls' := [(0, .ref B)]) (st' := [.int (iI 0)]) rfl ?_
  refine T_p xr_16_1 xn_16 (pc' := 2) (ls' := [(1, .int (iI 0)), (0, .ref B)]) (st' := []) rfl ?_
  have L476 : ∀ (m478 : Nat) (S1 : X_S) (w : Int) (D1 : Int → Nat → Int → Int) (hF480 : X_Fr (fun r => B + 6 ≤ r ∧ r < B + 246) S S1) (hw : 0 ≤ w ∧ w ≤ wc) (hs1 : C_ws S1 B D1 W) (hsm : X_sD D D1) (hdo : ∀ v, 0 ≤ v → v < w → ∀ e, X_hl (D v) (W v) e → X_tkn lo ab kc wc D W v e (D1 v 11 (D v 8 e)) (D1 v 10 (D v 8 e))) (hm479 : wc - w < m478), X_T sc 16 (2, [(1, .int (iI w)), (0, .ref B)], [], S1) Q := by
    intro m478
    induction m478 with
    | zero =>
      intro S1 w D1 hF480 hw hs1 hsm hdo hm479
      exact (show False by omega).elim
    | succ m478 ih477 =>
      intro S1 w D1 hF480 hw hs1 hsm hdo hm479
      refine T_p xr_16_2 xn_16 (pc' := 3) (ls' := [(1, .int (iI w)), (0, .ref B)]) (st' := [.int (iI w)]) rfl ?_
      refine T_p xr_16_3 xn_16 (pc' := 4) (ls' := [(1, .int (iI w)), (0, .ref B)]) (st' := [.ref B, .int (iI w)]) rfl ?_
      have h481 := (hF480.1 B (by omega)).trans (hb0)
      refine T_get xr_16_4 h481 rfl (v := .int (iI wc)) rfl (pc' := 7) rfl ?_
      refine T_zicmp_ge xr_16_7 (t := 97) (pc' := 10) rfl rfl (fun c482 => ?_) (fun c482 => ?_)
      · skip
        have c482 : wc ≤ w := c482
        refine T_vret xr_16_97 xf_16.2.2 ?_
        refine hQ _ _ ?_
        exact ⟨rfl, ⟨D1, hs1, hsm, fun v h1 h2 => hdo v h1 (by omega)⟩, (X_Fr.rf).tr (X_Fr.mono ⟨hF480.1, hF480.2⟩ (fun q hq => (by omega)))⟩
      · skip
        have c482 : ¬ (wc ≤ w) := c482
        refine T_p xr_16_10 xn_16 (pc' := 11) (ls' := [(1, .int (iI w)), (0, .ref B)]) (st' := [.ref B]) rfl ?_
        refine T_get xr_16_11 h481 rfl (v := .ref (B + 5)) rfl (pc' := 14) rfl ?_
        refine T_p xr_16_14 xn_16 (pc' := 15) (ls' := [(1, .int (iI w)), (0, .ref B)]) (st' := [.int (iI w), .ref (B + 5)]) rfl ?_
        have h483 := (hF480.1 (B + 5) (by omega)).trans (hb5)
        have hwaw := hs1 w (by omega) (by omega)
        obtain ⟨aw, haaw⟩ : ∃ z : Nat, z = B + 6 + 8 * (w : Int).toNat := ⟨_, rfl⟩
        rw [← haaw] at hwaw
        obtain ⟨⟨_, _⟩, ⟨_, _⟩, ⟨_, _⟩, ⟨_, _⟩, ⟨_, _⟩, ⟨_, _⟩, ⟨_, _⟩, ⟨_, _⟩⟩ := id hwaw.2
        refine T_zaald xr_16_15 h483 (w := aw) (by rw [haaw]; exact hf _ (by omega)) (pc' := 16) rfl ?_
        refine T_p xr_16_16 xn_16 (pc' := 17) (ls' := [(2, .ref aw), (1, .int (iI w)), (0, .ref B)]) (st' := []) rfl ?_
        refine T_p xr_16_17 xn_16 (pc' := 18) (ls' := [(2, .ref aw), (1, .int (iI w)), (0, .ref B)]) (st' := [.int (iI 0)]) rfl ?_
        refine T_p xr_16_18 xn_16 (pc' := 19) (ls' := [(3, .int (iI 0)), (2, .ref aw), (1, .int (iI w)), (0, .ref B)]) (st' := []) rfl ?_
        have L487 : ∀ (m489 : Nat) (S492 : X_S) (e : Int) (tw : Int → Int) (tk : Int → Int) (htw : S492.1 (aw + 4) = .inl (.int, 4, .inl fun k : Nat => iI (tw (k : Int)))) (htk : S492.1 (aw + 5) = .inl (.int, 4, .inl fun k : Nat => iI (tk (k : Int)))) (hF491 : X_Fr (fun r => r = aw + 4 ∨ r = aw + 5) S1 S492) (he : 0 ≤ e ∧ e ≤ D1 w 3 0) (hin : ∀ e1, 0 ≤ e1 → e1 < e → X_hl (D w) (W w) e1 → X_tkn lo ab kc wc D W w e1 (tk (D w 8 e1)) (tw (D w 8 e1))) (hm490 : D1 w 3 0 - e < m489), X_T sc 16 (19, [(3, .int (iI e)), (2, .ref aw), (1, .int (iI w)), (0, .ref B)], [], S492) Q := by
          intro m489
          induction m489 with
          | zero =>
            intro S492 e tw tk htw htk hF491 he hin hm490
            exact (show False by omega).elim
          | succ m489 ih488 =>
            intro S492 e tw tk htw htk hF491 he hin hm490
            refine T_p xr_16_19 xn_16 (pc' := 20) (ls' := [(3, .int (iI e)), (2, .ref aw), (1, .int (iI w)), (0, .ref B)]) (st' := [.int (iI e)]) rfl ?_
            refine T_p xr_16_20 xn_16 (pc' := 21) (ls' := [(3, .int (iI e)), (2, .ref aw), (1, .int (iI w)), (0, .ref B)]) (st' := [.ref aw, .int (iI e)]) rfl ?_
            have h493 := (hF491.1 aw (by omega)).trans (hwaw.1.1)
            refine T_get xr_16_21 h493 rfl (v := .int (iI (D1 w 3 0))) rfl (pc' := 24) rfl ?_
            refine T_zicmp_ge xr_16_24 (t := 91) (pc' := 27) rfl rfl (fun c494 => ?_) (fun c494 => ?_)
            · skip
              have c494 : (D1 w 3 0) ≤ e := c494
              refine T_ziinc xr_16_91 xn_16 (a := w) (z := w + 1) rfl (Nat.le_of_ble_eq_true rfl) (by omega) (ls' := [(1, .int (iI (w + 1))), (3, .int (iI e)), (2, .ref aw), (0, .ref B)]) rfl (pc' := 94) rfl ?_
              refine T_p xr_16_94 xn_16 (pc' := 2) (ls' := [(1, .int (iI (w + 1))), (3, .int (iI e)), (2, .ref aw), (0, .ref B)]) (st' := []) rfl ?_
              have h496 := (hF491.1 (aw + 1) (by omega)).trans (hwaw.1.2.1)
              have h497 := (hF491.1 (aw + 2) (by omega)).trans (hwaw.1.2.2.1)
              have h498 := (hF491.1 (aw + 3) (by omega)).trans (hwaw.1.2.2.2.1)
              have h499 := (hF491.1 (aw + 6) (by omega)).trans (hwaw.1.2.2.2.2.2.2.1)
              have h500 := (hF491.1 (aw + 7) (by omega)).trans (hwaw.1.2.2.2.2.2.2.2)
              have hs495 : C_ws S492 B (X_ug D1 w (X_wu (X_wu (D1 w) 10 tw) 11 tk)) W := C_ws.upd hs1 ((X_Fr.rf).tr (X_Fr.mono ⟨hF491.1, hF491.2⟩ (fun q hq => (by omega)))) haaw (by omega) ⟨h493, h496, h497, h498, htw, htk, h499, h500⟩ hwaw.2
              refine T_sub (ls := [(1, .int (iI (w + 1))), (0, .ref B)]) ⟨rfl, rfl, trivial⟩ rfl rfl ?_
              exact ih477 S492 (w + 1) (X_ug D1 w (X_wu (X_wu (D1 w) 10 tw) 11 tk)) (hF480.tr ((X_Fr.rf).tr (X_Fr.mono ⟨hF491.1, hF491.2⟩ (fun q hq => (by omega))))) (by omega) hs495 (X_sD_up w _ _ hsm) (fun v h1 h2 e0 hhe => by
                    by_cases hv : v = w
                    · subst hv
                      rw [X_ug_s]
                      exact hin e0 (by have := hhe.1; omega) (by have := hhe.2.1; have hq := congrFun (hsm v 3 (by decide) (by decide)) 0; omega) hhe
                    · rw [X_ug_n _ _ hv]
                      exact hdo v h1 (by omega) e0 hhe) (by omega)
            · skip
              have c494 : ¬ ((D1 w 3 0) ≤ e) := c494
              refine T_p xr_16_27 xn_16 (pc' := 28) (ls' := [(3, .int (iI e)), (2, .ref aw), (1, .int (iI w)), (0, .ref B)]) (st' := [.ref aw]) rfl ?_
              refine T_p xr_16_28 xn_16 (pc' := 29) (ls' := [(3, .int (iI e)), (2, .ref aw), (1, .int (iI w)), (0, .ref B)]) (st' := [.int (iI e), .ref aw]) rfl ?_
              refine T_cv (S := S492) (q := aw) xr_16_29 xf_100.1 xf_100.2.1 xn_100 (as := [.int (iI e)]) (r := []) rfl h493 (Nat.le_of_ble_eq_true rfl) (Nat.le_of_ble_eq_true rfl) (pc' := 32) rfl (ls' := [(0, .ref aw), (1, .int (iI e))]) rfl ?_
              have h501 := (hF491.1 (aw + 1) (by omega)).trans (hwaw.1.2.1)
              have h502 := (hF491.1 (aw + 2) (by omega)).trans (hwaw.1.2.2.1)
              have h503 := (hF491.1 (aw + 3) (by omega)).trans (hwaw.1.2.2.2.1)
              have h504 := (hF491.1 (aw + 6) (by omega)).trans (hwaw.1.2.2.2.2.2.2.1)
              have h505 := (hF491.1 (aw + 7) (by omega)).trans (hwaw.1.2.2.2.2.2.2.2)
              refine T_mono (c_isHole sc S492 aw (X_wu (X_wu (D1 w) 10 tw) 11 tk) (W w) e ⟨h493, h501, h502, h503, htw, htk, h504, h505⟩ hwaw.2 (by omega)) (fun v507 S508 h506 => ?_)
              obtain ⟨h509, h510⟩ := h506
              rw [h509, h510]
              show X_T sc 16 (32, [(3, .int (iI e)), (2, .ref aw), (1, .int (iI w)), (0, .ref B)], [.int (iI (bI (X_hl (X_wu (X_wu (D1 w) 10 tw) 11 tk) (W w) e)))], S492) _
              refine T_bif_eq xr_16_32 (t := 85) (pc' := 35) rfl rfl (fun c511 => ?_) (fun c511 => ?_)
              · skip
                have c511 : ¬ (X_hl (X_wu (X_wu (D1 w) 10 tw) 11 tk) (W w) e) := c511
                refine T_ziinc xr_16_85 xn_16 (a := e) (z := e + 1) rfl (Nat.le_of_ble_eq_true rfl) (by omega) (ls' := [(3, .int (iI (e + 1))), (2, .ref aw), (1, .int (iI w)), (0, .ref B)]) rfl (pc' := 88) rfl ?_
                refine T_p xr_16_88 xn_16 (pc' := 19) (ls' := [(3, .int (iI (e + 1))), (2, .ref aw), (1, .int (iI w)), (0, .ref B)]) (st' := []) rfl ?_
                exact ih488 S492 (e + 1) tw tk htw htk (hF491.tr (X_Fr.rf)) (by omega) (fun e1 h1 h2 hhe => by
                      by_cases hv : e1 = e
                      · subst hv
                        exact absurd ((X_hl_c (hsm w 3 (by decide) (by decide))).mpr hhe) (by assumption)
                      · exact hin e1 h1 (by omega) hhe) (by omega)
              · skip
                have c511 : (X_hl (X_wu (X_wu (D1 w) 10 tw) 11 tk) (W w) e) := c511
                have hH8 : 0 ≤ D1 w 8 e ∧ D1 w 8 e < 4 := by
                  have hb8 := (hg w (by omega) (by omega)).1 e ((X_hl_c (hsm w 3 (by decide) (by decide))).mp (by assumption))
                  rw [← hsm w 8 (by decide) (by decide), ← hsm w 4 (by decide) (by decide)] at hb8
                  omega
                refine T_p xr_16_35 xn_16 (pc' := 36) (ls' := [(3, .int (iI e)), (2, .ref aw), (1, .int (iI w)), (0, .ref B)]) (st' := [.ref aw]) rfl ?_
                refine T_get xr_16_36 h493 rfl (v := .ref (aw + 2)) rfl (pc' := 39) rfl ?_
                refine T_p xr_16_39 xn_16 (pc' := 40) (ls' := [(3, .int (iI e)), (2, .ref aw), (1, .int (iI w)), (0, .ref B)]) (st' := [.int (iI e), .ref (aw + 2)]) rfl ?_
                refine T_ziald xr_16_40 h502 (pc' := 41) rfl ?_
                refine T_p xr_16_41 xn_16 (pc' := 43) (ls' := [(4, .int (iI ((D1 w 8) e))), (3, .int (iI e)), (2, .ref aw), (1, .int (iI w)), (0, .ref B)]) (st' := []) rfl ?_
                refine T_p xr_16_43 xn_16 (pc' := 44) (ls' := [(4, .int (iI ((D1 w 8) e))), (3, .int (iI e)), (2, .ref aw), (1, .int (iI w)), (0, .ref B)]) (st' := [.ref B]) rfl ?_
                refine T_p xr_16_44 xn_16 (pc' := 45) (ls' := [(4, .int (iI ((D1 w 8) e))), (3, .int (iI e)), (2, .ref aw), (1, .int (iI w)), (0, .ref B)]) (st' := [.ref aw, .ref B]) rfl ?_
                refine T_get xr_16_45 h493 rfl (v := .ref (aw + 3)) rfl (pc' := 48) rfl ?_
                refine T_p xr_16_48 xn_16 (pc' := 50) (ls' := [(4, .int (iI ((D1 w 8) e))), (3, .int (iI e)), (2, .ref aw), (1, .int (iI w)), (0, .ref B)]) (st' := [.int (iI ((D1 w 8) e)), .ref (aw + 3), .ref B]) rfl ?_
                refine T_ziald xr_16_50 h503 (pc' := 51) rfl ?_
                have h512 := (hF491.1 B (by omega)).trans (h481)
                refine T_cv (S := S492) (q := B) xr_16_51 xf_14.1 xf_14.2.1 xn_14 (as := [.int (iI ((D1 w 9) ((D1 w 8) e)))]) (r := []) rfl h512 (Nat.le_of_ble_eq_true rfl) (Nat.le_of_ble_eq_true rfl) (pc' := 54) rfl (ls' := [(0, .ref B), (1, .int (iI ((D1 w 9) ((D1 w 8) e))))]) rfl ?_
                have h520 := (hF491.1 (B + 1) (by omega)).trans ((hF480.1 (B + 1) (by omega)).trans (hb1))
                have h521 := (hF491.1 (B + 2) (by omega)).trans ((hF480.1 (B + 2) (by omega)).trans (hb2))
                have h522 := (hF491.1 (B + 3) (by omega)).trans ((hF480.1 (B + 3) (by omega)).trans (hb3))
                have h523 := (hF491.1 (B + 4) (by omega)).trans ((hF480.1 (B + 4) (by omega)).trans (hb4))
                have h524 := (hF491.1 (B + 5) (by omega)).trans (h483)
                refine T_mono (c_kindsUnder sc S492 B rc kc wc rn lo kn ab ((D1 w 9) ((D1 w 8) e)) ⟨h512, h520, h521, h522, h523, ⟨f, h524, hf⟩, ⟨by omega, by omega⟩, ⟨by omega, by omega⟩, ⟨by omega, by omega⟩⟩) (fun v513 S514 h515 => ?_)
                obtain ⟨r516, h517, hx518, h519⟩ := h515
                rw [h517, h519]
                show X_T sc 16 (54, [(4, .int (iI ((D1 w 8) e))), (3, .int (iI e)), (2, .ref aw), (1, .int (iI w)), (0, .ref B)], [.int (iI r516)], S492) _
                refine T_p xr_16_54 xn_16 (pc' := 56) (ls' := [(5, .int (iI r516)), (4, .int (iI ((D1 w 8) e))), (3, .int (iI e)), (2, .ref aw), (1, .int (iI w)), (0, .ref B)]) (st' := []) rfl ?_
                refine T_p xr_16_56 xn_16 (pc' := 57) (ls' := [(5, .int (iI r516)), (4, .int (iI ((D1 w 8) e))), (3, .int (iI e)), (2, .ref aw), (1, .int (iI w)), (0, .ref B)]) (st' := [.ref aw]) rfl ?_
                refine T_get xr_16_57 h493 rfl (v := .ref (aw + 5)) rfl (pc' := 60) rfl ?_
                refine T_p xr_16_60 xn_16 (pc' := 62) (ls' := [(5, .int (iI r516)), (4, .int (iI ((D1 w 8) e))), (3, .int (iI e)), (2, .ref aw), (1, .int (iI w)), (0, .ref B)]) (st' := [.int (iI ((D1 w 8) e)), .ref (aw + 5)]) rfl ?_
                refine T_p xr_16_62 xn_16 (pc' := 64) (ls' := [(5, .int (iI r516)), (4, .int (iI ((D1 w 8) e))), (3, .int (iI e)), (2, .ref aw), (1, .int (iI w)), (0, .ref B)]) (st' := [.int (iI r516), .int (iI ((D1 w 8) e)), .ref (aw + 5)]) rfl ?_
                refine T_ziast xr_16_64 htk (pc' := 65) rfl (fun S525 h526 n527 e528 => ?_)
                refine T_p xr_16_65 xn_16 (pc' := 66) (ls' := [(5, .int (iI r516)), (4, .int (iI ((D1 w 8) e))), (3, .int (iI e)), (2, .ref aw), (1, .int (iI w)), (0, .ref B)]) (st' := [.ref aw]) rfl ?_
                have h529 := (n527 aw (by omega)).trans (h493)
                refine T_get xr_16_66 h529 rfl (v := .ref (aw + 4)) rfl (pc' := 69) rfl ?_
                refine T_p xr_16_69 xn_16 (pc' := 71) (ls' := [(5, .int (iI r516)), (4, .int (iI ((D1 w 8) e))), (3, .int (iI e)), (2, .ref aw), (1, .int (iI w)), (0, .ref B)]) (st' := [.int (iI ((D1 w 8) e)), .ref (aw + 4)]) rfl ?_
                refine T_p xr_16_71 xn_16 (pc' := 72) (ls' := [(5, .int (iI r516)), (4, .int (iI ((D1 w 8) e))), (3, .int (iI e)), (2, .ref aw), (1, .int (iI w)), (0, .ref B)]) (st' := [.ref B, .int (iI ((D1 w 8) e)), .ref (aw + 4)]) rfl ?_
                refine T_p xr_16_72 xn_16 (pc' := 74) (ls' := [(5, .int (iI r516)), (4, .int (iI ((D1 w 8) e))), (3, .int (iI e)), (2, .ref aw), (1, .int (iI w)), (0, .ref B)]) (st' := [.int (iI r516), .ref B, .int (iI ((D1 w 8) e)), .ref (aw + 4)]) rfl ?_
                have h530 := (n527 B (by omega)).trans (h512)
                refine T_cv (S := S525) (q := B) xr_16_74 xf_15.1 xf_15.2.1 xn_15 (as := [.int (iI r516)]) (r := [.int (iI ((D1 w 8) e)), .ref (aw + 4)]) rfl h530 (Nat.le_of_ble_eq_true rfl) (Nat.le_of_ble_eq_true rfl) (pc' := 77) rfl (ls' := [(0, .ref B), (1, .int (iI r516))]) rfl ?_
                have h538 := (n527 (aw + 4) (by omega)).trans (htw)
                have h540 := (n527 (aw + 1) (by omega)).trans (h501)
                have h541 := (n527 (aw + 2) (by omega)).trans (h502)
                have h542 := (n527 (aw + 3) (by omega)).trans (h503)
                have h543 := (n527 (aw + 6) (by omega)).trans (h504)
                have h544 := (n527 (aw + 7) (by omega)).trans (h505)
                have hs539 : C_ws S525 B (X_ug D1 w (X_wu (X_wu (D1 w) 10 tw) 11 (X_ug tk ((D1 w 8) e) r516))) W := C_ws.upd hs1 (((X_Fr.rf).tr (X_Fr.mono ⟨hF491.1, hF491.2⟩ (fun q hq => (by omega)))).tr (X_Fr.of n527 e528 (by omega))) haaw (by omega) ⟨h529, h540, h541, h542, h538, h526, h543, h544⟩ hwaw.2
                have h545 := (n527 (B + 1) (by omega)).trans (h520)
                have h546 := (n527 (B + 2) (by omega)).trans (h521)
                have h547 := (n527 (B + 3) (by omega)).trans (h522)
                have h548 := (n527 (B + 4) (by omega)).trans (h523)
                have h549 := (n527 (B + 5) (by omega)).trans (h524)
                refine T_mono (c_wordsOfKinds sc S525 B rc kc wc rn lo kn ab (X_ug D1 w (X_wu (X_wu (D1 w) 10 tw) 11 (X_ug tk ((D1 w 8) e) r516))) W r516 ⟨h530, h545, h546, h547, h548, ⟨f, h549, hf⟩, ⟨by omega, by omega⟩, ⟨by omega, by omega⟩, ⟨by omega, by omega⟩⟩ hs539) (fun v531 S532 h533 => ?_)
                obtain ⟨r534, h535, hx536, h537⟩ := h533
                rw [h535, h537]
                show X_T sc 16 (77, [(5, .int (iI r516)), (4, .int (iI ((D1 w 8) e))), (3, .int (iI e)), (2, .ref aw), (1, .int (iI w)), (0, .ref B)], [.int (iI r534), .int (iI ((D1 w 8) e)), .ref (aw + 4)], S525) _
                refine T_p xr_16_77 xn_16 (pc' := 78) (ls' := [(5, .int (iI r516)), (4, .int (iI ((D1 w 8) e))), (3, .int (iI e)), (2, .ref aw), (1, .int (iI w)), (0, .ref B)]) (st' := [.ref B, .int (iI r534), .int (iI ((D1 w 8) e)), .ref (aw + 4)]) rfl ?_
                refine T_p xr_16_78 xn_16 (pc' := 79) (ls' := [(5, .int (iI r516)), (4, .int (iI ((D1 w 8) e))), (3, .int (iI e)), (2, .ref aw), (1, .int (iI w)), (0, .ref B)]) (st' := [.ref aw, .ref B, .int (iI r534), .int (iI ((D1 w 8) e)), .ref (aw + 4)]) rfl ?_
                refine T_p xr_16_79 xn_16 (pc' := 80) (ls' := [(5, .int (iI r516)), (4, .int (iI ((D1 w 8) e))), (3, .int (iI e)), (2, .ref aw), (1, .int (iI w)), (0, .ref B)]) (st' := [.int (iI e), .ref aw, .ref B, .int (iI r534), .int (iI ((D1 w 8) e)), .ref (aw + 4)]) rfl ?_
                refine T_cv (S := S525) (q := B) xr_16_80 xf_17.1 xf_17.2.1 xn_17 (as := [.ref aw, .int (iI e)]) (r := [.int (iI r534), .int (iI ((D1 w 8) e)), .ref (aw + 4)]) rfl h530 (Nat.le_of_ble_eq_true rfl) (Nat.le_of_ble_eq_true rfl) (pc' := 83) rfl (ls' := [(0, .ref B), (1, .ref aw), (2, .int (iI e))]) rfl ?_
                refine T_mono (c_wordsFitting sc S525 B rc kc wc rn lo kn ab (X_ug D1 w (X_wu (X_wu (D1 w) 10 tw) 11 (X_ug tk ((D1 w 8) e) r516))) W aw (X_wu (X_wu (D1 w) 10 tw) 11 (X_ug tk ((D1 w 8) e) r516)) (W w) e ⟨h530, h545, h546, h547, h548, ⟨f, h549, hf⟩, ⟨by omega, by omega⟩, ⟨by omega, by omega⟩, ⟨by omega, by omega⟩⟩ hs539 ⟨h529, h540, h541, h542, h538, h526, h543, h544⟩ hwaw.2 (by omega)) (fun v550 S551 h552 => ?_)
                obtain ⟨r553, h554, hx555, h556⟩ := h552
                rw [h554, h556]
                show X_T sc 16 (83, [(5, .int (iI r516)), (4, .int (iI ((D1 w 8) e))), (3, .int (iI e)), (2, .ref aw), (1, .int (iI w)), (0, .ref B)], [.int (iI r553), .int (iI r534), .int (iI ((D1 w 8) e)), .ref (aw + 4)], S525) _
                refine T_zop xr_16_83 (pc' := 84) rfl (z := (iI r534 &&& iI r553).toInt) (iI_of _) ?_
                refine T_ziast xr_16_84 h538 (pc' := 85) rfl (fun S557 h558 n559 e560 => ?_)
                refine T_ziinc xr_16_85 xn_16 (a := e) (z := e + 1) rfl (Nat.le_of_ble_eq_true rfl) (by omega) (ls' := [(3, .int (iI (e + 1))), (5, .int (iI r516)), (4, .int (iI ((D1 w 8) e))), (2, .ref aw), (1, .int (iI w)), (0, .ref B)]) rfl (pc' := 88) rfl ?_
                refine T_p xr_16_88 xn_16 (pc' := 19) (ls' := [(3, .int (iI (e + 1))), (5, .int (iI r516)), (4, .int (iI ((D1 w 8) e))), (2, .ref aw), (1, .int (iI w)), (0, .ref B)]) (st' := []) rfl ?_
                have h561 := (n559 (aw + 5) (by omega)).trans (h526)
                refine T_sub (ls := [(3, .int (iI (e + 1))), (2, .ref aw), (1, .int (iI w)), (0, .ref B)]) ⟨rfl, rfl, rfl, rfl, trivial⟩ rfl rfl ?_
                exact ih488 S557 (e + 1) (X_ug tw ((D1 w 8) e) ((iI r534 &&& iI r553).toInt)) (X_ug tk ((D1 w 8) e) r516) h558 h561 (hF491.tr (((X_Fr.rf).tr (X_Fr.of n527 e528 (by omega))).tr (X_Fr.of n559 e560 (by omega)))) (by omega) (fun e1 h1 h2 hhe => by
                      have q8 : D1 w 8 = D w 8 := hsm w 8 (by decide) (by decide)
                      have q9 : D1 w 9 = D w 9 := hsm w 9 (by decide) (by decide)
                      have hH : X_hl (D w) (W w) e := (X_hl_c (hsm w 3 (by decide) (by decide))).mp (by assumption)
                      rw [q8]
                      by_cases hv : e1 = e
                      · subst hv
                        rw [X_ug_s, X_ug_s]
                        constructor
                        · intro k g1 g2
                          rw [hx518 k g1 g2, q8, q9]
                        · intro v g1 g2
                          show X_bt (X_bA r534 r553) v ↔ _
                          rw [X_bt_an _ _ _ ⟨g1, g2⟩, hx536 v g1 g2, hx555 v g1 g2]
                          rw [(X_sD_up w tw (X_ug tk (D1 w 8 e1) r516) hsm v 2 (by decide) (by decide) : _)]
                          rw [X_fi_c (D := D) (d := D w) (d' := X_wu (X_wu (D1 w) 10 tw) 11 (X_ug tk (D1 w 8 e1) r516)) (X_sD_up w tw (X_ug tk (D1 w 8 e1) r516) hsm) (hsm w 0 (by decide) (by decide)) (hsm w 1 (by decide) (by decide)) (hsm w 3 (by decide) (by decide))]
                          constructor
                          · rintro ⟨⟨p1, p2⟩, p3, p4⟩; exact ⟨p1, p2, p4⟩
                          · rintro ⟨p1, p2, p3⟩; exact ⟨⟨p1, p2⟩, p1, p3⟩
                      · have hne : D w 8 e1 ≠ D w 8 e := fun hh => hv ((hg w (by omega) (by omega)).2 e1 e hhe hH hh)
                        rw [X_ug_n _ _ hne, X_ug_n _ _ hne]
                        exact hin e1 h1 (by omega) hhe) (by omega)
        exact L487 (D1 w 3 0 + 1).toNat S1 0 (D1 w 10) (D1 w 11) hwaw.1.2.2.2.2.1 hwaw.1.2.2.2.2.2.1 ((X_Fr.rf)) (by omega) (fun e1 h1 h2 => (show False by omega).elim) (by omega)
  exact L476 (wc + 1).toNat S 0 D ((X_Fr.rf)) (by omega) hs (fun v f _ _ => rfl) (fun v h1 h2 => (show False by omega).elim) (by omega)
