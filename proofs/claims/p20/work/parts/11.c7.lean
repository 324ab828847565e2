theorem xr_15_0 : X_row 15 0 = some (0, (.iconst 0, 1), (0, 0, 0)) := by decide +kernel
theorem xr_15_1 : X_row 15 1 = some (1, (.istore_n 1, 1), (0, 0, 0)) := by decide +kernel
theorem xr_15_2 : X_row 15 2 = some (2, (.iload_n 1, 1), (0, 0, 0)) := by decide +kernel
theorem xr_15_3 : X_row 15 3 = some (3, (.aload_n 0, 1), (0, 0, 0)) := by decide +kernel
theorem xr_15_4 : X_row 15 4 = some (4, (.getfield 42, 3), (0, 2, 20)) := by decide +kernel
theorem xr_15_7 : X_row 15 7 = some (7, (.if_icmp .ge 90, 3), (0, 0, 0)) := by decide +kernel
theorem xr_15_10 : X_row 15 10 = some (10, (.aload_n 0, 1), (0, 0, 0)) := by decide +kernel
theorem xr_15_11 : X_row 15 11 = some (11, (.getfield 27, 3), (0, 7, 30)) := by decide +kernel
theorem xr_15_14 : X_row 15 14 = some (14, (.iload_n 1, 1), (0, 0, 0)) := by decide +kernel
theorem xr_15_15 : X_row 15 15 = some (15, (.aaload, 1), (0, 0, 0)) := by decide +kernel
theorem xr_15_16 : X_row 15 16 = some (16, (.astore_n 2, 1), (0, 0, 0)) := by decide +kernel
theorem xr_15_17 : X_row 15 17 = some (17, (.iconst 0, 1), (0, 0, 0)) := by decide +kernel
theorem xr_15_18 : X_row 15 18 = some (18, (.istore_n 3, 1), (0, 0, 0)) := by decide +kernel
theorem xr_15_19 : X_row 15 19 = some (19, (.iload_n 3, 1), (0, 0, 0)) := by decide +kernel
theorem xr_15_20 : X_row 15 20 = some (20, (.aload_n 2, 1), (0, 0, 0)) := by decide +kernel
theorem xr_15_21 : X_row 15 21 = some (21, (.getfield 68, 3), (8, 3, 7)) := by decide +kernel
theorem xr_15_24 : X_row 15 24 = some (24, (.if_icmp .ge 67, 3), (0, 0, 0)) := by decide +kernel
theorem xr_15_27 : X_row 15 27 = some (27, (.aload_n 2, 1), (0, 0, 0)) := by decide +kernel
theorem xr_15_28 : X_row 15 28 = some (28, (.iload_n 3, 1), (0, 0, 0)) := by decide +kernel
theorem xr_15_29 : X_row 15 29 = some (29, (.invokevirtual 71, 3), (95, 12, 0)) := by decide +kernel
theorem xr_15_32 : X_row 15 32 = some (32, (.ifCond .eq 53, 3), (0, 0, 0)) := by decide +kernel
theorem xr_15_35 : X_row 15 35 = some (35, (.aload_n 2, 1), (0, 0, 0)) := by decide +kernel
theorem xr_15_36 : X_row 15 36 = some (36, (.getfield 74, 3), (8, 9, 9)) := by decide +kernel
theorem xr_15_39 : X_row 15 39 = some (39, (.iload_n 3, 1), (0, 0, 0)) := by decide +kernel
theorem xr_15_40 : X_row 15 40 = some (40, (.iaload, 1), (0, 0, 0)) := by decide +kernel
theorem xr_15_41 : X_row 15 41 = some (41, (.istore 4, 2), (0, 0, 0)) := by decide +kernel
theorem xr_15_43 : X_row 15 43 = some (43, (.aload_n 0, 1), (0, 0, 0)) := by decide +kernel
theorem xr_15_44 : X_row 15 44 = some (44, (.aload_n 2, 1), (0, 0, 0)) := by decide +kernel
theorem xr_15_45 : X_row 15 45 = some (45, (.getfield 77, 3), (8, 10, 11)) := by decide +kernel
theorem xr_15_48 : X_row 15 48 = some (48, (.iload 4, 2), (0, 0, 0)) := by decide +kernel
theorem xr_15_50 : X_row 15 50 = some (50, (.iaload, 1), (0, 0, 0)) := by decide +kernel
theorem xr_15_51 : X_row 15 51 = some (51, (.invokevirtual 80, 3), (13, 14, 0)) := by decide +kernel
theorem xr_15_54 : X_row 15 54 = some (54, (.istore 5, 2), (0, 0, 0)) := by decide +kernel
theorem xr_15_56 : X_row 15 56 = some (56, (.aload_n 2, 1), (0, 0, 0)) := by decide +kernel
theorem xr_15_57 : X_row 15 57 = some (57, (.getfield 84, 3), (8, 12, 15)) := by decide +kernel
theorem xr_15_60 : X_row 15 60 = some (60, (.iload 4, 2), (0, 0, 0)) := by decide +kernel
theorem xr_15_62 : X_row 15 62 = some (62, (.iload 5, 2), (0, 0, 0)) := by decide +kernel
theorem xr_15_64 : X_row 15 64 = some (64, (.iastore, 1), (0, 0, 0)) := by decide +kernel
theorem xr_15_65 : X_row 15 65 = some (65, (.aload_n 2, 1), (0, 0, 0)) := by decide +kernel
theorem xr_15_66 : X_row 15 66 = some (66, (.getfield 87, 3), (8, 11, 13)) := by decide +kernel
theorem xr_15_69 : X_row 15 69 = some (69, (.iload 4, 2), (0, 0, 0)) := by decide +kernel
theorem xr_15_71 : X_row 15 71 = some (71, (.aload_n 0, 1), (0, 0, 0)) := by decide +kernel
theorem xr_15_72 : X_row 15 72 = some (72, (.iload 5, 2), (0, 0, 0)) := by decide +kernel
theorem xr_15_74 : X_row 15 74 = some (74, (.invokevirtual 90, 3), (14, 18, 0)) := by decide +kernel
theorem xr_15_77 : X_row 15 77 = some (77, (.aload_n 0, 1), (0, 0, 0)) := by decide +kernel
theorem xr_15_78 : X_row 15 78 = some (78, (.aload_n 2, 1), (0, 0, 0)) := by decide +kernel
theorem xr_15_79 : X_row 15 79 = some (79, (.iload_n 3, 1), (0, 0, 0)) := by decide +kernel
theorem xr_15_80 : X_row 15 80 = some (80, (.invokevirtual 93, 3), (16, 20, 0)) := by decide +kernel
theorem xr_15_83 : X_row 15 83 = some (83, (.iand, 1), (0, 0, 0)) := by decide +kernel
theorem xr_15_84 : X_row 15 84 = some (84, (.iastore, 1), (0, 0, 0)) := by decide +kernel
theorem xr_15_85 : X_row 15 85 = some (85, (.iinc 3 1, 3), (0, 0, 0)) := by decide +kernel
theorem xr_15_88 : X_row 15 88 = some (88, (.goto (-69), 3), (0, 0, 0)) := by decide +kernel
theorem xr_15_91 : X_row 15 91 = some (91, (.iinc 1 1, 3), (0, 0, 0)) := by decide +kernel
theorem xr_15_94 : X_row 15 94 = some (94, (.goto (-92), 3), (0, 0, 0)) := by decide +kernel
theorem xr_15_97 : X_row 15 97 = some (97, (.return_, 1), (0, 0, 0)) := by decide +kernel
theorem xn_15 : X_nL 15 = 6 := by decide +kernel
theorem xf_15 : X_na 15 = 0 ∧ X_ci 15 = 0 ∧ X_rt 15 = none := by decide +kernel
def X_sD (D D' : Int → Nat → Int → Int) : Prop := ∀ v f, f ≠ 10 → f ≠ 11 → D' v f = D v f
theorem X_sD_up {D D1 : Int → Nat → Int → Int} (w : Int) (tw tk : Int → Int) (h : X_sD D D1) : X_sD D (X_ug D1 w (X_wu (X_wu (D1 w) 10 tw) 11 tk)) := by
  intro v f h1 h2
  by_cases hv : v = w
  · subst hv
    rw [X_ug_s]
    show X_wu (X_wu (D1 v) 10 tw) 11 tk f = D v f
    unfold X_wu
    rw [if_neg h2, if_neg h1]
    exact h v f h1 h2
  · rw [X_ug_n _ _ hv]
    exact h v f h1 h2
theorem X_hl_c {d d' : Nat → Int → Int} {q : Int → Int64} {e : Int} (h : d' 3 = d 3) : X_hl d' q e ↔ X_hl d q e := by
  unfold X_hl
  rw [h]
theorem X_en_c {d d' : Nat → Int → Int} {q : Int → Int64} (h : d' 3 = d 3) : X_en d' q = X_en d q := by
  unfold X_en X_hl
  rw [h]
theorem X_fi_c {lo : Int → Int} {D D' : Int → Nat → Int → Int} {W : Int → Int → Int64} {d d' : Nat → Int → Int} {e v : Int} (h : X_sD D D') (h0 : d' 0 = d 0) (h1 : d' 1 = d 1) (h3 : d' 3 = d 3) : X_fi lo D' W d' e v ↔ X_fi lo D W d e v := by
  unfold X_fi
  rw [X_en_c (h v 3 (by decide) (by decide)), h v 0 (by decide) (by decide), h0, h1, h3]
/-- what a hole takes: kinds, words -/
def X_tkn (lo ab : Int → Int) (kc wc : Int) (D : Int → Nat → Int → Int) (W : Int → Int → Int64) (w e tk tw : Int) : Prop :=
  (∀ k, 0 ≤ k → k < 32 → (X_bt tk k ↔ k < kc ∧ X_bt (ab k) (D w 9 (D w 8 e)))) ∧ (∀ v, 0 ≤ v → v < 32 → (X_bt tw v ↔ v < wc ∧ X_bt tk (D v 2 0) ∧ X_fi lo D W (D w) e v))
/-- a word's holes are told apart -/
def X_wg (d : Nat → Int → Int) (q : Int → Int64) : Prop := (∀ e, X_hl d q e → 0 ≤ d 8 e ∧ d 8 e < d 4 0) ∧ (∀ e e', X_hl d q e → X_hl d q e' → d 8 e = d 8 e' → e = e')
theorem C_ws.upd {S S' : X_S} {B a : Nat} {D : Int → Nat → Int → Int} {W : Int → Int → Int64} {w : Int} {d' : Nat → Int → Int} (h : C_ws S B D W) (hf : X_Fr (fun r => a ≤ r ∧ r ≤ a + 7) S S') (ha : a = B + 6 + 8 * w.toNat) (h0 : 0 ≤ w) (hd : C_wd S' a d' (W w)) (hr : X_wr d') : C_ws S' B (X_ug D w d') W := by
  intro v h1 h2
  by_cases hv : v = w
  · subst hv
    rw [X_ug_s, ← ha]
    exact ⟨hd, hr⟩
  · rw [X_ug_n _ _ hv]
    exact ⟨(h v h1 h2).1.fr hf (fun k hk => by omega), (h v h1 h2).2⟩
theorem c_settleHoles (sc : X_Sc) (S : X_S) (B : Nat) (rc kc wc : Int) (rn : Int → Int64) (lo : Int → Int) (kn : Int → Int64) (ab : Int → Int) (D : Int → Nat → Int → Int) (W : Int → Int → Int64) (hb : C_bk S B rc kc wc rn lo kn ab) (hs : C_ws S B D W) (hg : ∀ w, 0 ≤ w → w < wc → X_wg (D w) (W w)) : X_T sc 15 (0, [(0, .ref B)], [], S) (fun v S' => v = none ∧ (∃ D', C_ws S' B D' W ∧ X_sD D D' ∧ ∀ w, 0 ≤ w → w < wc → ∀ e, X_hl (D w) (W w) e → X_tkn lo ab kc wc D W w e (D' w 11 (D w 8 e)) (D' w 10 (D w 8 e))) ∧ X_Fr (fun r => B + 6 ≤ r ∧ r < B + 246) S S') := by
  obtain ⟨hb0, hb1, hb2, hb3, hb4, ⟨f, hb5, hf⟩, ⟨hrc, hrcb⟩, ⟨hkc, hkcb⟩, ⟨hwc, hwcb⟩⟩ := id hb
  refine X_QI (fun Q hQ => ?_)
  refine T_p xr_15_0 xn_15 (pc' := 1) (ls' := [(0, .ref B)]) (st' := [.int (iI 0)]) rfl ?_
  refine T_p xr_15_1 xn_15 (pc' := 2) (ls' := [(1, .int (iI 0)), (0, .ref B)]) (st' := []) rfl ?_
  have L375 : ∀ (m377 : Nat) (S1 : X_S) (w : Int) (D1 : Int → Nat → Int → Int) (hF379 : X_Fr (fun r => B + 6 ≤ r ∧ r < B + 246) S S1) (hw : 0 ≤ w ∧ w ≤ wc) (hs1 : C_ws S1 B D1 W) (hsm : X_sD D D1) (hdo : ∀ v, 0 ≤ v → v < w → ∀ e, X_hl (D v) (W v) e → X_tkn lo ab kc wc D W v e (D1 v 11 (D v 8 e)) (D1 v 10 (D v 8 e))) (hm378 : wc - w < m377), X_T sc 15 (2, [(1, .int (iI w)), (0, .ref B)], [], S1) Q := by
    intro m377
    induction m377 with
    | zero =>
      intro S1 w D1 hF379 hw hs1 hsm hdo hm378
      exact (show False by omega).elim
    | succ m377 ih376 =>
      intro S1 w D1 hF379 hw hs1 hsm hdo hm378
      refine T_p xr_15_2 xn_15 (pc' := 3) (ls' := [(1, .int (iI w)), (0, .ref B)]) (st' := [.int (iI w)]) rfl ?_
      refine T_p xr_15_3 xn_15 (pc' := 4) (ls' := [(1, .int (iI w)), (0, .ref B)]) (st' := [.ref B, .int (iI w)]) rfl ?_
      have h380 := (hF379.1 B (by omega)).trans (hb0)
      refine T_get xr_15_4 h380 rfl (v := .int (iI wc)) rfl (pc' := 7) rfl ?_
      refine T_zicmp_ge xr_15_7 (t := 97) (pc' := 10) rfl rfl (fun c381 => ?_) (fun c381 => ?_)
      · skip
        have c381 : wc ≤ w := c381
        refine T_vret xr_15_97 xf_15.2.2 ?_
        refine hQ _ _ ?_
        exact ⟨rfl, ⟨D1, hs1, hsm, fun v h1 h2 => hdo v h1 (by omega)⟩, (X_Fr.rf).tr (X_Fr.mono ⟨hF379.1, hF379.2⟩ (fun q hq => (by omega)))⟩
      · skip
        have c381 : ¬ (wc ≤ w) := c381
        refine T_p xr_15_10 xn_15 (pc' := 11) (ls' := [(1, .int (iI w)), (0, .ref B)]) (st' := [.ref B]) rfl ?_
        refine T_get xr_15_11 h380 rfl (v := .ref (B + 5)) rfl (pc' := 14) rfl ?_
        refine T_p xr_15_14 xn_15 (pc' := 15) (ls' := [(1, .int (iI w)), (0, .ref B)]) (st' := [.int (iI w), .ref (B + 5)]) rfl ?_
        have h382 := (hF379.1 (B + 5) (by omega)).trans (hb5)
        have hwaw := hs1 w (by omega) (by omega)
        obtain ⟨aw, haaw⟩ : ∃ z : Nat, z = B + 6 + 8 * (w : Int).toNat := ⟨_, rfl⟩
        rw [← haaw] at hwaw
        obtain ⟨⟨_, _⟩, ⟨_, _⟩, ⟨_, _⟩, ⟨_, _⟩, ⟨_, _⟩, ⟨_, _⟩, ⟨_, _⟩, ⟨_, _⟩⟩ := id hwaw.2
        refine T_zaald xr_15_15 h382 (w := aw) (by rw [haaw]; exact hf _ (by omega)) (pc' := 16) rfl ?_
        refine T_p xr_15_16 xn_15 (pc' := 17) (ls' := [(2, .ref aw), (1, .int (iI w)), (0, .ref B)]) (st' := []) rfl ?_
        refine T_p xr_15_17 xn_15 (pc' := 18) (ls' := [(2, .ref aw), (1, .int (iI w)), (0, .ref B)]) (st' := [.int (iI 0)]) rfl ?_
        refine T_p xr_15_18 xn_15 (pc' := 19) (ls' := [(3, .int (iI 0)), (2, .ref aw), (1, .int (iI w)), (0, .ref B)]) (st' := []) rfl ?_
        have L386 : ∀ (m388 : Nat) (S391 : X_S) (e : Int) (tw : Int → Int) (tk : Int → Int) (htw : S391.1 (aw + 4) = .inl (.int, 4, .inl fun k : Nat => iI (tw (k : Int)))) (htk : S391.1 (aw + 5) = .inl (.int, 4, .inl fun k : Nat => iI (tk (k : Int)))) (hF390 : X_Fr (fun r => r = aw + 4 ∨ r = aw + 5) S1 S391) (he : 0 ≤ e ∧ e ≤ D1 w 3 0) (hin : ∀ e1, 0 ≤ e1 → e1 < e → X_hl (D w) (W w) e1 → X_tkn lo ab kc wc D W w e1 (tk (D w 8 e1)) (tw (D w 8 e1))) (hm389 : D1 w 3 0 - e < m388), X_T sc 15 (19, [(3, .int (iI e)), (2, .ref aw), (1, .int (iI w)), (0, .ref B)], [], S391) Q := by
          intro m388
          induction m388 with
          | zero =>
            intro S391 e tw tk htw htk hF390 he hin hm389
            exact (show False by omega).elim
          | succ m388 ih387 =>
            intro S391 e tw tk htw htk hF390 he hin hm389
            refine T_p xr_15_19 xn_15 (pc' := 20) (ls' := [(3, .int (iI e)), (2, .ref aw), (1, .int (iI w)), (0, .ref B)]) (st' := [.int (iI e)]) rfl ?_
            refine T_p xr_15_20 xn_15 (pc' := 21) (ls' := [(3, .int (iI e)), (2, .ref aw), (1, .int (iI w)), (0, .ref B)]) (st' := [.ref aw, .int (iI e)]) rfl ?_
            have h392 := (hF390.1 aw (by omega)).trans (hwaw.1.1)
            refine T_get xr_15_21 h392 rfl (v := .int (iI (D1 w 3 0))) rfl (pc' := 24) rfl ?_
            refine T_zicmp_ge xr_15_24 (t := 91) (pc' := 27) rfl rfl (fun c393 => ?_) (fun c393 => ?_)
            · skip
              have c393 : (D1 w 3 0) ≤ e := c393
              refine T_ziinc xr_15_91 xn_15 (a := w) (z := w + 1) rfl (Nat.le_of_ble_eq_true rfl) (by omega) (ls' := [(1, .int (iI (w + 1))), (3, .int (iI e)), (2, .ref aw), (0, .ref B)]) rfl (pc' := 94) rfl ?_
              refine T_p xr_15_94 xn_15 (pc' := 2) (ls' := [(1, .int (iI (w + 1))), (3, .int (iI e)), (2, .ref aw), (0, .ref B)]) (st' := []) rfl ?_
              have h395 := (hF390.1 (aw + 1) (by omega)).trans (hwaw.1.2.1)
              have h396 := (hF390.1 (aw + 2) (by omega)).trans (hwaw.1.2.2.1)
              have h397 := (hF390.1 (aw + 3) (by omega)).trans (hwaw.1.2.2.2.1)
              have h398 := (hF390.1 (aw + 6) (by omega)).trans (hwaw.1.2.2.2.2.2.2.1)
              have h399 := (hF390.1 (aw + 7) (by omega)).trans (hwaw.1.2.2.2.2.2.2.2)
              have hs394 : C_ws S391 B (X_ug D1 w (X_wu (X_wu (D1 w) 10 tw) 11 tk)) W := C_ws.upd hs1 ((X_Fr.rf).tr (X_Fr.mono ⟨hF390.1, hF390.2⟩ (fun q hq => (by omega)))) haaw (by omega) ⟨h392, h395, h396, h397, htw, htk, h398, h399⟩ hwaw.2
              refine T_sub (ls := [(1, .int (iI (w + 1))), (0, .ref B)]) ⟨rfl, rfl, trivial⟩ rfl rfl ?_
              exact ih376 S391 (w + 1) (X_ug D1 w (X_wu (X_wu (D1 w) 10 tw) 11 tk)) (hF379.tr ((X_Fr.rf).tr (X_Fr.mono ⟨hF390.1, hF390.2⟩ (fun q hq => (by omega))))) (by omega) hs394 (X_sD_up w _ _ hsm) (fun v h1 h2 e0 hhe => by
                    by_cases hv : v = w
                    · subst hv
                      rw [X_ug_s]
                      exact hin e0 (by have := hhe.1; omega) (by have := hhe.2.1; have hq := congrFun (hsm v 3 (by decide) (by decide)) 0; omega) hhe
                    · rw [X_ug_n _ _ hv]
                      exact hdo v h1 (by omega) e0 hhe) (by omega)
            · skip
              have c393 : ¬ ((D1 w 3 0) ≤ e) := c393
              refine T_p xr_15_27 xn_15 (pc' := 28) (ls' := [(3, .int (iI e)), (2, .ref aw), (1, .int (iI w)), (0, .ref B)]) (st' := [.ref aw]) rfl ?_
              refine T_p xr_15_28 xn_15 (pc' := 29) (ls' := [(3, .int (iI e)), (2, .ref aw), (1, .int (iI w)), (0, .ref B)]) (st' := [.int (iI e), .ref aw]) rfl ?_
              refine T_cv (S := S391) (q := aw) xr_15_29 xf_95.1 xf_95.2.1 xn_95 (as := [.int (iI e)]) (r := []) rfl h392 (Nat.le_of_ble_eq_true rfl) (Nat.le_of_ble_eq_true rfl) (pc' := 32) rfl (ls' := [(0, .ref aw), (1, .int (iI e))]) rfl ?_
              have h400 := (hF390.1 (aw + 1) (by omega)).trans (hwaw.1.2.1)
              have h401 := (hF390.1 (aw + 2) (by omega)).trans (hwaw.1.2.2.1)
              have h402 := (hF390.1 (aw + 3) (by omega)).trans (hwaw.1.2.2.2.1)
              have h403 := (hF390.1 (aw + 6) (by omega)).trans (hwaw.1.2.2.2.2.2.2.1)
              have h404 := (hF390.1 (aw + 7) (by omega)).trans (hwaw.1.2.2.2.2.2.2.2)
              refine T_mono (c_isHole sc S391 aw (X_wu (X_wu (D1 w) 10 tw) 11 tk) (W w) e ⟨h392, h400, h401, h402, htw, htk, h403, h404⟩ hwaw.2 (by omega)) (fun v406 S407 h405 => ?_)
              obtain ⟨h408, h409⟩ := h405
              rw [h408, h409]
              show X_T sc 15 (32, [(3, .int (iI e)), (2, .ref aw), (1, .int (iI w)), (0, .ref B)], [.int (iI (bI (X_hl (X_wu (X_wu (D1 w) 10 tw) 11 tk) (W w) e)))], S391) _
              refine T_bif_eq xr_15_32 (t := 85) (pc' := 35) rfl rfl (fun c410 => ?_) (fun c410 => ?_)
              · skip
                have c410 : ¬ (X_hl (X_wu (X_wu (D1 w) 10 tw) 11 tk) (W w) e) := c410
                refine T_ziinc xr_15_85 xn_15 (a := e) (z := e + 1) rfl (Nat.le_of_ble_eq_true rfl) (by omega) (ls' := [(3, .int (iI (e + 1))), (2, .ref aw), (1, .int (iI w)), (0, .ref B)]) rfl (pc' := 88) rfl ?_
                refine T_p xr_15_88 xn_15 (pc' := 19) (ls' := [(3, .int (iI (e + 1))), (2, .ref aw), (1, .int (iI w)), (0, .ref B)]) (st' := []) rfl ?_
                exact ih387 S391 (e + 1) tw tk htw htk (hF390.tr (X_Fr.rf)) (by omega) (fun e1 h1 h2 hhe => by
                      by_cases hv : e1 = e
                      · subst hv
                        exact absurd ((X_hl_c (hsm w 3 (by decide) (by decide))).mpr hhe) (by assumption)
                      · exact hin e1 h1 (by omega) hhe) (by omega)
              · skip
                have c410 : (X_hl (X_wu (X_wu (D1 w) 10 tw) 11 tk) (W w) e) := c410
                have hH8 : 0 ≤ D1 w 8 e ∧ D1 w 8 e < 4 := by
                  have hb8 := (hg w (by omega) (by omega)).1 e ((X_hl_c (hsm w 3 (by decide) (by decide))).mp (by assumption))
                  rw [← hsm w 8 (by decide) (by decide), ← hsm w 4 (by decide) (by decide)] at hb8
                  omega
                refine T_p xr_15_35 xn_15 (pc' := 36) (ls' := [(3, .int (iI e)), (2, .ref aw), (1, .int (iI w)), (0, .ref B)]) (st' := [.ref aw]) rfl ?_
                refine T_get xr_15_36 h392 rfl (v := .ref (aw + 2)) rfl (pc' := 39) rfl ?_
                refine T_p xr_15_39 xn_15 (pc' := 40) (ls' := [(3, .int (iI e)), (2, .ref aw), (1, .int (iI w)), (0, .ref B)]) (st' := [.int (iI e), .ref (aw + 2)]) rfl ?_
                refine T_ziald xr_15_40 h401 (pc' := 41) rfl ?_
                refine T_p xr_15_41 xn_15 (pc' := 43) (ls' := [(4, .int (iI ((D1 w 8) e))), (3, .int (iI e)), (2, .ref aw), (1, .int (iI w)), (0, .ref B)]) (st' := []) rfl ?_
                refine T_p xr_15_43 xn_15 (pc' := 44) (ls' := [(4, .int (iI ((D1 w 8) e))), (3, .int (iI e)), (2, .ref aw), (1, .int (iI w)), (0, .ref B)]) (st' := [.ref B]) rfl ?_
                refine T_p xr_15_44 xn_15 (pc' := 45) (ls' := [(4, .int (iI ((D1 w 8) e))), (3, .int (iI e)), (2, .ref aw), (1, .int (iI w)), (0, .ref B)]) (st' := [.ref aw, .ref B]) rfl ?_
                refine T_get xr_15_45 h392 rfl (v := .ref (aw + 3)) rfl (pc' := 48) rfl ?_
                refine T_p xr_15_48 xn_15 (pc' := 50) (ls' := [(4, .int (iI ((D1 w 8) e))), (3, .int (iI e)), (2, .ref aw), (1, .int (iI w)), (0, .ref B)]) (st' := [.int (iI ((D1 w 8) e)), .ref (aw + 3), .ref B]) rfl ?_
                refine T_ziald xr_15_50 h402 (pc' := 51) rfl ?_
                have h411 := (hF390.1 B (by omega)).trans (h380)
                refine T_cv (S := S391) (q := B) xr_15_51 xf_13.1 xf_13.2.1 xn_13 (as := [.int (iI ((D1 w 9) ((D1 w 8) e)))]) (r := []) rfl h411 (Nat.le_of_ble_eq_true rfl) (Nat.le_of_ble_eq_true rfl) (pc' := 54) rfl (ls' := [(0, .ref B), (1, .int (iI ((D1 w 9) ((D1 w 8) e))))]) rfl ?_
                have h419 := (hF390.1 (B + 1) (by omega)).trans ((hF379.1 (B + 1) (by omega)).trans (hb1))
                have h420 := (hF390.1 (B + 2) (by omega)).trans ((hF379.1 (B + 2) (by omega)).trans (hb2))
                have h421 := (hF390.1 (B + 3) (by omega)).trans ((hF379.1 (B + 3) (by omega)).trans (hb3))
                have h422 := (hF390.1 (B + 4) (by omega)).trans ((hF379.1 (B + 4) (by omega)).trans (hb4))
                have h423 := (hF390.1 (B + 5) (by omega)).trans (h382)
                refine T_mono (c_kindsUnder sc S391 B rc kc wc rn lo kn ab ((D1 w 9) ((D1 w 8) e)) ⟨h411, h419, h420, h421, h422, ⟨f, h423, hf⟩, ⟨by omega, by omega⟩, ⟨by omega, by omega⟩, ⟨by omega, by omega⟩⟩) (fun v412 S413 h414 => ?_)
                obtain ⟨r415, h416, hx417, h418⟩ := h414
                rw [h416, h418]
                show X_T sc 15 (54, [(4, .int (iI ((D1 w 8) e))), (3, .int (iI e)), (2, .ref aw), (1, .int (iI w)), (0, .ref B)], [.int (iI r415)], S391) _
                refine T_p xr_15_54 xn_15 (pc' := 56) (ls' := [(5, .int (iI r415)), (4, .int (iI ((D1 w 8) e))), (3, .int (iI e)), (2, .ref aw), (1, .int (iI w)), (0, .ref B)]) (st' := []) rfl ?_
                refine T_p xr_15_56 xn_15 (pc' := 57) (ls' := [(5, .int (iI r415)), (4, .int (iI ((D1 w 8) e))), (3, .int (iI e)), (2, .ref aw), (1, .int (iI w)), (0, .ref B)]) (st' := [.ref aw]) rfl ?_
                refine T_get xr_15_57 h392 rfl (v := .ref (aw + 5)) rfl (pc' := 60) rfl ?_
                refine T_p xr_15_60 xn_15 (pc' := 62) (ls' := [(5, .int (iI r415)), (4, .int (iI ((D1 w 8) e))), (3, .int (iI e)), (2, .ref aw), (1, .int (iI w)), (0, .ref B)]) (st' := [.int (iI ((D1 w 8) e)), .ref (aw + 5)]) rfl ?_
                refine T_p xr_15_62 xn_15 (pc' := 64) (ls' := [(5, .int (iI r415)), (4, .int (iI ((D1 w 8) e))), (3, .int (iI e)), (2, .ref aw), (1, .int (iI w)), (0, .ref B)]) (st' := [.int (iI r415), .int (iI ((D1 w 8) e)), .ref (aw + 5)]) rfl ?_
                refine T_ziast xr_15_64 htk (pc' := 65) rfl (fun S424 h425 n426 e427 => ?_)
                refine T_p xr_15_65 xn_15 (pc' := 66) (ls' := [(5, .int (iI r415)), (4, .int (iI ((D1 w 8) e))), (3, .int (iI e)), (2, .ref aw), (1, .int (iI w)), (0, .ref B)]) (st' := [.ref aw]) rfl ?_
                have h428 := (n426 aw (by omega)).trans (h392)
                refine T_get xr_15_66 h428 rfl (v := .ref (aw + 4)) rfl (pc' := 69) rfl ?_
                refine T_p xr_15_69 xn_15 (pc' := 71) (ls' := [(5, .int (iI r415)), (4, .int (iI ((D1 w 8) e))), (3, .int (iI e)), (2, .ref aw), (1, .int (iI w)), (0, .ref B)]) (st' := [.int (iI ((D1 w 8) e)), .ref (aw + 4)]) rfl ?_
                refine T_p xr_15_71 xn_15 (pc' := 72) (ls' := [(5, .int (iI r415)), (4, .int (iI ((D1 w 8) e))), (3, .int (iI e)), (2, .ref aw), (1, .int (iI w)), (0, .ref B)]) (st' := [.ref B, .int (iI ((D1 w 8) e)), .ref (aw + 4)]) rfl ?_
                refine T_p xr_15_72 xn_15 (pc' := 74) (ls' := [(5, .int (iI r415)), (4, .int (iI ((D1 w 8) e))), (3, .int (iI e)), (2, .ref aw), (1, .int (iI w)), (0, .ref B)]) (st' := [.int (iI r415), .ref B, .int (iI ((D1 w 8) e)), .ref (aw + 4)]) rfl ?_
                have h429 := (n426 B (by omega)).trans (h411)
                refine T_cv (S := S424) (q := B) xr_15_74 xf_14.1 xf_14.2.1 xn_14 (as := [.int (iI r415)]) (r := [.int (iI ((D1 w 8) e)), .ref (aw + 4)]) rfl h429 (Nat.le_of_ble_eq_true rfl) (Nat.le_of_ble_eq_true rfl) (pc' := 77) rfl (ls' := [(0, .ref B), (1, .int (iI r415))]) rfl ?_
                have h437 := (n426 (aw + 4) (by omega)).trans (htw)
                have h439 := (n426 (aw + 1) (by omega)).trans (h400)
                have h440 := (n426 (aw + 2) (by omega)).trans (h401)
                have h441 := (n426 (aw + 3) (by omega)).trans (h402)
                have h442 := (n426 (aw + 6) (by omega)).trans (h403)
                have h443 := (n426 (aw + 7) (by omega)).trans (h404)
                have hs438 : C_ws S424 B (X_ug D1 w (X_wu (X_wu (D1 w) 10 tw) 11 (X_ug tk ((D1 w 8) e) r415))) W := C_ws.upd hs1 (((X_Fr.rf).tr (X_Fr.mono ⟨hF390.1, hF390.2⟩ (fun q hq => (by omega)))).tr (X_Fr.of n426 e427 (by omega))) haaw (by omega) ⟨h428, h439, h440, h441, h437, h425, h442, h443⟩ hwaw.2
                have h444 := (n426 (B + 1) (by omega)).trans (h419)
                have h445 := (n426 (B + 2) (by omega)).trans (h420)
                have h446 := (n426 (B + 3) (by omega)).trans (h421)
                have h447 := (n426 (B + 4) (by omega)).trans (h422)
                have h448 := (n426 (B + 5) (by omega)).trans (h423)
                refine T_mono (c_wordsOfKinds sc S424 B rc kc wc rn lo kn ab (X_ug D1 w (X_wu (X_wu (D1 w) 10 tw) 11 (X_ug tk ((D1 w 8) e) r415))) W r415 ⟨h429, h444, h445, h446, h447, ⟨f, h448, hf⟩, ⟨by omega, by omega⟩, ⟨by omega, by omega⟩, ⟨by omega, by omega⟩⟩ hs438) (fun v430 S431 h432 => ?_)
                obtain ⟨r433, h434, hx435, h436⟩ := h432
                rw [h434, h436]
                show X_T sc 15 (77, [(5, .int (iI r415)), (4, .int (iI ((D1 w 8) e))), (3, .int (iI e)), (2, .ref aw), (1, .int (iI w)), (0, .ref B)], [.int (iI r433), .int (iI ((D1 w 8) e)), .ref (aw + 4)], S424) _
                refine T_p xr_15_77 xn_15 (pc' := 78) (ls' := [(5, .int (iI r415)), (4, .int (iI ((D1 w 8) e))), (3, .int (iI e)), (2, .ref aw), (1, .int (iI w)), (0, .ref B)]) (st' := [.ref B, .int (iI r433), .int (iI ((D1 w 8) e)), .ref (aw + 4)]) rfl ?_
                refine T_p xr_15_78 xn_15 (pc' := 79) (ls' := [(5, .int (iI r415)), (4, .int (iI ((D1 w 8) e))), (3, .int (iI e)), (2, .ref aw), (1, .int (iI w)), (0, .ref B)]) (st' := [.ref aw, .ref B, .int (iI r433), .int (iI ((D1 w 8) e)), .ref (aw + 4)]) rfl ?_
                refine T_p xr_15_79 xn_15 (pc' := 80) (ls' := [(5, .int (iI r415)), (4, .int (iI ((D1 w 8) e))), (3, .int (iI e)), (2, .ref aw), (1, .int (iI w)), (0, .ref B)]) (st' := [.int (iI e), .ref aw, .ref B, .int (iI r433), .int (iI ((D1 w 8) e)), .ref (aw + 4)]) rfl ?_
                refine T_cv (S := S424) (q := B) xr_15_80 xf_16.1 xf_16.2.1 xn_16 (as := [.ref aw, .int (iI e)]) (r := [.int (iI r433), .int (iI ((D1 w 8) e)), .ref (aw + 4)]) rfl h429 (Nat.le_of_ble_eq_true rfl) (Nat.le_of_ble_eq_true rfl) (pc' := 83) rfl (ls' := [(0, .ref B), (1, .ref aw), (2, .int (iI e))]) rfl ?_
                refine T_mono (c_wordsFitting sc S424 B rc kc wc rn lo kn ab (X_ug D1 w (X_wu (X_wu (D1 w) 10 tw) 11 (X_ug tk ((D1 w 8) e) r415))) W aw (X_wu (X_wu (D1 w) 10 tw) 11 (X_ug tk ((D1 w 8) e) r415)) (W w) e ⟨h429, h444, h445, h446, h447, ⟨f, h448, hf⟩, ⟨by omega, by omega⟩, ⟨by omega, by omega⟩, ⟨by omega, by omega⟩⟩ hs438 ⟨h428, h439, h440, h441, h437, h425, h442, h443⟩ hwaw.2 (by omega)) (fun v449 S450 h451 => ?_)
                obtain ⟨r452, h453, hx454, h455⟩ := h451
                rw [h453, h455]
                show X_T sc 15 (83, [(5, .int (iI r415)), (4, .int (iI ((D1 w 8) e))), (3, .int (iI e)), (2, .ref aw), (1, .int (iI w)), (0, .ref B)], [.int (iI r452), .int (iI r433), .int (iI ((D1 w 8) e)), .ref (aw + 4)], S424) _
                refine T_zop xr_15_83 (pc' := 84) rfl (z := (iI r433 &&& iI r452).toInt) (iI_of _) ?_
                refine T_ziast xr_15_84 h437 (pc' := 85) rfl (fun S456 h457 n458 e459 => ?_)
                refine T_ziinc xr_15_85 xn_15 (a := e) (z := e + 1) rfl (Nat.le_of_ble_eq_true rfl) (by omega) (ls' := [(3, .int (iI (e + 1))), (5, .int (iI r415)), (4, .int (iI ((D1 w 8) e))), (2, .ref aw), (1, .int (iI w)), (0, .ref B)]) rfl (pc' := 88) rfl ?_
                refine T_p xr_15_88 xn_15 (pc' := 19) (ls' := [(3, .int (iI (e + 1))), (5, .int (iI r415)), (4, .int (iI ((D1 w 8) e))), (2, .ref aw), (1, .int (iI w)), (0, .ref B)]) (st' := []) rfl ?_
                have h460 := (n458 (aw + 5) (by omega)).trans (h425)
                refine T_sub (ls := [(3, .int (iI (e + 1))), (2, .ref aw), (1, .int (iI w)), (0, .ref B)]) ⟨rfl, rfl, rfl, rfl, trivial⟩ rfl rfl ?_
                exact ih387 S456 (e + 1) (X_ug tw ((D1 w 8) e) ((iI r433 &&& iI r452).toInt)) (X_ug tk ((D1 w 8) e) r415) h457 h460 (hF390.tr (((X_Fr.rf).tr (X_Fr.of n426 e427 (by omega))).tr (X_Fr.of n458 e459 (by omega)))) (by omega) (fun e1 h1 h2 hhe => by
                      have q8 : D1 w 8 = D w 8 := hsm w 8 (by decide) (by decide)
                      have q9 : D1 w 9 = D w 9 := hsm w 9 (by decide) (by decide)
                      have hH : X_hl (D w) (W w) e := (X_hl_c (hsm w 3 (by decide) (by decide))).mp (by assumption)
                      rw [q8]
                      by_cases hv : e1 = e
                      · subst hv
                        rw [X_ug_s, X_ug_s]
                        constructor
                        · intro k g1 g2
                          rw [hx417 k g1 g2, q8, q9]
                        · intro v g1 g2
                          show X_bt (X_bA r433 r452) v ↔ _
                          rw [X_bt_an _ _ _ ⟨g1, g2⟩, hx435 v g1 g2, hx454 v g1 g2]
                          rw [(X_sD_up w tw (X_ug tk (D1 w 8 e1) r415) hsm v 2 (by decide) (by decide) : _)]
                          rw [X_fi_c (D := D) (d := D w) (d' := X_wu (X_wu (D1 w) 10 tw) 11 (X_ug tk (D1 w 8 e1) r415)) (X_sD_up w tw (X_ug tk (D1 w 8 e1) r415) hsm) (hsm w 0 (by decide) (by decide)) (hsm w 1 (by decide) (by decide)) (hsm w 3 (by decide) (by decide))]
                          constructor
                          · rintro ⟨⟨p1, p2⟩, p3, p4⟩; exact ⟨p1, p2, p4⟩
                          · rintro ⟨p1, p2, p3⟩; exact ⟨⟨p1, p2⟩, p1, p3⟩
                      · have hne : D w 8 e1 ≠ D w 8 e := fun hh => hv ((hg w (by omega) (by omega)).2 e1 e hhe hH hh)
                        rw [X_ug_n _ _ hne, X_ug_n _ _ hne]
                        exact hin e1 h1 (by omega) hhe) (by omega)
        exact L386 (D1 w 3 0 + 1).toNat S1 0 (D1 w 10) (D1 w 11) hwaw.1.2.2.2.2.1 hwaw.1.2.2.2.2.2.1 ((X_Fr.rf)) (by omega) (fun e1 h1 h2 => (show False by omega).elim) (by omega)
  exact L375 (wc + 1).toNat S 0 D ((X_Fr.rf)) (by omega) hs (fun v f _ _ => rfl) (fun v h1 h2 => (show False by omega).elim) (by omega)
