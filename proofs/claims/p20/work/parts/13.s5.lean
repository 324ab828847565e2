theorem X_Kd_b {G : X_G} {T : X_TT} {k r i j : Int} (hG : X_Gok G) (hk0 : 0 ≤ k) (hk : k < gk G) (hx : ∀ v, 0 ≤ v → v < 32 → (X_bt r v ↔ v < gw G ∧ X_bt (X_bS k) (gD G v 2 0))) : X_Su (fun z => X_if (X_bt (X_bS k) z) (X_nm G z i j + T.2 z i j)) 0 (gk G) + X_Su (fun v => X_if (X_bt r v) (T.1 v i j)) 0 (gw G) = X_Kd G T k i j := by
  have c1 := hG.1
  have c2 := hG.2.1
  unfold X_Kd
  congr 1
  · rw [X_Su_one (x := k) hk0 hk (fun z h1 h2 h3 => X_if_f (fun g => h3 ((X_bt_sh k z (by omega) (by omega)).mp g))), X_if_t ((X_bt_sh k k (by omega) (by omega)).mpr rfl)]
  · refine X_Su_c (fun v h1 h2 => X_if_c ?_ (fun _ => rfl))
    have hd := hG.kd v h1 h2
    rw [hx v h1 (by omega), X_bt_sh k _ (by omega) (by omega)]
    exact ⟨fun z => z.2, fun z => ⟨h2, z⟩⟩
theorem X_all_m {G : X_G} {i j : Int} (hG : X_Gok G) : X_Su (fun z => X_if (X_bt (-1) z) (X_nm G z i j + (X_T_ G).2 z i j)) 0 (gk G) + X_Su (fun v => X_if (X_bt (-1) v) ((X_T_ G).1 v i j)) 0 (gw G) = X_all G i j := by
  have c1 := hG.1
  have c2 := hG.2.1
  rw [X_all_e hG.kd]
  congr 1
  · exact X_Su_c (fun z h1 h2 => X_if_t (X_bt_m z (by omega)))
  · exact X_Su_c (fun z h1 h2 => X_if_t (X_bt_m z (by omega)))
theorem X_rw.fr {G : X_G} {m i j i' j' : Int} {oK oW oA oH oK' oW' oA' oH' : Int → Int64} (hG : X_Gok G) (hne : ¬ X_ro i' j' = X_ro i j) (h : X_rw G m i' j' oK oW oA oH) (h1 : ∀ q, ¬ (X_ro i j * 11 ≤ q ∧ q < X_ro i j * 11 + 11) → oK' q = oK q) (h2 : ∀ q, ¬ (X_ro i j * 30 ≤ q ∧ q < X_ro i j * 30 + 30) → oW' q = oW q) (h3 : ∀ q, ¬ q = X_ro i j → oA' q = oA q) (h4 : ∀ q, ¬ (X_ro i j * 120 ≤ q ∧ q < X_ro i j * 120 + 120) → oH' q = oH q) : X_rw G m i' j' oK' oW' oA' oH' := by
  obtain ⟨a1, a2, a3, a4⟩ := h
  have c1 := hG.1
  have c2 := hG.2.1
  refine ⟨fun k g1 g2 => (h1 _ (by omega)).trans (a1 k g1 g2), fun w g1 g2 => (h2 _ (by omega)).trans (a2 w g1 g2), (h3 _ hne).trans a3, fun w g1 g2 e g3 g4 g5 => ?_⟩
  have hh := (hG.2.2.2 w g1 g2).hole g3 g4 g5
  have hs := (hG.2.2.2 w g1 g2).2.1
  exact (h4 _ (by omega)).trans (a4 w g1 g2 e g3 g4 g5)
/-- numbers and brackets of kind k, one token -/
theorem X_nmB {G : X_G} {k i j : Int} (h : i < j) (h30 : j - i ≤ 30) : (j = i + 1 → X_nm G k i j + (X_T_ G).2 k i j = X_if (0 ≤ X_nv (gt G i) ∧ k = bI (1 < gk G)) 1) ∧ (¬ j = i + 1 → X_nm G k i j + (X_T_ G).2 k i j = X_if (X_brk G i j) (X_Kd G (X_T_ G) k (i + 1) (j - 1))) := by
  rw [X_T_B h h30]
  unfold X_nm
  constructor
  · intro hj
    rw [X_if_f (p := X_brk G i j) (fun z => absurd z.1 (by omega)), Nat.add_zero]
    exact X_if_c ⟨fun z => z.2, fun z => ⟨hj, z⟩⟩ (fun _ => rfl)
  · intro hj
    rw [X_if_f (fun z => hj z.1), Nat.zero_add]
