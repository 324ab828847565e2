theorem X_ev_r {G : X_G} {bo va V : Int → Int} {N : Int → Int → Int} {nc n : Int} : 0 ≤ (X_ev G bo va N nc V n).1 ∧ (X_ev G bo va N nc V n).1 ≤ 2 := by
  unfold X_ev
  split
  · exact ⟨Int.le_refl (0 : Int), (show (0 : Int) ≤ 2 by omega)⟩
  · split
    · exact ⟨Int.le_refl (0 : Int), (show (0 : Int) ≤ 2 by omega)⟩
    · split
      · split
        · exact ⟨(show (0 : Int) ≤ 1 by omega), (show (1 : Int) ≤ 2 by omega)⟩
        · exact ⟨Int.le_refl (0 : Int), (show (0 : Int) ≤ 2 by omega)⟩
      · split
        · exact ⟨Int.le_refl (0 : Int), (show (0 : Int) ≤ 2 by omega)⟩
        · exact ⟨(show (0 : Int) ≤ 2 by omega), Int.le_refl (2 : Int)⟩
theorem X_ev_n {G : X_G} {bo va V : Int → Int} {N : Int → Int → Int} {nc n : Int} (h : N 0 n = -2) : X_ev G bo va N nc V n = (0, X_nv (gt G (N 1 n))) := by
  unfold X_ev
  rw [if_pos h]
theorem X_ev_b {G : X_G} {bo va V : Int → Int} {N : Int → Int → Int} {nc n : Int} (h : N 0 n = -3) : X_ev G bo va N nc V n = (0, V (X_lc N n 0 nc.toNat)) := by
  unfold X_ev
  rw [if_neg (by omega), if_pos h]
theorem X_ev_s1 {G : X_G} {bo va V : Int → Int} {N : Int → Int → Int} {nc n : Int} (h : 0 ≤ N 0 n) (h5 : ¬ gD G (N 0 n) 5 0 = -1) (hs : X_wS (gD G (N 0 n)) (fun h => V (X_lc N n h nc.toNat)) (gD G (N 0 n) 5 0).toNat = none) : X_ev G bo va N nc V n = (1, 0) := by
  unfold X_ev
  rw [if_neg (by omega), if_neg (by omega), if_pos h5, hs]
theorem X_ev_s0 {G : X_G} {bo va V : Int → Int} {N : Int → Int → Int} {nc n : Int} {r : Int × (Int → Int)} (h : 0 ≤ N 0 n) (h5 : ¬ gD G (N 0 n) 5 0 = -1) (hs : X_wS (gD G (N 0 n)) (fun h => V (X_lc N n h nc.toNat)) (gD G (N 0 n) 5 0).toNat = some r) : X_ev G bo va N nc V n = (0, r.2 0) := by
  unfold X_ev
  rw [if_neg (by omega), if_neg (by omega), if_pos h5, hs]
theorem X_ev_v {G : X_G} {bo va V : Int → Int} {N : Int → Int → Int} {nc n : Int} (h : 0 ≤ N 0 n) (h5 : gD G (N 0 n) 5 0 = -1) : X_ev G bo va N nc V n = if bo (N 0 n) = 1 then (0, va (N 0 n)) else (2, 0) := by
  unfold X_ev
  rw [if_neg (by omega), if_neg (by omega), if_neg (fun z => z h5)]
