theorem X_mks_e {G : X_G} {n : Nat} {s : X_Ms} (h : s.1 ≤ 0) : X_mks G n s = s := by
  cases n with
  | zero => rfl
  | succ n =>
    show (if s.1 ≤ 0 then s else _) = s
    rw [if_pos h]
theorem X_mks_s {G : X_G} {n : Int} {s s' : X_Ms} (h : 0 < s.1) (hn : n < 30) (hm : X_mk G s = s') : X_mks G (30 - n).toNat s = X_mks G (30 - (n + 1)).toNat s' := by
  rw [show (30 - n).toNat = (30 - (n + 1)).toNat + 1 by omega]
  show (if s.1 ≤ 0 then s else X_mks G (30 - (n + 1)).toNat (X_mk G s)) = _
  rw [if_neg (by omega), hm]
theorem X_Mok_0 {G : X_G} {tn : Int} {k : Nat} (hG : X_Gok G) (htn : 1 ≤ tn ∧ tn ≤ 30) (hk : k < X_all G 0 tn) (hkm : k ≤ 9223372036854775807) : X_Mok G tn (1, fun _ => (0, tn, -1, -1, 0, 0, 0, k), 0, fun _ _ => 0) := by
  have c2 := hG.2.1
  have c1 := hG.1
  refine ⟨(show (0 : Int) ≤ 1 by omega), Int.le_refl (0 : Int), fun q g1 g2 => ?_, ?_⟩
  · exact ⟨⟨Int.le_refl (0 : Int), (show (0 : Int) < tn by omega), Int.le_refl tn⟩, Or.inr rfl, ⟨Int.le_refl (-1 : Int), (show (-1 : Int) ≤ 3 by omega)⟩, fun h => absurd (show (0 : Int) ≤ -1 from h) (by omega), ⟨Int.le_refl (0 : Int), (show 0 < gk G by omega)⟩, ⟨Int.le_refl (0 : Int), Or.inr rfl, (show (0 : Int) < 30 by omega)⟩, ⟨Int.le_refl (0 : Int), (show (0 : Int) ≤ 2 by omega)⟩, (by
      show k < X_Hc G (X_T_ G) 0 0 0 0 tn
      rw [X_Hc_all hG]
      exact hk), hkm⟩
  · show (0 : Int) + (X_Su (X_lw fun _ => (0, tn, -1, -1, 0, 0, 0, k)) 0 (0 + 1) : Int) ≤ tn
    rw [X_Su_s (Int.le_refl 0), X_Su_e (Int.le_refl 0)]
    unfold X_lw
    show (0 : Int) + ((0 + (tn - 0).toNat : Nat) : Int) ≤ tn
    omega
