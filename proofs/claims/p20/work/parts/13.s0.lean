/-! more rules -/
section X_T5
variable {sc : X_Sc} {j : Nat} {Q : Option Value → X_S → Prop} {pc pc' t : Nat} {ls : X_L} {r : List Value} {S : X_S}
theorem iI_div {a b : Int} (ha : 0 ≤ a ∧ a ≤ 2147483647) (hb : 0 < b ∧ b ≤ 2147483647) : iI a / iI b = iI (a / b) := by
  rw [← Int32.toInt_inj, Int32.toInt_div, iI_t (by omega) (by omega), iI_t (by omega) (by omega)]
  have h1 : a.tdiv b = a / b := Int.tdiv_eq_ediv_of_nonneg ha.1
  have h2 : 0 ≤ a / b := Int.ediv_nonneg ha.1 (by omega)
  have h3 : a / b ≤ a := Int.ediv_le_self b ha.1
  rw [h1, iI_t (by omega) (by omega)]
  exact Int.bmod_eq_of_le (by omega) (by omega)
theorem T_zidiv {n : Nat} {ax : Nat × Nat × Nat} {a b z : Int} (hr : X_row j pc = some (pc, (.idiv, n), ax)) (ha : 0 ≤ a ∧ a ≤ 2147483647) (hb : 0 < b ∧ b ≤ 2147483647) (hz : a / b = z) (hp : pc + 1 = pc') (k : X_T sc j (pc', ls, .int (iI z) :: r, S) Q) : X_T sc j (pc, ls, .int (iI b) :: .int (iI a) :: r, S) Q := by
  subst hz
  subst hp
  refine T_p hr rfl ?_ k
  have h0 : ¬ iI b = 0 := fun h => by
    have h := (iI_eq (b := 0) (by omega) (by omega) (by omega) (by omega)).mp (show iI b = iI 0 from h)
    omega
  simp only [X_pstep, X_i2, if_neg h0, iI_div ha hb]
def X_cpy {α : Type} (f g : Int → α) (z : Int) : Int → α := fun k => if k < z then f k else g k
theorem T_cpy {idx n w a0 a m0 m1 : Nat} {f g : Int → Int64} {z : Int} (hr : X_row j pc = some (pc, (.invokestatic idx, n), (9998, w, 0))) (h0 : S.1 a0 = .inl (.long, m0, .inr (.inl fun k : Nat => f (k : Int)))) (h1 : S.1 a = .inl (.long, m1, .inr (.inl fun k : Nat => g (k : Int)))) (hz : 0 ≤ z ∧ z ≤ m0 ∧ z ≤ m1) (hm : m0 ≤ 2147483647 ∧ m1 ≤ 2147483647) (h8 : (r.map fun v => v.category).sum ≤ 8) (hp : pc + 3 = pc')
    (kk : ∀ S' : X_S, S'.1 a = .inl (.long, m1, .inr (.inl fun k : Nat => X_cpy f g z (k : Int))) → (∀ q, q ≠ a → S'.1 q = S.1 q) → S'.2 = S.2 → X_T sc j (pc', ls, r, S') Q) : X_T sc j (pc, ls, .int (iI z) :: .int (iI 0) :: .ref a :: .int (iI 0) :: .ref a0 :: r, S) Q := by
  subst hp
  have en : (iI z).toNatClampNeg = z.toNat := iI_nat (by omega) (by omega)
  have e0 : (iI 0).toNatClampNeg = 0 := rfl
  have ef : (fun k : Nat => X_cpy f g z (k : Int)) = va_cpy (fun k : Nat => f (k : Int)) (fun k : Nat => g (k : Int)) 0 0 z.toNat := by
    funext k
    unfold X_cpy va_cpy
    by_cases hk : (k : Int) < z
    · rw [if_pos hk, if_pos (by omega)]
      simp
    · rw [if_neg hk, if_neg (by omega)]
  rw [ef] at kk
  refine T_h hr rfl (S1 := (X_upd S.1 a (.inl (.long, m1, .inr (.inl (va_cpy (fun k : Nat => f (k : Int)) (fun k : Nat => g (k : Int)) 0 0 z.toNat)))), S.2)) ?_ (kk _ (by simp [X_upd]) (fun q hq => by simp [X_upd, hq]) rfl)
  have hn1 : ¬ iI 0 < 0 := by decide
  have hn2 : ¬ iI z < 0 := fun h => by
    have h := (iI_lt (b := 0) (by omega) (by omega) (by omega) (by omega)).mp (show iI z < iI 0 from h)
    omega
  simp only [X_hstep, if_true, h0, h1, en, e0]
  rw [if_neg (by
    rintro (h | h | h | h | h | h)
    · exact hn1 h
    · exact hn1 h
    · exact hn2 h
    · omega
    · omega
    · exact h h8)]
end X_T5
