/-! COUNTS in a long: what is above the greatest is told as m (-2 the class, -1 the reference) -/
def X_sz (m : Int) (n : Nat) : Int := if n ≤ 9223372036854775807 then (n : Int) else m
def X_st (m : Int) (n : Nat) : Int64 := iL (X_sz m n)
theorem X_sz_c {m : Int} {n : Nat} : (n ≤ 9223372036854775807 ∧ X_sz m n = (n : Int)) ∨ (9223372036854775807 < n ∧ X_sz m n = m) := by
  unfold X_sz
  split
  · exact Or.inl ⟨by assumption, rfl⟩
  · exact Or.inr ⟨by omega, rfl⟩
theorem iL_lt {a b : Int} (h1 : -9223372036854775808 ≤ a) (h2 : a ≤ 9223372036854775807) (h3 : -9223372036854775808 ≤ b) (h4 : b ≤ 9223372036854775807) : iL a < iL b ↔ a < b := by
  rw [Int64.lt_iff_toInt_lt, iL_t h1 h2, iL_t h3 h4]
theorem iL_le {a b : Int} (h1 : -9223372036854775808 ≤ a) (h2 : a ≤ 9223372036854775807) (h3 : -9223372036854775808 ≤ b) (h4 : b ≤ 9223372036854775807) : iL a ≤ iL b ↔ a ≤ b := by
  rw [Int64.le_iff_toInt_le, iL_t h1 h2, iL_t h3 h4]
theorem iL_eq {a b : Int} (h1 : -9223372036854775808 ≤ a) (h2 : a ≤ 9223372036854775807) (h3 : -9223372036854775808 ≤ b) (h4 : b ≤ 9223372036854775807) : iL a = iL b ↔ a = b := by
  rw [← Int64.toInt_inj, iL_t h1 h2, iL_t h3 h4]
theorem iL_w (a : Int) : iL (a - 18446744073709551616) = iL a := by
  show Int64.ofInt (a - 18446744073709551616) = Int64.ofInt a
  rw [Int64.ofInt_sub, show Int64.ofInt 18446744073709551616 = 0 from rfl, Int64.sub_zero]
theorem iL_div {a b : Int} (ha : 0 ≤ a ∧ a ≤ 9223372036854775807) (hb : 0 < b ∧ b ≤ 9223372036854775807) : iL a / iL b = iL (a / b) := by
  rw [← Int64.toInt_inj, Int64.toInt_div, iL_t (by omega) (by omega), iL_t (by omega) (by omega)]
  have h1 : a.tdiv b = a / b := Int.tdiv_eq_ediv_of_nonneg ha.1
  have h2 : 0 ≤ a / b := Int.ediv_nonneg ha.1 (by omega)
  have h3 : a / b ≤ a := Int.ediv_le_self b ha.1
  rw [h1, iL_t (by omega) (by omega)]
  exact Int.bmod_eq_of_le (by omega) (by omega)
/-- the sum of two counts -/
theorem X_st_a {m : Int} (hm : -2 ≤ m ∧ m ≤ -1) {a b : Nat} (ha : a ≤ 9223372036854775807) (hb : b ≤ 9223372036854775807) : (a + b ≤ 9223372036854775807 ∧ X_st m a + X_st m b = X_st m (a + b) ∧ ¬ X_st m a + X_st m b < iL 0) ∨ (9223372036854775807 < a + b ∧ X_st m a + X_st m b < iL 0) := by
  have ea : X_st m a = iL (a : Int) := by unfold X_st X_sz; rw [if_pos ha]
  have eb : X_st m b = iL (b : Int) := by unfold X_st X_sz; rw [if_pos hb]
  rw [ea, eb, ← Int64.ofInt_add]
  by_cases h : a + b ≤ 9223372036854775807
  · have ec : X_st m (a + b) = iL ((a : Int) + b) := by unfold X_st X_sz; rw [if_pos h]; rfl
    refine Or.inl ⟨h, ec.symm, ?_⟩
    rw [iL_lt (by omega) (by omega) (by omega) (by omega)]
    omega
  · refine Or.inr ⟨by omega, ?_⟩
    show iL ((a : Int) + b) < iL 0
    rw [← iL_w ((a : Int) + b), iL_lt (by omega) (by omega) (by omega) (by omega)]
    omega
theorem X_st_hi {m : Int} {a : Nat} (h : 9223372036854775807 < a) : X_st m a = iL m := by unfold X_st X_sz; rw [if_neg (by omega)]
theorem X_st_lo {m : Int} {a : Nat} (h : a ≤ 9223372036854775807) : X_st m a = iL (a : Int) := by unfold X_st X_sz; rw [if_pos h]
theorem X_st_n {m : Int} (hm : -2 ≤ m ∧ m ≤ -1) {a : Nat} : X_st m a < iL 0 ↔ 9223372036854775807 < a := by
  unfold X_st
  rcases X_sz_c (m := m) (n := a) with ⟨h1, h2⟩ | ⟨h1, h2⟩ <;> rw [h2, iL_lt (by omega) (by omega) (by omega) (by omega)] <;> omega
theorem X_st_m {m : Int} (hm : -2 ≤ m ∧ m ≤ -1) {a : Nat} : X_st m a = iL m ↔ 9223372036854775807 < a := by
  unfold X_st
  rcases X_sz_c (m := m) (n := a) with ⟨h1, h2⟩ | ⟨h1, h2⟩ <;> rw [h2, iL_eq (by omega) (by omega) (by omega) (by omega)] <;> omega
theorem X_st_z {m : Int} (hm : -2 ≤ m ∧ m ≤ -1) {a : Nat} : X_st m a = iL 0 ↔ a = 0 := by
  unfold X_st
  rcases X_sz_c (m := m) (n := a) with ⟨h1, h2⟩ | ⟨h1, h2⟩ <;> rw [h2, iL_eq (by omega) (by omega) (by omega) (by omega)] <;> omega
theorem X_st_0 {m : Int} : X_st m 0 = iL 0 := rfl
theorem X_st_1 {m : Int} : X_st m 1 = iL 1 := rfl
/-- a long that is a number of a reading -/
theorem X_st_lt {m : Int} (hm : -2 ≤ m ∧ m ≤ -1) {a k : Nat} (hk : k ≤ 9223372036854775807) : (X_st m a = iL m ∨ iL (k : Int) < X_st m a) ↔ k < a := by
  rw [X_st_m hm]
  unfold X_st
  rcases X_sz_c (m := m) (n := a) with ⟨h1, h2⟩ | ⟨h1, h2⟩ <;> rw [h2, iL_lt (by omega) (by omega) (by omega) (by omega)] <;> omega
/-- the product of two counts -/
theorem X_st_p {m : Int} (hm : -2 ≤ m ∧ m ≤ -1) {a b : Nat} (ha : a ≤ 9223372036854775807) (hb : b ≤ 9223372036854775807) (hb0 : ¬ b = 0) : (a * b ≤ 9223372036854775807 ∧ X_st m a * X_st m b = X_st m (a * b) ∧ ¬ iL 9223372036854775807 / X_st m b < X_st m a) ∨ (9223372036854775807 < a * b ∧ iL 9223372036854775807 / X_st m b < X_st m a) := by
  rw [X_st_lo ha, X_st_lo hb, ← Int64.ofInt_mul, iL_div (by omega) (by omega)]
  have h2 : (0 : Int) ≤ 9223372036854775807 / (b : Int) := Int.ediv_nonneg (by omega) (by omega)
  have h3 : (9223372036854775807 : Int) / (b : Int) ≤ 9223372036854775807 := Int.ediv_le_self _ (by omega)
  rw [iL_lt (by omega) (by omega) (by omega) (by omega)]
  have key : (9223372036854775807 : Int) / (b : Int) < (a : Int) ↔ 9223372036854775807 < (a : Int) * (b : Int) := Int.ediv_lt_iff_lt_mul (by omega)
  rw [key]
  have hc : (a : Int) * (b : Int) = ((a * b : Nat) : Int) := (Int.natCast_mul a b).symm
  rw [hc]
  by_cases h : a * b ≤ 9223372036854775807
  · exact Or.inl ⟨h, (X_st_lo h).symm, by omega⟩
  · exact Or.inr ⟨by omega, by omega⟩
/-- rows of the class's chart -/
def X_ro (i j : Int) : Int := j * (j - 1) / 2 + i
theorem X_ro_k (j : Nat) : ((j : Int) + 1) * ((j : Int) + 1 - 1) / 2 = (j : Int) * ((j : Int) - 1) / 2 + j := by
  have e : ((j : Int) + 1) * ((j : Int) + 1 - 1) = (j : Int) * ((j : Int) - 1) + 2 * j := by
    rw [Int.add_sub_cancel, Int.add_mul, Int.mul_sub]; omega
  rw [e]; omega
theorem X_ro_m {j : Nat} : ∀ n : Nat, X_ro 0 (j : Int) + n * (j : Int) ≤ X_ro 0 ((j + n : Nat) : Int) := by
  intro n
  induction n with
  | zero => show X_ro 0 (j : Int) + 0 * (j : Int) ≤ _; rw [Int.zero_mul, Int.add_zero]; exact Int.le_refl _
  | succ n ih =>
    unfold X_ro at ih ⊢
    have := X_ro_k (j + n)
    rw [show ((j + (n + 1) : Nat) : Int) = ((j + n : Nat) : Int) + 1 by omega, this]
    rw [show ((n + 1 : Nat) : Int) = (n : Int) + 1 by omega, Int.add_mul]
    omega
theorem X_ro_r {i j : Int} (h : 0 ≤ i) (h1 : i < j) (h2 : j ≤ 30) : 0 ≤ X_ro i j ∧ X_ro i j ≤ 464 ∧ 0 ≤ j * (j - 1) ∧ j * (j - 1) ≤ 870 := by
  have key : ∀ k : Fin 31, 0 ≤ ((k : Nat) : Int) * (((k : Nat) : Int) - 1) ∧ ((k : Nat) : Int) * (((k : Nat) : Int) - 1) ≤ 870 ∧ ((k : Nat) : Int) * (((k : Nat) : Int) - 1) / 2 + ((k : Nat) : Int) ≤ 465 := by decide
  have := key ⟨j.toNat, by omega⟩
  simp only at this
  rw [show ((j.toNat : Nat) : Int) = j by omega] at this
  unfold X_ro
  omega
theorem X_ro_lt {i j i' j' : Int} (h : 0 ≤ i ∧ i < j) (h' : 0 ≤ i' ∧ i' < j') (hj : j < j') : X_ro i j < X_ro i' j' := by
  have h1 := X_ro_m (j := j.toNat) (j' - j).toNat
  have h2 := X_ro_k j.toNat
  rw [show ((j.toNat + (j' - j).toNat : Nat) : Int) = j' by omega, show ((j.toNat : Nat) : Int) = j by omega] at h1
  have h3 : ((j' - j).toNat : Int) * j ≥ j := by
    have : 1 * j ≤ ((j' - j).toNat : Int) * j := Int.mul_le_mul_of_nonneg_right (by omega) (by omega)
    omega
  unfold X_ro at *
  omega
theorem X_ro_ne {i j i' j' : Int} (h : 0 ≤ i ∧ i < j) (h' : 0 ≤ i' ∧ i' < j') (hn : ¬ (i = i' ∧ j = j')) : ¬ X_ro i j = X_ro i' j' := by
  by_cases h1 : j < j'
  · have := X_ro_lt h h' h1; omega
  · by_cases h2 : j' < j
    · have := X_ro_lt h' h h2; omega
    · have e : j = j' := by omega
      subst e
      unfold X_ro
      omega
