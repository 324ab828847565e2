/-! TOKENS' DIGITS -/
theorem X_tb_n (t : Int64) (i : Nat) (hi : i < 8) : X_tb t (8 * (i : Int)) = ((t.toBitVec.toNat / 256 ^ i % 256 : Nat) : Int) := by
  have hs : ((iI (8 * (i : Int))).toInt64 &&& 63).toBitVec.smod 64 = BitVec.ofNat 64 (8 * i) := by
    have key : ∀ i : Fin 8, ((iI (8 * ((i : Nat) : Int))).toInt64 &&& 63).toBitVec.smod 64 = BitVec.ofNat 64 (8 * (i : Nat)) := by decide +kernel
    exact key ⟨i, hi⟩
  have hn : (BitVec.ofNat 64 (8 * i)).toNat = 8 * i := by
    rw [BitVec.toNat_ofNat]
    exact Nat.mod_eq_of_lt (by omega)
  unfold X_tb
  obtain ⟨y, hy⟩ : ∃ y : Int64, y = t >>> ((iI (8 * (i : Int))).toInt64 &&& 63) &&& iL 255 := ⟨_, rfl⟩
  rw [← hy]
  have h1 : y.toBitVec.toNat = t.toBitVec.toNat / 256 ^ i % 256 := by
    rw [hy, Int64.toBitVec_and, Int64.toBitVec_shiftRight, hs, BitVec.sshiftRight_eq', hn]
    have e255 : (iL 255).toBitVec = 255#64 := rfl
    rw [e255]
    have e : t.toBitVec.sshiftRight (8 * i) &&& 255#64 = (t.toBitVec >>> (8 * i)) &&& 255#64 := by
      refine BitVec.eq_of_getLsbD_eq (fun j hj => ?_)
      rw [BitVec.getLsbD_and, BitVec.getLsbD_and, BitVec.getLsbD_sshiftRight, BitVec.getLsbD_ushiftRight]
      by_cases h8 : j < 8
      · rw [if_pos (by omega)]
        have : ¬ 64 ≤ j := by omega
        simp [this]
      · have : (255#64).getLsbD j = false := by
          have key : ∀ j : Fin 64, ¬ (j : Nat) < 8 → (255#64).getLsbD (j : Nat) = false := by decide +kernel
          exact key ⟨j, hj⟩ h8
        rw [this, Bool.and_false, Bool.and_false]
    rw [e, BitVec.toNat_and, BitVec.toNat_ushiftRight, Nat.shiftRight_eq_div_pow]
    have e3 : (255#64).toNat = 2 ^ 8 - 1 := rfl
    rw [e3, Nat.and_two_pow_sub_one_eq_mod, Nat.pow_mul]
  have h2 : y.toInt = (y.toBitVec.toNat : Int) := by
    rw [← Int64.toInt_toBitVec, BitVec.toInt_eq_toNat_of_lt (by omega)]
  have h3 : (y.toBitVec.toNat : Int).bmod (2 ^ 32) = (y.toBitVec.toNat : Int) := Int.bmod_eq_of_le (by omega) (by omega)
  rw [Int64.toInt_toInt32, h2, h3, h1]
/-- the value of so many bytes, -1 if one is no digit -/
noncomputable def X_rv (tb : Int → Int) (len p : Int) : Nat → Int
  | 0 => 0
  | m + 1 => if X_rv tb len p m = -1 then -1 else if X_at tb len (p + m) < 48 ∨ 57 < X_at tb len (p + m) then -1 else X_rv tb len p m * 10 + X_at tb len (p + m) - 48
theorem X_nv_pk {tb : Int → Int} {len p : Int} (k : Nat) (hk : k ≤ 8) (hb : ∀ i : Int, 0 ≤ i → i < k → 0 < X_at tb len (p + i) ∧ X_at tb len (p + i) < 256) : X_nv (X_pk tb len p k) = X_rv tb len p k := by
  obtain ⟨a1, a2, a3⟩ := X_pk_b (tb := tb) (len := len) (p := p) k hk hb
  have z : ∀ m : Nat, m ≤ 8 - k → X_nvl (X_pk tb len p k) m = 0 := by
    intro m
    induction m with
    | zero => intro _; rfl
    | succ m ih =>
      intro hm
      have h0 : X_tb (X_pk tb len p k) (56 - 8 * (m : Int)) = 0 := by
        rw [show 56 - 8 * (m : Int) = 8 * ((7 - m : Nat) : Int) by omega, X_tb_n _ _ (by omega)]
        have hp : 256 ^ k ≤ 256 ^ (7 - m) := Nat.pow_le_pow_right (by decide) (by omega)
        rw [Nat.div_eq_of_lt (by omega)]
        rfl
      rw [X_nvl_s, ih (by omega), if_neg (by omega), if_pos h0]
  have y : ∀ m : Nat, m ≤ k → X_nvl (X_pk tb len p k) (8 - k + m) = X_rv tb len p m := by
    intro m
    induction m with
    | zero => intro _; exact z (8 - k) (Nat.le_refl _)
    | succ m ih =>
      intro hm
      have hbm := hb (m : Int) (by omega) (by omega)
      have h0 : X_tb (X_pk tb len p k) (56 - 8 * ((8 - k + m : Nat) : Int)) = X_at tb len (p + m) := by
        rw [show 56 - 8 * ((8 - k + m : Nat) : Int) = 8 * ((k - 1 - m : Nat) : Int) by omega, X_tb_n _ _ (by omega), a3 m (by omega)]
        omega
      rw [← Nat.add_assoc, X_nvl_s, ih (by omega), h0]
      show _ = if X_rv tb len p m = -1 then -1 else if X_at tb len (p + m) < 48 ∨ 57 < X_at tb len (p + m) then -1 else X_rv tb len p m * 10 + X_at tb len (p + m) - 48
      rw [if_neg (show ¬ X_at tb len (p + m) = 0 by omega)]
  have := y k (Nat.le_refl _)
  rw [show 8 - k + k = 8 by omega] at this
  exact this
theorem X_rv_1 {tb : Int → Int} {len p : Int} {m : Nat} (h : X_rv tb len p m = -1) : ∀ n : Nat, X_rv tb len p (m + n) = -1 := by
  intro n
  induction n with
  | zero => exact h
  | succ n ih =>
    show (if X_rv tb len p (m + n) = -1 then -1 else _) = _
    rw [if_pos ih]
theorem X_rv_x {tb : Int → Int} {len p : Int} {k m : Nat} (hm : m < k) (h : X_at tb len (p + m) < 48 ∨ 57 < X_at tb len (p + m)) : X_rv tb len p k = -1 := by
  have h1 : X_rv tb len p (m + 1) = -1 := by
    show (if X_rv tb len p m = -1 then -1 else if X_at tb len (p + m) < 48 ∨ 57 < X_at tb len (p + m) then -1 else _) = _
    by_cases h0 : X_rv tb len p m = -1
    · rw [if_pos h0]
    · rw [if_neg h0, if_pos h]
  have := X_rv_1 h1 (k - (m + 1))
  rw [show m + 1 + (k - (m + 1)) = k by omega] at this
  exact this
/-- what a part's text isn't: a number, a bracket -/
def X_pt (t : Int64) : Prop := X_nv t = -1 ∧ ¬ t = iL 40 ∧ ¬ t = iL 41
theorem X_Tok_pt {tb : Int → Int} {len p r : Int} {ct : Int64} {e : Int} (h : X_Tok tb len p r ct e) (h6 : r = 6) : X_pt ct := by
  rcases h with ⟨h1, h2, h3, h4⟩ | h | h | h | h
  · omega
  · obtain ⟨h1, h2, h3⟩ := h
    exfalso
    rcases h3 with h | ⟨-, -, h | h⟩
    · omega
    · have := h.2; omega
    · have := h.2; omega
  · obtain ⟨h1, h2, h3⟩ := h
    exfalso
    rcases h3 with h | ⟨-, -, -, h | h⟩
    · have := h.2.1; omega
    · have := h.2; omega
    · have := h.2; omega
  · obtain ⟨h1, m, h2, h3⟩ := h
    rcases h3 with ⟨-, h4, -, h5⟩ | ⟨h4, h5, h6', -, h7, -⟩
    · omega
    · have hm := X_se_r X_isPB tb len (p + 1)
      have hin : ∀ i : Int, 0 ≤ i → i < ((m - (p + 1)).toNat : Int) → X_isPB (X_at tb len (p + 1 + i)) := fun i g1 g2 => X_se_in (p := p + 1) (by omega) (by rw [← h2]; omega)
      have hb : ∀ i : Int, 0 ≤ i → i < ((m - (p + 1)).toNat : Int) → 0 < X_at tb len (p + 1 + i) ∧ X_at tb len (p + 1 + i) < 256 := fun i g1 g2 => by
        have := hin i g1 g2
        unfold X_isPB at this
        omega
      obtain ⟨q, q1, q2, q3⟩ : ∃ q, p + 1 ≤ q ∧ q < m ∧ ¬ X_isD (X_at tb len q) := Classical.byContradiction (fun z => h6' (fun q q1 q2 => Classical.byContradiction (fun y => z ⟨q, q1, q2, y⟩)))
      have hv : X_nv ct = -1 := by
        rw [h7, X_nv_pk _ (by omega) hb]
        refine X_rv_x (m := (q - (p + 1)).toNat) (by omega) ?_
        rw [show p + 1 + ((q - (p + 1)).toNat : Int) = q by omega]
        unfold X_isD at q3
        omega
      obtain ⟨a1, a2, a3⟩ := X_pk_b (tb := tb) (len := len) (p := p + 1) (m - (p + 1)).toNat (by omega) hb
      have key : ∀ c : Nat, c = 40 ∨ c = 41 → ¬ ct = iL (c : Int) := by
        intro c hc he
        have hl := a3 ((m - (p + 1)).toNat - 1) (by omega)
        rw [← h7, he, show (m - (p + 1)).toNat - 1 - ((m - (p + 1)).toNat - 1) = 0 by omega] at hl
        have hbn := hin (((m - (p + 1)).toNat - 1 : Nat) : Int) (by omega) (by omega)
        have hcc : (iL (c : Int)).toBitVec.toNat / 256 ^ 0 % 256 = c := by
          rcases hc with hc | hc <;> subst hc <;> decide
        rw [hcc] at hl
        unfold X_isPB at hbn
        omega
      exact ⟨hv, key 40 (Or.inl rfl), key 41 (Or.inr rfl)⟩
  · obtain ⟨h1, h2, h3, h4, h5, h6', h7⟩ := h
    exfalso
    rcases h7 with h | h
    · have h8 := h.2.2
      have h9 := h.1
      unfold X_isSg at h9
      omega
    · have := h.2; omega
