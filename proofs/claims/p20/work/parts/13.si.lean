/-! SENTENCES. how many tokens, how many bytes the last one has (0: it is ended), the tokens -/
def X_sn1 (s : Int × Int × (Int → Int64)) (c : Int) : Option (Int × Int × (Int → Int64)) :=
  if c = 32 ∨ c = 10 then some (s.1, 0, s.2.2) else if c < 33 ∨ 126 < c then none else if 0 < s.2.1 ∧ ¬ (c = 40 ∨ c = 41) then (if s.2.1 = 8 then none else some (s.1, s.2.1 + 1, X_ug s.2.2 (s.1 - 1) (X_pk1 (s.2.2 (s.1 - 1)) c)))
  else if s.1 = 30 then none else some (s.1 + 1, if c = 40 ∨ c = 41 then 0 else 1, X_ug s.2.2 s.1 (iI c).toInt64)
noncomputable def X_sn (tb : Int → Int) (len : Int) : Nat → Option (Int × Int × (Int → Int64))
  | 0 => some (0, 0, fun _ => 0)
  | k + 1 => (X_sn tb len k).bind fun s => X_sn1 s (X_at tb len (k : Int))
theorem X_sn_s {tb : Int → Int} {len k : Int} {s : Int × Int × (Int → Int64)} (h : 0 ≤ k) (hs : X_sn tb len k.toNat = some s) : X_sn tb len (k + 1).toNat = X_sn1 s (X_at tb len k) := by
  rw [show (k + 1).toNat = k.toNat + 1 by omega]
  show (X_sn tb len k.toNat).bind (fun s => X_sn1 s (X_at tb len ((k.toNat : Nat) : Int))) = _
  rw [hs, show ((k.toNat : Nat) : Int) = k by omega]
  rfl
theorem X_sn_n {tb : Int → Int} {len : Int} {k : Nat} (h : X_sn tb len k = none) : ∀ n : Nat, X_sn tb len (k + n) = none := by
  intro n
  induction n with
  | zero => exact h
  | succ n ih =>
    show (X_sn tb len (k + n)).bind _ = none
    rw [ih]
    rfl
theorem X_sn_x {tb : Int → Int} {len k : Int} (h0 : 0 ≤ k) (hk : k < len) (h : X_sn tb len (k + 1).toNat = none) : X_sn tb len len.toNat = none := by
  have := X_sn_n h (len.toNat - (k + 1).toNat)
  rw [show (k + 1).toNat + (len.toNat - (k + 1).toNat) = len.toNat by omega] at this
  exact this
theorem X_sn1_b {n z c : Int} {t : Int → Int64} (h : X_isBl c) : X_sn1 (n, z, t) c = some (n, 0, t) := by
  unfold X_sn1
  unfold X_isBl at h
  rw [if_pos h]
theorem X_sn1_x {n z c : Int} {t : Int → Int64} (h : ¬ X_isBl c) (h2 : c < 33 ∨ 126 < c) : X_sn1 (n, z, t) c = none := by
  unfold X_sn1
  unfold X_isBl at h
  rw [if_neg h, if_pos h2]
theorem X_sn1_m {n z c : Int} {t : Int → Int64} (h : ¬ X_isBl c) (h2 : ¬ (c < 33 ∨ 126 < c)) (h3 : 0 < z ∧ ¬ (c = 40 ∨ c = 41)) : X_sn1 (n, z, t) c = if z = 8 then none else some (n, z + 1, X_ug t (n - 1) (X_pk1 (t (n - 1)) c)) := by
  unfold X_sn1
  unfold X_isBl at h
  rw [if_neg h, if_neg h2, if_pos h3]
theorem X_sn1_n {n z c : Int} {t : Int → Int64} (h : ¬ X_isBl c) (h2 : ¬ (c < 33 ∨ 126 < c)) (h3 : ¬ (0 < z ∧ ¬ (c = 40 ∨ c = 41))) : X_sn1 (n, z, t) c = if n = 30 then none else some (n + 1, if c = 40 ∨ c = 41 then 0 else 1, X_ug t n (iI c).toInt64) := by
  unfold X_sn1
  unfold X_isBl at h
  rw [if_neg h, if_neg h2, if_neg h3]
