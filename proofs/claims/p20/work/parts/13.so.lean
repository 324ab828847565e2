/-- a byte that goes on with a token -/
def X_ct (c : Int) : Prop := 33 ≤ c ∧ c ≤ 126 ∧ ¬ (c = 40 ∨ c = 41)
theorem X_pk_1 {tb : Int → Int} {len p : Int} : X_pk tb len p 1 = (iI (X_at tb len p)).toInt64 := by
  show X_pk1 0 (X_at tb len (p + ((0 : Nat) : Int))) = _
  rw [show p + ((0 : Nat) : Int) = p by omega]
  unfold X_pk1
  simp
theorem X_ct_b {c : Int} (h : X_ct c) : ¬ X_isBl c ∧ ¬ (c < 33 ∨ 126 < c) := by
  unfold X_ct at h
  unfold X_isBl
  omega
/-- a token that begins at f -/
theorem X_sn_f {tb : Int → Int} {len f n z : Int} {t : Int → Int64} (h0 : 0 ≤ f) (hs : X_sn tb len f.toNat = some (n, z, t)) (hn : ¬ n = 30) (hc : ¬ X_isBl (X_at tb len f) ∧ ¬ (X_at tb len f < 33 ∨ 126 < X_at tb len f)) (hz : 0 < z → ¬ X_ct (X_at tb len f)) : X_sn tb len (f + 1).toNat = some (n + 1, (if X_at tb len f = 40 ∨ X_at tb len f = 41 then 0 else 1), X_ug t n (X_pk tb len f 1)) := by
  rw [X_sn_s h0 hs, X_sn1_n hc.1 hc.2 (fun y => hz y.1 ⟨by omega, by omega, y.2⟩), if_neg hn, X_pk_1]
theorem X_sn_m {tb : Int → Int} {len f n z : Int} {t : Int → Int64} (h0 : 0 ≤ f) (hs : X_sn tb len f.toNat = some (n, z, t)) (hn : ¬ n = 30) (hc : X_ct (X_at tb len f)) (hz : z = 0) : ∀ m : Nat, 1 ≤ m → m ≤ 8 → (∀ q, f < q → q < f + m → X_ct (X_at tb len q)) → ∃ T, X_sn tb len (f + m).toNat = some (n + 1, (m : Int), T) ∧ T n = X_pk tb len f m ∧ ∀ i, ¬ i = n → T i = t i := by
  intro m
  induction m with
  | zero => intro h; omega
  | succ m ih =>
    intro h1 h8 hq
    by_cases hm : m = 0
    · subst hm
      have hcb := X_ct_b hc
      have := X_sn_f h0 hs hn hcb (fun y => by omega)
      have hnb : ¬ (X_at tb len f = 40 ∨ X_at tb len f = 41) := hc.2.2
      rw [if_neg hnb] at this
      refine ⟨X_ug t n (X_pk tb len f 1), ?_, X_ug_s _ _ _, fun i hi => X_ug_n _ _ hi⟩
      rw [show f + ((0 + 1 : Nat) : Int) = f + 1 by omega]
      exact this
    · obtain ⟨T, a1, a2, a3⟩ := ih (by omega) (by omega) (fun q g1 g2 => hq q g1 (by omega))
      have hcq := hq (f + m) (by omega) (by omega)
      have hcb := X_ct_b hcq
      have e : X_sn tb len (f + m + 1).toNat = _ := X_sn_s (by omega) a1
      rw [X_sn1_m hcb.1 hcb.2 ⟨by omega, hcq.2.2⟩, if_neg (by omega)] at e
      refine ⟨X_ug T (n + 1 - 1) (X_pk1 (T (n + 1 - 1)) (X_at tb len (f + m))), ?_, ?_, fun i hi => ?_⟩
      · rw [show f + ((m + 1 : Nat) : Int) = f + m + 1 by omega, e, show ((m + 1 : Nat) : Int) = (m : Int) + 1 by omega]
      · rw [show n + 1 - 1 = n by omega, X_ug_s, a2]
        rfl
      · rw [show n + 1 - 1 = n by omega, X_ug_n _ _ hi]
        exact a3 i hi
theorem X_sn_9 {tb : Int → Int} {len f n z : Int} {t : Int → Int64} (h0 : 0 ≤ f) (hs : X_sn tb len f.toNat = some (n, z, t)) (hn : ¬ n = 30) (hc : X_ct (X_at tb len f)) (hz : z = 0) (hq : ∀ q, f < q → q < f + 9 → X_ct (X_at tb len q)) (hl : f + 9 ≤ len) : X_sn tb len len.toNat = none := by
  obtain ⟨T, a1, a2, a3⟩ := X_sn_m h0 hs hn hc hz 8 (by omega) (by omega) (fun q g1 g2 => hq q g1 (by omega))
  have hcq := hq (f + 8) (by omega) (by omega)
  have hcb := X_ct_b hcq
  have e : X_sn tb len (f + ((8 : Nat) : Int) + 1).toNat = _ := X_sn_s (by omega) a1
  rw [show f + ((8 : Nat) : Int) = f + 8 by omega, X_sn1_m hcb.1 hcb.2 ⟨by omega, hcq.2.2⟩, if_pos (by omega)] at e
  exact X_sn_x (by omega) (by omega) e
theorem X_rv_r {tb : Int → Int} {len p : Int} : ∀ m : Nat, (∀ i : Int, 0 ≤ i → i < m → 0 ≤ X_at tb len (p + i)) → -1 ≤ X_rv tb len p m ∧ X_rv tb len p m < ((10 ^ m : Nat) : Int) := by
  intro m
  induction m with
  | zero => intro _; exact ⟨(show (-1 : Int) ≤ 0 by omega), (show (0 : Int) < 1 by omega)⟩
  | succ m ih =>
    intro h
    have h1 := ih (fun i g1 g2 => h i g1 (by omega))
    show -1 ≤ (if X_rv tb len p m = -1 then -1 else if X_at tb len (p + m) < 48 ∨ 57 < X_at tb len (p + m) then -1 else X_rv tb len p m * 10 + X_at tb len (p + m) - 48) ∧ _
    have e : X_rv tb len p (m + 1) = if X_rv tb len p m = -1 then -1 else if X_at tb len (p + m) < 48 ∨ 57 < X_at tb len (p + m) then -1 else X_rv tb len p m * 10 + X_at tb len (p + m) - 48 := rfl
    rw [e, show (10 : Nat) ^ (m + 1) = 10 ^ m * 10 from Nat.pow_succ 10 m]
    have h3 : 0 < (10 : Nat) ^ m := Nat.pow_pos (by decide)
    repeat' split
    all_goals omega
theorem X_rv_s {tb : Int → Int} {len p i : Int} (h : p ≤ i) : X_rv tb len p (i + 1 - p).toNat = if X_rv tb len p (i - p).toNat = -1 then -1 else if X_at tb len i < 48 ∨ 57 < X_at tb len i then -1 else X_rv tb len p (i - p).toNat * 10 + X_at tb len i - 48 := by
  rw [show (i + 1 - p).toNat = (i - p).toNat + 1 by omega]
  show (if X_rv tb len p (i - p).toNat = -1 then -1 else if X_at tb len (p + ((i - p).toNat : Int)) < 48 ∨ 57 < X_at tb len (p + ((i - p).toNat : Int)) then -1 else X_rv tb len p (i - p).toNat * 10 + X_at tb len (p + ((i - p).toNat : Int)) - 48) = _
  rw [show p + ((i - p).toNat : Int) = i by omega]
theorem X_pk_s {tb : Int → Int} {len p i : Int} (h : p ≤ i) : X_pk tb len p (i + 1 - p).toNat = X_pk1 (X_pk tb len p (i - p).toNat) (X_at tb len i) := by
  rw [show (i + 1 - p).toNat = (i - p).toNat + 1 by omega]
  show X_pk1 (X_pk tb len p (i - p).toNat) (X_at tb len (p + ((i - p).toNat : Int))) = _
  rw [show p + ((i - p).toNat : Int) = i by omega]
