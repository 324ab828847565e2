theorem X_tb_r (t : Int64) (s : Int) : 0 ≤ X_tb t s ∧ X_tb t s ≤ 255 := by
  unfold X_tb
  obtain ⟨y, hy⟩ : ∃ y : Int64, y = t >>> ((iI s).toInt64 &&& 63) &&& iL 255 := ⟨_, rfl⟩
  rw [← hy]
  have h1 : y.toBitVec.toNat ≤ 255 := by
    rw [hy, Int64.toBitVec_and, BitVec.toNat_and]
    exact Nat.le_trans Nat.and_le_right (by decide)
  have h2 : y.toInt = (y.toBitVec.toNat : Int) := by
    rw [← Int64.toInt_toBitVec, BitVec.toInt_eq_toNat_of_lt (by omega)]
  have h3 : (y.toBitVec.toNat : Int).bmod (2 ^ 32) = (y.toBitVec.toNat : Int) := Int.bmod_eq_of_le (by omega) (by omega)
  rw [Int64.toInt_toInt32, h2, h3]
  omega
theorem X_nvl_s (t : Int64) (m : Nat) : X_nvl t (m + 1) = if X_nvl t m = -1 then -1 else if X_tb t (56 - 8 * m) = 0 then X_nvl t m else if X_tb t (56 - 8 * m) < 48 ∨ 57 < X_tb t (56 - 8 * m) then -1 else X_nvl t m * 10 + X_tb t (56 - 8 * m) - 48 := rfl
theorem X_nvl_n {t : Int64} {m : Nat} (h : X_nvl t m = -1) : ∀ n : Nat, X_nvl t (m + n) = -1 := by
  intro n
  induction n with
  | zero => exact h
  | succ n ih =>
    rw [← Nat.add_assoc, X_nvl_s, if_pos ih]
theorem X_nvl_r (t : Int64) : ∀ m : Nat, m ≤ 8 → -1 ≤ X_nvl t m ∧ X_nvl t m < ((10 ^ m : Nat) : Int) := by
  intro m
  induction m with
  | zero => intro _; exact ⟨(show (-1 : Int) ≤ 0 by omega), (show (0 : Int) < 1 by omega)⟩
  | succ m ih =>
    intro hm
    have h1 := ih (by omega)
    have h2 := X_tb_r t (56 - 8 * m)
    rw [X_nvl_s, show (10 : Nat) ^ (m + 1) = 10 ^ m * 10 from Nat.pow_succ 10 m]
    have h3 : 0 < (10 : Nat) ^ m := Nat.pow_pos (by decide)
    repeat' split
    all_goals omega
theorem X_nv_r (t : Int64) : -1 ≤ X_nv t ∧ X_nv t ≤ 99999999 := by
  have h := X_nvl_r t 8 (by omega)
  have h3 : (10 : Nat) ^ 8 = 100000000 := by decide
  unfold X_nv
  omega
/-- a step of the reading of a token's digits -/
theorem X_nv_go {t : Int64} {v m s : Int} (hm : 0 ≤ m) (hs : s = 56 - 8 * m) (hv : v = X_nvl t m.toNat) (h1 : ¬ v = -1) : (X_tb t s = 0 → X_nvl t (m + 1).toNat = v) ∧ (¬ X_tb t s = 0 → (X_tb t s < 48 ∨ 57 < X_tb t s) → X_nvl t (m + 1).toNat = -1) ∧ (¬ X_tb t s = 0 → ¬ X_tb t s < 48 → ¬ 57 < X_tb t s → X_nvl t (m + 1).toNat = v * 10 + X_tb t s - 48) := by
  have e : (m + 1).toNat = m.toNat + 1 := by omega
  have e2 : s = 56 - 8 * (m.toNat : Int) := by omega
  rw [e, X_nvl_s, ← e2, ← hv, if_neg h1]
  refine ⟨fun h => by rw [if_pos h], fun h h2 => by rw [if_neg h, if_pos h2], fun h h2 h3 => by rw [if_neg h, if_neg (by omega)]⟩
theorem X_nv_no {t : Int64} {m : Int} (hm : m ≤ 8) (h : X_nvl t m.toNat = -1) : X_nv t = -1 := by
  have := X_nvl_n h (8 - m.toNat)
  rw [show m.toNat + (8 - m.toNat) = 8 by omega] at this
  exact this
theorem X_hc_ex {q : Int → Int64} {h : Int} (h0 : 0 ≤ h) : ∀ n : Nat, h < X_hc q n → ∃ e : Nat, e < n ∧ q (e : Int) = 0 ∧ X_hc q e = h := by
  intro n
  induction n with
  | zero => intro hh; exact absurd (show h < 0 from hh) (by omega)
  | succ n ih =>
    intro hh
    have hh : h < X_hc q n + (if q (n : Int) = 0 then 1 else 0) := hh
    by_cases h1 : h < X_hc q n
    · obtain ⟨e, h2, h3, h4⟩ := ih h1
      exact ⟨e, by omega, h3, h4⟩
    · by_cases h2 : q (n : Int) = 0
      · rw [if_pos h2] at hh
        exact ⟨n, by omega, h2, by omega⟩
      · rw [if_neg h2] at hh
        omega
theorem X_gw.ex {G : X_G} {w h : Int} (hg : X_gw G w) (h1 : 0 ≤ h) (h2 : h < gD G w 4 0) : ∃ e, 0 ≤ e ∧ e < gD G w 3 0 ∧ gW G w e = 0 ∧ gD G w 8 e = h := by
  obtain ⟨⟨b1, b2⟩, -, -, -, -, -, a1, a2, -⟩ := hg
  rw [a1] at h2
  obtain ⟨e, g1, g2, g3⟩ := X_hc_ex (q := gW G w) h1 _ h2
  refine ⟨(e : Int), by omega, by omega, g2, ?_⟩
  rw [a2 _ (by omega) (by omega) g2]
  exact g3
theorem X_Hw_b {G : X_G} {T : X_TT} {w e i j : Int} (hG : X_Gok G) (hw0 : 0 ≤ w) (hw1 : w < gw G) (h1 : 0 ≤ e) (h2 : e < gD G w 3 0) (h3 : gW G w e = 0) : X_Hw G T w e i j = X_Su (fun k => X_if (X_bt (gD G w 11 (gD G w 8 e)) k) (X_nm G k i j + T.2 k i j)) 0 (gk G) + X_Su (fun v => X_if (X_bt (gD G w 10 (gD G w 8 e)) v) (T.1 v i j)) 0 (gw G) := by
  obtain ⟨b1, b2⟩ := (hG.2.2.2 w hw0 hw1).2.2.2.2.2.2.2.2.2.2 e h1 h2 h3
  have c1 := hG.1
  have c2 := hG.2.1
  unfold X_Hw X_Hc X_Hq X_Hv
  congr 1
  · refine X_Su_c (fun k g1 g2 => X_if_c ?_ (fun _ => rfl))
    rw [b1 k g1 (by omega)]
    exact ⟨fun z => ⟨g2, z⟩, fun z => z.2⟩
  · refine X_Su_c (fun v g1 g2 => X_if_c ?_ (fun _ => rfl))
    rw [b2 v g1 (by omega)]
    exact ⟨fun z => ⟨g2, z.1, z.2⟩, fun z => z.2⟩
theorem X_Hc_0 {G : X_G} {u o en i j : Int} (hG : X_Gok G) (h : X_all G i j = 0) : X_Hc G (X_T_ G) u o en i j = 0 := by
  rw [X_all_e hG.kd] at h
  have h1 : ∀ k, 0 ≤ k → k < gk G → X_nm G k i j + (X_T_ G).2 k i j = 0 := fun k g1 g2 => by
    have := X_Su_le (f := fun k => X_nm G k i j + (X_T_ G).2 k i j) (a := 0) (b := gk G) g1 g2
    omega
  have h2 : ∀ v, 0 ≤ v → v < gw G → (X_T_ G).1 v i j = 0 := fun k g1 g2 => by
    have := X_Su_le (f := fun v => (X_T_ G).1 v i j) (a := 0) (b := gw G) g1 g2
    omega
  unfold X_Hc X_Hq X_Hv
  rw [X_Su_0 (fun k g1 g2 => by rw [h1 k g1 g2]; exact X_if_0), X_Su_0 (fun k g1 g2 => by rw [h2 k g1 g2]; exact X_if_0)]
/-- the next one of a sum with a condition -/
theorem X_Su_if {p : Int → Prop} {f : Int → Nat} {a k : Int} (h : a ≤ k) : (p k → X_Su (fun z => X_if (p z) (f z)) a (k + 1) = X_Su (fun z => X_if (p z) (f z)) a k + f k) ∧ (¬ p k → X_Su (fun z => X_if (p z) (f z)) a (k + 1) = X_Su (fun z => X_if (p z) (f z)) a k) := by
  rw [X_Su_s h]
  exact ⟨fun g => by rw [X_if_t g], fun g => by rw [X_if_f g]; rfl⟩
