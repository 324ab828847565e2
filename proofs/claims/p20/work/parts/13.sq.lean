/-! brackets: how many are open -/
def X_bv (t : Int64) : Int := if t = iL 40 then 1 else if t = iL 41 then -1 else 0
def X_ba (G : X_G) (i : Int) : Nat → Int
  | 0 => 0
  | n + 1 => X_ba G i n + X_bv (gt G (i + n))
def X_bl (G : X_G) (i j : Int) : Int := X_ba G i (j - i).toNat
theorem X_bl_e {G : X_G} {i : Int} : X_bl G i i = 0 := by
  unfold X_bl
  rw [show (i - i).toNat = 0 by omega]
  rfl
theorem X_bl_s {G : X_G} {i m : Int} (h : i ≤ m) : X_bl G i (m + 1) = X_bl G i m + X_bv (gt G m) := by
  unfold X_bl
  rw [show (m + 1 - i).toNat = (m - i).toNat + 1 by omega]
  show X_ba G i (m - i).toNat + X_bv (gt G (i + ((m - i).toNat : Int))) = _
  rw [show i + ((m - i).toNat : Int) = m by omega]
theorem X_bl_a {G : X_G} {i m j : Int} (h1 : i ≤ m) (h2 : m ≤ j) : X_bl G i j = X_bl G i m + X_bl G m j := by
  refine X_Su_ind (a := m) (b := j) (fun x => X_bl G i x = X_bl G i m + X_bl G m x) ?_ (fun x g1 g2 ih => ?_) h2
  · rw [X_bl_e, Int.add_zero]
  · rw [X_bl_s (by omega), X_bl_s g1, ih, Int.add_assoc]
theorem X_bl_1 {G : X_G} {i : Int} : X_bl G i (i + 1) = X_bv (gt G i) := by
  rw [X_bl_s (Int.le_refl i), X_bl_e, Int.zero_add]
/-- in balance, and never too many closed -/
def X_bq (G : X_G) (i j : Int) : Prop := X_bl G i j = 0 ∧ ∀ m, i ≤ m → m ≤ j → 0 ≤ X_bl G i m
theorem X_bq.add {G : X_G} {i m j : Int} (h1 : i ≤ m) (h2 : m ≤ j) (ha : X_bq G i m) (hb : X_bq G m j) : X_bq G i j := by
  refine ⟨by rw [X_bl_a h1 h2, ha.1, hb.1]; rfl, fun x g1 g2 => ?_⟩
  by_cases hx : x ≤ m
  · exact ha.2 x g1 hx
  · rw [X_bl_a h1 (show m ≤ x by omega), ha.1, Int.zero_add]
    exact hb.2 x (by omega) g2
theorem X_bq_0 {G : X_G} {i : Int} : X_bq G i i := ⟨X_bl_e, fun m h1 h2 => by rw [show m = i by omega, X_bl_e]; exact Int.le_refl 0⟩
theorem X_bq_1 {G : X_G} {i : Int} (h : X_bv (gt G i) = 0) : X_bq G i (i + 1) := by
  refine ⟨by rw [X_bl_1]; exact h, fun m h1 h2 => ?_⟩
  by_cases hm : m = i
  · rw [hm, X_bl_e]; exact Int.le_refl 0
  · rw [show m = i + 1 by omega, X_bl_1, h]; exact Int.le_refl 0
theorem X_bv_n {t : Int64} (h : 0 ≤ X_nv t) : X_bv t = 0 := by
  unfold X_bv
  rw [if_neg (fun z => by rw [z, show X_nv (iL 40) = -1 by decide] at h; omega), if_neg (fun z => by rw [z, show X_nv (iL 41) = -1 by decide] at h; omega)]
theorem X_bv_p {t : Int64} (h1 : ¬ t = iL 40) (h2 : ¬ t = iL 41) : X_bv t = 0 := by
  unfold X_bv
  rw [if_neg h1, if_neg h2]
/-- what has a reading -/
def X_hr (G : X_G) (i j : Int) : Prop := (∃ k, 0 < X_nm G k i j + (X_T_ G).2 k i j) ∨ ∃ v, 0 ≤ v ∧ v < gw G ∧ 0 < (X_T_ G).1 v i j
theorem X_if_p {p : Prop} {n : Nat} (h : 0 < X_if p n) : p ∧ 0 < n := by
  by_cases hp : p
  · rw [X_if_t hp] at h; exact ⟨hp, h⟩
  · rw [X_if_f hp] at h; omega
theorem X_hr_c {G : X_G} {u o en i j : Int} (h : 0 < X_Hc G (X_T_ G) u o en i j) : X_hr G i j := by
  unfold X_Hc at h
  by_cases hq : 0 < X_Hq G (X_T_ G) u i j
  · obtain ⟨k, -, -, h1⟩ := X_Su_p hq
    exact Or.inl ⟨k, (X_if_p h1).2⟩
  · have hv : 0 < X_Hv G (X_T_ G) u o en i j := by omega
    obtain ⟨v, h1, h2, h3⟩ := X_Su_p hv
    exact Or.inr ⟨v, h1, h2, (X_if_p h3).2⟩
theorem X_hr_k {G : X_G} {k i j : Int} (h : 0 < X_Kd G (X_T_ G) k i j) : X_hr G i j := by
  unfold X_Kd at h
  by_cases hq : 0 < X_nm G k i j + (X_T_ G).2 k i j
  · exact Or.inl ⟨k, hq⟩
  · have hv : 0 < X_Su (fun v => X_if (gD G v 2 0 = k) ((X_T_ G).1 v i j)) 0 (gw G) := by omega
    obtain ⟨v, h1, h2, h3⟩ := X_Su_p hv
    exact Or.inr ⟨v, h1, h2, (X_if_p h3).2⟩
theorem X_Ew_bo {G : X_G} {w i j : Int} (hg : X_gw G w) (N : Int) (hN : j - i ≤ N) (ih : ∀ p q, p < q → q - p < N → X_hr G p q → X_bq G p q) : ∀ (n : Nat) (e p : Int), 0 ≤ e → e + n = gD G w 3 0 → i + e ≤ p → p ≤ j → 0 < X_Ew G (X_T_ G) w e p j → X_bq G p j := by
  have hn := hg.2.1
  intro n
  induction n with
  | zero =>
    intro e p h0 h1 h2 h3 h4
    rw [X_Ew_e (by omega)] at h4
    have : p = j := Classical.byContradiction (fun z => by rw [if_neg z] at h4; omega)
    rw [this]
    exact X_bq_0
  | succ n ihn =>
    intro e p h0 h1 h2 h3 h4
    by_cases hq : gW G w e = 0
    · rw [X_Ew_h (by omega) hq] at h4
      obtain ⟨q, g1, g2, g3⟩ := X_Su_p h4
      have gH : 0 < X_Hw G (X_T_ G) w e p q := Nat.pos_of_ne_zero (fun z => by rw [z, Nat.zero_mul] at g3; omega)
      have gE : 0 < X_Ew G (X_T_ G) w (e + 1) q j := Nat.pos_of_ne_zero (fun z => by rw [z, Nat.mul_zero] at g3; omega)
      have gl1 : ¬ j - q < gD G w 3 0 - (e + 1) := fun z => by rw [X_Ew_0 z] at gE; omega
      have hh := (hg.hole h0 (by omega) hq)
      exact (ih p q (by omega) (by omega) (X_hr_c gH)).add (by omega) (by omega) (ihn (e + 1) q (by omega) (by omega) (by omega) (by omega) gE)
    · rw [X_Ew_p (by omega) hq] at h4
      obtain ⟨⟨g1, g2⟩, g3⟩ := X_if_p h4
      have hp := hg.2.2.2.2.2.2.2.2.2.1 e h0 (by omega) hq
      exact (X_bq_1 (by rw [g2]; exact X_bv_p hp.2.1 hp.2.2)).add (by omega) (by omega) (ihn (e + 1) (p + 1) (by omega) (by omega) (by omega) (by omega) g3)
theorem X_brk_bl {G : X_G} {i j : Int} (h : X_brk G i j) (ho : X_bq G (i + 1) (j - 1)) : X_bl G i j = 0 ∧ ∀ m, i < m → m < j → 1 ≤ X_bl G i m := by
  obtain ⟨h1, h2, h3⟩ := h
  have v1 : X_bv (gt G i) = 1 := by rw [h2]; rfl
  have v2 : X_bv (gt G (j - 1)) = -1 := by rw [h3]; unfold X_bv; rw [if_neg (by decide), if_pos rfl]
  have s1 : X_bl G i (i + 1) = 1 := by rw [X_bl_1]; exact v1
  refine ⟨?_, fun m g1 g2 => ?_⟩
  · have s2 : X_bl G (j - 1) (j - 1 + 1) = -1 := by rw [X_bl_1]; exact v2
    rw [show j - 1 + 1 = j by omega] at s2
    rw [X_bl_a (show i ≤ i + 1 by omega) (show i + 1 ≤ j by omega), X_bl_a (show i + 1 ≤ j - 1 by omega) (show j - 1 ≤ j by omega), s1, s2, ho.1]
    rfl
  · rw [X_bl_a (show i ≤ i + 1 by omega) (show i + 1 ≤ m by omega), s1]
    have := ho.2 m (by omega) (by omega)
    omega
theorem X_hr_bo {G : X_G} (hG : X_Gok G) : ∀ (n : Nat) (i j : Int), i < j → j - i ≤ n → j - i ≤ 30 → X_hr G i j → X_bq G i j := by
  intro n
  induction n with
  | zero => intro i j h1 h2; omega
  | succ n ih =>
    intro i j h1 h2 h30 h
    rcases h with ⟨k, h⟩ | ⟨v, hv1, hv2, h⟩
    · have hb := X_nmB (G := G) (k := k) h1 h30
      by_cases hj : j = i + 1
      · rw [hb.1 hj] at h
        rw [hj]
        exact X_bq_1 (X_bv_n (X_if_p h).1.1)
      · rw [hb.2 hj] at h
        obtain ⟨hk, h3⟩ := X_if_p h
        have hk1 := hk.1
        have hb2 := X_brk_bl hk (ih (i + 1) (j - 1) (by omega) (by omega) (by omega) (X_hr_k h3))
        refine ⟨hb2.1, fun m g1 g2 => ?_⟩
        by_cases hm : m = i
        · rw [hm, X_bl_e]; exact Int.le_refl 0
        · by_cases hm2 : m = j
          · rw [hm2, hb2.1]; exact Int.le_refl 0
          · have := hb2.2 m (by omega) (by omega)
            omega
    · have hg := hG.2.2.2 v hv1 hv2
      rw [X_T_W hg.2.2.1 h1 h30] at h
      exact X_Ew_bo hg (j - i) (Int.le_refl _) (fun p q g1 g2 g3 => ih p q g1 (by omega) (by omega) g3) (gD G v 3 0).toNat 0 i (Int.le_refl 0) (by have := hg.1; omega) (by omega) (by omega) h
/-- the first element of a word that is read over brackets -/
theorem X_brk_w {G : X_G} {v k i j : Int} (hG : X_Gok G) (hv : 0 ≤ v ∧ v < gw G) (h1 : i < j) (h30 : j - i ≤ 30) (hb : 0 < (X_T_ G).2 k i j) : (X_T_ G).1 v i j = 0 := by
  refine Nat.eq_zero_of_not_pos (fun h => ?_)
  have hg := hG.2.2.2 v hv.1 hv.2
  rw [X_T_B h1 h30] at hb
  obtain ⟨hk, h3⟩ := X_if_p hb
  have hk1 := hk.1
  have hb2 := X_brk_bl hk (X_hr_bo hG (j - i).toNat (i + 1) (j - 1) (by omega) (by omega) (by omega) (X_hr_k h3))
  rw [X_T_W hg.2.2.1 h1 h30] at h
  have hs := hg.1
  have hn := hg.2.1
  by_cases hq : gW G v 0 = 0
  · rw [X_Ew_h (by omega) hq] at h
    obtain ⟨q, g1, g2, g3⟩ := X_Su_p h
    have gH : 0 < X_Hw G (X_T_ G) v 0 i q := Nat.pos_of_ne_zero (fun z => by rw [z, Nat.zero_mul] at g3; omega)
    have gE : 0 < X_Ew G (X_T_ G) v (0 + 1) q j := Nat.pos_of_ne_zero (fun z => by rw [z, Nat.mul_zero] at g3; omega)
    have gl1 : ¬ j - q < gD G v 3 0 - (0 + 1) := fun z => by rw [X_Ew_0 z] at gE; omega
    have hh := (hg.hole (Int.le_refl 0) (by omega) hq)
    have ho := X_hr_bo hG (q - i).toNat i q (by omega) (by omega) (by omega) (X_hr_c gH)
    have := hb2.2 q (by omega) (by omega)
    have := ho.1
    omega
  · rw [X_Ew_p (by omega) hq] at h
    obtain ⟨⟨g1, g2⟩, g3⟩ := X_if_p h
    have hp := hg.2.2.2.2.2.2.2.2.2.1 0 (Int.le_refl 0) (by omega) hq
    exact hp.2.1 (g2.symm.trans hk.2.1)
theorem X_num_w {G : X_G} {v i : Int} (hG : X_Gok G) (hv : 0 ≤ v ∧ v < gw G) (hb : 0 ≤ X_nv (gt G i)) : (X_T_ G).1 v i (i + 1) = 0 := by
  refine Nat.eq_zero_of_not_pos (fun h => ?_)
  have hg := hG.2.2.2 v hv.1 hv.2
  rw [X_T_W hg.2.2.1 (by omega) (by omega)] at h
  have hs := hg.1
  have hn := hg.2.1
  by_cases hq : gW G v 0 = 0
  · rw [X_Ew_h (by omega) hq] at h
    obtain ⟨q, g1, g2, g3⟩ := X_Su_p h
    have gE : 0 < X_Ew G (X_T_ G) v (0 + 1) q (i + 1) := Nat.pos_of_ne_zero (fun z => by rw [z, Nat.mul_zero] at g3; omega)
    have gl1 : ¬ i + 1 - q < gD G v 3 0 - (0 + 1) := fun z => by rw [X_Ew_0 z] at gE; omega
    have hh := (hg.hole (Int.le_refl 0) (by omega) hq)
    omega
  · rw [X_Ew_p (by omega) hq] at h
    obtain ⟨⟨g1, g2⟩, g3⟩ := X_if_p h
    have hp := hg.2.2.2.2.2.2.2.2.2.1 0 (Int.le_refl 0) (by omega) hq
    rw [g2, hp.1] at hb
    omega
/-- what open finds: a number .. -/
theorem R_num {G : X_G} {u o en i j : Int} {k : Nat} (hG : X_Gok G) (hj : j = i + 1) (hv : 0 ≤ X_nv (gt G i)) (hk : k < X_Hc G (X_T_ G) u o en i j) : k < X_Hq G (X_T_ G) u i j := by
  unfold X_Hc X_Hv at hk
  rw [X_Su_0 (fun v g1 g2 => by rw [hj, X_num_w hG ⟨g1, g2⟩ hv, X_if_0])] at hk
  exact hk
/-- .. brackets .. -/
theorem R_brk {G : X_G} {u o en i j x : Int} {k : Nat} (hG : X_Gok G) (h1 : i < j) (h30 : j - i ≤ 30) (hx : ¬ (X_T_ G).2 x i j = 0) (hk : k < X_Hc G (X_T_ G) u o en i j) : ¬ j = i + 1 ∧ k < X_Hq G (X_T_ G) u i j := by
  have hx : 0 < (X_T_ G).2 x i j := by omega
  have hb := hx
  rw [X_T_B h1 h30] at hb
  have hk1 := (X_if_p hb).1.1
  refine ⟨by omega, ?_⟩
  unfold X_Hc X_Hv at hk
  rw [X_Su_0 (fun v g1 g2 => by rw [X_brk_w hG ⟨g1, g2⟩ h1 h30 hx, X_if_0])] at hk
  exact hk
/-- .. or neither -/
theorem R_wrd {G : X_G} {u i j : Int} (hn : ¬ (j = i + 1 ∧ 0 ≤ X_nv (gt G i))) (hx : ∀ x, 0 ≤ x → x < gk G → (X_T_ G).2 x i j = 0) : X_Hq G (X_T_ G) u i j = 0 := by
  unfold X_Hq
  exact X_Su_0 (fun x g1 g2 => by rw [hx x g1 g2, show X_nm G x i j = 0 from X_if_f (fun z => hn ⟨z.1, z.2.1⟩), X_if_0])
