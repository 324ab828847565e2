/-! THE REFERENCE'S COUNTS -/
theorem X_sum_f {m : Int} (hm : -2 ≤ m ∧ m ≤ -1) {a b : Nat} {r : Int64} (h : ((X_st m a < iL 0 ∨ X_st m b < iL 0) ∧ r = iL m) ∨ (¬ X_st m a < iL 0 ∧ ¬ X_st m b < iL 0 ∧ X_st m a + X_st m b < iL 0 ∧ r = iL m) ∨ (¬ X_st m a < iL 0 ∧ ¬ X_st m b < iL 0 ∧ ¬ X_st m a + X_st m b < iL 0 ∧ r = X_st m a + X_st m b)) : r = X_st m (a + b) := by
  rw [X_st_n hm, X_st_n hm] at h
  refine X_plus_f hm ?_
  rw [X_st_m hm, X_st_m hm]
  exact h
theorem X_prod_f {m : Int} (hm : -2 ≤ m ∧ m ≤ -1) {a b : Nat} {r : Int64} (h : ((X_st m a = iL 0 ∨ X_st m b = iL 0) ∧ r = iL 0) ∨ (¬ X_st m a = iL 0 ∧ ¬ X_st m b = iL 0 ∧ (X_st m a < iL 0 ∨ X_st m b < iL 0) ∧ r = iL m) ∨ (¬ X_st m a = iL 0 ∧ ¬ X_st m b = iL 0 ∧ ¬ X_st m a < iL 0 ∧ ¬ X_st m b < iL 0 ∧ iL 9223372036854775807 / X_st m b < X_st m a ∧ r = iL m) ∨ (¬ X_st m a = iL 0 ∧ ¬ X_st m b = iL 0 ∧ ¬ X_st m a < iL 0 ∧ ¬ X_st m b < iL 0 ∧ ¬ iL 9223372036854775807 / X_st m b < X_st m a ∧ r = X_st m a * X_st m b)) : r = X_st m (a * b) := by
  rw [X_st_n hm, X_st_n hm] at h
  refine X_times_f hm ?_
  rw [X_st_m hm, X_st_m hm]
  exact h
/-- forward: how often the first e elements match what is from i up to p -/
noncomputable def X_Fw (G : X_G) (T : X_TT) (w i j : Int) : Nat → Int → Nat
  | 0, p => if p = i then 1 else 0
  | e + 1, q => X_Su (fun p => if gW G w (e : Int) = 0 then X_if (p < q ∧ q - p < j - i) (X_Fw G T w i j e p * X_Hw G T w (e : Int) p q) else X_if (q = p + 1 ∧ gt G p = gW G w (e : Int)) (X_Fw G T w i j e p)) i j
noncomputable def X_Fe (G : X_G) (T : X_TT) (w i j e p : Int) : Nat := X_Fw G T w i j e.toNat p
noncomputable def X_cc (G : X_G) (T : X_TT) (w i j e q : Int) : Int → Nat := fun p => if gW G w e = 0 then X_if (p < q ∧ q - p < j - i) (X_Fe G T w i j e p * X_Hw G T w e p q) else X_if (q = p + 1 ∧ gt G p = gW G w e) (X_Fe G T w i j e p)
theorem X_Fe_0 {G : X_G} {T : X_TT} {w i j p : Int} : X_Fe G T w i j 0 p = if p = i then 1 else 0 := rfl
theorem X_Fe_s {G : X_G} {T : X_TT} {w i j e q : Int} (h : 0 ≤ e) : X_Fe G T w i j (e + 1) q = X_Su (X_cc G T w i j e q) i j := by
  unfold X_Fe X_cc X_Fe
  rw [show (e + 1).toNat = e.toNat + 1 by omega]
  show X_Su (fun p => if gW G w ((e.toNat : Nat) : Int) = 0 then X_if (p < q ∧ q - p < j - i) (X_Fw G T w i j e.toNat p * X_Hw G T w ((e.toNat : Nat) : Int) p q) else X_if (q = p + 1 ∧ gt G p = gW G w ((e.toNat : Nat) : Int)) (X_Fw G T w i j e.toNat p)) i j = _
  rw [show ((e.toNat : Nat) : Int) = e by omega]
theorem X_Fe_i {G : X_G} {T : X_TT} {w i j e : Int} (h : 0 ≤ e) : X_Fe G T w i j (e + 1) i = 0 := by
  rw [X_Fe_s h]
  refine X_Su_0 (fun p h1 h2 => ?_)
  unfold X_cc
  split
  · exact X_if_f (fun z => by omega)
  · exact X_if_f (fun z => by omega)
theorem X_Su_e0 {f : Int → Nat} {a b x : Int} (h1 : a ≤ x) (h2 : x < b) : X_Su (fun p => (if p = x then 1 else 0) * f p) a b = f x := by
  rw [X_Su_one (x := x) h1 h2 (fun k _ _ hk => by rw [if_neg hk, Nat.zero_mul]), if_pos rfl, Nat.one_mul]
theorem X_Su_m2 {f : Int → Nat} {c : Nat} {a b : Int} : X_Su (fun k => f k * c) a b = X_Su f a b * c := by
  rw [X_Su_c (g := fun k => c * f k) (fun k _ _ => Nat.mul_comm _ _), X_Su_mul, Nat.mul_comm]
/-- the ways ahead of e and from e on make all ways, wherever e is -/
theorem X_Fe_inv {G : X_G} {w i j : Int} (hp : X_pw G w) (hij : i < j) : ∀ e : Nat, (e : Int) ≤ gD G w 3 0 → X_Su (fun p => X_Fe G (X_T_ G) w i j (e : Int) p * X_Ew G (X_T_ G) w (e : Int) p j) i (j + 1) = X_Ew G (X_T_ G) w 0 i j := by
  intro e
  induction e with
  | zero =>
    intro _
    exact X_Su_e0 (Int.le_refl i) (by omega)
  | succ e ih =>
    intro he
    rw [← ih (by omega)]
    have e1 : ((e + 1 : Nat) : Int) = (e : Int) + 1 := by omega
    rw [e1]
    -- the left, from its middle
    have hL : X_Su (fun q => X_Fe G (X_T_ G) w i j ((e : Int) + 1) q * X_Ew G (X_T_ G) w ((e : Int) + 1) q j) i (j + 1) = X_Su (fun p => X_Su (fun q => X_cc G (X_T_ G) w i j (e : Int) q p * X_Ew G (X_T_ G) w ((e : Int) + 1) q j) i (j + 1)) i j := by
      rw [X_Su_sw]
      refine X_Su_c (fun q _ _ => ?_)
      rw [X_Fe_s (by omega), X_Su_m2]
    rw [hL]
    have hE0 : X_Ew G (X_T_ G) w (e : Int) j j = 0 := X_Ew_0 (by omega)
    rw [X_Su_s (show i ≤ j by omega), hE0, Nat.mul_zero, Nat.add_zero]
    refine X_Su_c (fun p h1 h2 => ?_)
    by_cases hq : gW G w (e : Int) = 0
    · rw [X_Ew_h (by omega) hq, ← X_Su_mul]
      -- q from p + 1 on
      have hs : X_Su (fun q => X_cc G (X_T_ G) w i j (e : Int) q p * X_Ew G (X_T_ G) w ((e : Int) + 1) q j) i (j + 1) = X_Su (fun q => X_cc G (X_T_ G) w i j (e : Int) q p * X_Ew G (X_T_ G) w ((e : Int) + 1) q j) (p + 1) (j + 1) := by
        refine X_Su_ind (a := i) (b := p + 1) (fun m => X_Su (fun q => X_cc G (X_T_ G) w i j (e : Int) q p * X_Ew G (X_T_ G) w ((e : Int) + 1) q j) i (j + 1) = X_Su (fun q => X_cc G (X_T_ G) w i j (e : Int) q p * X_Ew G (X_T_ G) w ((e : Int) + 1) q j) m (j + 1)) rfl (fun m g1 g2 g3 => ?_) (by omega)
        rw [g3, X_Su_f (show m < j + 1 by omega)]
        have : X_cc G (X_T_ G) w i j (e : Int) m p = 0 := by
          unfold X_cc
          rw [if_pos hq]
          exact X_if_f (fun z => by omega)
        rw [this, Nat.zero_mul, Nat.zero_add]
      rw [hs]
      refine X_Su_c (fun q g1 g2 => ?_)
      by_cases hg : q - p < j - i
      · have : X_cc G (X_T_ G) w i j (e : Int) q p = X_Fe G (X_T_ G) w i j (e : Int) p * X_Hw G (X_T_ G) w (e : Int) p q := by
          unfold X_cc
          rw [if_pos hq, X_if_t ⟨by omega, hg⟩]
        rw [this, Nat.mul_assoc]
      · have hpi : p = i := by omega
        have hqj : q = j := by omega
        have : X_cc G (X_T_ G) w i j (e : Int) q p = 0 := by
          unfold X_cc
          rw [if_pos hq, X_if_f (fun z => hg z.2)]
        rw [this, Nat.zero_mul]
        by_cases hl : (e : Int) + 1 < gD G w 3 0
        · rw [hqj, X_Ew_0 (show j - j < gD G w 3 0 - ((e : Int) + 1) by omega), Nat.mul_zero, Nat.mul_zero]
        · by_cases h0 : e = 0
          · subst h0
            exfalso
            rcases hp.2 with y | y
            · omega
            · exact y hq
          · rw [hpi, show ((e : Nat) : Int) = ((e : Int) - 1) + 1 by omega, X_Fe_i (by omega), Nat.zero_mul]
    · rw [X_Ew_p (by omega) hq, X_Su_one (x := p + 1) (by omega) (by omega) (fun q _ _ hk => by
        have : X_cc G (X_T_ G) w i j (e : Int) q p = 0 := by
          unfold X_cc
          rw [if_neg hq, X_if_f (fun z => hk z.1)]
        rw [this, Nat.zero_mul])]
      unfold X_cc
      rw [if_neg hq]
      by_cases ht : gt G p = gW G w (e : Int)
      · rw [X_if_t ⟨rfl, ht⟩, X_if_t ⟨h2, ht⟩]
      · rw [X_if_f (fun z => ht z.2), X_if_f (fun z => ht z.2), Nat.zero_mul, Nat.mul_zero]
theorem X_Fe_e {G : X_G} {w i j : Int} (hp : X_pw G w) (hij : i < j) : X_Fe G (X_T_ G) w i j (gD G w 3 0) j = X_Ew G (X_T_ G) w 0 i j := by
  have hs := hp.1
  have := X_Fe_inv hp hij (gD G w 3 0).toNat (by omega)
  rw [show ((gD G w 3 0).toNat : Int) = gD G w 3 0 by omega] at this
  rw [← this, X_Su_one (x := j) (by omega) (by omega) (fun p _ _ hk => by rw [X_Ew_e rfl, if_neg hk, Nat.mul_zero]), X_Ew_e rfl, if_pos rfl, Nat.mul_one]
theorem X_Hh_s {G : X_G} {w h i j : Int} (hG : X_Gok G) : X_Hh G w h i j = X_if ((j = i + 1 ∧ 0 ≤ X_nv (gt G i)) ∧ X_bt (ga G (bI (1 < gk G))) (gD G w 9 h)) 1 + X_Su (fun k => X_if (X_bt (ga G k) (gD G w 9 h)) ((X_T_ G).2 k i j)) 0 (gk G) + X_Su (fun v => X_if (X_bt (ga G (gD G v 2 0)) (gD G w 9 h) ∧ X_lt G w (X_eh G w h) v) ((X_T_ G).1 v i j)) 0 (gw G) := by
  have c2 := hG.2.1
  have hb := bI_r (1 < gk G)
  have hb2 : bI (1 < gk G) < gk G := by
    by_cases h1 : 1 < gk G
    · rw [bI_t h1]; omega
    · rw [bI_f h1]; omega
  unfold X_Hh X_Hc X_Hq X_Hv
  congr 1
  rw [X_Su_c (g := fun k => X_if (X_bt (ga G k) (gD G w 9 h)) (X_nm G k i j) + X_if (X_bt (ga G k) (gD G w 9 h)) ((X_T_ G).2 k i j)) (fun k _ _ => X_if_a), X_Su_add]
  congr 1
  rw [X_Su_one (x := bI (1 < gk G)) hb.1 hb2 (fun k _ _ hk => by unfold X_nm; rw [X_if_f (p := j = i + 1 ∧ 0 ≤ X_nv (gt G i) ∧ k = bI (1 < gk G)) (fun z => hk z.2.2)]; exact X_if_0)]
  unfold X_nm
  rw [X_if_if]
  exact X_if_c ⟨fun z => ⟨⟨z.2.1, z.2.2.1⟩, z.1⟩, fun z => ⟨z.2, z.1.1, z.1.2, rfl⟩⟩ (fun _ => rfl)
