/-! p20: how many readings there are at most -/
theorem X_Su_mo {f g : Int → Nat} {a b : Int} (h : ∀ k, a ≤ k → k < b → f k ≤ g k) : X_Su f a b ≤ X_Su g a b := by
  by_cases hab : a ≤ b
  · refine X_Su_ind (a := a) (b := b) (fun m => m ≤ b → X_Su f a m ≤ X_Su g a m) (fun _ => by rw [X_Su_e (Int.le_refl a)]; omega) (fun m g1 g2 ih g3 => ?_) hab (Int.le_refl b)
    rw [X_Su_s g1, X_Su_s g1]
    have := ih (by omega)
    have := h m g1 g2
    omega
  · rw [X_Su_e (by omega)]
    omega
theorem X_if_le {p : Prop} {n : Nat} : X_if p n ≤ n := by
  by_cases h : p
  · rw [X_if_t h]; omega
  · rw [X_if_f h]; omega
/-- the sum of f from 1 up to n -/
def V_sm (f : Nat → Nat) : Nat → Nat
  | 0 => 0
  | n + 1 => V_sm f n + f (n + 1)
theorem V_sm_Su {f : Nat → Nat} {p : Int} : ∀ n : Nat, X_Su (fun q => f (q - p).toNat) (p + 1) (p + n + 1) = V_sm f n := by
  intro n
  induction n with
  | zero => rw [X_Su_e (by omega)]; rfl
  | succ n ih =>
    rw [show p + ((n + 1 : Nat) : Int) + 1 = (p + n + 1) + 1 by omega, X_Su_s (by omega), ih]
    show V_sm f n + f (p + n + 1 - p).toNat = V_sm f n + f (n + 1)
    rw [show (p + (n : Int) + 1 - p).toNat = n + 1 by omega]
/-- what the elements of a pattern (true: a hole) take of L tokens at most -/
def V_B (M : Nat → Nat) : List Bool → Nat → Nat
  | [], L => if L = 0 then 1 else 0
  | true :: r, L => V_sm (fun a => M a * V_B M r (L - a)) L
  | false :: r, L => if L = 0 then 0 else V_B M r (L - 1)
def V_pt (G : X_G) (w : Int) : Int → List Bool → Prop
  | e, [] => e = gD G w 3 0
  | e, b :: r => e < gD G w 3 0 ∧ (b = true ↔ gW G w e = 0) ∧ V_pt G w (e + 1) r
theorem V_Ew {G : X_G} {M : Nat → Nat} {w i j N : Int} (hg : X_gw G w) (hN : j - i ≤ N) (hH : ∀ e p q, i ≤ p → p < q → q ≤ j → q - p < N → X_Hw G (X_T_ G) w e p q ≤ M (q - p).toNat) : ∀ (P : List Bool) (e p : Int), 0 ≤ e → V_pt G w e P → i + e ≤ p → p ≤ j → X_Ew G (X_T_ G) w e p j ≤ V_B M P (j - p).toNat := by
  have hn := hg.2.1
  intro P
  induction P with
  | nil =>
    intro e p h0 hP h1 h2
    have hP : e = gD G w 3 0 := hP
    rw [X_Ew_e hP]
    show _ ≤ (if (j - p).toNat = 0 then 1 else 0)
    by_cases hp : p = j
    · rw [if_pos hp, if_pos (by omega)]; omega
    · rw [if_neg hp]; omega
  | cons b r ih =>
    intro e p h0 hP h1 h2
    obtain ⟨he, hb, hr⟩ := hP
    cases b with
    | true =>
      have hq : gW G w e = 0 := hb.mp rfl
      have hh := hg.hole h0 he hq
      rw [X_Ew_h he hq]
      show _ ≤ V_sm (fun a => M a * V_B M r ((j - p).toNat - a)) (j - p).toNat
      rw [← V_sm_Su (p := p) (j - p).toNat, show p + ((j - p).toNat : Int) + 1 = j + 1 by omega]
      refine X_Su_mo (fun q g1 g2 => ?_)
      by_cases hz : j - q < gD G w 3 0 - (e + 1)
      · rw [X_Ew_0 hz, Nat.mul_zero]; omega
      · have a1 := hH e p q (by omega) (by omega) (by omega) (by omega)
        have a2 := ih (e + 1) q (by omega) hr (by omega) (by omega)
        show _ ≤ M (q - p).toNat * V_B M r ((j - p).toNat - (q - p).toNat)
        rw [show (j - p).toNat - (q - p).toNat = (j - q).toNat by omega]
        exact Nat.mul_le_mul a1 a2
    | false =>
      have hq : ¬ gW G w e = 0 := fun z => absurd (hb.mpr z) (by decide)
      rw [X_Ew_p he hq]
      show _ ≤ (if (j - p).toNat = 0 then 0 else V_B M r ((j - p).toNat - 1))
      by_cases hp : p < j ∧ gt G p = gW G w e
      · rw [X_if_t hp, if_neg (by omega)]
        have := ih (e + 1) (p + 1) (by omega) hr (by omega) (by omega)
        rw [show (j - (p + 1)).toNat = (j - p).toNat - 1 by omega] at this
        exact this
      · rw [X_if_f hp]; omega
/-- all words' readings of a stretch -/
noncomputable def V_al (G : X_G) (i j : Int) : Nat := X_Su (fun v => (X_T_ G).1 v i j) 0 (gw G)
def V_pl (G : X_G) (tn : Int) : Prop := ∀ t, 0 ≤ t → t < tn → X_nv (gt G t) = -1 ∧ ¬ gt G t = iL 40
theorem V_nmT {G : X_G} {tn k i j : Int} (hp : V_pl G tn) (h0 : 0 ≤ i) (h : i < j) (hj : j ≤ tn) (h30 : tn ≤ 30) : X_nm G k i j + (X_T_ G).2 k i j = 0 := by
  have ht := hp i h0 (by omega)
  by_cases h1 : j = i + 1
  · rw [(X_nmB h (by omega)).1 h1, X_if_f (fun z => by have := z.1; omega)]
  · rw [(X_nmB h (by omega)).2 h1, X_if_f (fun z => ht.2 z.2.1)]
theorem V_Hc_le {G : X_G} {tn u o en i j : Int} (hp : V_pl G tn) (h0 : 0 ≤ i) (h : i < j) (hj : j ≤ tn) (h30 : tn ≤ 30) : X_Hc G (X_T_ G) u o en i j ≤ V_al G i j := by
  unfold X_Hc
  have e : X_Hq G (X_T_ G) u i j = 0 := X_Su_0 (fun k _ _ => by rw [V_nmT hp h0 h hj h30, X_if_0])
  rw [e, Nat.zero_add]
  exact X_Su_mo (fun v _ _ => X_if_le)
theorem V_all_le {G : X_G} {tn i j : Int} (hG : X_Gok G) (hp : V_pl G tn) (h0 : 0 ≤ i) (h : i < j) (hj : j ≤ tn) (h30 : tn ≤ 30) : X_all G i j ≤ V_al G i j := by
  rw [← X_Hc_all (o := 0) hG]
  exact V_Hc_le hp h0 h hj h30
/-- the patterns of the words, one behind the other -/
def V_ps (G : X_G) : Int → List (List Bool) → Prop
  | v, [] => v = gw G
  | v, P :: r => v < gw G ∧ V_pt G v 0 P ∧ V_ps G (v + 1) r
def V_sB (M : Nat → Nat) (L : Nat) : List (List Bool) → Nat
  | [] => 0
  | P :: r => V_B M P L + V_sB M L r
theorem V_al_le {G : X_G} {M : Nat → Nat} {tn : Int} {Ps : List (List Bool)} (hG : X_Gok G) (hp : V_pl G tn) (h30 : tn ≤ 30) (hPs : V_ps G 0 Ps) (hM : ∀ L : Nat, 1 ≤ L → (L : Int) ≤ tn → V_sB M L Ps ≤ M L) : ∀ (n : Nat) (i j : Int), 0 ≤ i → i < j → j ≤ tn → j - i ≤ n → V_al G i j ≤ M (j - i).toNat := by
  intro n
  induction n with
  | zero => intro i j h0 h1 h2 h3; omega
  | succ n ih =>
    intro i j h0 h1 h2 h3
    refine Nat.le_trans ?_ (hM (j - i).toNat (by omega) (by omega))
    have key : ∀ (Q : List (List Bool)) (v : Int), 0 ≤ v → V_ps G v Q → X_Su (fun v => (X_T_ G).1 v i j) v (gw G) ≤ V_sB M (j - i).toNat Q := by
      intro Q
      induction Q with
      | nil =>
        intro v g0 g1
        have g1 : v = gw G := g1
        rw [X_Su_e (by omega)]
        omega
      | cons P r ihQ =>
        intro v g0 g1
        obtain ⟨g1, g2, g3⟩ := g1
        have hg := hG.2.2.2 v g0 g1
        rw [X_Su_f g1, X_T_W hg.2.2.1 h1 (by omega)]
        have a1 := V_Ew (M := M) (i := i) (j := j) (N := j - i) hg (Int.le_refl _) (fun e p q z0 z1 z2 z3 => Nat.le_trans (V_Hc_le hp (by omega) z1 (by omega) h30) (ih p q (by omega) z1 (by omega) (by omega))) P 0 i (Int.le_refl 0) g2 (by omega) (by omega)
        have a2 := ihQ (v + 1) (by omega) g3
        show _ ≤ V_B M P (j - i).toNat + V_sB M (j - i).toNat r
        omega
    exact key Ps 0 (Int.le_refl 0) hPs
