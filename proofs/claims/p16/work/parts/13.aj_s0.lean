section
/-! more rules -/
section X_T5
variable {sc : X_Sc} {j : Nat} {Q : Option Value → X_S → Prop} {pc pc' t : Nat} {ls : X_L} {r : List Value} {S : X_S}
theorem iI_div {a b : Int} (ha : 0 ≤ a ∧ a ≤ 2147483647) (hb : 0 < b ∧ b ≤ 2147483647) : iI a / iI b = iI (a / b) := by
  rw [← Int32.toInt_inj, Int32.toInt_div, iI_t (by omega) (by omega), iI_t (by omega) (by omega)]
  have h1 : a.tdiv b = a / b := Int.tdiv_eq_ediv_of_nonneg ha.1
  have h2 : 0 ≤ a / b := Int.ediv_nonneg ha.1 (by omega)
  have h3 : a / b ≤ a := Int.ediv_le_self b ha.1
  rw [h1, iI_t (by omega) (by omega)]
  exact Int.bmod_eq_of_le (by omega) (by omega)
theorem T_zidiv {n : Nat} {ax : Nat × Nat × Nat} {a b z : Int} (hr : X_row j pc = some (pc, (.idiv, n), ax)) (ha : 0 ≤ a ∧ a ≤ 2147483647) (hb : 0 < b ∧ b ≤ 2147483647) (hz : a / b = z) (hp : pc + 1 = pc') (k : X_T sc j (pc', ls, .int (iI z) :: r, S) Q) : X_T sc j (pc, ls, .int (iI b) :: .int (iI a) :: r, S) Q := by
  subst hz
  subst hp
  refine T_p hr rfl ?_ k
  have h0 : ¬ iI b = 0 := fun h => by
    have h := (iI_eq (b := 0) (by omega) (by omega) (by omega) (by omega)).mp (show iI b = iI 0 from h)
    omega
  simp only [X_pstep, X_i2, if_neg h0, iI_div ha hb]
def X_cpy {α : Type} (f g : Int → α) (z : Int) : Int → α := fun k => if k < z then f k else g k
theorem T_cpy {idx n w a0 a m0 m1 : Nat} {f g : Int → Int64} {z : Int} (hr : X_row j pc = some (pc, (.invokestatic idx, n), (9998, w, 0))) (h0 : S.1 a0 = .inl (.long, m0, .inr (.inl fun k : Nat => f (k : Int)))) (h1 : S.1 a = .inl (.long, m1, .inr (.inl fun k : Nat => g (k : Int)))) (hz : 0 ≤ z ∧ z ≤ m0 ∧ z ≤ m1) (hm : m0 ≤ 2147483647 ∧ m1 ≤ 2147483647) (h8 : (r.map fun v => v.category).sum ≤ 8) (hp : pc + 3 = pc')
    (kk : ∀ S' : X_S, S'.1 a = .inl (.long, m1, .inr (.inl fun k : Nat => X_cpy f g z (k : Int))) → (∀ q, q ≠ a → S'.1 q = S.1 q) → S'.2 = S.2 → X_T sc j (pc', ls, r, S') Q) : X_T sc j (pc, ls, .int (iI z) :: .int (iI 0) :: .ref a :: .int (iI 0) :: .ref a0 :: r, S) Q := by
  subst hp
  have en : (iI z).toNatClampNeg = z.toNat := iI_nat (by omega) (by omega)
  have e0 : (iI 0).toNatClampNeg = 0 := rfl
  have ef : (fun k : Nat => X_cpy f g z (k : Int)) = va_cpy (fun k : Nat => f (k : Int)) (fun k : Nat => g (k : Int)) 0 0 z.toNat := by
    funext k
    unfold X_cpy va_cpy
    by_cases hk : (k : Int) < z
    · rw [if_pos hk, if_pos (by omega)]
      simp
    · rw [if_neg hk, if_neg (by omega)]
  rw [ef] at kk
  refine T_h hr rfl (S1 := (X_upd S.1 a (.inl (.long, m1, .inr (.inl (va_cpy (fun k : Nat => f (k : Int)) (fun k : Nat => g (k : Int)) 0 0 z.toNat)))), S.2)) ?_ (kk _ (by simp [X_upd]) (fun q hq => by simp [X_upd, hq]) rfl)
  have hn1 : ¬ iI 0 < 0 := by decide
  have hn2 : ¬ iI z < 0 := fun h => by
    have h := (iI_lt (b := 0) (by omega) (by omega) (by omega) (by omega)).mp (show iI z < iI 0 from h)
    omega
  simp only [X_hstep, if_true, h0, h1, en, e0]
  rw [if_neg (by
    rintro (h | h | h | h | h | h)
    · exact hn1 h
    · exact hn1 h
    · exact hn2 h
    · omega
    · omega
    · exact h h8)]
end X_T5
end
section
/-! COUNTING. A book and a sentence: kinds, words, what is looser (bits), what is above (bits), the words' ints, their parts, the tokens -/
abbrev X_G : Type := Int × Int × (Int → Int) × (Int → Int) × (Int → Nat → Int → Int) × (Int → Int → Int64) × (Int → Int64)
def gk (G : X_G) : Int := G.1
def gw (G : X_G) : Int := G.2.1
def gl (G : X_G) : Int → Int := G.2.2.1
def ga (G : X_G) : Int → Int := G.2.2.2.1
def gD (G : X_G) : Int → Nat → Int → Int := G.2.2.2.2.1
def gW (G : X_G) : Int → Int → Int64 := G.2.2.2.2.2.1
def gt (G : X_G) : Int → Int64 := G.2.2.2.2.2.2
/-- a number where something is so -/
noncomputable def X_if (p : Prop) (n : Nat) : Nat := @ite Nat p (Classical.propDecidable _) n 0
theorem X_if_t {p : Prop} {n : Nat} (h : p) : X_if p n = n := by unfold X_if; rw [if_pos h]
theorem X_if_f {p : Prop} {n : Nat} (h : ¬ p) : X_if p n = 0 := by unfold X_if; rw [if_neg h]
theorem X_if_c {p q : Prop} {n m : Nat} (h : p ↔ q) (h2 : q → n = m) : X_if p n = X_if q m := by
  by_cases hq : q
  · rw [X_if_t hq, X_if_t (h.mpr hq), h2 hq]
  · rw [X_if_f hq, X_if_f (fun z => hq (h.mp z))]
theorem X_if_0 {p : Prop} : X_if p 0 = 0 := by
  by_cases h : p
  · exact X_if_t h
  · exact X_if_f h
/-- the sum of f from a up to b, not b -/
def X_su (f : Int → Nat) (a : Int) : Nat → Nat
  | 0 => 0
  | n + 1 => X_su f a n + f (a + n)
def X_Su (f : Int → Nat) (a b : Int) : Nat := X_su f a (b - a).toNat
theorem X_Su_e {f : Int → Nat} {a b : Int} (h : b ≤ a) : X_Su f a b = 0 := by
  unfold X_Su
  rw [show (b - a).toNat = 0 by omega]
  rfl
theorem X_Su_s {f : Int → Nat} {a b : Int} (h : a ≤ b) : X_Su f a (b + 1) = X_Su f a b + f b := by
  unfold X_Su
  rw [show (b + 1 - a).toNat = (b - a).toNat + 1 by omega]
  show X_su f a (b - a).toNat + f (a + ((b - a).toNat : Int)) = _
  rw [show a + ((b - a).toNat : Int) = b by omega]
theorem X_su_c {f g : Int → Nat} {a : Int} : ∀ n : Nat, (∀ k : Int, a ≤ k → k < a + n → f k = g k) → X_su f a n = X_su g a n := by
  intro n
  induction n with
  | zero => intro _; rfl
  | succ n ih =>
    intro h
    show X_su f a n + f (a + n) = X_su g a n + g (a + n)
    rw [ih (fun k h1 h2 => h k h1 (by omega)), h (a + n) (by omega) (by omega)]
theorem X_Su_c {f g : Int → Nat} {a b : Int} (h : ∀ k, a ≤ k → k < b → f k = g k) : X_Su f a b = X_Su g a b := X_su_c _ (fun k h1 h2 => h k h1 (by omega))
theorem X_Su_ind {a b : Int} (P : Int → Prop) (h0 : P a) (hs : ∀ k, a ≤ k → k < b → P k → P (k + 1)) (hab : a ≤ b) : P b := by
  have key : ∀ n : Nat, a + n ≤ b → P (a + n) := by
    intro n
    induction n with
    | zero => intro _; rw [show a + ((0 : Nat) : Int) = a by omega]; exact h0
    | succ n ih =>
      intro h
      rw [show a + ((n + 1 : Nat) : Int) = (a + n) + 1 by omega]
      exact hs _ (by omega) (by omega) (ih (by omega))
  have := key (b - a).toNat (by omega)
  rw [show a + ((b - a).toNat : Int) = b by omega] at this
  exact this
theorem X_Su_0 {f : Int → Nat} {a b : Int} (h : ∀ k, a ≤ k → k < b → f k = 0) : X_Su f a b = 0 := by
  by_cases hab : a ≤ b
  · refine X_Su_ind (a := a) (b := b) (fun k => k ≤ b → X_Su f a k = 0) (fun _ => X_Su_e (Int.le_refl _)) (fun k h1 h2 ih h3 => ?_) hab (Int.le_refl _)
    rw [X_Su_s h1, ih (by omega), h k h1 h2]
  · exact X_Su_e (by omega)
theorem X_Su_le {f : Int → Nat} {a b k : Int} (h1 : a ≤ k) (h2 : k < b) : f k ≤ X_Su f a b := by
  refine X_Su_ind (a := k + 1) (b := b) (fun m => f k ≤ X_Su f a m) ?_ (fun m g1 g2 ih => ?_) (by omega)
  · rw [X_Su_s h1]; omega
  · rw [X_Su_s (by omega)]; omega
theorem X_Su_p {f : Int → Nat} {a b : Int} (h : 0 < X_Su f a b) : ∃ k, a ≤ k ∧ k < b ∧ 0 < f k := by
  refine Classical.byContradiction (fun hn => ?_)
  have : X_Su f a b = 0 := X_Su_0 (fun k h1 h2 => by
    by_cases hf : 0 < f k
    · exact absurd ⟨k, h1, h2, hf⟩ hn
    · omega)
  omega
theorem X_Su_f {f : Int → Nat} {a b : Int} (h : a < b) : X_Su f a b = f a + X_Su f (a + 1) b := by
  refine X_Su_ind (a := a + 1) (b := b) (fun k => X_Su f a k = f a + X_Su f (a + 1) k) ?_ (fun k h1 h2 ih => ?_) (by omega)
  · rw [X_Su_s (Int.le_refl a), X_Su_e (Int.le_refl a), X_Su_e (Int.le_refl (a + 1))]; omega
  · rw [X_Su_s (by omega), X_Su_s h1, ih]; omega
theorem X_Su_add {f g : Int → Nat} {a b : Int} : X_Su (fun k => f k + g k) a b = X_Su f a b + X_Su g a b := by
  by_cases hab : a ≤ b
  · refine X_Su_ind (a := a) (b := b) (fun m => X_Su (fun k => f k + g k) a m = X_Su f a m + X_Su g a m) ?_ (fun m g1 g2 ih => ?_) hab
    · rw [X_Su_e (Int.le_refl a), X_Su_e (Int.le_refl a), X_Su_e (Int.le_refl a)]
    · rw [X_Su_s g1, X_Su_s g1, X_Su_s g1, ih]; omega
  · rw [X_Su_e (by omega), X_Su_e (by omega), X_Su_e (by omega)]
theorem X_Su_mul {f : Int → Nat} {c : Nat} {a b : Int} : X_Su (fun k => c * f k) a b = c * X_Su f a b := by
  by_cases hab : a ≤ b
  · refine X_Su_ind (a := a) (b := b) (fun m => X_Su (fun k => c * f k) a m = c * X_Su f a m) ?_ (fun m g1 g2 ih => ?_) hab
    · rw [X_Su_e (Int.le_refl a), X_Su_e (Int.le_refl a)]; rfl
    · rw [X_Su_s g1, X_Su_s g1, ih, Nat.mul_add]
  · rw [X_Su_e (by omega), X_Su_e (by omega)]; rfl
/-- two sums, one in the other -/
theorem X_Su_sw {f : Int → Int → Nat} {a b c d : Int} : X_Su (fun k => X_Su (fun m => f k m) c d) a b = X_Su (fun m => X_Su (fun k => f k m) a b) c d := by
  by_cases hab : a ≤ b
  · refine X_Su_ind (a := a) (b := b) (fun x => X_Su (fun k => X_Su (fun m => f k m) c d) a x = X_Su (fun m => X_Su (fun k => f k m) a x) c d) ?_ (fun x g1 g2 ih => ?_) hab
    · rw [X_Su_e (Int.le_refl a)]
      exact (X_Su_0 (fun k _ _ => X_Su_e (Int.le_refl a))).symm
    · rw [X_Su_s g1, ih, ← X_Su_add]
      exact X_Su_c (fun k _ _ => (X_Su_s g1).symm)
  · rw [X_Su_e (by omega)]
    exact (X_Su_0 (fun k _ _ => X_Su_e (by omega))).symm
theorem X_Su_one {f : Int → Nat} {a b x : Int} (h1 : a ≤ x) (h2 : x < b) (h : ∀ k, a ≤ k → k < b → k ≠ x → f k = 0) : X_Su f a b = f x := by
  have e : X_Su f a (x + 1) = f x := by
    rw [X_Su_s h1, X_Su_0 (fun k g1 g2 => h k g1 (by omega) (by omega))]; omega
  refine X_Su_ind (a := x + 1) (b := b) (fun m => X_Su f a m = f x) e (fun m g1 g2 ih => ?_) (by omega)
  rw [X_Su_s (by omega), ih, h m (by omega) g2 (by omega)]; rfl
/-- how a token's digits are read: the value of its first m bytes, -1 if one is no digit -/
def X_tb (t : Int64) (s : Int) : Int := (t >>> ((iI s).toInt64 &&& 63) &&& iL 255).toInt32.toInt
def X_nvl (t : Int64) : Nat → Int
  | 0 => 0
  | m + 1 => if X_nvl t m = -1 then -1 else if X_tb t (56 - 8 * m) = 0 then X_nvl t m else if X_tb t (56 - 8 * m) < 48 ∨ 57 < X_tb t (56 - 8 * m) then -1 else X_nvl t m * 10 + X_tb t (56 - 8 * m) - 48
/-- a token's value, -1 if it is no number -/
def X_nv (t : Int64) : Int := X_nvl t 8
/-- by its rank, word v may stand in an end (1 the first, 2 the last; 0: no end) of word o -/
def X_lt (G : X_G) (o en v : Int) : Prop := en = 0 ∨ X_en (gD G v) (gW G v) = 0 ∨ X_bt (gl G (gD G v 0 0)) (gD G o 0 0) ∨ (gD G v 0 0 = gD G o 0 0 ∧ gD G o 1 0 = en)
/-- which end the hole at element e is -/
def X_eo (G : X_G) (w e : Int) : Int := if e = 0 then 1 else if e = gD G w 3 0 - 1 then 2 else 0
abbrev X_TT : Type := (Int → Int → Int → Nat) × (Int → Int → Int → Nat)
/-- a number alone, of kind k -/
noncomputable def X_nm (G : X_G) (k i j : Int) : Nat := X_if (j = i + 1 ∧ 0 ≤ X_nv (gt G i) ∧ k = bI (1 < gk G)) 1
/-- numbers and brackets of the kinds that are under u -/
noncomputable def X_Hq (G : X_G) (T : X_TT) (u i j : Int) : Nat := X_Su (fun k => X_if (X_bt (ga G k) u) (X_nm G k i j + T.2 k i j)) 0 (gk G)
noncomputable def X_Hv (G : X_G) (T : X_TT) (u o en i j : Int) : Nat := X_Su (fun v => X_if (X_bt (ga G (gD G v 2 0)) u ∧ X_lt G o en v) (T.1 v i j)) 0 (gw G)
/-- what is taken where kinds under u are, at an end (en) of word o -/
noncomputable def X_Hc (G : X_G) (T : X_TT) (u o en i j : Int) : Nat := X_Hq G T u i j + X_Hv G T u o en i j
/-- what the hole at element e of word w takes -/
noncomputable def X_Hw (G : X_G) (T : X_TT) (w e i j : Int) : Nat := X_Hc G T (gD G w 9 (gD G w 8 e)) w (X_eo G w e) i j
/-- the ways of the last r elements of w for the tokens from p up to j -/
noncomputable def X_El (G : X_G) (T : X_TT) (w : Int) : Nat → Int → Int → Nat
  | 0, p, j => if p = j then 1 else 0
  | r + 1, p, j => if gW G w (gD G w 3 0 - (r + 1)) = 0 then X_Su (fun q => X_Hw G T w (gD G w 3 0 - (r + 1)) p q * X_El G T w r q j) (p + 1) (j + 1)
    else X_if (p < j ∧ gt G p = gW G w (gD G w 3 0 - (r + 1))) (X_El G T w r (p + 1) j)
/-- from element e on -/
noncomputable def X_Ew (G : X_G) (T : X_TT) (w e p j : Int) : Nat := X_El G T w (gD G w 3 0 - e).toNat p j
/-- all of just kind k -/
noncomputable def X_Kd (G : X_G) (T : X_TT) (k i j : Int) : Nat := X_nm G k i j + T.2 k i j + X_Su (fun v => X_if (gD G v 2 0 = k) (T.1 v i j)) 0 (gw G)
def X_brk (G : X_G) (i j : Int) : Prop := 3 ≤ j - i ∧ gt G i = iL 40 ∧ gt G (j - 1) = iL 41
noncomputable def X_Tb (G : X_G) : Nat → X_TT
  | 0 => (fun _ _ _ => 0, fun _ _ _ => 0)
  | n + 1 => (fun w i j => if j - i ≤ n then (X_Tb G n).1 w i j else X_Ew G (X_Tb G n) w 0 i j, fun k i j => if j - i ≤ n then (X_Tb G n).2 k i j else X_if (X_brk G i j) (X_Kd G (X_Tb G n) k (i + 1) (j - 1)))
/-- the readings of each word, the brackets of each kind -/
noncomputable def X_T_ (G : X_G) : X_TT := X_Tb G 30
noncomputable def X_all (G : X_G) (i j : Int) : Nat := X_Su (fun k => X_Kd G (X_T_ G) k i j) 0 (gk G)
theorem X_Ew_e {G : X_G} {T : X_TT} {w e p j : Int} (h : e = gD G w 3 0) : X_Ew G T w e p j = if p = j then 1 else 0 := by
  unfold X_Ew
  rw [h, show (gD G w 3 0 - gD G w 3 0).toNat = 0 by omega]
  rfl
theorem X_Ew_h {G : X_G} {T : X_TT} {w e p j : Int} (h : e < gD G w 3 0) (hq : gW G w e = 0) : X_Ew G T w e p j = X_Su (fun q => X_Hw G T w e p q * X_Ew G T w (e + 1) q j) (p + 1) (j + 1) := by
  have e1 : (gD G w 3 0 - e).toNat = (gD G w 3 0 - (e + 1)).toNat + 1 := by omega
  unfold X_Ew
  rw [e1]
  have e2 : gD G w 3 0 - (((gD G w 3 0 - (e + 1)).toNat : Int) + 1) = e := by omega
  show (if gW G w (gD G w 3 0 - (((gD G w 3 0 - (e + 1)).toNat : Int) + 1)) = 0 then _ else _) = _
  rw [e2, if_pos hq]
theorem X_Ew_p {G : X_G} {T : X_TT} {w e p j : Int} (h : e < gD G w 3 0) (hq : ¬ gW G w e = 0) : X_Ew G T w e p j = X_if (p < j ∧ gt G p = gW G w e) (X_Ew G T w (e + 1) (p + 1) j) := by
  have e1 : (gD G w 3 0 - e).toNat = (gD G w 3 0 - (e + 1)).toNat + 1 := by omega
  unfold X_Ew
  rw [e1]
  have e2 : gD G w 3 0 - (((gD G w 3 0 - (e + 1)).toNat : Int) + 1) = e := by omega
  show (if gW G w (gD G w 3 0 - (((gD G w 3 0 - (e + 1)).toNat : Int) + 1)) = 0 then _ else _) = _
  rw [e2, if_neg hq]
/-- tables that agree on the stretches of at most n tokens -/
def X_ag2 (n : Int) (T T' : X_TT) : Prop := ∀ i j, j - i ≤ n → (∀ w, T.1 w i j = T'.1 w i j) ∧ (∀ k, T.2 k i j = T'.2 k i j)
theorem X_Hc_c {G : X_G} {n : Int} {T T' : X_TT} (h : X_ag2 n T T') {u o en i j : Int} (hn : j - i ≤ n) : X_Hc G T u o en i j = X_Hc G T' u o en i j := by
  unfold X_Hc X_Hq X_Hv
  rw [X_Su_c (f := fun k => X_if (X_bt (ga G k) u) (X_nm G k i j + T.2 k i j)) (g := fun k => X_if (X_bt (ga G k) u) (X_nm G k i j + T'.2 k i j)) (fun k _ _ => by simp only [(h i j hn).2 k]),
    X_Su_c (f := fun v => X_if (X_bt (ga G (gD G v 2 0)) u ∧ X_lt G o en v) (T.1 v i j)) (g := fun v => X_if (X_bt (ga G (gD G v 2 0)) u ∧ X_lt G o en v) (T'.1 v i j)) (fun k _ _ => by simp only [(h i j hn).1 k])]
theorem X_Hw_c {G : X_G} {n : Int} {T T' : X_TT} (h : X_ag2 n T T') {w e i j : Int} (hn : j - i ≤ n) : X_Hw G T w e i j = X_Hw G T' w e i j := X_Hc_c h hn
theorem X_Kd_c {G : X_G} {n : Int} {T T' : X_TT} (h : X_ag2 n T T') {k i j : Int} (hn : j - i ≤ n) : X_Kd G T k i j = X_Kd G T' k i j := by
  unfold X_Kd
  rw [(h i j hn).2 k, X_Su_c (f := fun v => X_if (gD G v 2 0 = k) (T.1 v i j)) (g := fun v => X_if (gD G v 2 0 = k) (T'.1 v i j)) (fun v _ _ => by simp only [(h i j hn).1 v])]
theorem X_El_0 {G : X_G} {T : X_TT} {w : Int} {r : Nat} {p j : Int} (h : j < p + r) : X_El G T w r p j = 0 := by
  induction r generalizing p with
  | zero =>
    show (if p = j then 1 else 0) = 0
    rw [if_neg (by omega)]
  | succ r ih =>
    unfold X_El
    split
    · refine X_Su_0 (fun q h1 h3 => ?_)
      rw [ih (by omega)]; rfl
    · rw [ih (by omega)]
      exact X_if_0
theorem X_El_c {G : X_G} {n : Int} {T T' : X_TT} (h : X_ag2 n T T') {w : Int} : ∀ (r : Nat) (p j : Int), j - p ≤ n → X_El G T w r p j = X_El G T' w r p j := by
  intro r
  induction r with
  | zero => intro p j _; rfl
  | succ r ih =>
    intro p j hn
    unfold X_El
    split
    · refine X_Su_c (fun q h1 h2 => ?_)
      rw [X_Hw_c h (by omega), ih q j (by omega)]
    · rw [ih (p + 1) j (by omega)]
/-- the whole word needs no hole over the whole stretch -/
theorem X_El_c1 {G : X_G} {n : Int} {T T' : X_TT} (h : X_ag2 n T T') {w : Int} {r : Nat} {p j : Int} (hn : j - p ≤ n + 1) (hr : 0 < r ∨ ¬ gW G w (gD G w 3 0 - (r + 1)) = 0) : X_El G T w (r + 1) p j = X_El G T' w (r + 1) p j := by
  unfold X_El
  split
  · refine X_Su_c (fun q h1 h2 => ?_)
    by_cases hq : q = j
    · subst hq
      have hr : 0 < r := by
        rcases hr with hr | hr
        · exact hr
        · exact absurd (by assumption) hr
      rw [X_El_0 (by omega), X_El_0 (by omega)]; rfl
    · rw [X_Hw_c h (by omega), X_El_c h r q j (by omega)]
  · rw [X_El_c h r (p + 1) j (by omega)]
theorem X_Tb_n {G : X_G} : ∀ (n m : Nat), n ≤ m → X_ag2 n (X_Tb G n) (X_Tb G m) := by
  intro n m hm
  induction m with
  | zero =>
    rw [show n = 0 by omega]
    exact fun i j _ => ⟨fun _ => rfl, fun _ => rfl⟩
  | succ m ih =>
    by_cases hn : n = m + 1
    · subst hn
      exact fun i j _ => ⟨fun _ => rfl, fun _ => rfl⟩
    · intro i j hij
      have := ih (by omega) i j hij
      constructor
      · intro w
        show _ = if j - i ≤ m then (X_Tb G m).1 w i j else _
        rw [if_pos (by omega)]
        exact this.1 w
      · intro k
        show _ = if j - i ≤ m then (X_Tb G m).2 k i j else _
        rw [if_pos (by omega)]
        exact this.2 k
/-- a word has a part: one element is no hole -/
def X_pw (G : X_G) (w : Int) : Prop := 1 ≤ gD G w 3 0 ∧ (1 < gD G w 3 0 ∨ ¬ gW G w 0 = 0)
theorem X_T_W {G : X_G} {w i j : Int} (hw : X_pw G w) (h : i < j) (h30 : j - i ≤ 30) : (X_T_ G).1 w i j = X_Ew G (X_T_ G) w 0 i j := by
  obtain ⟨m, hm⟩ : ∃ m : Nat, j - i = (m : Int) + 1 := ⟨(j - i - 1).toNat, by omega⟩
  have e1 : (X_T_ G).1 w i j = (X_Tb G (m + 1)).1 w i j := ((X_Tb_n (G := G) (m + 1) 30 (by omega) i j (by omega)).1 w).symm
  have e2 : (X_Tb G (m + 1)).1 w i j = X_Ew G (X_Tb G m) w 0 i j := by
    show (if j - i ≤ m then _ else _) = _
    rw [if_neg (by omega)]
  rw [e1, e2]
  unfold X_Ew
  obtain ⟨h1, h2⟩ := hw
  obtain ⟨r, hr⟩ : ∃ r : Nat, (gD G w 3 0 - 0).toNat = r + 1 := ⟨(gD G w 3 0 - 1).toNat, by omega⟩
  rw [hr]
  refine X_El_c1 (X_Tb_n m 30 (by omega)) (by omega) ?_
  rw [show gD G w 3 0 - ((r : Int) + 1) = 0 by omega]
  rcases h2 with h2 | h2
  · exact Or.inl (by omega)
  · exact Or.inr h2
theorem X_T_B {G : X_G} {k i j : Int} (h : i < j) (h30 : j - i ≤ 30) : (X_T_ G).2 k i j = X_if (X_brk G i j) (X_Kd G (X_T_ G) k (i + 1) (j - 1)) := by
  obtain ⟨m, hm⟩ : ∃ m : Nat, j - i = (m : Int) + 1 := ⟨(j - i - 1).toNat, by omega⟩
  have e1 : (X_T_ G).2 k i j = (X_Tb G (m + 1)).2 k i j := ((X_Tb_n (G := G) (m + 1) 30 (by omega) i j (by omega)).2 k).symm
  have e2 : (X_Tb G (m + 1)).2 k i j = X_if (X_brk G i j) (X_Kd G (X_Tb G m) k (i + 1) (j - 1)) := by
    show (if j - i ≤ m then _ else _) = _
    rw [if_neg (by omega)]
  rw [e1, e2]
  exact X_if_c Iff.rfl (fun _ => X_Kd_c (X_Tb_n m 30 (by omega)) (by omega))
/-- all readings: numbers and brackets, then words -/
theorem X_all_e {G : X_G} {i j : Int} (hD : ∀ v, 0 ≤ v → v < gw G → 0 ≤ gD G v 2 0 ∧ gD G v 2 0 < gk G) : X_all G i j = X_Su (fun k => X_nm G k i j + (X_T_ G).2 k i j) 0 (gk G) + X_Su (fun v => (X_T_ G).1 v i j) 0 (gw G) := by
  unfold X_all X_Kd
  rw [X_Su_add, X_Su_sw]
  congr 1
  refine X_Su_c (fun v h1 h2 => ?_)
  have := hD v h1 h2
  rw [X_Su_one (x := gD G v 2 0) this.1 this.2 (fun k _ _ hk => X_if_f (fun z => hk z.symm)), X_if_t rfl]
/-- a word's readings where it takes too few -/
theorem X_Ew_0 {G : X_G} {T : X_TT} {w e p j : Int} (h : j - p < gD G w 3 0 - e) : X_Ew G T w e p j = 0 := by
  unfold X_Ew
  exact X_El_0 (by omega)
end
section
/-! COUNTS in a long: what is above the greatest is told as m (-2 the class, -1 the reference) -/
def X_sz (m : Int) (n : Nat) : Int := if n ≤ 9223372036854775807 then (n : Int) else m
def X_st (m : Int) (n : Nat) : Int64 := iL (X_sz m n)
theorem X_sz_c {m : Int} {n : Nat} : (n ≤ 9223372036854775807 ∧ X_sz m n = (n : Int)) ∨ (9223372036854775807 < n ∧ X_sz m n = m) := by
  unfold X_sz
  split
  · exact Or.inl ⟨by assumption, rfl⟩
  · exact Or.inr ⟨by omega, rfl⟩
theorem iL_lt {a b : Int} (h1 : -9223372036854775808 ≤ a) (h2 : a ≤ 9223372036854775807) (h3 : -9223372036854775808 ≤ b) (h4 : b ≤ 9223372036854775807) : iL a < iL b ↔ a < b := by
  rw [Int64.lt_iff_toInt_lt, iL_t h1 h2, iL_t h3 h4]
theorem iL_le {a b : Int} (h1 : -9223372036854775808 ≤ a) (h2 : a ≤ 9223372036854775807) (h3 : -9223372036854775808 ≤ b) (h4 : b ≤ 9223372036854775807) : iL a ≤ iL b ↔ a ≤ b := by
  rw [Int64.le_iff_toInt_le, iL_t h1 h2, iL_t h3 h4]
theorem iL_eq {a b : Int} (h1 : -9223372036854775808 ≤ a) (h2 : a ≤ 9223372036854775807) (h3 : -9223372036854775808 ≤ b) (h4 : b ≤ 9223372036854775807) : iL a = iL b ↔ a = b := by
  rw [← Int64.toInt_inj, iL_t h1 h2, iL_t h3 h4]
theorem iL_w (a : Int) : iL (a - 18446744073709551616) = iL a := by
  show Int64.ofInt (a - 18446744073709551616) = Int64.ofInt a
  rw [Int64.ofInt_sub, show Int64.ofInt 18446744073709551616 = 0 from rfl, Int64.sub_zero]
theorem iL_div {a b : Int} (ha : 0 ≤ a ∧ a ≤ 9223372036854775807) (hb : 0 < b ∧ b ≤ 9223372036854775807) : iL a / iL b = iL (a / b) := by
  rw [← Int64.toInt_inj, Int64.toInt_div, iL_t (by omega) (by omega), iL_t (by omega) (by omega)]
  have h1 : a.tdiv b = a / b := Int.tdiv_eq_ediv_of_nonneg ha.1
  have h2 : 0 ≤ a / b := Int.ediv_nonneg ha.1 (by omega)
  have h3 : a / b ≤ a := Int.ediv_le_self b ha.1
  rw [h1, iL_t (by omega) (by omega)]
  exact Int.bmod_eq_of_le (by omega) (by omega)
/-- the sum of two counts -/
theorem X_st_a {m : Int} (hm : -2 ≤ m ∧ m ≤ -1) {a b : Nat} (ha : a ≤ 9223372036854775807) (hb : b ≤ 9223372036854775807) : (a + b ≤ 9223372036854775807 ∧ X_st m a + X_st m b = X_st m (a + b) ∧ ¬ X_st m a + X_st m b < iL 0) ∨ (9223372036854775807 < a + b ∧ X_st m a + X_st m b < iL 0) := by
  have ea : X_st m a = iL (a : Int) := by unfold X_st X_sz; rw [if_pos ha]
  have eb : X_st m b = iL (b : Int) := by unfold X_st X_sz; rw [if_pos hb]
  rw [ea, eb, ← Int64.ofInt_add]
  by_cases h : a + b ≤ 9223372036854775807
  · have ec : X_st m (a + b) = iL ((a : Int) + b) := by unfold X_st X_sz; rw [if_pos h]; rfl
    refine Or.inl ⟨h, ec.symm, ?_⟩
    rw [iL_lt (by omega) (by omega) (by omega) (by omega)]
    omega
  · refine Or.inr ⟨by omega, ?_⟩
    show iL ((a : Int) + b) < iL 0
    rw [← iL_w ((a : Int) + b), iL_lt (by omega) (by omega) (by omega) (by omega)]
    omega
theorem X_st_hi {m : Int} {a : Nat} (h : 9223372036854775807 < a) : X_st m a = iL m := by unfold X_st X_sz; rw [if_neg (by omega)]
theorem X_st_lo {m : Int} {a : Nat} (h : a ≤ 9223372036854775807) : X_st m a = iL (a : Int) := by unfold X_st X_sz; rw [if_pos h]
theorem X_st_n {m : Int} (hm : -2 ≤ m ∧ m ≤ -1) {a : Nat} : X_st m a < iL 0 ↔ 9223372036854775807 < a := by
  unfold X_st
  rcases X_sz_c (m := m) (n := a) with ⟨h1, h2⟩ | ⟨h1, h2⟩ <;> rw [h2, iL_lt (by omega) (by omega) (by omega) (by omega)] <;> omega
theorem X_st_m {m : Int} (hm : -2 ≤ m ∧ m ≤ -1) {a : Nat} : X_st m a = iL m ↔ 9223372036854775807 < a := by
  unfold X_st
  rcases X_sz_c (m := m) (n := a) with ⟨h1, h2⟩ | ⟨h1, h2⟩ <;> rw [h2, iL_eq (by omega) (by omega) (by omega) (by omega)] <;> omega
theorem X_st_z {m : Int} (hm : -2 ≤ m ∧ m ≤ -1) {a : Nat} : X_st m a = iL 0 ↔ a = 0 := by
  unfold X_st
  rcases X_sz_c (m := m) (n := a) with ⟨h1, h2⟩ | ⟨h1, h2⟩ <;> rw [h2, iL_eq (by omega) (by omega) (by omega) (by omega)] <;> omega
theorem X_st_0 {m : Int} : X_st m 0 = iL 0 := rfl
theorem X_st_1 {m : Int} : X_st m 1 = iL 1 := rfl
/-- a long that is a number of a reading -/
theorem X_st_lt {m : Int} (hm : -2 ≤ m ∧ m ≤ -1) {a k : Nat} (hk : k ≤ 9223372036854775807) : (X_st m a = iL m ∨ iL (k : Int) < X_st m a) ↔ k < a := by
  rw [X_st_m hm]
  unfold X_st
  rcases X_sz_c (m := m) (n := a) with ⟨h1, h2⟩ | ⟨h1, h2⟩ <;> rw [h2, iL_lt (by omega) (by omega) (by omega) (by omega)] <;> omega
/-- the product of two counts -/
theorem X_st_p {m : Int} (hm : -2 ≤ m ∧ m ≤ -1) {a b : Nat} (ha : a ≤ 9223372036854775807) (hb : b ≤ 9223372036854775807) (hb0 : ¬ b = 0) : (a * b ≤ 9223372036854775807 ∧ X_st m a * X_st m b = X_st m (a * b) ∧ ¬ iL 9223372036854775807 / X_st m b < X_st m a) ∨ (9223372036854775807 < a * b ∧ iL 9223372036854775807 / X_st m b < X_st m a) := by
  rw [X_st_lo ha, X_st_lo hb, ← Int64.ofInt_mul, iL_div (by omega) (by omega)]
  have h2 : (0 : Int) ≤ 9223372036854775807 / (b : Int) := Int.ediv_nonneg (by omega) (by omega)
  have h3 : (9223372036854775807 : Int) / (b : Int) ≤ 9223372036854775807 := Int.ediv_le_self _ (by omega)
  rw [iL_lt (by omega) (by omega) (by omega) (by omega)]
  have key : (9223372036854775807 : Int) / (b : Int) < (a : Int) ↔ 9223372036854775807 < (a : Int) * (b : Int) := Int.ediv_lt_iff_lt_mul (by omega)
  rw [key]
  have hc : (a : Int) * (b : Int) = ((a * b : Nat) : Int) := (Int.natCast_mul a b).symm
  rw [hc]
  by_cases h : a * b ≤ 9223372036854775807
  · exact Or.inl ⟨h, (X_st_lo h).symm, by omega⟩
  · exact Or.inr ⟨by omega, by omega⟩
/-- rows of the class's chart -/
def X_ro (i j : Int) : Int := j * (j - 1) / 2 + i
theorem X_ro_k (j : Nat) : ((j : Int) + 1) * ((j : Int) + 1 - 1) / 2 = (j : Int) * ((j : Int) - 1) / 2 + j := by
  have e : ((j : Int) + 1) * ((j : Int) + 1 - 1) = (j : Int) * ((j : Int) - 1) + 2 * j := by
    rw [Int.add_sub_cancel, Int.add_mul, Int.mul_sub]; omega
  rw [e]; omega
theorem X_ro_m {j : Nat} : ∀ n : Nat, X_ro 0 (j : Int) + n * (j : Int) ≤ X_ro 0 ((j + n : Nat) : Int) := by
  intro n
  induction n with
  | zero => show X_ro 0 (j : Int) + 0 * (j : Int) ≤ _; rw [Int.zero_mul, Int.add_zero]; exact Int.le_refl _
  | succ n ih =>
    unfold X_ro at ih ⊢
    have := X_ro_k (j + n)
    rw [show ((j + (n + 1) : Nat) : Int) = ((j + n : Nat) : Int) + 1 by omega, this]
    rw [show ((n + 1 : Nat) : Int) = (n : Int) + 1 by omega, Int.add_mul]
    omega
theorem X_ro_r {i j : Int} (h : 0 ≤ i) (h1 : i < j) (h2 : j ≤ 30) : 0 ≤ X_ro i j ∧ X_ro i j ≤ 464 ∧ 0 ≤ j * (j - 1) ∧ j * (j - 1) ≤ 870 := by
  have key : ∀ k : Fin 31, 0 ≤ ((k : Nat) : Int) * (((k : Nat) : Int) - 1) ∧ ((k : Nat) : Int) * (((k : Nat) : Int) - 1) ≤ 870 ∧ ((k : Nat) : Int) * (((k : Nat) : Int) - 1) / 2 + ((k : Nat) : Int) ≤ 465 := by decide
  have := key ⟨j.toNat, by omega⟩
  simp only at this
  rw [show ((j.toNat : Nat) : Int) = j by omega] at this
  unfold X_ro
  omega
theorem X_ro_lt {i j i' j' : Int} (h : 0 ≤ i ∧ i < j) (h' : 0 ≤ i' ∧ i' < j') (hj : j < j') : X_ro i j < X_ro i' j' := by
  have h1 := X_ro_m (j := j.toNat) (j' - j).toNat
  have h2 := X_ro_k j.toNat
  rw [show ((j.toNat + (j' - j).toNat : Nat) : Int) = j' by omega, show ((j.toNat : Nat) : Int) = j by omega] at h1
  have h3 : ((j' - j).toNat : Int) * j ≥ j := by
    have : 1 * j ≤ ((j' - j).toNat : Int) * j := Int.mul_le_mul_of_nonneg_right (by omega) (by omega)
    omega
  unfold X_ro at *
  omega
theorem X_ro_ne {i j i' j' : Int} (h : 0 ≤ i ∧ i < j) (h' : 0 ≤ i' ∧ i' < j') (hn : ¬ (i = i' ∧ j = j')) : ¬ X_ro i j = X_ro i' j' := by
  by_cases h1 : j < j'
  · have := X_ro_lt h h' h1; omega
  · by_cases h2 : j' < j
    · have := X_ro_lt h' h h2; omega
    · have e : j = j' := by omega
      subst e
      unfold X_ro
      omega
end
section
/-! what a chart's cells tell -/
theorem X_plus_f {m : Int} (hm : -2 ≤ m ∧ m ≤ -1) {a b : Nat} {r : Int64} (h : ((X_st m a = iL m ∨ X_st m b = iL m) ∧ r = iL m) ∨ (¬ X_st m a = iL m ∧ ¬ X_st m b = iL m ∧ X_st m a + X_st m b < iL 0 ∧ r = iL m) ∨ (¬ X_st m a = iL m ∧ ¬ X_st m b = iL m ∧ ¬ X_st m a + X_st m b < iL 0 ∧ r = X_st m a + X_st m b)) : r = X_st m (a + b) := by
  rw [X_st_m hm, X_st_m hm] at h
  rcases h with ⟨h1, h2⟩ | ⟨h1, h2, h3, h4⟩ | ⟨h1, h2, h3, h4⟩
  · rw [h2, X_st_hi (by omega)]
  · rcases X_st_a hm (a := a) (b := b) (by omega) (by omega) with ⟨-, -, g⟩ | ⟨g, -⟩
    · exact absurd h3 g
    · rw [h4, X_st_hi g]
  · rcases X_st_a hm (a := a) (b := b) (by omega) (by omega) with ⟨-, g, -⟩ | ⟨-, g⟩
    · rw [h4, g]
    · exact absurd g h3
theorem X_times_f {m : Int} (hm : -2 ≤ m ∧ m ≤ -1) {a b : Nat} {r : Int64} (h : ((X_st m a = iL 0 ∨ X_st m b = iL 0) ∧ r = iL 0) ∨ (¬ X_st m a = iL 0 ∧ ¬ X_st m b = iL 0 ∧ (X_st m a = iL m ∨ X_st m b = iL m) ∧ r = iL m) ∨ (¬ X_st m a = iL 0 ∧ ¬ X_st m b = iL 0 ∧ ¬ X_st m a = iL m ∧ ¬ X_st m b = iL m ∧ iL 9223372036854775807 / X_st m b < X_st m a ∧ r = iL m) ∨ (¬ X_st m a = iL 0 ∧ ¬ X_st m b = iL 0 ∧ ¬ X_st m a = iL m ∧ ¬ X_st m b = iL m ∧ ¬ iL 9223372036854775807 / X_st m b < X_st m a ∧ r = X_st m a * X_st m b)) : r = X_st m (a * b) := by
  rw [X_st_m hm, X_st_m hm, X_st_z hm, X_st_z hm] at h
  rcases h with ⟨h1, h2⟩ | ⟨h1, h2, h3, h4⟩ | ⟨h1, h2, h3, h4, h5, h6⟩ | ⟨h1, h2, h3, h4, h5, h6⟩
  · rcases h1 with h1 | h1
    · rw [h2, h1, Nat.zero_mul]; rfl
    · rw [h2, h1, Nat.mul_zero]; rfl
  · have g1 : a * 1 ≤ a * b := Nat.mul_le_mul_left a (by omega)
    have g2 : 1 * b ≤ a * b := Nat.mul_le_mul_right b (by omega)
    rw [h4, X_st_hi (by omega)]
  · rcases X_st_p hm (a := a) (b := b) (by omega) (by omega) h2 with ⟨-, -, g⟩ | ⟨g, -⟩
    · exact absurd h5 g
    · rw [h6, X_st_hi g]
  · rcases X_st_p hm (a := a) (b := b) (by omega) (by omega) h2 with ⟨-, g, -⟩ | ⟨-, g⟩
    · rw [h6, g]
    · exact absurd g h5
/-- a book that was told rightly, as the chart needs it: of each word -/
def X_gw (G : X_G) (w : Int) : Prop := (1 ≤ gD G w 3 0 ∧ gD G w 3 0 ≤ 8) ∧ (0 ≤ gD G w 4 0 ∧ gD G w 4 0 ≤ 4 ∧ gD G w 4 0 < gD G w 3 0) ∧ X_pw G w ∧ (0 ≤ gD G w 0 0 ∧ gD G w 0 0 ≤ 11) ∧ (0 ≤ gD G w 1 0 ∧ gD G w 1 0 ≤ 2) ∧ (0 ≤ gD G w 2 0 ∧ gD G w 2 0 < gk G) ∧ gD G w 4 0 = X_hn (gW G w) (gD G w 3 0) ∧ (∀ e, 0 ≤ e → e < gD G w 3 0 → gW G w e = 0 → gD G w 8 e = X_hn (gW G w) e) ∧ (∀ h, 0 ≤ h → h < gD G w 4 0 → 0 ≤ gD G w 9 h ∧ gD G w 9 h < gk G) ∧
  (∀ e, 0 ≤ e → e < gD G w 3 0 → ¬ gW G w e = 0 → X_nv (gW G w e) = -1 ∧ ¬ gW G w e = iL 40 ∧ ¬ gW G w e = iL 41) ∧
  ∀ e, 0 ≤ e → e < gD G w 3 0 → gW G w e = 0 → (∀ k, 0 ≤ k → k < 32 → (X_bt (gD G w 11 (gD G w 8 e)) k ↔ k < gk G ∧ X_bt (ga G k) (gD G w 9 (gD G w 8 e)))) ∧ (∀ v, 0 ≤ v → v < 32 → (X_bt (gD G w 10 (gD G w 8 e)) v ↔ v < gw G ∧ X_bt (ga G (gD G v 2 0)) (gD G w 9 (gD G w 8 e)) ∧ X_lt G w (X_eo G w e) v))
/-- kinds: all is above all; what is under what is under u is under u -/
def X_gkd (G : X_G) : Prop := (∀ k, 0 ≤ k → k < gk G → X_bt (ga G k) 0 ∧ X_bt (ga G k) k) ∧ ∀ k u, 0 ≤ k → k < gk G → 0 ≤ u → u < 32 → X_bt (ga G k) u → u < gk G
def X_Gok (G : X_G) : Prop := (0 ≤ gw G ∧ gw G ≤ 30) ∧ (1 ≤ gk G ∧ gk G ≤ 11) ∧ X_gkd G ∧ ∀ w, 0 ≤ w → w < gw G → X_gw G w
/-- the cells of one stretch -/
def X_rw (G : X_G) (m : Int) (i j : Int) (oK oW oA oH : Int → Int64) : Prop := (∀ k, 0 ≤ k → k < gk G → oK (X_ro i j * 11 + k) = X_st m (X_nm G k i j + (X_T_ G).2 k i j)) ∧ (∀ w, 0 ≤ w → w < gw G → oW (X_ro i j * 30 + w) = X_st m ((X_T_ G).1 w i j)) ∧ oA (X_ro i j) = X_st m (X_all G i j) ∧
  ∀ w, 0 ≤ w → w < gw G → ∀ e, 0 ≤ e → e < gD G w 3 0 → gW G w e = 0 → oH ((X_ro i j * 30 + w) * 4 + gD G w 8 e) = X_st m (X_Hw G (X_T_ G) w e i j)
/-- the tails of word w at a place -/
def X_tl (G : X_G) (m w p j : Int) (tl : Int → Int64) : Prop := ∀ e, 1 ≤ e → e < gD G w 3 0 → tl ((w * 8 + e) * 30 + p) = X_st m (X_Ew G (X_T_ G) w e p j)
theorem X_gw.hole {G : X_G} {w e : Int} (h : X_gw G w) (h1 : 0 ≤ e) (h2 : e < gD G w 3 0) (h3 : gW G w e = 0) : 0 ≤ gD G w 8 e ∧ gD G w 8 e < gD G w 4 0 := by
  obtain ⟨-, -, -, -, -, -, a1, a2, -⟩ := h
  rw [a2 e h1 h2 h3, a1]
  exact ⟨(X_hn_b h1).1, X_hn_l h1 h2 h3⟩
theorem X_gw.inj {G : X_G} {w e e' : Int} (h : X_gw G w) (h1 : 0 ≤ e) (h2 : e < gD G w 3 0) (h3 : gW G w e = 0) (h1' : 0 ≤ e') (h2' : e' < gD G w 3 0) (h3' : gW G w e' = 0) (he : gD G w 8 e = gD G w 8 e') : e = e' := by
  obtain ⟨-, -, -, -, -, -, a1, a2, -⟩ := h
  rw [a2 e h1 h2 h3, a2 e' h1' h2' h3'] at he
  by_cases hl : e < e'
  · have := X_hn_l (q := gW G w) h1 hl h3; omega
  · by_cases hl2 : e' < e
    · have := X_hn_l (q := gW G w) h1' hl2 h3'; omega
    · omega
theorem X_hl_g {G : X_G} {w e : Int} : X_hl (gD G w) (gW G w) e ↔ 0 ≤ e ∧ e < gD G w 3 0 ∧ gW G w e = 0 := Iff.rfl
theorem X_Gok.kd {G : X_G} (h : X_Gok G) : ∀ v, 0 ≤ v → v < gw G → 0 ≤ gD G v 2 0 ∧ gD G v 2 0 < gk G := fun v h1 h2 => (h.2.2.2 v h1 h2).2.2.2.2.2.1
end
section
theorem X_tb_r (t : Int64) (s : Int) : 0 ≤ X_tb t s ∧ X_tb t s ≤ 255 := by
  unfold X_tb
  obtain ⟨y, hy⟩ : ∃ y : Int64, y = t >>> ((iI s).toInt64 &&& 63) &&& iL 255 := ⟨_, rfl⟩
  rw [← hy]
  have h1 : y.toBitVec.toNat ≤ 255 := by
    rw [hy, Int64.toBitVec_and, BitVec.toNat_and]
    exact Nat.le_trans Nat.and_le_right (by decide)
  have h2 : y.toInt = (y.toBitVec.toNat : Int) := by
    rw [← Int64.toInt_toBitVec, BitVec.toInt_eq_toNat_of_lt (by omega)]
  have h3 : (y.toBitVec.toNat : Int).bmod (2 ^ 32) = (y.toBitVec.toNat : Int) := Int.bmod_eq_of_le (by omega) (by omega)
  rw [Int64.toInt_toInt32, h2, h3]
  omega
theorem X_nvl_s (t : Int64) (m : Nat) : X_nvl t (m + 1) = if X_nvl t m = -1 then -1 else if X_tb t (56 - 8 * m) = 0 then X_nvl t m else if X_tb t (56 - 8 * m) < 48 ∨ 57 < X_tb t (56 - 8 * m) then -1 else X_nvl t m * 10 + X_tb t (56 - 8 * m) - 48 := rfl
theorem X_nvl_n {t : Int64} {m : Nat} (h : X_nvl t m = -1) : ∀ n : Nat, X_nvl t (m + n) = -1 := by
  intro n
  induction n with
  | zero => exact h
  | succ n ih =>
    rw [← Nat.add_assoc, X_nvl_s, if_pos ih]
theorem X_nvl_r (t : Int64) : ∀ m : Nat, m ≤ 8 → -1 ≤ X_nvl t m ∧ X_nvl t m < ((10 ^ m : Nat) : Int) := by
  intro m
  induction m with
  | zero => intro _; exact ⟨(show (-1 : Int) ≤ 0 by omega), (show (0 : Int) < 1 by omega)⟩
  | succ m ih =>
    intro hm
    have h1 := ih (by omega)
    have h2 := X_tb_r t (56 - 8 * m)
    rw [X_nvl_s, show (10 : Nat) ^ (m + 1) = 10 ^ m * 10 from Nat.pow_succ 10 m]
    have h3 : 0 < (10 : Nat) ^ m := Nat.pow_pos (by decide)
    repeat' split
    all_goals omega
theorem X_nv_r (t : Int64) : -1 ≤ X_nv t ∧ X_nv t ≤ 99999999 := by
  have h := X_nvl_r t 8 (by omega)
  have h3 : (10 : Nat) ^ 8 = 100000000 := by decide
  unfold X_nv
  omega
/-- a step of the reading of a token's digits -/
theorem X_nv_go {t : Int64} {v m s : Int} (hm : 0 ≤ m) (hs : s = 56 - 8 * m) (hv : v = X_nvl t m.toNat) (h1 : ¬ v = -1) : (X_tb t s = 0 → X_nvl t (m + 1).toNat = v) ∧ (¬ X_tb t s = 0 → (X_tb t s < 48 ∨ 57 < X_tb t s) → X_nvl t (m + 1).toNat = -1) ∧ (¬ X_tb t s = 0 → ¬ X_tb t s < 48 → ¬ 57 < X_tb t s → X_nvl t (m + 1).toNat = v * 10 + X_tb t s - 48) := by
  have e : (m + 1).toNat = m.toNat + 1 := by omega
  have e2 : s = 56 - 8 * (m.toNat : Int) := by omega
  rw [e, X_nvl_s, ← e2, ← hv, if_neg h1]
  refine ⟨fun h => by rw [if_pos h], fun h h2 => by rw [if_neg h, if_pos h2], fun h h2 h3 => by rw [if_neg h, if_neg (by omega)]⟩
theorem X_nv_no {t : Int64} {m : Int} (hm : m ≤ 8) (h : X_nvl t m.toNat = -1) : X_nv t = -1 := by
  have := X_nvl_n h (8 - m.toNat)
  rw [show m.toNat + (8 - m.toNat) = 8 by omega] at this
  exact this
theorem X_hc_ex {q : Int → Int64} {h : Int} (h0 : 0 ≤ h) : ∀ n : Nat, h < X_hc q n → ∃ e : Nat, e < n ∧ q (e : Int) = 0 ∧ X_hc q e = h := by
  intro n
  induction n with
  | zero => intro hh; exact absurd (show h < 0 from hh) (by omega)
  | succ n ih =>
    intro hh
    have hh : h < X_hc q n + (if q (n : Int) = 0 then 1 else 0) := hh
    by_cases h1 : h < X_hc q n
    · obtain ⟨e, h2, h3, h4⟩ := ih h1
      exact ⟨e, by omega, h3, h4⟩
    · by_cases h2 : q (n : Int) = 0
      · rw [if_pos h2] at hh
        exact ⟨n, by omega, h2, by omega⟩
      · rw [if_neg h2] at hh
        omega
theorem X_gw.ex {G : X_G} {w h : Int} (hg : X_gw G w) (h1 : 0 ≤ h) (h2 : h < gD G w 4 0) : ∃ e, 0 ≤ e ∧ e < gD G w 3 0 ∧ gW G w e = 0 ∧ gD G w 8 e = h := by
  obtain ⟨⟨b1, b2⟩, -, -, -, -, -, a1, a2, -⟩ := hg
  rw [a1] at h2
  obtain ⟨e, g1, g2, g3⟩ := X_hc_ex (q := gW G w) h1 _ h2
  refine ⟨(e : Int), by omega, by omega, g2, ?_⟩
  rw [a2 _ (by omega) (by omega) g2]
  exact g3
theorem X_Hw_b {G : X_G} {T : X_TT} {w e i j : Int} (hG : X_Gok G) (hw0 : 0 ≤ w) (hw1 : w < gw G) (h1 : 0 ≤ e) (h2 : e < gD G w 3 0) (h3 : gW G w e = 0) : X_Hw G T w e i j = X_Su (fun k => X_if (X_bt (gD G w 11 (gD G w 8 e)) k) (X_nm G k i j + T.2 k i j)) 0 (gk G) + X_Su (fun v => X_if (X_bt (gD G w 10 (gD G w 8 e)) v) (T.1 v i j)) 0 (gw G) := by
  obtain ⟨b1, b2⟩ := (hG.2.2.2 w hw0 hw1).2.2.2.2.2.2.2.2.2.2 e h1 h2 h3
  have c1 := hG.1
  have c2 := hG.2.1
  unfold X_Hw X_Hc X_Hq X_Hv
  congr 1
  · refine X_Su_c (fun k g1 g2 => X_if_c ?_ (fun _ => rfl))
    rw [b1 k g1 (by omega)]
    exact ⟨fun z => ⟨g2, z⟩, fun z => z.2⟩
  · refine X_Su_c (fun v g1 g2 => X_if_c ?_ (fun _ => rfl))
    rw [b2 v g1 (by omega)]
    exact ⟨fun z => ⟨g2, z.1, z.2⟩, fun z => z.2⟩
theorem X_Hc_0 {G : X_G} {u o en i j : Int} (hG : X_Gok G) (h : X_all G i j = 0) : X_Hc G (X_T_ G) u o en i j = 0 := by
  rw [X_all_e hG.kd] at h
  have h1 : ∀ k, 0 ≤ k → k < gk G → X_nm G k i j + (X_T_ G).2 k i j = 0 := fun k g1 g2 => by
    have := X_Su_le (f := fun k => X_nm G k i j + (X_T_ G).2 k i j) (a := 0) (b := gk G) g1 g2
    omega
  have h2 : ∀ v, 0 ≤ v → v < gw G → (X_T_ G).1 v i j = 0 := fun k g1 g2 => by
    have := X_Su_le (f := fun v => (X_T_ G).1 v i j) (a := 0) (b := gw G) g1 g2
    omega
  unfold X_Hc X_Hq X_Hv
  rw [X_Su_0 (fun k g1 g2 => by rw [h1 k g1 g2]; exact X_if_0), X_Su_0 (fun k g1 g2 => by rw [h2 k g1 g2]; exact X_if_0)]
/-- the next one of a sum with a condition -/
theorem X_Su_if {p : Int → Prop} {f : Int → Nat} {a k : Int} (h : a ≤ k) : (p k → X_Su (fun z => X_if (p z) (f z)) a (k + 1) = X_Su (fun z => X_if (p z) (f z)) a k + f k) ∧ (¬ p k → X_Su (fun z => X_if (p z) (f z)) a (k + 1) = X_Su (fun z => X_if (p z) (f z)) a k) := by
  rw [X_Su_s h]
  exact ⟨fun g => by rw [X_if_t g], fun g => by rw [X_if_f g]; rfl⟩
end
section
theorem X_Kd_b {G : X_G} {T : X_TT} {k r i j : Int} (hG : X_Gok G) (hk0 : 0 ≤ k) (hk : k < gk G) (hx : ∀ v, 0 ≤ v → v < 32 → (X_bt r v ↔ v < gw G ∧ X_bt (X_bS k) (gD G v 2 0))) : X_Su (fun z => X_if (X_bt (X_bS k) z) (X_nm G z i j + T.2 z i j)) 0 (gk G) + X_Su (fun v => X_if (X_bt r v) (T.1 v i j)) 0 (gw G) = X_Kd G T k i j := by
  have c1 := hG.1
  have c2 := hG.2.1
  unfold X_Kd
  congr 1
  · rw [X_Su_one (x := k) hk0 hk (fun z h1 h2 h3 => X_if_f (fun g => h3 ((X_bt_sh k z (by omega) (by omega)).mp g))), X_if_t ((X_bt_sh k k (by omega) (by omega)).mpr rfl)]
  · refine X_Su_c (fun v h1 h2 => X_if_c ?_ (fun _ => rfl))
    have hd := hG.kd v h1 h2
    rw [hx v h1 (by omega), X_bt_sh k _ (by omega) (by omega)]
    exact ⟨fun z => z.2, fun z => ⟨h2, z⟩⟩
theorem X_all_m {G : X_G} {i j : Int} (hG : X_Gok G) : X_Su (fun z => X_if (X_bt (-1) z) (X_nm G z i j + (X_T_ G).2 z i j)) 0 (gk G) + X_Su (fun v => X_if (X_bt (-1) v) ((X_T_ G).1 v i j)) 0 (gw G) = X_all G i j := by
  have c1 := hG.1
  have c2 := hG.2.1
  rw [X_all_e hG.kd]
  congr 1
  · exact X_Su_c (fun z h1 h2 => X_if_t (X_bt_m z (by omega)))
  · exact X_Su_c (fun z h1 h2 => X_if_t (X_bt_m z (by omega)))
theorem X_rw.fr {G : X_G} {m i j i' j' : Int} {oK oW oA oH oK' oW' oA' oH' : Int → Int64} (hG : X_Gok G) (hne : ¬ X_ro i' j' = X_ro i j) (h : X_rw G m i' j' oK oW oA oH) (h1 : ∀ q, ¬ (X_ro i j * 11 ≤ q ∧ q < X_ro i j * 11 + 11) → oK' q = oK q) (h2 : ∀ q, ¬ (X_ro i j * 30 ≤ q ∧ q < X_ro i j * 30 + 30) → oW' q = oW q) (h3 : ∀ q, ¬ q = X_ro i j → oA' q = oA q) (h4 : ∀ q, ¬ (X_ro i j * 120 ≤ q ∧ q < X_ro i j * 120 + 120) → oH' q = oH q) : X_rw G m i' j' oK' oW' oA' oH' := by
  obtain ⟨a1, a2, a3, a4⟩ := h
  have c1 := hG.1
  have c2 := hG.2.1
  refine ⟨fun k g1 g2 => (h1 _ (by omega)).trans (a1 k g1 g2), fun w g1 g2 => (h2 _ (by omega)).trans (a2 w g1 g2), (h3 _ hne).trans a3, fun w g1 g2 e g3 g4 g5 => ?_⟩
  have hh := (hG.2.2.2 w g1 g2).hole g3 g4 g5
  have hs := (hG.2.2.2 w g1 g2).2.1
  exact (h4 _ (by omega)).trans (a4 w g1 g2 e g3 g4 g5)
/-- numbers and brackets of kind k, one token -/
theorem X_nmB {G : X_G} {k i j : Int} (h : i < j) (h30 : j - i ≤ 30) : (j = i + 1 → X_nm G k i j + (X_T_ G).2 k i j = X_if (0 ≤ X_nv (gt G i) ∧ k = bI (1 < gk G)) 1) ∧ (¬ j = i + 1 → X_nm G k i j + (X_T_ G).2 k i j = X_if (X_brk G i j) (X_Kd G (X_T_ G) k (i + 1) (j - 1))) := by
  rw [X_T_B h h30]
  unfold X_nm
  constructor
  · intro hj
    rw [X_if_f (p := X_brk G i j) (fun z => absurd z.1 (by omega)), Nat.add_zero]
    exact X_if_c ⟨fun z => z.2, fun z => ⟨hj, z⟩⟩ (fun _ => rfl)
  · intro hj
    rw [X_if_f (fun z => hj z.1), Nat.zero_add]
end
section
/-- a chart that is filled -/
def X_cht (G : X_G) (m tn : Int) (oK oW oA oH : Int → Int64) : Prop := ∀ i j, 0 ≤ i → i < j → j ≤ tn → X_rw G m i j oK oW oA oH
theorem X_El_jj {G : X_G} {w j : Int} (hp : X_pw G w) (h0 : gW G w 0 = 0) : X_Ew G (X_T_ G) w (0 + 1) j j = 0 := X_Ew_0 (by
  rcases hp.2 with h | h
  · omega
  · exact absurd h0 h)
end
section
/-! READINGS. the place in a row of counts where a number falls -/
def X_fd (F : Int → Nat) : Nat → Int → Nat → Int × Nat
  | 0, a, k => (a, k)
  | n + 1, a, k => if k < F a then (a, k) else X_fd F n (a + 1) (k - F a)
theorem X_fd_u {F : Int → Nat} : ∀ (n : Nat) (a x : Int) (k r : Nat), a ≤ x → x < a + n → k = X_Su F a x + r → r < F x → X_fd F n a k = (x, r) := by
  intro n
  induction n with
  | zero => intro a x k r h1 h2 h3 h4; omega
  | succ n ih =>
    intro a x k r h1 h2 h3 h4
    unfold X_fd
    by_cases hx : a = x
    · subst hx
      rw [X_Su_e (Int.le_refl a)] at h3
      rw [show k = r by omega, if_pos h4]
    · rw [X_Su_f (show a < x by omega)] at h3
      rw [if_neg (by omega)]
      exact ih (a + 1) x (k - F a) r (by omega) (by omega) (by omega) h4
theorem X_fd_s {F : Int → Nat} : ∀ (n : Nat) (a : Int) (k : Nat), k < X_Su F a (a + n) → ∃ x r, X_fd F n a k = (x, r) ∧ a ≤ x ∧ x < a + n ∧ k = X_Su F a x + r ∧ r < F x := by
  intro n
  induction n with
  | zero => intro a k h; rw [X_Su_e (by omega)] at h; omega
  | succ n ih =>
    intro a k h
    unfold X_fd
    by_cases hk : k < F a
    · rw [if_pos hk]
      exact ⟨a, k, rfl, Int.le_refl a, by omega, by rw [X_Su_e (Int.le_refl a)]; omega, hk⟩
    · rw [if_neg hk]
      rw [X_Su_f (show a < a + ((n + 1 : Nat) : Int) by omega), show a + ((n + 1 : Nat) : Int) = (a + 1) + n by omega] at h
      obtain ⟨x, r, h1, h2, h3, h4, h5⟩ := ih (a + 1) (k - F a) (by omega)
      refine ⟨x, r, h1, by omega, by omega, ?_, h5⟩
      rw [X_Su_f (show a < x by omega)]
      omega
/-- which end the hole h of a word is -/
def X_eh (G : X_G) (w h : Int) : Int := if h = 0 ∧ gW G w 0 = 0 then 1 else if h = gD G w 4 0 - 1 ∧ gW G w (gD G w 3 0 - 1) = 0 then 2 else 0
noncomputable def X_Hh (G : X_G) (w h i j : Int) : Nat := X_Hc G (X_T_ G) (gD G w 9 h) w (X_eh G w h) i j
theorem X_eo_h {G : X_G} {w e : Int} (hg : X_gw G w) (h1 : 0 ≤ e) (h2 : e < gD G w 3 0) (h3 : gW G w e = 0) : X_eo G w e = X_eh G w (gD G w 8 e) := by
  have hh := hg.hole h1 h2 h3
  have hb := hg.2.1
  have hs := hg.1
  have hn := hg.2.2.2.2.2.2
  have e1 := hn.2.1 e h1 h2 h3
  have e2 := hn.1
  unfold X_eo X_eh
  by_cases h0 : e = 0
  · subst h0
    have z : gD G w 8 0 = 0 := by rw [e1]; rfl
    rw [if_pos rfl, if_pos ⟨z, h3⟩]
  · rw [if_neg h0]
    have n1 : ¬ (gD G w 8 e = 0 ∧ gW G w 0 = 0) := by
      rintro ⟨a1, a2⟩
      have := X_hn_l (q := gW G w) (a := 0) (b := e) (by omega) (by omega) a2
      have z : X_hn (gW G w) 0 = 0 := rfl
      omega
    rw [if_neg n1]
    by_cases hl : e = gD G w 3 0 - 1
    · rw [if_pos hl, if_pos]
      refine ⟨?_, by rw [← hl]; exact h3⟩
      have s := X_hn_s (q := gW G w) (e := e) h1
      rw [if_pos h3, show e + 1 = gD G w 3 0 by omega] at s
      omega
    · rw [if_neg hl, if_neg]
      rintro ⟨a1, a2⟩
      have s := X_hn_l (q := gW G w) (a := e) (b := gD G w 3 0 - 1) h1 (by omega) h3
      have s2 := X_hn_s (q := gW G w) (e := gD G w 3 0 - 1) (by omega)
      rw [if_pos a2, show gD G w 3 0 - 1 + 1 = gD G w 3 0 by omega] at s2
      omega
theorem X_Hw_h {G : X_G} {w e i j : Int} (hg : X_gw G w) (h1 : 0 ≤ e) (h2 : e < gD G w 3 0) (h3 : gW G w e = 0) : X_Hw G (X_T_ G) w e i j = X_Hh G w (gD G w 8 e) i j := by
  unfold X_Hw X_Hh
  rw [X_eo_h hg h1 h2 h3]
/-- what stands in no end takes all that is under u -/
theorem X_Hc_all {G : X_G} {o i j : Int} (hG : X_Gok G) : X_Hc G (X_T_ G) 0 o 0 i j = X_all G i j := by
  rw [X_all_e hG.kd]
  unfold X_Hc X_Hq X_Hv
  congr 1
  · exact X_Su_c (fun k h1 h2 => X_if_t (hG.2.2.1.1 k h1 h2).1)
  · exact X_Su_c (fun v h1 h2 => X_if_t ⟨(hG.2.2.1.1 _ (hG.kd v h1 h2).1 (hG.kd v h1 h2).2).1, Or.inl rfl⟩)
theorem X_if_if {p q : Prop} {n : Nat} : X_if p (X_if q n) = X_if (p ∧ q) n := by
  by_cases hp : p
  · rw [X_if_t hp]
    exact X_if_c ⟨fun z => ⟨hp, z⟩, fun z => z.2⟩ (fun _ => rfl)
  · rw [X_if_f hp, X_if_f (fun z => hp z.1)]
theorem X_if_a {p : Prop} {n m : Nat} : X_if p (n + m) = X_if p n + X_if p m := by
  by_cases hp : p
  · rw [X_if_t hp, X_if_t hp, X_if_t hp]
  · rw [X_if_f hp, X_if_f hp, X_if_f hp]
theorem X_if_Su {p : Prop} {f : Int → Nat} {a b : Int} : X_if p (X_Su f a b) = X_Su (fun k => X_if p (f k)) a b := by
  by_cases hp : p
  · rw [X_if_t hp]
    exact X_Su_c (fun k _ _ => (X_if_t hp).symm)
  · rw [X_if_f hp]
    exact (X_Su_0 (fun k _ _ => X_if_f hp)).symm
theorem X_Hq_b {G : X_G} {u i j : Int} (hG : X_Gok G) (h : i < j) (h30 : j - i ≤ 30) (hj : ¬ j = i + 1) : X_Hq G (X_T_ G) u i j = X_if (X_brk G i j) (X_Hc G (X_T_ G) u 0 0 (i + 1) (j - 1)) := by
  unfold X_Hq
  rw [X_Su_c (g := fun k => X_if (X_brk G i j) (X_if (X_bt (ga G k) u) (X_Kd G (X_T_ G) k (i + 1) (j - 1)))) (fun k h1 h2 => by
    rw [(X_nmB (k := k) h h30).2 hj, X_if_if, X_if_if]
    exact X_if_c ⟨fun z => ⟨z.2, z.1⟩, fun z => ⟨z.2, z.1⟩⟩ (fun _ => rfl)), ← X_if_Su]
  refine X_if_c Iff.rfl (fun _ => ?_)
  unfold X_Hc X_Hq X_Hv X_Kd
  rw [X_Su_c (g := fun k => X_if (X_bt (ga G k) u) (X_nm G k (i + 1) (j - 1) + (X_T_ G).2 k (i + 1) (j - 1)) + X_Su (fun v => X_if (X_bt (ga G k) u) (X_if (gD G v 2 0 = k) ((X_T_ G).1 v (i + 1) (j - 1)))) 0 (gw G)) (fun k h1 h2 => by
    rw [X_if_a, X_if_Su]), X_Su_add, X_Su_sw]
  congr 1
  refine X_Su_c (fun v h1 h2 => ?_)
  have hd := hG.kd v h1 h2
  rw [X_Su_one (x := gD G v 2 0) hd.1 hd.2 (fun k _ _ hk => by rw [X_if_f (p := gD G v 2 0 = k) (fun z => hk z.symm)]; exact X_if_0), X_if_t (p := gD G v 2 0 = gD G v 2 0) rfl]
  exact X_if_c ⟨fun z => ⟨z, Or.inl rfl⟩, fun z => z.1⟩ (fun _ => rfl)
/-- what is to be read: from, to, the node that it is in, the hole, the kinds (under u), the word and its end, the number -/
abbrev X_It : Type := Int × Int × Int × Int × Int × Int × Int × Nat
/-- how many wait, these; how many nodes, these (0 word, 1 first, 2 tokens, 3 node, 4 hole) -/
abbrev X_Ms : Type := Int × (Int → X_It) × Int × (Int → Int → Int)
def X_nn (N : Int → Int → Int) (nc w i l p h : Int) : Int → Int → Int := fun f n => if n = nc then (if f = 0 then w else if f = 1 then i else if f = 2 then l else if f = 3 then p else h) else N f n
noncomputable def X_spl (G : X_G) (w j : Int) : Nat → Int → Int → Nat → Nat → (Int → Int) → (Int → Int) → Nat × (Int → Int) × (Int → Int)
  | 0, _, _, l, _, HF, HE => (l, HF, HE)
  | n + 1, e, p, l, b, HF, HE => if gW G w e = 0 then
      X_spl G w j n (e + 1) (X_fd (fun m => b * X_Hw G (X_T_ G) w e p m * X_Ew G (X_T_ G) w (e + 1) m j) (j - p).toNat (p + 1) l).1 (X_fd (fun m => b * X_Hw G (X_T_ G) w e p m * X_Ew G (X_T_ G) w (e + 1) m j) (j - p).toNat (p + 1) l).2 (b * X_Hw G (X_T_ G) w e p (X_fd (fun m => b * X_Hw G (X_T_ G) w e p m * X_Ew G (X_T_ G) w (e + 1) m j) (j - p).toNat (p + 1) l).1)
        (X_ug HF (gD G w 8 e) p) (X_ug HE (gD G w 8 e) (X_fd (fun m => b * X_Hw G (X_T_ G) w e p m * X_Ew G (X_T_ G) w (e + 1) m j) (j - p).toNat (p + 1) l).1)
    else X_spl G w j n (e + 1) (p + 1) l b HF HE
noncomputable def X_pus (G : X_G) (w node : Int) (HF HE : Int → Int) : Nat → Nat → Int × (Int → X_It) → Int × (Int → X_It)
  | 0, _, s => s
  | h + 1, l, s => X_pus G w node HF HE h (l / X_Hh G w h (HF h) (HE h)) (s.1 + 1, X_ug s.2 s.1 (HF h, HE h, node, h, gD G w 9 h, w, X_eh G w h, l % X_Hh G w h (HF h) (HE h)))
noncomputable def X_cF (G : X_G) (u o en i j : Int) : Int → Nat := fun v => X_if (X_bt (ga G (gD G v 2 0)) u ∧ X_lt G o en v) ((X_T_ G).1 v i j)
/-- one more node -/
noncomputable def X_mk (G : X_G) (s : X_Ms) : X_Ms :=
  match s.2.1 (s.1 - 1) with
  | (i, j, p, h, u, o, en, k) =>
    if k < X_Hq G (X_T_ G) u i j then (if j = i + 1 then (s.1 - 1, s.2.1, s.2.2.1 + 1, X_nn s.2.2.2 s.2.2.1 (-2) i (j - i) p h) else (s.1, X_ug s.2.1 (s.1 - 1) (i + 1, j - 1, s.2.2.1, 0, u, 0, 0, k), s.2.2.1 + 1, X_nn s.2.2.2 s.2.2.1 (-3) i (j - i) p h))
    else match X_fd (X_cF G u o en i j) (gw G).toNat 0 (k - X_Hq G (X_T_ G) u i j) with
      | (v, k2) => match X_spl G v j (gD G v 3 0).toNat 0 i k2 1 (fun _ => 0) (fun _ => 0) with
        | (l, HF, HE) => match X_pus G v s.2.2.1 HF HE (gD G v 4 0).toNat l (s.1 - 1, s.2.1) with
          | (wt, St) => (wt, St, s.2.2.1 + 1, X_nn s.2.2.2 s.2.2.1 v i (j - i) p h)
noncomputable def X_mks (G : X_G) : Nat → X_Ms → X_Ms
  | 0, s => s
  | n + 1, s => if s.1 ≤ 0 then s else X_mks G n (X_mk G s)
/-- the reading k of tn tokens -/
noncomputable def X_rd (G : X_G) (tn : Int) (k : Nat) : X_Ms := X_mks G 30 (1, fun _ => (0, tn, -1, -1, 0, 0, 0, k), 0, fun _ _ => 0)
/-- what waits can be read -/
def X_iok (G : X_G) (tn nc : Int) (t : X_It) : Prop := (0 ≤ t.1 ∧ t.1 < t.2.1 ∧ t.2.1 ≤ tn) ∧ (-1 ≤ t.2.2.1 ∧ t.2.2.1 < nc ∨ t.2.2.1 = -1) ∧ (-1 ≤ t.2.2.2.1 ∧ t.2.2.2.1 ≤ 3) ∧ (0 ≤ t.2.2.1 → 0 ≤ t.2.2.2.1) ∧ (0 ≤ t.2.2.2.2.1 ∧ t.2.2.2.2.1 < gk G) ∧ (0 ≤ t.2.2.2.2.2.1 ∧ (t.2.2.2.2.2.1 < gw G ∨ t.2.2.2.2.2.2.1 = 0) ∧ t.2.2.2.2.2.1 < 30) ∧ (0 ≤ t.2.2.2.2.2.2.1 ∧ t.2.2.2.2.2.2.1 ≤ 2) ∧ t.2.2.2.2.2.2.2 < X_Hc G (X_T_ G) t.2.2.2.2.1 t.2.2.2.2.2.1 t.2.2.2.2.2.2.1 t.1 t.2.1 ∧ t.2.2.2.2.2.2.2 ≤ 9223372036854775807
def X_lw (St : Int → X_It) : Int → Nat := fun q => ((St q).2.1 - (St q).1).toNat
def X_Mok (G : X_G) (tn : Int) (s : X_Ms) : Prop := 0 ≤ s.1 ∧ 0 ≤ s.2.2.1 ∧ (∀ q, 0 ≤ q → q < s.1 → X_iok G tn s.2.2.1 (s.2.1 q)) ∧ s.2.2.1 + (X_Su (X_lw s.2.1) 0 s.1 : Int) ≤ tn
end
