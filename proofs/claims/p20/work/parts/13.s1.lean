/-! COUNTING. A book and a sentence: kinds, words, what is looser (bits), what is above (bits), the words' ints, their parts, the tokens -/
abbrev X_G : Type := Int × Int × (Int → Int) × (Int → Int) × (Int → Nat → Int → Int) × (Int → Int → Int64) × (Int → Int64)
def gk (G : X_G) : Int := G.1
def gw (G : X_G) : Int := G.2.1
def gl (G : X_G) : Int → Int := G.2.2.1
def ga (G : X_G) : Int → Int := G.2.2.2.1
def gD (G : X_G) : Int → Nat → Int → Int := G.2.2.2.2.1
def gW (G : X_G) : Int → Int → Int64 := G.2.2.2.2.2.1
def gt (G : X_G) : Int → Int64 := G.2.2.2.2.2.2
/-- a number where something is so -/
noncomputable def X_if (p : Prop) (n : Nat) : Nat := @ite Nat p (Classical.propDecidable _) n 0
theorem X_if_t {p : Prop} {n : Nat} (h : p) : X_if p n = n := by unfold X_if; rw [if_pos h]
theorem X_if_f {p : Prop} {n : Nat} (h : ¬ p) : X_if p n = 0 := by unfold X_if; rw [if_neg h]
theorem X_if_c {p q : Prop} {n m : Nat} (h : p ↔ q) (h2 : q → n = m) : X_if p n = X_if q m := by
  by_cases hq : q
  · rw [X_if_t hq, X_if_t (h.mpr hq), h2 hq]
  · rw [X_if_f hq, X_if_f (fun z => hq (h.mp z))]
theorem X_if_0 {p : Prop} : X_if p 0 = 0 := by
  by_cases h : p
  · exact X_if_t h
  · exact X_if_f h
/-- the sum of f from a up to b, not b -/
def X_su (f : Int → Nat) (a : Int) : Nat → Nat
  | 0 => 0
  | n + 1 => X_su f a n + f (a + n)
def X_Su (f : Int → Nat) (a b : Int) : Nat := X_su f a (b - a).toNat
theorem X_Su_e {f : Int → Nat} {a b : Int} (h : b ≤ a) : X_Su f a b = 0 := by
  unfold X_Su
  rw [show (b - a).toNat = 0 by omega]
  rfl
theorem X_Su_s {f : Int → Nat} {a b : Int} (h : a ≤ b) : X_Su f a (b + 1) = X_Su f a b + f b := by
  unfold X_Su
  rw [show (b + 1 - a).toNat = (b - a).toNat + 1 by omega]
  show X_su f a (b - a).toNat + f (a + ((b - a).toNat : Int)) = _
  rw [show a + ((b - a).toNat : Int) = b by omega]
theorem X_su_c {f g : Int → Nat} {a : Int} : ∀ n : Nat, (∀ k : Int, a ≤ k → k < a + n → f k = g k) → X_su f a n = X_su g a n := by
  intro n
  induction n with
  | zero => intro _; rfl
  | succ n ih =>
    intro h
    show X_su f a n + f (a + n) = X_su g a n + g (a + n)
    rw [ih (fun k h1 h2 => h k h1 (by omega)), h (a + n) (by omega) (by omega)]
theorem X_Su_c {f g : Int → Nat} {a b : Int} (h : ∀ k, a ≤ k → k < b → f k = g k) : X_Su f a b = X_Su g a b := X_su_c _ (fun k h1 h2 => h k h1 (by omega))
theorem X_Su_ind {a b : Int} (P : Int → Prop) (h0 : P a) (hs : ∀ k, a ≤ k → k < b → P k → P (k + 1)) (hab : a ≤ b) : P b := by
  have key : ∀ n : Nat, a + n ≤ b → P (a + n) := by
    intro n
    induction n with
    | zero => intro _; rw [show a + ((0 : Nat) : Int) = a by omega]; exact h0
    | succ n ih =>
      intro h
      rw [show a + ((n + 1 : Nat) : Int) = (a + n) + 1 by omega]
      exact hs _ (by omega) (by omega) (ih (by omega))
  have := key (b - a).toNat (by omega)
  rw [show a + ((b - a).toNat : Int) = b by omega] at this
  exact this
theorem X_Su_0 {f : Int → Nat} {a b : Int} (h : ∀ k, a ≤ k → k < b → f k = 0) : X_Su f a b = 0 := by
  by_cases hab : a ≤ b
  · refine X_Su_ind (a := a) (b := b) (fun k => k ≤ b → X_Su f a k = 0) (fun _ => X_Su_e (Int.le_refl _)) (fun k h1 h2 ih h3 => ?_) hab (Int.le_refl _)
    rw [X_Su_s h1, ih (by omega), h k h1 h2]
  · exact X_Su_e (by omega)
theorem X_Su_le {f : Int → Nat} {a b k : Int} (h1 : a ≤ k) (h2 : k < b) : f k ≤ X_Su f a b := by
  refine X_Su_ind (a := k + 1) (b := b) (fun m => f k ≤ X_Su f a m) ?_ (fun m g1 g2 ih => ?_) (by omega)
  · rw [X_Su_s h1]; omega
  · rw [X_Su_s (by omega)]; omega
theorem X_Su_p {f : Int → Nat} {a b : Int} (h : 0 < X_Su f a b) : ∃ k, a ≤ k ∧ k < b ∧ 0 < f k := by
  refine Classical.byContradiction (fun hn => ?_)
  have : X_Su f a b = 0 := X_Su_0 (fun k h1 h2 => by
    by_cases hf : 0 < f k
    · exact absurd ⟨k, h1, h2, hf⟩ hn
    · omega)
  omega
theorem X_Su_f {f : Int → Nat} {a b : Int} (h : a < b) : X_Su f a b = f a + X_Su f (a + 1) b := by
  refine X_Su_ind (a := a + 1) (b := b) (fun k => X_Su f a k = f a + X_Su f (a + 1) k) ?_ (fun k h1 h2 ih => ?_) (by omega)
  · rw [X_Su_s (Int.le_refl a), X_Su_e (Int.le_refl a), X_Su_e (Int.le_refl (a + 1))]; omega
  · rw [X_Su_s (by omega), X_Su_s h1, ih]; omega
theorem X_Su_add {f g : Int → Nat} {a b : Int} : X_Su (fun k => f k + g k) a b = X_Su f a b + X_Su g a b := by
  by_cases hab : a ≤ b
  · refine X_Su_ind (a := a) (b := b) (fun m => X_Su (fun k => f k + g k) a m = X_Su f a m + X_Su g a m) ?_ (fun m g1 g2 ih => ?_) hab
    · rw [X_Su_e (Int.le_refl a), X_Su_e (Int.le_refl a), X_Su_e (Int.le_refl a)]
    · rw [X_Su_s g1, X_Su_s g1, X_Su_s g1, ih]; omega
  · rw [X_Su_e (by omega), X_Su_e (by omega), X_Su_e (by omega)]
theorem X_Su_mul {f : Int → Nat} {c : Nat} {a b : Int} : X_Su (fun k => c * f k) a b = c * X_Su f a b := by
  by_cases hab : a ≤ b
  · refine X_Su_ind (a := a) (b := b) (fun m => X_Su (fun k => c * f k) a m = c * X_Su f a m) ?_ (fun m g1 g2 ih => ?_) hab
    · rw [X_Su_e (Int.le_refl a), X_Su_e (Int.le_refl a)]; rfl
    · rw [X_Su_s g1, X_Su_s g1, ih, Nat.mul_add]
  · rw [X_Su_e (by omega), X_Su_e (by omega)]; rfl
/-- two sums, one in the other -/
theorem X_Su_sw {f : Int → Int → Nat} {a b c d : Int} : X_Su (fun k => X_Su (fun m => f k m) c d) a b = X_Su (fun m => X_Su (fun k => f k m) a b) c d := by
  by_cases hab : a ≤ b
  · refine X_Su_ind (a := a) (b := b) (fun x => X_Su (fun k => X_Su (fun m => f k m) c d) a x = X_Su (fun m => X_Su (fun k => f k m) a x) c d) ?_ (fun x g1 g2 ih => ?_) hab
    · rw [X_Su_e (Int.le_refl a)]
      exact (X_Su_0 (fun k _ _ => X_Su_e (Int.le_refl a))).symm
    · rw [X_Su_s g1, ih, ← X_Su_add]
      exact X_Su_c (fun k _ _ => (X_Su_s g1).symm)
  · rw [X_Su_e (by omega)]
    exact (X_Su_0 (fun k _ _ => X_Su_e (by omega))).symm
theorem X_Su_one {f : Int → Nat} {a b x : Int} (h1 : a ≤ x) (h2 : x < b) (h : ∀ k, a ≤ k → k < b → k ≠ x → f k = 0) : X_Su f a b = f x := by
  have e : X_Su f a (x + 1) = f x := by
    rw [X_Su_s h1, X_Su_0 (fun k g1 g2 => h k g1 (by omega) (by omega))]; omega
  refine X_Su_ind (a := x + 1) (b := b) (fun m => X_Su f a m = f x) e (fun m g1 g2 ih => ?_) (by omega)
  rw [X_Su_s (by omega), ih, h m (by omega) g2 (by omega)]; rfl
/-- how a token's digits are read: the value of its first m bytes, -1 if one is no digit -/
def X_tb (t : Int64) (s : Int) : Int := (t >>> ((iI s).toInt64 &&& 63) &&& iL 255).toInt32.toInt
def X_nvl (t : Int64) : Nat → Int
  | 0 => 0
  | m + 1 => if X_nvl t m = -1 then -1 else if X_tb t (56 - 8 * m) = 0 then X_nvl t m else if X_tb t (56 - 8 * m) < 48 ∨ 57 < X_tb t (56 - 8 * m) then -1 else X_nvl t m * 10 + X_tb t (56 - 8 * m) - 48
/-- a token's value, -1 if it is no number -/
def X_nv (t : Int64) : Int := X_nvl t 8
/-- by its rank, word v may stand in an end (1 the first, 2 the last; 0: no end) of word o -/
def X_lt (G : X_G) (o en v : Int) : Prop := en = 0 ∨ X_en (gD G v) (gW G v) = 0 ∨ X_bt (gl G (gD G v 0 0)) (gD G o 0 0) ∨ (gD G v 0 0 = gD G o 0 0 ∧ gD G o 1 0 = en)
/-- which end the hole at element e is -/
def X_eo (G : X_G) (w e : Int) : Int := if e = 0 then 1 else if e = gD G w 3 0 - 1 then 2 else 0
abbrev X_TT : Type := (Int → Int → Int → Nat) × (Int → Int → Int → Nat)
/-- a number alone, of kind k -/
noncomputable def X_nm (G : X_G) (k i j : Int) : Nat := X_if (j = i + 1 ∧ 0 ≤ X_nv (gt G i) ∧ k = bI (1 < gk G)) 1
/-- numbers and brackets of the kinds that are under u -/
noncomputable def X_Hq (G : X_G) (T : X_TT) (u i j : Int) : Nat := X_Su (fun k => X_if (X_bt (ga G k) u) (X_nm G k i j + T.2 k i j)) 0 (gk G)
noncomputable def X_Hv (G : X_G) (T : X_TT) (u o en i j : Int) : Nat := X_Su (fun v => X_if (X_bt (ga G (gD G v 2 0)) u ∧ X_lt G o en v) (T.1 v i j)) 0 (gw G)
/-- what is taken where kinds under u are, at an end (en) of word o -/
noncomputable def X_Hc (G : X_G) (T : X_TT) (u o en i j : Int) : Nat := X_Hq G T u i j + X_Hv G T u o en i j
/-- what the hole at element e of word w takes -/
noncomputable def X_Hw (G : X_G) (T : X_TT) (w e i j : Int) : Nat := X_Hc G T (gD G w 9 (gD G w 8 e)) w (X_eo G w e) i j
/-- the ways of the last r elements of w for the tokens from p up to j -/
noncomputable def X_El (G : X_G) (T : X_TT) (w : Int) : Nat → Int → Int → Nat
  | 0, p, j => if p = j then 1 else 0
  | r + 1, p, j => if gW G w (gD G w 3 0 - (r + 1)) = 0 then X_Su (fun q => X_Hw G T w (gD G w 3 0 - (r + 1)) p q * X_El G T w r q j) (p + 1) (j + 1)
    else X_if (p < j ∧ gt G p = gW G w (gD G w 3 0 - (r + 1))) (X_El G T w r (p + 1) j)
/-- from element e on -/
noncomputable def X_Ew (G : X_G) (T : X_TT) (w e p j : Int) : Nat := X_El G T w (gD G w 3 0 - e).toNat p j
/-- all of just kind k -/
noncomputable def X_Kd (G : X_G) (T : X_TT) (k i j : Int) : Nat := X_nm G k i j + T.2 k i j + X_Su (fun v => X_if (gD G v 2 0 = k) (T.1 v i j)) 0 (gw G)
def X_brk (G : X_G) (i j : Int) : Prop := 3 ≤ j - i ∧ gt G i = iL 40 ∧ gt G (j - 1) = iL 41
noncomputable def X_Tb (G : X_G) : Nat → X_TT
  | 0 => (fun _ _ _ => 0, fun _ _ _ => 0)
  | n + 1 => (fun w i j => if j - i ≤ n then (X_Tb G n).1 w i j else X_Ew G (X_Tb G n) w 0 i j, fun k i j => if j - i ≤ n then (X_Tb G n).2 k i j else X_if (X_brk G i j) (X_Kd G (X_Tb G n) k (i + 1) (j - 1)))
/-- the readings of each word, the brackets of each kind -/
noncomputable def X_T_ (G : X_G) : X_TT := X_Tb G 30
noncomputable def X_all (G : X_G) (i j : Int) : Nat := X_Su (fun k => X_Kd G (X_T_ G) k i j) 0 (gk G)
theorem X_Ew_e {G : X_G} {T : X_TT} {w e p j : Int} (h : e = gD G w 3 0) : X_Ew G T w e p j = if p = j then 1 else 0 := by
  unfold X_Ew
  rw [h, show (gD G w 3 0 - gD G w 3 0).toNat = 0 by omega]
  rfl
theorem X_Ew_h {G : X_G} {T : X_TT} {w e p j : Int} (h : e < gD G w 3 0) (hq : gW G w e = 0) : X_Ew G T w e p j = X_Su (fun q => X_Hw G T w e p q * X_Ew G T w (e + 1) q j) (p + 1) (j + 1) := by
  have e1 : (gD G w 3 0 - e).toNat = (gD G w 3 0 - (e + 1)).toNat + 1 := by omega
  unfold X_Ew
  rw [e1]
  have e2 : gD G w 3 0 - (((gD G w 3 0 - (e + 1)).toNat : Int) + 1) = e := by omega
  show (if gW G w (gD G w 3 0 - (((gD G w 3 0 - (e + 1)).toNat : Int) + 1)) = 0 then _ else _) = _
  rw [e2, if_pos hq]
theorem X_Ew_p {G : X_G} {T : X_TT} {w e p j : Int} (h : e < gD G w 3 0) (hq : ¬ gW G w e = 0) : X_Ew G T w e p j = X_if (p < j ∧ gt G p = gW G w e) (X_Ew G T w (e + 1) (p + 1) j) := by
  have e1 : (gD G w 3 0 - e).toNat = (gD G w 3 0 - (e + 1)).toNat + 1 := by omega
  unfold X_Ew
  rw [e1]
  have e2 : gD G w 3 0 - (((gD G w 3 0 - (e + 1)).toNat : Int) + 1) = e := by omega
  show (if gW G w (gD G w 3 0 - (((gD G w 3 0 - (e + 1)).toNat : Int) + 1)) = 0 then _ else _) = _
  rw [e2, if_neg hq]
/-- tables that agree on the stretches of at most n tokens -/
def X_ag2 (n : Int) (T T' : X_TT) : Prop := ∀ i j, j - i ≤ n → (∀ w, T.1 w i j = T'.1 w i j) ∧ (∀ k, T.2 k i j = T'.2 k i j)
theorem X_Hc_c {G : X_G} {n : Int} {T T' : X_TT} (h : X_ag2 n T T') {u o en i j : Int} (hn : j - i ≤ n) : X_Hc G T u o en i j = X_Hc G T' u o en i j := by
  unfold X_Hc X_Hq X_Hv
  rw [X_Su_c (f := fun k => X_if (X_bt (ga G k) u) (X_nm G k i j + T.2 k i j)) (g := fun k => X_if (X_bt (ga G k) u) (X_nm G k i j + T'.2 k i j)) (fun k _ _ => by simp only [(h i j hn).2 k]),
    X_Su_c (f := fun v => X_if (X_bt (ga G (gD G v 2 0)) u ∧ X_lt G o en v) (T.1 v i j)) (g := fun v => X_if (X_bt (ga G (gD G v 2 0)) u ∧ X_lt G o en v) (T'.1 v i j)) (fun k _ _ => by simp only [(h i j hn).1 k])]
theorem X_Hw_c {G : X_G} {n : Int} {T T' : X_TT} (h : X_ag2 n T T') {w e i j : Int} (hn : j - i ≤ n) : X_Hw G T w e i j = X_Hw G T' w e i j := X_Hc_c h hn
theorem X_Kd_c {G : X_G} {n : Int} {T T' : X_TT} (h : X_ag2 n T T') {k i j : Int} (hn : j - i ≤ n) : X_Kd G T k i j = X_Kd G T' k i j := by
  unfold X_Kd
  rw [(h i j hn).2 k, X_Su_c (f := fun v => X_if (gD G v 2 0 = k) (T.1 v i j)) (g := fun v => X_if (gD G v 2 0 = k) (T'.1 v i j)) (fun v _ _ => by simp only [(h i j hn).1 v])]
theorem X_El_0 {G : X_G} {T : X_TT} {w : Int} {r : Nat} {p j : Int} (h : j < p + r) : X_El G T w r p j = 0 := by
  induction r generalizing p with
  | zero =>
    show (if p = j then 1 else 0) = 0
    rw [if_neg (by omega)]
  | succ r ih =>
    unfold X_El
    split
    · refine X_Su_0 (fun q h1 h3 => ?_)
      rw [ih (by omega)]; rfl
    · rw [ih (by omega)]
      exact X_if_0
theorem X_El_c {G : X_G} {n : Int} {T T' : X_TT} (h : X_ag2 n T T') {w : Int} : ∀ (r : Nat) (p j : Int), j - p ≤ n → X_El G T w r p j = X_El G T' w r p j := by
  intro r
  induction r with
  | zero => intro p j _; rfl
  | succ r ih =>
    intro p j hn
    unfold X_El
    split
    · refine X_Su_c (fun q h1 h2 => ?_)
      rw [X_Hw_c h (by omega), ih q j (by omega)]
    · rw [ih (p + 1) j (by omega)]
/-- the whole word needs no hole over the whole stretch -/
theorem X_El_c1 {G : X_G} {n : Int} {T T' : X_TT} (h : X_ag2 n T T') {w : Int} {r : Nat} {p j : Int} (hn : j - p ≤ n + 1) (hr : 0 < r ∨ ¬ gW G w (gD G w 3 0 - (r + 1)) = 0) : X_El G T w (r + 1) p j = X_El G T' w (r + 1) p j := by
  unfold X_El
  split
  · refine X_Su_c (fun q h1 h2 => ?_)
    by_cases hq : q = j
    · subst hq
      have hr : 0 < r := by
        rcases hr with hr | hr
        · exact hr
        · exact absurd (by assumption) hr
      rw [X_El_0 (by omega), X_El_0 (by omega)]; rfl
    · rw [X_Hw_c h (by omega), X_El_c h r q j (by omega)]
  · rw [X_El_c h r (p + 1) j (by omega)]
theorem X_Tb_n {G : X_G} : ∀ (n m : Nat), n ≤ m → X_ag2 n (X_Tb G n) (X_Tb G m) := by
  intro n m hm
  induction m with
  | zero =>
    rw [show n = 0 by omega]
    exact fun i j _ => ⟨fun _ => rfl, fun _ => rfl⟩
  | succ m ih =>
    by_cases hn : n = m + 1
    · subst hn
      exact fun i j _ => ⟨fun _ => rfl, fun _ => rfl⟩
    · intro i j hij
      have := ih (by omega) i j hij
      constructor
      · intro w
        show _ = if j - i ≤ m then (X_Tb G m).1 w i j else _
        rw [if_pos (by omega)]
        exact this.1 w
      · intro k
        show _ = if j - i ≤ m then (X_Tb G m).2 k i j else _
        rw [if_pos (by omega)]
        exact this.2 k
/-- a word has a part: one element is no hole -/
def X_pw (G : X_G) (w : Int) : Prop := 1 ≤ gD G w 3 0 ∧ (1 < gD G w 3 0 ∨ ¬ gW G w 0 = 0)
theorem X_T_W {G : X_G} {w i j : Int} (hw : X_pw G w) (h : i < j) (h30 : j - i ≤ 30) : (X_T_ G).1 w i j = X_Ew G (X_T_ G) w 0 i j := by
  obtain ⟨m, hm⟩ : ∃ m : Nat, j - i = (m : Int) + 1 := ⟨(j - i - 1).toNat, by omega⟩
  have e1 : (X_T_ G).1 w i j = (X_Tb G (m + 1)).1 w i j := ((X_Tb_n (G := G) (m + 1) 30 (by omega) i j (by omega)).1 w).symm
  have e2 : (X_Tb G (m + 1)).1 w i j = X_Ew G (X_Tb G m) w 0 i j := by
    show (if j - i ≤ m then _ else _) = _
    rw [if_neg (by omega)]
  rw [e1, e2]
  unfold X_Ew
  obtain ⟨h1, h2⟩ := hw
  obtain ⟨r, hr⟩ : ∃ r : Nat, (gD G w 3 0 - 0).toNat = r + 1 := ⟨(gD G w 3 0 - 1).toNat, by omega⟩
  rw [hr]
  refine X_El_c1 (X_Tb_n m 30 (by omega)) (by omega) ?_
  rw [show gD G w 3 0 - ((r : Int) + 1) = 0 by omega]
  rcases h2 with h2 | h2
  · exact Or.inl (by omega)
  · exact Or.inr h2
theorem X_T_B {G : X_G} {k i j : Int} (h : i < j) (h30 : j - i ≤ 30) : (X_T_ G).2 k i j = X_if (X_brk G i j) (X_Kd G (X_T_ G) k (i + 1) (j - 1)) := by
  obtain ⟨m, hm⟩ : ∃ m : Nat, j - i = (m : Int) + 1 := ⟨(j - i - 1).toNat, by omega⟩
  have e1 : (X_T_ G).2 k i j = (X_Tb G (m + 1)).2 k i j := ((X_Tb_n (G := G) (m + 1) 30 (by omega) i j (by omega)).2 k).symm
  have e2 : (X_Tb G (m + 1)).2 k i j = X_if (X_brk G i j) (X_Kd G (X_Tb G m) k (i + 1) (j - 1)) := by
    show (if j - i ≤ m then _ else _) = _
    rw [if_neg (by omega)]
  rw [e1, e2]
  exact X_if_c Iff.rfl (fun _ => X_Kd_c (X_Tb_n m 30 (by omega)) (by omega))
/-- all readings: numbers and brackets, then words -/
theorem X_all_e {G : X_G} {i j : Int} (hD : ∀ v, 0 ≤ v → v < gw G → 0 ≤ gD G v 2 0 ∧ gD G v 2 0 < gk G) : X_all G i j = X_Su (fun k => X_nm G k i j + (X_T_ G).2 k i j) 0 (gk G) + X_Su (fun v => (X_T_ G).1 v i j) 0 (gw G) := by
  unfold X_all X_Kd
  rw [X_Su_add, X_Su_sw]
  congr 1
  refine X_Su_c (fun v h1 h2 => ?_)
  have := hD v h1 h2
  rw [X_Su_one (x := gD G v 2 0) this.1 this.2 (fun k _ _ hk => X_if_f (fun z => hk z.symm)), X_if_t rfl]
/-- a word's readings where it takes too few -/
theorem X_Ew_0 {G : X_G} {T : X_TT} {w e p j : Int} (h : j - p < gD G w 3 0 - e) : X_Ew G T w e p j = 0 := by
  unfold X_Ew
  exact X_El_0 (by omega)
