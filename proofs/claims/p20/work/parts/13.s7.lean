/-! READINGS. the place in a row of counts where a number falls -/
def X_fd (F : Int → Nat) : Nat → Int → Nat → Int × Nat
  | 0, a, k => (a, k)
  | n + 1, a, k => if k < F a then (a, k) else X_fd F n (a + 1) (k - F a)
theorem X_fd_u {F : Int → Nat} : ∀ (n : Nat) (a x : Int) (k r : Nat), a ≤ x → x < a + n → k = X_Su F a x + r → r < F x → X_fd F n a k = (x, r) := by
  intro n
  induction n with
  | zero => intro a x k r h1 h2 h3 h4; omega
  | succ n ih =>
    intro a x k r h1 h2 h3 h4
    unfold X_fd
    by_cases hx : a = x
    · subst hx
      rw [X_Su_e (Int.le_refl a)] at h3
      rw [show k = r by omega, if_pos h4]
    · rw [X_Su_f (show a < x by omega)] at h3
      rw [if_neg (by omega)]
      exact ih (a + 1) x (k - F a) r (by omega) (by omega) (by omega) h4
theorem X_fd_s {F : Int → Nat} : ∀ (n : Nat) (a : Int) (k : Nat), k < X_Su F a (a + n) → ∃ x r, X_fd F n a k = (x, r) ∧ a ≤ x ∧ x < a + n ∧ k = X_Su F a x + r ∧ r < F x := by
  intro n
  induction n with
  | zero => intro a k h; rw [X_Su_e (by omega)] at h; omega
  | succ n ih =>
    intro a k h
    unfold X_fd
    by_cases hk : k < F a
    · rw [if_pos hk]
      exact ⟨a, k, rfl, Int.le_refl a, by omega, by rw [X_Su_e (Int.le_refl a)]; omega, hk⟩
    · rw [if_neg hk]
      rw [X_Su_f (show a < a + ((n + 1 : Nat) : Int) by omega), show a + ((n + 1 : Nat) : Int) = (a + 1) + n by omega] at h
      obtain ⟨x, r, h1, h2, h3, h4, h5⟩ := ih (a + 1) (k - F a) (by omega)
      refine ⟨x, r, h1, by omega, by omega, ?_, h5⟩
      rw [X_Su_f (show a < x by omega)]
      omega
/-- which end the hole h of a word is -/
def X_eh (G : X_G) (w h : Int) : Int := if h = 0 ∧ gW G w 0 = 0 then 1 else if h = gD G w 4 0 - 1 ∧ gW G w (gD G w 3 0 - 1) = 0 then 2 else 0
noncomputable def X_Hh (G : X_G) (w h i j : Int) : Nat := X_Hc G (X_T_ G) (gD G w 9 h) w (X_eh G w h) i j
theorem X_eo_h {G : X_G} {w e : Int} (hg : X_gw G w) (h1 : 0 ≤ e) (h2 : e < gD G w 3 0) (h3 : gW G w e = 0) : X_eo G w e = X_eh G w (gD G w 8 e) := by
  have hh := hg.hole h1 h2 h3
  have hb := hg.2.1
  have hs := hg.1
  have hn := hg.2.2.2.2.2.2
  have e1 := hn.2.1 e h1 h2 h3
  have e2 := hn.1
  unfold X_eo X_eh
  by_cases h0 : e = 0
  · subst h0
    have z : gD G w 8 0 = 0 := by rw [e1]; rfl
    rw [if_pos rfl, if_pos ⟨z, h3⟩]
  · rw [if_neg h0]
    have n1 : ¬ (gD G w 8 e = 0 ∧ gW G w 0 = 0) := by
      rintro ⟨a1, a2⟩
      have := X_hn_l (q := gW G w) (a := 0) (b := e) (by omega) (by omega) a2
      have z : X_hn (gW G w) 0 = 0 := rfl
      omega
    rw [if_neg n1]
    by_cases hl : e = gD G w 3 0 - 1
    · rw [if_pos hl, if_pos]
      refine ⟨?_, by rw [← hl]; exact h3⟩
      have s := X_hn_s (q := gW G w) (e := e) h1
      rw [if_pos h3, show e + 1 = gD G w 3 0 by omega] at s
      omega
    · rw [if_neg hl, if_neg]
      rintro ⟨a1, a2⟩
      have s := X_hn_l (q := gW G w) (a := e) (b := gD G w 3 0 - 1) h1 (by omega) h3
      have s2 := X_hn_s (q := gW G w) (e := gD G w 3 0 - 1) (by omega)
      rw [if_pos a2, show gD G w 3 0 - 1 + 1 = gD G w 3 0 by omega] at s2
      omega
theorem X_Hw_h {G : X_G} {w e i j : Int} (hg : X_gw G w) (h1 : 0 ≤ e) (h2 : e < gD G w 3 0) (h3 : gW G w e = 0) : X_Hw G (X_T_ G) w e i j = X_Hh G w (gD G w 8 e) i j := by
  unfold X_Hw X_Hh
  rw [X_eo_h hg h1 h2 h3]
/-- what stands in no end takes all that is under u -/
theorem X_Hc_all {G : X_G} {o i j : Int} (hG : X_Gok G) : X_Hc G (X_T_ G) 0 o 0 i j = X_all G i j := by
  rw [X_all_e hG.kd]
  unfold X_Hc X_Hq X_Hv
  congr 1
  · exact X_Su_c (fun k h1 h2 => X_if_t (hG.2.2.1.1 k h1 h2).1)
  · exact X_Su_c (fun v h1 h2 => X_if_t ⟨(hG.2.2.1.1 _ (hG.kd v h1 h2).1 (hG.kd v h1 h2).2).1, Or.inl rfl⟩)
theorem X_if_if {p q : Prop} {n : Nat} : X_if p (X_if q n) = X_if (p ∧ q) n := by
  by_cases hp : p
  · rw [X_if_t hp]
    exact X_if_c ⟨fun z => ⟨hp, z⟩, fun z => z.2⟩ (fun _ => rfl)
  · rw [X_if_f hp, X_if_f (fun z => hp z.1)]
theorem X_if_a {p : Prop} {n m : Nat} : X_if p (n + m) = X_if p n + X_if p m := by
  by_cases hp : p
  · rw [X_if_t hp, X_if_t hp, X_if_t hp]
  · rw [X_if_f hp, X_if_f hp, X_if_f hp]
theorem X_if_Su {p : Prop} {f : Int → Nat} {a b : Int} : X_if p (X_Su f a b) = X_Su (fun k => X_if p (f k)) a b := by
  by_cases hp : p
  · rw [X_if_t hp]
    exact X_Su_c (fun k _ _ => (X_if_t hp).symm)
  · rw [X_if_f hp]
    exact (X_Su_0 (fun k _ _ => X_if_f hp)).symm
theorem X_Hq_b {G : X_G} {u i j : Int} (hG : X_Gok G) (h : i < j) (h30 : j - i ≤ 30) (hj : ¬ j = i + 1) : X_Hq G (X_T_ G) u i j = X_if (X_brk G i j) (X_Hc G (X_T_ G) u 0 0 (i + 1) (j - 1)) := by
  unfold X_Hq
  rw [X_Su_c (g := fun k => X_if (X_brk G i j) (X_if (X_bt (ga G k) u) (X_Kd G (X_T_ G) k (i + 1) (j - 1)))) (fun k h1 h2 => by
    rw [(X_nmB (k := k) h h30).2 hj, X_if_if, X_if_if]
    exact X_if_c ⟨fun z => ⟨z.2, z.1⟩, fun z => ⟨z.2, z.1⟩⟩ (fun _ => rfl)), ← X_if_Su]
  refine X_if_c Iff.rfl (fun _ => ?_)
  unfold X_Hc X_Hq X_Hv X_Kd
  rw [X_Su_c (g := fun k => X_if (X_bt (ga G k) u) (X_nm G k (i + 1) (j - 1) + (X_T_ G).2 k (i + 1) (j - 1)) + X_Su (fun v => X_if (X_bt (ga G k) u) (X_if (gD G v 2 0 = k) ((X_T_ G).1 v (i + 1) (j - 1)))) 0 (gw G)) (fun k h1 h2 => by
    rw [X_if_a, X_if_Su]), X_Su_add, X_Su_sw]
  congr 1
  refine X_Su_c (fun v h1 h2 => ?_)
  have hd := hG.kd v h1 h2
  rw [X_Su_one (x := gD G v 2 0) hd.1 hd.2 (fun k _ _ hk => by rw [X_if_f (p := gD G v 2 0 = k) (fun z => hk z.symm)]; exact X_if_0), X_if_t (p := gD G v 2 0 = gD G v 2 0) rfl]
  exact X_if_c ⟨fun z => ⟨z, Or.inl rfl⟩, fun z => z.1⟩ (fun _ => rfl)
/-- what is to be read: from, to, the node that it is in, the hole, the kinds (under u), the word and its end, the number -/
abbrev X_It : Type := Int × Int × Int × Int × Int × Int × Int × Nat
/-- how many wait, these; how many nodes, these (0 word, 1 first, 2 tokens, 3 node, 4 hole) -/
abbrev X_Ms : Type := Int × (Int → X_It) × Int × (Int → Int → Int)
def X_nn (N : Int → Int → Int) (nc w i l p h : Int) : Int → Int → Int := fun f n => if n = nc then (if f = 0 then w else if f = 1 then i else if f = 2 then l else if f = 3 then p else h) else N f n
noncomputable def X_spl (G : X_G) (w j : Int) : Nat → Int → Int → Nat → Nat → (Int → Int) → (Int → Int) → Nat × (Int → Int) × (Int → Int)
  | 0, _, _, l, _, HF, HE => (l, HF, HE)
  | n + 1, e, p, l, b, HF, HE => if gW G w e = 0 then
      X_spl G w j n (e + 1) (X_fd (fun m => b * X_Hw G (X_T_ G) w e p m * X_Ew G (X_T_ G) w (e + 1) m j) (j - p).toNat (p + 1) l).1 (X_fd (fun m => b * X_Hw G (X_T_ G) w e p m * X_Ew G (X_T_ G) w (e + 1) m j) (j - p).toNat (p + 1) l).2 (b * X_Hw G (X_T_ G) w e p (X_fd (fun m => b * X_Hw G (X_T_ G) w e p m * X_Ew G (X_T_ G) w (e + 1) m j) (j - p).toNat (p + 1) l).1)
        (X_ug HF (gD G w 8 e) p) (X_ug HE (gD G w 8 e) (X_fd (fun m => b * X_Hw G (X_T_ G) w e p m * X_Ew G (X_T_ G) w (e + 1) m j) (j - p).toNat (p + 1) l).1)
    else X_spl G w j n (e + 1) (p + 1) l b HF HE
noncomputable def X_pus (G : X_G) (w node : Int) (HF HE : Int → Int) : Nat → Nat → Int × (Int → X_It) → Int × (Int → X_It)
  | 0, _, s => s
  | h + 1, l, s => X_pus G w node HF HE h (l / X_Hh G w h (HF h) (HE h)) (s.1 + 1, X_ug s.2 s.1 (HF h, HE h, node, h, gD G w 9 h, w, X_eh G w h, l % X_Hh G w h (HF h) (HE h)))
noncomputable def X_cF (G : X_G) (u o en i j : Int) : Int → Nat := fun v => X_if (X_bt (ga G (gD G v 2 0)) u ∧ X_lt G o en v) ((X_T_ G).1 v i j)
/-- one more node -/
noncomputable def X_mk (G : X_G) (s : X_Ms) : X_Ms :=
  match s.2.1 (s.1 - 1) with
  | (i, j, p, h, u, o, en, k) =>
    if k < X_Hq G (X_T_ G) u i j then (if j = i + 1 then (s.1 - 1, s.2.1, s.2.2.1 + 1, X_nn s.2.2.2 s.2.2.1 (-2) i (j - i) p h) else (s.1, X_ug s.2.1 (s.1 - 1) (i + 1, j - 1, s.2.2.1, 0, u, 0, 0, k), s.2.2.1 + 1, X_nn s.2.2.2 s.2.2.1 (-3) i (j - i) p h))
    else match X_fd (X_cF G u o en i j) (gw G).toNat 0 (k - X_Hq G (X_T_ G) u i j) with
      | (v, k2) => match X_spl G v j (gD G v 3 0).toNat 0 i k2 1 (fun _ => 0) (fun _ => 0) with
        | (l, HF, HE) => match X_pus G v s.2.2.1 HF HE (gD G v 4 0).toNat l (s.1 - 1, s.2.1) with
          | (wt, St) => (wt, St, s.2.2.1 + 1, X_nn s.2.2.2 s.2.2.1 v i (j - i) p h)
noncomputable def X_mks (G : X_G) : Nat → X_Ms → X_Ms
  | 0, s => s
  | n + 1, s => if s.1 ≤ 0 then s else X_mks G n (X_mk G s)
/-- the reading k of tn tokens -/
noncomputable def X_rd (G : X_G) (tn : Int) (k : Nat) : X_Ms := X_mks G 30 (1, fun _ => (0, tn, -1, -1, 0, 0, 0, k), 0, fun _ _ => 0)
/-- what waits can be read -/
def X_iok (G : X_G) (tn nc : Int) (t : X_It) : Prop := (0 ≤ t.1 ∧ t.1 < t.2.1 ∧ t.2.1 ≤ tn) ∧ (-1 ≤ t.2.2.1 ∧ t.2.2.1 < nc ∨ t.2.2.1 = -1) ∧ (-1 ≤ t.2.2.2.1 ∧ t.2.2.2.1 ≤ 3) ∧ (0 ≤ t.2.2.1 → 0 ≤ t.2.2.2.1) ∧ (0 ≤ t.2.2.2.2.1 ∧ t.2.2.2.2.1 < gk G) ∧ (0 ≤ t.2.2.2.2.2.1 ∧ (t.2.2.2.2.2.1 < gw G ∨ t.2.2.2.2.2.2.1 = 0) ∧ t.2.2.2.2.2.1 < 30) ∧ (0 ≤ t.2.2.2.2.2.2.1 ∧ t.2.2.2.2.2.2.1 ≤ 2) ∧ t.2.2.2.2.2.2.2 < X_Hc G (X_T_ G) t.2.2.2.2.1 t.2.2.2.2.2.1 t.2.2.2.2.2.2.1 t.1 t.2.1 ∧ t.2.2.2.2.2.2.2 ≤ 9223372036854775807
def X_lw (St : Int → X_It) : Int → Nat := fun q => ((St q).2.1 - (St q).1).toNat
def X_Mok (G : X_G) (tn : Int) (s : X_Ms) : Prop := 0 ≤ s.1 ∧ 0 ≤ s.2.2.1 ∧ (∀ q, 0 ≤ q → q < s.1 → X_iok G tn s.2.2.1 (s.2.1 q)) ∧ s.2.2.1 + (X_Su (X_lw s.2.1) 0 s.1 : Int) ≤ tn
