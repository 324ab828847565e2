/-! p20: the tokens of a text, by a program over its bytes -/
def V_a (L : List Int) (p : Nat) : Int := match L[p]? with
  | some x => x
  | none => -1
theorem V_at_a {len : Int} {tb : Int → Int} {L : List Int} (h : V_tp len tb L) (p : Nat) : X_at tb len (p : Int) = V_a L p := by
  unfold V_a
  cases hx : L[p]? with
  | some x => exact V_tp_at h hx
  | none =>
    have h1 := List.getElem?_eq_none_iff.mp hx
    have h2 := h.1
    exact X_at_out (by omega)
def V_sf (P : Int → Bool) (L : List Int) : Nat → Nat → Nat
  | 0, p => p
  | n + 1, p => if p < L.length ∧ P (V_a L p) = true then V_sf P L n (p + 1) else p
theorem V_sf_e {len : Int} {tb : Int → Int} {L : List Int} {P' : Int → Prop} {P : Int → Bool} (hP : ∀ c, P' c ↔ P c = true) (h : V_tp len tb L) : ∀ (n p : Nat), X_sf P' tb len n (p : Int) = ((V_sf P L n p : Nat) : Int) := by
  intro n
  induction n with
  | zero => intro p; rfl
  | succ n ih =>
    intro p
    show @ite Int ((p : Int) < len ∧ P' (X_at tb len p)) (Classical.propDecidable _) (X_sf P' tb len n ((p : Int) + 1)) p = ((if p < L.length ∧ P (V_a L p) = true then V_sf P L n (p + 1) else p : Nat) : Int)
    have hl := h.1
    by_cases hc : p < L.length ∧ P (V_a L p) = true
    · rw [if_pos hc, if_pos ⟨by omega, by rw [V_at_a h]; exact (hP _).mpr hc.2⟩]
      exact ih (p + 1)
    · rw [if_neg hc, if_neg (fun z => hc ⟨by omega, (hP _).mp (by rw [← V_at_a h]; exact z.2)⟩)]
def V_se (P : Int → Bool) (L : List Int) (p : Nat) : Nat := V_sf P L (L.length - p) p
theorem V_se_e {len : Int} {tb : Int → Int} {L : List Int} {P' : Int → Prop} {P : Int → Bool} (hP : ∀ c, P' c ↔ P c = true) (h : V_tp len tb L) (p : Nat) : X_se P' tb len (p : Int) = ((V_se P L p : Nat) : Int) := by
  unfold X_se V_se
  rw [show (len - (p : Int)).toNat = L.length - p by have := h.1; omega]
  exact V_sf_e hP h _ _
def V_iL (c : Int) : Bool := decide (97 ≤ c ∧ c ≤ 122)
def V_iD (c : Int) : Bool := decide (48 ≤ c ∧ c ≤ 57)
def V_iLD (c : Int) : Bool := decide ((97 ≤ c ∧ c ≤ 122) ∨ (48 ≤ c ∧ c ≤ 57))
def V_iBl (c : Int) : Bool := decide (c = 32 ∨ c = 10)
def V_iPB (c : Int) : Bool := decide (33 ≤ c ∧ c ≤ 126 ∧ c ≠ 34 ∧ c ≠ 40 ∧ c ≠ 41)
def V_iS (c : Int) : Bool := decide (c = 37 ∨ c = 42 ∨ c = 43 ∨ c = 45 ∨ c = 47 ∨ c = 58 ∨ c = 59 ∨ c = 60 ∨ c = 61 ∨ c = 64 ∨ c = 95)
theorem V_iL_e (c : Int) : X_isL c ↔ V_iL c = true := by
  unfold X_isL V_iL
  exact decide_eq_true_iff.symm
theorem V_iD_e (c : Int) : X_isD c ↔ V_iD c = true := by
  unfold X_isD V_iD
  exact decide_eq_true_iff.symm
theorem V_iLD_e (c : Int) : X_isLD c ↔ V_iLD c = true := by
  unfold X_isLD X_isL X_isD V_iLD
  exact decide_eq_true_iff.symm
theorem V_iBl_e (c : Int) : X_isBl c ↔ V_iBl c = true := by
  unfold X_isBl V_iBl
  exact decide_eq_true_iff.symm
theorem V_iPB_e (c : Int) : X_isPB c ↔ V_iPB c = true := by
  unfold X_isPB V_iPB
  exact decide_eq_true_iff.symm
theorem V_iS_e (c : Int) : X_isSg c ↔ V_iS c = true := by
  unfold X_isSg V_iS
  exact decide_eq_true_iff.symm
def V_pk (L : List Int) (p : Nat) : Nat → Int64
  | 0 => 0
  | n + 1 => X_pk1 (V_pk L p n) (V_a L (p + n))
theorem V_pk_e {len : Int} {tb : Int → Int} {L : List Int} (h : V_tp len tb L) (p : Nat) : ∀ n : Nat, X_pk tb len (p : Int) n = V_pk L p n := by
  intro n
  induction n with
  | zero => rfl
  | succ n ih =>
    show X_pk1 (X_pk tb len (p : Int) n) (X_at tb len ((p : Int) + (n : Int))) = X_pk1 (V_pk L p n) (V_a L (p + n))
    rw [ih, show (p : Int) + (n : Int) = ((p + n : Nat) : Int) by omega, V_at_a h]
def V_res (n : Int64) : Bool := decide (n = Int64.ofNat 1918987883 ∨ n = Int64.ofNat 32766990153442674 ∨ n = Int64.ofNat 1802071652 ∨ n = Int64.ofNat 504363246962 ∨ n = Int64.ofNat 2003792484 ∨ n = Int64.ofNat 1818584692 ∨ n = Int64.ofNat 491394656372)
theorem V_res_e (n : Int64) : X_res n ↔ V_res n = true := by
  unfold X_res V_res
  exact decide_eq_true_iff.symm
def V_tk (L : List Int) (p : Nat) : Option (Int × Int64 × Nat) :=
  if V_a L p = -1 then some (0, 0, p)
  else if V_iL (V_a L p) = true then (if V_se V_iLD L p - p ≤ 8 then (if V_res (V_pk L p (V_se V_iLD L p - p)) = true then some (3, V_pk L p (V_se V_iLD L p - p), V_se V_iLD L p) else some (2, V_pk L p (V_se V_iLD L p - p), V_se V_iLD L p)) else none)
  else if V_a L p = 34 then (if V_a L (V_se V_iPB L (p + 1)) = 34 ∧ V_se V_iPB L (p + 1) - (p + 1) ≤ 8 ∧ p + 1 < V_se V_iPB L (p + 1) ∧ V_iD (V_a L (p + 1)) = false then some (6, V_pk L (p + 1) (V_se V_iPB L (p + 1) - (p + 1)), V_se V_iPB L (p + 1) + 1) else none)
  else if V_iS (V_a L p) = true ∧ ¬ (V_a L p = 95 ∧ V_iLD (V_a L (p + 1)) = true) ∧ V_iD (V_a L p) = false then some (V_a L p, 0, p + 1) else none
theorem V_tk_ok {len : Int} {tb : Int → Int} {L : List Int} (h : V_tp len tb L) {p e : Nat} {r : Int} {ct : Int64} (ht : V_tk L p = some (r, ct, e)) : X_Tok tb len (p : Int) r ct (e : Int) := by
  have e0 := V_at_a h p
  have e1 : X_at tb len ((p : Int) + 1) = V_a L (p + 1) := by
    rw [← V_at_a h (p + 1)]
    rfl
  unfold V_tk at ht
  split at ht
  · rename_i h1
    cases ht
    exact Or.inl ⟨by rw [e0]; exact h1, rfl, rfl, rfl⟩
  · rename_i h1
    split at ht
    · rename_i h2
      split at ht
      · rename_i h3
        have g := V_se_e V_iLD_e h p
        have gp := V_pk_e h p (V_se V_iLD L p - p)
        have k1 : ∀ z : Nat, ((z : Nat) : Int) = X_se X_isLD tb len (p : Int) → ((z : Int) - (p : Int)).toNat = V_se V_iLD L p - p := fun z hz => by omega
        split at ht
        · rename_i h4
          cases ht
          refine Or.inr (Or.inl ⟨by rw [e0]; exact (V_iL_e _).mpr h2, g.symm, Or.inr ⟨by omega, ?_, Or.inl ⟨(V_res_e _).mpr h4, rfl⟩⟩⟩)
          rw [k1 _ g.symm]
          exact gp.symm
        · rename_i h4
          cases ht
          refine Or.inr (Or.inl ⟨by rw [e0]; exact (V_iL_e _).mpr h2, g.symm, Or.inr ⟨by omega, ?_, Or.inr ⟨fun z => h4 ((V_res_e _).mp z), rfl⟩⟩⟩)
          rw [k1 _ g.symm]
          exact gp.symm
      · cases ht
    · rename_i h2
      split at ht
      · rename_i h3
        split at ht
        · rename_i h4
          cases ht
          obtain ⟨a1, a2, a3, a4⟩ := h4
          have g := V_se_e V_iPB_e h (p + 1)
          have gp := V_pk_e h (p + 1) (V_se V_iPB L (p + 1) - (p + 1))
          have c1 : ((p + 1 : Nat) : Int) = (p : Int) + 1 := rfl
          rw [c1] at g gp
          refine Or.inr (Or.inr (Or.inr (Or.inl ⟨by rw [e0]; exact h3, ((V_se V_iPB L (p + 1) : Nat) : Int), g.symm, Or.inr ⟨by rw [V_at_a h]; exact a1, by omega, fun z => ?_, rfl, ?_, rfl⟩⟩)))
          · have := z ((p : Int) + 1) (Int.le_refl _) (by omega)
            rw [e1] at this
            rw [(V_iD_e _).mp this] at a4
            cases a4
          · rw [show (((V_se V_iPB L (p + 1) : Nat) : Int) - ((p : Int) + 1)).toNat = V_se V_iPB L (p + 1) - (p + 1) by omega]
            exact gp.symm
        · cases ht
      · rename_i h3
        split at ht
        · rename_i h4
          cases ht
          obtain ⟨a1, a2, a3⟩ := h4
          refine Or.inr (Or.inr (Or.inr (Or.inr ⟨by rw [e0]; exact fun z => h2 ((V_iL_e _).mp z), (by rw [e0]; exact fun z => (by rw [(V_iD_e _).mp z] at a3; cases a3)), by rw [e0]; exact h3, by rw [e0]; exact h1, rfl, rfl, Or.inl ⟨by rw [e0]; exact (V_iS_e _).mpr a1, fun z => a2 ⟨by rw [← e0]; exact z.1, (V_iLD_e _).mp (by rw [← e1]; exact z.2)⟩, e0.symm⟩⟩)))
        · cases ht
/-- all tokens -/
def V_tks (L : List Int) : Nat → Nat → List (Int × Int64)
  | 0, _ => []
  | f + 1, p => match V_tk L (V_se V_iBl L p) with
    | some q => if q.1 = 0 then [(q.1, q.2.1)] else (q.1, q.2.1) :: V_tks L f q.2.2
    | none => []
def V_tg : List (Int × Int64) → Bool
  | [] => false
  | [t] => decide (t.1 = 0)
  | t :: u :: r => decide (t.1 ≠ 0) && decide (t.1 ≠ 1) && V_tg (u :: r)
/-- the tokens stand from i on -/
def V_tt (so : Int → Int) (ct : Int → Int64) (i : Int) (T : List (Int × Int64)) : Prop := ∀ (k : Nat) (t : Int × Int64), T[k]? = some t → so (i + (k : Int)) = t.1 ∧ ct (i + (k : Int)) = t.2
theorem V_tks_ok {len n : Int} {tb : Int → Int} {L : List Int} {so pl : Int → Int} {ct : Int → Int64} {E : Int → Int} (h : V_tp len tb L) (hE : X_Tks tb len n so pl ct E) (hn : ∀ i, 0 ≤ i → i < n - 1 → so i ≠ 0 ∧ so i ≠ 1) (hz : so (n - 1) = 0 ∨ so (n - 1) = 1) : ∀ (f : Nat) (p : Nat) (i : Int), 0 ≤ i → i < n → E i = (p : Int) → V_tg (V_tks L f p) = true → n = i + (V_tks L f p).length ∧ V_tt so ct i (V_tks L f p) := by
  intro f
  induction f with
  | zero => intro p i _ _ _ hg; cases hg
  | succ f ih =>
    intro p i h0 h1 hp hg
    cases hv : V_tk L (V_se V_iBl L p) with
    | none =>
      have e : V_tks L (f + 1) p = [] := by
        show (match V_tk L (V_se V_iBl L p) with | some q => if q.1 = 0 then [(q.1, q.2.1)] else (q.1, q.2.1) :: V_tks L f q.2.2 | none => []) = []
        rw [hv]
      rw [e] at hg
      cases hg
    | some q =>
      obtain ⟨r, c, e⟩ := q
      have e2 : V_tks L (f + 1) p = if r = 0 then [(r, c)] else (r, c) :: V_tks L f e := by
        show (match V_tk L (V_se V_iBl L p) with | some q => if q.1 = 0 then [(q.1, q.2.1)] else (q.1, q.2.1) :: V_tks L f q.2.2 | none => []) = _
        rw [hv]
      have hk := hE.2 i h0 h1
      rw [hp, V_se_e V_iBl_e h p] at hk
      obtain ⟨k1, k2⟩ := hk
      rw [k1] at k2
      obtain ⟨u1, u2, u3⟩ := X_Tok_u k2 (V_tk_ok h hv)
      by_cases hr : r = 0
      · rw [if_pos hr] at e2
        rw [e2]
        refine ⟨?_, fun k t ht => ?_⟩
        · show n = i + ((1 : Nat) : Int)
          refine Classical.byContradiction (fun z => ?_)
          exact (hn i h0 (by omega)).1 (by omega)
        · cases k with
          | zero =>
            cases ht
            rw [show i + ((0 : Nat) : Int) = i by omega]
            exact ⟨u1, u2⟩
          | succ k => simp at ht
      · rw [if_neg hr] at e2
        rw [e2] at hg ⊢
        have hg2 : V_tg (V_tks L f e) = true ∧ r ≠ 1 := by
          cases hT : V_tks L f e with
          | nil =>
            rw [hT] at hg
            have hg : decide (r = 0) = true := hg
            exact absurd (of_decide_eq_true hg) hr
          | cons u w =>
            rw [hT] at hg
            have hg : (decide (r ≠ 0) && decide (r ≠ 1) && V_tg (u :: w)) = true := hg
            simp only [Bool.and_eq_true, decide_eq_true_eq] at hg
            exact ⟨hg.2, hg.1.2⟩
        have hi : i + 1 < n := by
          refine Classical.byContradiction (fun z => ?_)
          rw [show n - 1 = i by omega] at hz
          omega
        obtain ⟨a1, a2⟩ := ih e (i + 1) (by omega) hi u3 hg2.1
        refine ⟨by rw [List.length_cons]; omega, fun k t ht => ?_⟩
        cases k with
        | zero =>
          cases ht
          rw [show i + ((0 : Nat) : Int) = i by omega]
          exact ⟨u1, u2⟩
        | succ k =>
          have ht : (V_tks L f e)[k]? = some t := ht
          have := a2 k t ht
          rw [show i + ((k + 1 : Nat) : Int) = i + 1 + (k : Int) by omega]
          exact this
/-- the tokens of a text, told -/
theorem V_toks {len n : Int} {tb : Int → Int} {L : List Int} {so pl : Int → Int} {ct : Int → Int64} {T : List (Int × Int64)} (h : V_tp len tb L) (hX : X_Txt tb len n so pl ct) (f : Nat) (hT : V_tks L f 0 = T) (hg : V_tg T = true) : n = (T.length : Int) ∧ V_tt so ct 0 T := by
  obtain ⟨h1, ⟨E, hE⟩, h3, h4⟩ := hX
  have := V_tks_ok h hE h3 h4 f 0 0 (Int.le_refl 0) (by omega) hE.1 (by rw [hT]; exact hg)
  rw [hT] at this
  exact ⟨by omega, this.2⟩
