/-! TEXTS: bytes, runs, packed names, numbers -/
/-- the byte at a place, -1 outside -/
noncomputable def X_at (tb : Int → Int) (len p : Int) : Int := @ite Int (0 ≤ p ∧ p < len) (Classical.propDecidable _) (tb p % 256) (-1)
theorem X_at_in {tb : Int → Int} {len p : Int} (h : 0 ≤ p ∧ p < len) : X_at tb len p = tb p % 256 := by unfold X_at; rw [if_pos h]
theorem X_at_out {tb : Int → Int} {len p : Int} (h : ¬ (0 ≤ p ∧ p < len)) : X_at tb len p = -1 := by unfold X_at; rw [if_neg h]
theorem X_at_r (tb : Int → Int) (len p : Int) : -1 ≤ X_at tb len p ∧ X_at tb len p ≤ 255 := by
  by_cases h : 0 ≤ p ∧ p < len
  · rw [X_at_in h]; omega
  · rw [X_at_out h]; omega
def X_isL (c : Int) : Prop := 97 ≤ c ∧ c ≤ 122
def X_isD (c : Int) : Prop := 48 ≤ c ∧ c ≤ 57
def X_isLD (c : Int) : Prop := X_isL c ∨ X_isD c
def X_isBl (c : Int) : Prop := c = 32 ∨ c = 10
def X_isPB (c : Int) : Prop := 33 ≤ c ∧ c ≤ 126 ∧ c ≠ 34 ∧ c ≠ 40 ∧ c ≠ 41
def X_isSg (c : Int) : Prop := c = 37 ∨ c = 42 ∨ c = 43 ∨ c = 45 ∨ c = 47 ∨ c = 58 ∨ c = 59 ∨ c = 60 ∨ c = 61 ∨ c = 64 ∨ c = 95
/-- where the run of such bytes ends that begins at p -/
noncomputable def X_sf (P : Int → Prop) (tb : Int → Int) (len : Int) : Nat → Int → Int
  | 0, p => p
  | n + 1, p => @ite Int (p < len ∧ P (X_at tb len p)) (Classical.propDecidable _) (X_sf P tb len n (p + 1)) p
noncomputable def X_se (P : Int → Prop) (tb : Int → Int) (len p : Int) : Int := X_sf P tb len (len - p).toNat p
theorem X_se_go {P : Int → Prop} {tb : Int → Int} {len p : Int} (h : p < len) (hp : P (X_at tb len p)) : X_se P tb len p = X_se P tb len (p + 1) := by
  unfold X_se
  have e : (len - p).toNat = (len - (p + 1)).toNat + 1 := by omega
  rw [e]
  show @ite Int (p < len ∧ P (X_at tb len p)) (Classical.propDecidable _) _ p = _
  rw [if_pos ⟨h, hp⟩]
theorem X_se_no {P : Int → Prop} {tb : Int → Int} {len p : Int} (h : ¬ (p < len ∧ P (X_at tb len p))) : X_se P tb len p = p := by
  unfold X_se
  cases (len - p).toNat with
  | zero => rfl
  | succ n =>
    show @ite Int (p < len ∧ P (X_at tb len p)) (Classical.propDecidable _) _ p = _
    rw [if_neg h]
theorem X_sf_r (P : Int → Prop) (tb : Int → Int) (len : Int) : ∀ (n : Nat) (p : Int), p ≤ X_sf P tb len n p ∧ (X_sf P tb len n p = p ∨ X_sf P tb len n p ≤ len) := by
  intro n
  induction n with
  | zero => intro p; exact ⟨Int.le_refl _, Or.inl rfl⟩
  | succ n ih =>
    intro p
    show p ≤ @ite Int (p < len ∧ P (X_at tb len p)) (Classical.propDecidable _) (X_sf P tb len n (p + 1)) p ∧ (@ite Int (p < len ∧ P (X_at tb len p)) (Classical.propDecidable _) (X_sf P tb len n (p + 1)) p = p ∨ @ite Int (p < len ∧ P (X_at tb len p)) (Classical.propDecidable _) (X_sf P tb len n (p + 1)) p ≤ len)
    by_cases h : p < len ∧ P (X_at tb len p)
    · rw [if_pos h]
      have := ih (p + 1)
      omega
    · rw [if_neg h]
      omega
theorem X_se_r (P : Int → Prop) (tb : Int → Int) (len p : Int) : p ≤ X_se P tb len p ∧ (X_se P tb len p = p ∨ X_se P tb len p ≤ len) := X_sf_r P tb len _ p
/-- bytes packed into a long -/
def X_pk1 (a : Int64) (c : Int) : Int64 := a <<< ((iI 8).toInt64 &&& 63) ||| (iI c).toInt64
noncomputable def X_pk (tb : Int → Int) (len p : Int) : Nat → Int64
  | 0 => 0
  | n + 1 => X_pk1 (X_pk tb len p n) (X_at tb len (p + n))
/-- a number's value -/
noncomputable def X_dv (tb : Int → Int) (len p : Int) : Nat → Int
  | 0 => 0
  | n + 1 => X_dv tb len p n * 10 + X_at tb len (p + n) - 48
def X_res (n : Int64) : Prop := n = Int64.ofNat 1918987883 ∨ n = Int64.ofNat 32766990153442674 ∨ n = Int64.ofNat 1802071652 ∨ n = Int64.ofNat 504363246962 ∨ n = Int64.ofNat 2003792484 ∨ n = Int64.ofNat 1818584692 ∨ n = Int64.ofNat 491394656372
theorem X_dv_i (a c : Int) (h : -1 ≤ c ∧ c ≤ 255) : iL a * (Int64.ofNat 10) + (iI c).toInt64 - (Int64.ofNat 48) = iL (a * 10 + c - 48) := by
  have e1 : (iI c).toInt64 = iL c := Int32.toInt64_ofInt (by show -2147483648 ≤ c; omega) (by show c ≤ 2147483647; omega)
  have e2 : Int64.ofNat 10 = iL 10 := rfl
  have e3 : Int64.ofNat 48 = iL 48 := rfl
  rw [e1, e2, e3, ← Int64.ofInt_mul, ← Int64.ofInt_add, ← Int64.ofInt_sub]
theorem X_pk_go {tb : Int → Int} {len a0 at_ : Int} (h : a0 ≤ at_) : (X_pk tb len a0 (at_ - a0).toNat <<< ((iI 8).toInt64 &&& 63)) ||| (iI (X_at tb len at_)).toInt64 = X_pk tb len a0 (at_ + 1 - a0).toNat := by
  have e : (at_ + 1 - a0).toNat = (at_ - a0).toNat + 1 := by omega
  rw [e]
  show _ = X_pk1 (X_pk tb len a0 (at_ - a0).toNat) (X_at tb len (a0 + ((at_ - a0).toNat : Int)))
  rw [show a0 + ((at_ - a0).toNat : Int) = at_ by omega]
  rfl
theorem X_dv_go {tb : Int → Int} {len a0 at_ : Int} (h : a0 ≤ at_) : iL (X_dv tb len a0 (at_ - a0).toNat) * (Int64.ofNat 10) + (iI (X_at tb len at_)).toInt64 - (Int64.ofNat 48) = iL (X_dv tb len a0 (at_ + 1 - a0).toNat) := by
  have e : (at_ + 1 - a0).toNat = (at_ - a0).toNat + 1 := by omega
  rw [e, X_dv_i _ _ (X_at_r tb len at_)]
  show _ = iL (X_dv tb len a0 (at_ - a0).toNat * 10 + X_at tb len (a0 + ((at_ - a0).toNat : Int)) - 48)
  rw [show a0 + ((at_ - a0).toNat : Int) = at_ by omega]
/-! the class's tape and lexer -/
def C_tp (S : X_S) (len : Int) (tb : Int → Int) : Prop := S.1 2 = .inr (7, [.ref 3, .int (iI len)]) ∧ S.1 3 = .inl (.byte, 2000, .inl fun k : Nat => iI (tb (k : Int))) ∧ 0 ≤ len ∧ len ≤ 2000
def C_lx (S : X_S) (at_ cnt cur : Int) (so pl : Int → Int) (ct : Int → Int64) : Prop := S.1 497 = .inr (3, [.ref 2, .int (iI at_), .int (iI cnt), .ref 498, .ref 499, .ref 500, .int (iI cur)]) ∧ S.1 498 = .inl (.int, 2001, .inl fun k : Nat => iI (so (k : Int))) ∧ S.1 499 = .inl (.int, 2001, .inl fun k : Nat => iI (pl (k : Int))) ∧ S.1 500 = .inl (.long, 2001, .inr (.inl fun k : Nat => ct (k : Int)))
theorem C_tp.fr {S S' : X_S} {len : Int} {tb : Int → Int} {P : Nat → Prop} (h : C_tp S len tb) (hf : X_Fr P S S') (h2 : ¬ P 2) (h3 : ¬ P 3) : C_tp S' len tb := ⟨(hf.1 2 h2).trans h.1, (hf.1 3 h3).trans h.2.1, h.2.2⟩
/-- the token that begins at p (a place that is no blank): its sort, what is in it, where it ends -/
def X_TokN (tb : Int → Int) (len p r : Int) (ct : Int64) (e : Int) : Prop := X_isL (X_at tb len p) ∧ e = X_se X_isLD tb len p ∧ ((8 < e - p ∧ r = 1 ∧ ct = 0) ∨ (e - p ≤ 8 ∧ ct = X_pk tb len p (e - p).toNat ∧ ((X_res ct ∧ r = 3) ∨ (¬ X_res ct ∧ r = 2))))
def X_TokD (tb : Int → Int) (len p r : Int) (ct : Int64) (e : Int) : Prop := X_isD (X_at tb len p) ∧ e = X_se X_isD tb len p ∧ (((9 < e - p ∨ X_isL (X_at tb len e)) ∧ r = 1 ∧ ct = 0) ∨ (e - p ≤ 9 ∧ ¬ X_isL (X_at tb len e) ∧ ct = iL (X_dv tb len p (e - p).toNat) ∧ ((e - p = 1 ∧ r = 5) ∨ (¬ e - p = 1 ∧ r = 4))))
def X_DA (tb : Int → Int) (len p e : Int) : Prop := ∀ k, p ≤ k → k < e → X_isD (X_at tb len k)
def X_TokP (tb : Int → Int) (len p r : Int) (ct : Int64) (e : Int) : Prop := X_at tb len p = 34 ∧ ∃ m, m = X_se X_isPB tb len (p + 1) ∧ (((¬ X_at tb len m = 34 ∨ 8 < m - p - 1 ∨ X_DA tb len (p + 1) m) ∧ r = 1 ∧ ct = 0 ∧ e = m) ∨ (X_at tb len m = 34 ∧ m - p - 1 ≤ 8 ∧ ¬ X_DA tb len (p + 1) m ∧ r = 6 ∧ ct = X_pk tb len (p + 1) (m - (p + 1)).toNat ∧ e = m + 1))
def X_TokS (tb : Int → Int) (len p r : Int) (ct : Int64) (e : Int) : Prop := ¬ X_isL (X_at tb len p) ∧ ¬ X_isD (X_at tb len p) ∧ ¬ X_at tb len p = 34 ∧ ¬ X_at tb len p = -1 ∧ ct = 0 ∧ e = p + 1 ∧
  ((X_isSg (X_at tb len p) ∧ ¬ (X_at tb len p = 95 ∧ X_isLD (X_at tb len (p + 1))) ∧ r = X_at tb len p) ∨ ((¬ X_isSg (X_at tb len p) ∨ (X_at tb len p = 95 ∧ X_isLD (X_at tb len (p + 1)))) ∧ r = 1))
def X_Tok (tb : Int → Int) (len p r : Int) (ct : Int64) (e : Int) : Prop := (X_at tb len p = -1 ∧ r = 0 ∧ ct = 0 ∧ e = p) ∨ X_TokN tb len p r ct e ∨ X_TokD tb len p r ct e ∨ X_TokP tb len p r ct e ∨ X_TokS tb len p r ct e
theorem X_DA_go {tb : Int → Int} {len p e : Int} (h : X_DA tb len p e) (hd : X_isD (X_at tb len e)) : X_DA tb len p (e + 1) := fun k h1 h2 => by
  by_cases hk : k = e
  · subst hk
    exact hd
  · exact h k h1 (by omega)
theorem X_Tok_r {tb : Int → Int} {len p r : Int} {ct : Int64} {e : Int} (hp : 0 ≤ p ∧ p ≤ len) (h : X_Tok tb len p r ct e) : p ≤ e ∧ e ≤ len ∧ (r ≠ 0 → p + 1 ≤ e) ∧ (0 ≤ r ∧ r ≤ 255) := by
  have hin : ∀ q, X_at tb len q ≠ -1 → q < len := fun q hq => by
    by_cases hz : 0 ≤ q ∧ q < len
    · exact hz.2
    · exact absurd (X_at_out hz) hq
  have hat := X_at_r tb len p
  rcases h with ⟨h1, h2, h3, h4⟩ | h | h | h | h
  · refine ⟨by omega, by omega, fun z => absurd h2 z, by omega, by omega⟩
  · obtain ⟨h1, h2, h3⟩ := h
    have hpl := hin p (by unfold X_isL at h1; omega)
    have g := X_se_go (P := X_isLD) hpl (Or.inl h1)
    have g2 := X_se_r X_isLD tb len (p + 1)
    have g3 : r = 1 ∨ r = 3 ∨ r = 2 := by
      rcases h3 with h | ⟨-, -, h | h⟩
      · exact Or.inl h.2.1
      · exact Or.inr (Or.inl h.2)
      · exact Or.inr (Or.inr h.2)
    refine ⟨by omega, by omega, fun _ => by omega, by omega, by omega⟩
  · obtain ⟨h1, h2, h3⟩ := h
    have hpl := hin p (by unfold X_isD at h1; omega)
    have g := X_se_go (P := X_isD) hpl h1
    have g2 := X_se_r X_isD tb len (p + 1)
    have g3 : r = 1 ∨ r = 5 ∨ r = 4 := by
      rcases h3 with h | ⟨-, -, -, h | h⟩
      · exact Or.inl h.2.1
      · exact Or.inr (Or.inl h.2)
      · exact Or.inr (Or.inr h.2)
    refine ⟨by omega, by omega, fun _ => by omega, by omega, by omega⟩
  · obtain ⟨h1, m, h2, h3⟩ := h
    have hpl := hin p (by omega)
    have g2 := X_se_r X_isPB tb len (p + 1)
    rcases h3 with ⟨-, h4, -, h5⟩ | ⟨h4, -, -, h5, -, h6⟩
    · refine ⟨by omega, by omega, fun _ => by omega, by omega, by omega⟩
    · have := hin m (by omega)
      refine ⟨by omega, by omega, fun _ => by omega, by omega, by omega⟩
  · obtain ⟨h1, h2, h3, h4, h5, h6, h7⟩ := h
    have hpl := hin p h4
    have g3 : r = X_at tb len p ∨ r = 1 := by
      rcases h7 with h | h
      · exact Or.inl h.2.2
      · exact Or.inr h.2
    refine ⟨by omega, by omega, fun _ => by omega, by omega, by omega⟩
/-- the first n tokens of a text -/
def X_Tks (tb : Int → Int) (len n : Int) (so pl : Int → Int) (ct : Int → Int64) (E : Int → Int) : Prop := E 0 = 0 ∧ ∀ i, 0 ≤ i → i < n → pl i = X_se X_isBl tb len (E i) ∧ X_Tok tb len (pl i) (so i) (ct i) (E (i + 1))
theorem X_Tks_go {tb : Int → Int} {len n : Int} {so pl : Int → Int} {ct ct' : Int → Int64} {E : Int → Int} {r e p : Int} (h : X_Tks tb len n so pl ct E) (hn : 0 ≤ n) (hp : p = X_se X_isBl tb len (E n)) (ht : X_Tok tb len p r (ct' n) e) (hu : ∀ k, k ≠ n → ct' k = ct k) :
    X_Tks tb len (n + 1) (X_ug so n r) (X_ug pl n p) ct' (X_ug E (n + 1) e) := by
  obtain ⟨h00, h⟩ := h
  refine ⟨by rw [X_ug_n _ _ (by omega)]; exact h00, ?_⟩
  intro i h1 h2
  by_cases hi : i = n
  · subst hi
    rw [X_ug_s, X_ug_s, X_ug_s, X_ug_n _ _ (by omega)]
    exact ⟨hp, ht⟩
  · rw [X_ug_n _ _ hi, X_ug_n _ _ hi, X_ug_n _ _ (by omega), X_ug_n _ _ (by omega), hu i hi]
    exact h i h1 (by omega)
