/-! TEXTS: bytes, runs, packed names, numbers -/
/-- the byte at a place, -1 outside -/
noncomputable def X_at (tb : Int → Int) (len p : Int) : Int := @ite Int (0 ≤ p ∧ p < len) (Classical.propDecidable _) (tb p % 256) (-1)
theorem X_at_in {tb : Int → Int} {len p : Int} (h : 0 ≤ p ∧ p < len) : X_at tb len p = tb p % 256 := by unfold X_at; rw [if_pos h]
theorem X_at_out {tb : Int → Int} {len p : Int} (h : ¬ (0 ≤ p ∧ p < len)) : X_at tb len p = -1 := by unfold X_at; rw [if_neg h]
theorem X_at_r (tb : Int → Int) (len p : Int) : -1 ≤ X_at tb len p ∧ X_at tb len p ≤ 255 := by
  by_cases h : 0 ≤ p ∧ p < len
  · rw [X_at_in h]; omega
  · rw [X_at_out h]; omega
def X_isL (c : Int) : Prop := 97 ≤ c ∧ c ≤ 122
def X_isD (c : Int) : Prop := 48 ≤ c ∧ c ≤ 57
def X_isLD (c : Int) : Prop := X_isL c ∨ X_isD c
def X_isBl (c : Int) : Prop := c = 32 ∨ c = 10
def X_isPB (c : Int) : Prop := 33 ≤ c ∧ c ≤ 126 ∧ c ≠ 34 ∧ c ≠ 40 ∧ c ≠ 41
def X_isSg (c : Int) : Prop := c = 37 ∨ c = 42 ∨ c = 43 ∨ c = 45 ∨ c = 47 ∨ c = 58 ∨ c = 59 ∨ c = 60 ∨ c = 61 ∨ c = 64 ∨ c = 95
/-- where the run of such bytes ends that begins at p -/
noncomputable def X_sf (P : Int → Prop) (tb : Int → Int) (len : Int) : Nat → Int → Int
  | 0, p => p
  | n + 1, p => @ite Int (p < len ∧ P (X_at tb len p)) (Classical.propDecidable _) (X_sf P tb len n (p + 1)) p
noncomputable def X_se (P : Int → Prop) (tb : Int → Int) (len p : Int) : Int := X_sf P tb len (len - p).toNat p
theorem X_se_go {P : Int → Prop} {tb : Int → Int} {len p : Int} (h : p < len) (hp : P (X_at tb len p)) : X_se P tb len p = X_se P tb len (p + 1) := by
  unfold X_se
  have e : (len - p).toNat = (len - (p + 1)).toNat + 1 := by omega
  rw [e]
  show @ite Int (p < len ∧ P (X_at tb len p)) (Classical.propDecidable _) _ p = _
  rw [if_pos ⟨h, hp⟩]
theorem X_se_no {P : Int → Prop} {tb : Int → Int} {len p : Int} (h : ¬ (p < len ∧ P (X_at tb len p))) : X_se P tb len p = p := by
  unfold X_se
  cases (len - p).toNat with
  | zero => rfl
  | succ n =>
    show @ite Int (p < len ∧ P (X_at tb len p)) (Classical.propDecidable _) _ p = _
    rw [if_neg h]
theorem X_sf_r (P : Int → Prop) (tb : Int → Int) (len : Int) : ∀ (n : Nat) (p : Int), p ≤ X_sf P tb len n p ∧ (X_sf P tb len n p = p ∨ X_sf P tb len n p ≤ len) := by
  intro n
  induction n with
  | zero => intro p; exact ⟨Int.le_refl _, Or.inl rfl⟩
  | succ n ih =>
    intro p
    show p ≤ @ite Int (p < len ∧ P (X_at tb len p)) (Classical.propDecidable _) (X_sf P tb len n (p + 1)) p ∧ (@ite Int (p < len ∧ P (X_at tb len p)) (Classical.propDecidable _) (X_sf P tb len n (p + 1)) p = p ∨ @ite Int (p < len ∧ P (X_at tb len p)) (Classical.propDecidable _) (X_sf P tb len n (p + 1)) p ≤ len)
    by_cases h : p < len ∧ P (X_at tb len p)
    · rw [if_pos h]
      have := ih (p + 1)
      omega
    · rw [if_neg h]
      omega
theorem X_se_r (P : Int → Prop) (tb : Int → Int) (len p : Int) : p ≤ X_se P tb len p ∧ (X_se P tb len p = p ∨ X_se P tb len p ≤ len) := X_sf_r P tb len _ p
/-- bytes packed into a long -/
def X_pk1 (a : Int64) (c : Int) : Int64 := a <<< ((iI 8).toInt64 &&& 63) ||| (iI c).toInt64
noncomputable def X_pk (tb : Int → Int) (len p : Int) : Nat → Int64
  | 0 => 0
  | n + 1 => X_pk1 (X_pk tb len p n) (X_at tb len (p + n))
/-- a number's value -/
noncomputable def X_dv (tb : Int → Int) (len p : Int) : Nat → Int
  | 0 => 0
  | n + 1 => X_dv tb len p n * 10 + X_at tb len (p + n) - 48
def X_res (n : Int64) : Prop := n = Int64.ofNat 1918987883 ∨ n = Int64.ofNat 32766990153442674 ∨ n = Int64.ofNat 1802071652 ∨ n = Int64.ofNat 504363246962 ∨ n = Int64.ofNat 2003792484 ∨ n = Int64.ofNat 1818584692 ∨ n = Int64.ofNat 491394656372
theorem X_dv_i (a c : Int) (h : -1 ≤ c ∧ c ≤ 255) : iL a * (Int64.ofNat 10) + (iI c).toInt64 - (Int64.ofNat 48) = iL (a * 10 + c - 48) := by
  have e1 : (iI c).toInt64 = iL c := Int32.toInt64_ofInt (by show -2147483648 ≤ c; omega) (by show c ≤ 2147483647; omega)
  have e2 : Int64.ofNat 10 = iL 10 := rfl
  have e3 : Int64.ofNat 48 = iL 48 := rfl
  rw [e1, e2, e3, ← Int64.ofInt_mul, ← Int64.ofInt_add, ← Int64.ofInt_sub]
theorem X_pk_go {tb : Int → Int} {len a0 at_ : Int} (h : a0 ≤ at_) : (X_pk tb len a0 (at_ - a0).toNat <<< ((iI 8).toInt64 &&& 63)) ||| (iI (X_at tb len at_)).toInt64 = X_pk tb len a0 (at_ + 1 - a0).toNat := by
  have e : (at_ + 1 - a0).toNat = (at_ - a0).toNat + 1 := by omega
  rw [e]
  show _ = X_pk1 (X_pk tb len a0 (at_ - a0).toNat) (X_at tb len (a0 + ((at_ - a0).toNat : Int)))
  rw [show a0 + ((at_ - a0).toNat : Int) = at_ by omega]
  rfl
theorem X_dv_go {tb : Int → Int} {len a0 at_ : Int} (h : a0 ≤ at_) : iL (X_dv tb len a0 (at_ - a0).toNat) * (Int64.ofNat 10) + (iI (X_at tb len at_)).toInt64 - (Int64.ofNat 48) = iL (X_dv tb len a0 (at_ + 1 - a0).toNat) := by
  have e : (at_ + 1 - a0).toNat = (at_ - a0).toNat + 1 := by omega
  rw [e, X_dv_i _ _ (X_at_r tb len at_)]
  show _ = iL (X_dv tb len a0 (at_ - a0).toNat * 10 + X_at tb len (a0 + ((at_ - a0).toNat : Int)) - 48)
  rw [show a0 + ((at_ - a0).toNat : Int) = at_ by omega]
/-! the class's tape and lexer -/
def C_tp (S : X_S) (len : Int) (tb : Int → Int) : Prop := S.1 2 = .inr (7, [.ref 3, .int (iI len)]) ∧ S.1 3 = .inl (.byte, 2000, .inl fun k : Nat => iI (tb (k : Int))) ∧ 0 ≤ len ∧ len ≤ 2000
def C_lx (S : X_S) (at_ cnt cur : Int) (so pl : Int → Int) (ct : Int → Int64) : Prop := S.1 497 = .inr (3, [.ref 2, .int (iI at_), .int (iI cnt), .ref 498, .ref 499, .ref 500, .int (iI cur)]) ∧ S.1 498 = .inl (.int, 2001, .inl fun k : Nat => iI (so (k : Int))) ∧ S.1 499 = .inl (.int, 2001, .inl fun k : Nat => iI (pl (k : Int))) ∧ S.1 500 = .inl (.long, 2001, .inr (.inl fun k : Nat => ct (k : Int)))
theorem C_tp.fr {S S' : X_S} {len : Int} {tb : Int → Int} {P : Nat → Prop} (h : C_tp S len tb) (hf : X_Fr P S S') (h2 : ¬ P 2) (h3 : ¬ P 3) : C_tp S' len tb := ⟨(hf.1 2 h2).trans h.1, (hf.1 3 h3).trans h.2.1, h.2.2⟩
