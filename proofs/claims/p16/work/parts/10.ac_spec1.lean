section
/-! TEXTS: bytes, runs, packed names, numbers -/
/-- the byte at a place, -1 outside -/
noncomputable def X_at (tb : Int → Int) (len p : Int) : Int := @ite Int (0 ≤ p ∧ p < len) (Classical.propDecidable _) (tb p % 256) (-1)
theorem X_at_in {tb : Int → Int} {len p : Int} (h : 0 ≤ p ∧ p < len) : X_at tb len p = tb p % 256 := by unfold X_at; rw [if_pos h]
theorem X_at_out {tb : Int → Int} {len p : Int} (h : ¬ (0 ≤ p ∧ p < len)) : X_at tb len p = -1 := by unfold X_at; rw [if_neg h]
theorem X_at_r (tb : Int → Int) (len p : Int) : -1 ≤ X_at tb len p ∧ X_at tb len p ≤ 255 := by
  by_cases h : 0 ≤ p ∧ p < len
  · rw [X_at_in h]; omega
  · rw [X_at_out h]; omega
def X_isL (c : Int) : Prop := 97 ≤ c ∧ c ≤ 122
def X_isD (c : Int) : Prop := 48 ≤ c ∧ c ≤ 57
def X_isLD (c : Int) : Prop := X_isL c ∨ X_isD c
def X_isBl (c : Int) : Prop := c = 32 ∨ c = 10
def X_isPB (c : Int) : Prop := 33 ≤ c ∧ c ≤ 126 ∧ c ≠ 34 ∧ c ≠ 40 ∧ c ≠ 41
def X_isSg (c : Int) : Prop := c = 37 ∨ c = 42 ∨ c = 43 ∨ c = 45 ∨ c = 47 ∨ c = 58 ∨ c = 59 ∨ c = 60 ∨ c = 61 ∨ c = 64 ∨ c = 95
/-- where the run of such bytes ends that begins at p -/
noncomputable def X_sf (P : Int → Prop) (tb : Int → Int) (len : Int) : Nat → Int → Int
  | 0, p => p
  | n + 1, p => @ite Int (p < len ∧ P (X_at tb len p)) (Classical.propDecidable _) (X_sf P tb len n (p + 1)) p
noncomputable def X_se (P : Int → Prop) (tb : Int → Int) (len p : Int) : Int := X_sf P tb len (len - p).toNat p
theorem X_se_go {P : Int → Prop} {tb : Int → Int} {len p : Int} (h : p < len) (hp : P (X_at tb len p)) : X_se P tb len p = X_se P tb len (p + 1) := by
  unfold X_se
  have e : (len - p).toNat = (len - (p + 1)).toNat + 1 := by omega
  rw [e]
  show @ite Int (p < len ∧ P (X_at tb len p)) (Classical.propDecidable _) _ p = _
  rw [if_pos ⟨h, hp⟩]
theorem X_se_no {P : Int → Prop} {tb : Int → Int} {len p : Int} (h : ¬ (p < len ∧ P (X_at tb len p))) : X_se P tb len p = p := by
  unfold X_se
  cases (len - p).toNat with
  | zero => rfl
  | succ n =>
    show @ite Int (p < len ∧ P (X_at tb len p)) (Classical.propDecidable _) _ p = _
    rw [if_neg h]
theorem X_sf_r (P : Int → Prop) (tb : Int → Int) (len : Int) : ∀ (n : Nat) (p : Int), p ≤ X_sf P tb len n p ∧ (X_sf P tb len n p = p ∨ X_sf P tb len n p ≤ len) := by
  intro n
  induction n with
  | zero => intro p; exact ⟨Int.le_refl _, Or.inl rfl⟩
  | succ n ih =>
    intro p
    show p ≤ @ite Int (p < len ∧ P (X_at tb len p)) (Classical.propDecidable _) (X_sf P tb len n (p + 1)) p ∧ (@ite Int (p < len ∧ P (X_at tb len p)) (Classical.propDecidable _) (X_sf P tb len n (p + 1)) p = p ∨ @ite Int (p < len ∧ P (X_at tb len p)) (Classical.propDecidable _) (X_sf P tb len n (p + 1)) p ≤ len)
    by_cases h : p < len ∧ P (X_at tb len p)
    · rw [if_pos h]
      have := ih (p + 1)
      omega
    · rw [if_neg h]
      omega
theorem X_se_r (P : Int → Prop) (tb : Int → Int) (len p : Int) : p ≤ X_se P tb len p ∧ (X_se P tb len p = p ∨ X_se P tb len p ≤ len) := X_sf_r P tb len _ p
/-- bytes packed into a long -/
def X_pk1 (a : Int64) (c : Int) : Int64 := a <<< ((iI 8).toInt64 &&& 63) ||| (iI c).toInt64
noncomputable def X_pk (tb : Int → Int) (len p : Int) : Nat → Int64
  | 0 => 0
  | n + 1 => X_pk1 (X_pk tb len p n) (X_at tb len (p + n))
/-- a number's value -/
noncomputable def X_dv (tb : Int → Int) (len p : Int) : Nat → Int
  | 0 => 0
  | n + 1 => X_dv tb len p n * 10 + X_at tb len (p + n) - 48
def X_res (n : Int64) : Prop := n = Int64.ofNat 1918987883 ∨ n = Int64.ofNat 32766990153442674 ∨ n = Int64.ofNat 1802071652 ∨ n = Int64.ofNat 504363246962 ∨ n = Int64.ofNat 2003792484 ∨ n = Int64.ofNat 1818584692 ∨ n = Int64.ofNat 491394656372
theorem X_dv_i (a c : Int) (h : -1 ≤ c ∧ c ≤ 255) : iL a * (Int64.ofNat 10) + (iI c).toInt64 - (Int64.ofNat 48) = iL (a * 10 + c - 48) := by
  have e1 : (iI c).toInt64 = iL c := Int32.toInt64_ofInt (by show -2147483648 ≤ c; omega) (by show c ≤ 2147483647; omega)
  have e2 : Int64.ofNat 10 = iL 10 := rfl
  have e3 : Int64.ofNat 48 = iL 48 := rfl
  rw [e1, e2, e3, ← Int64.ofInt_mul, ← Int64.ofInt_add, ← Int64.ofInt_sub]
theorem X_pk_go {tb : Int → Int} {len a0 at_ : Int} (h : a0 ≤ at_) : (X_pk tb len a0 (at_ - a0).toNat <<< ((iI 8).toInt64 &&& 63)) ||| (iI (X_at tb len at_)).toInt64 = X_pk tb len a0 (at_ + 1 - a0).toNat := by
  have e : (at_ + 1 - a0).toNat = (at_ - a0).toNat + 1 := by omega
  rw [e]
  show _ = X_pk1 (X_pk tb len a0 (at_ - a0).toNat) (X_at tb len (a0 + ((at_ - a0).toNat : Int)))
  rw [show a0 + ((at_ - a0).toNat : Int) = at_ by omega]
  rfl
theorem X_dv_go {tb : Int → Int} {len a0 at_ : Int} (h : a0 ≤ at_) : iL (X_dv tb len a0 (at_ - a0).toNat) * (Int64.ofNat 10) + (iI (X_at tb len at_)).toInt64 - (Int64.ofNat 48) = iL (X_dv tb len a0 (at_ + 1 - a0).toNat) := by
  have e : (at_ + 1 - a0).toNat = (at_ - a0).toNat + 1 := by omega
  rw [e, X_dv_i _ _ (X_at_r tb len at_)]
  show _ = iL (X_dv tb len a0 (at_ - a0).toNat * 10 + X_at tb len (a0 + ((at_ - a0).toNat : Int)) - 48)
  rw [show a0 + ((at_ - a0).toNat : Int) = at_ by omega]
/-! the class's tape and lexer -/
def C_tp (S : X_S) (len : Int) (tb : Int → Int) : Prop := S.1 2 = .inr (7, [.ref 3, .int (iI len)]) ∧ S.1 3 = .inl (.byte, 2000, .inl fun k : Nat => iI (tb (k : Int))) ∧ 0 ≤ len ∧ len ≤ 2000
def C_lx (S : X_S) (at_ cnt cur : Int) (so pl : Int → Int) (ct : Int → Int64) : Prop := S.1 497 = .inr (3, [.ref 2, .int (iI at_), .int (iI cnt), .ref 498, .ref 499, .ref 500, .int (iI cur)]) ∧ S.1 498 = .inl (.int, 2001, .inl fun k : Nat => iI (so (k : Int))) ∧ S.1 499 = .inl (.int, 2001, .inl fun k : Nat => iI (pl (k : Int))) ∧ S.1 500 = .inl (.long, 2001, .inr (.inl fun k : Nat => ct (k : Int)))
theorem C_tp.fr {S S' : X_S} {len : Int} {tb : Int → Int} {P : Nat → Prop} (h : C_tp S len tb) (hf : X_Fr P S S') (h2 : ¬ P 2) (h3 : ¬ P 3) : C_tp S' len tb := ⟨(hf.1 2 h2).trans h.1, (hf.1 3 h3).trans h.2.1, h.2.2⟩
/-- the token that begins at p (a place that is no blank): its sort, what is in it, where it ends -/
def X_TokN (tb : Int → Int) (len p r : Int) (ct : Int64) (e : Int) : Prop := X_isL (X_at tb len p) ∧ e = X_se X_isLD tb len p ∧ ((8 < e - p ∧ r = 1 ∧ ct = 0) ∨ (e - p ≤ 8 ∧ ct = X_pk tb len p (e - p).toNat ∧ ((X_res ct ∧ r = 3) ∨ (¬ X_res ct ∧ r = 2))))
def X_TokD (tb : Int → Int) (len p r : Int) (ct : Int64) (e : Int) : Prop := X_isD (X_at tb len p) ∧ e = X_se X_isD tb len p ∧ (((9 < e - p ∨ X_isL (X_at tb len e)) ∧ r = 1 ∧ ct = 0) ∨ (e - p ≤ 9 ∧ ¬ X_isL (X_at tb len e) ∧ ct = iL (X_dv tb len p (e - p).toNat) ∧ ((e - p = 1 ∧ r = 5) ∨ (¬ e - p = 1 ∧ r = 4))))
def X_DA (tb : Int → Int) (len p e : Int) : Prop := ∀ k, p ≤ k → k < e → X_isD (X_at tb len k)
def X_TokP (tb : Int → Int) (len p r : Int) (ct : Int64) (e : Int) : Prop := X_at tb len p = 34 ∧ ∃ m, m = X_se X_isPB tb len (p + 1) ∧ (((¬ X_at tb len m = 34 ∨ 8 < m - p - 1 ∨ X_DA tb len (p + 1) m) ∧ r = 1 ∧ ct = 0 ∧ e = m) ∨ (X_at tb len m = 34 ∧ m - p - 1 ≤ 8 ∧ ¬ X_DA tb len (p + 1) m ∧ r = 6 ∧ ct = X_pk tb len (p + 1) (m - (p + 1)).toNat ∧ e = m + 1))
def X_TokS (tb : Int → Int) (len p r : Int) (ct : Int64) (e : Int) : Prop := ¬ X_isL (X_at tb len p) ∧ ¬ X_isD (X_at tb len p) ∧ ¬ X_at tb len p = 34 ∧ ¬ X_at tb len p = -1 ∧ ct = 0 ∧ e = p + 1 ∧
  ((X_isSg (X_at tb len p) ∧ ¬ (X_at tb len p = 95 ∧ X_isLD (X_at tb len (p + 1))) ∧ r = X_at tb len p) ∨ ((¬ X_isSg (X_at tb len p) ∨ (X_at tb len p = 95 ∧ X_isLD (X_at tb len (p + 1)))) ∧ r = 1))
def X_Tok (tb : Int → Int) (len p r : Int) (ct : Int64) (e : Int) : Prop := (X_at tb len p = -1 ∧ r = 0 ∧ ct = 0 ∧ e = p) ∨ X_TokN tb len p r ct e ∨ X_TokD tb len p r ct e ∨ X_TokP tb len p r ct e ∨ X_TokS tb len p r ct e
theorem X_DA_go {tb : Int → Int} {len p e : Int} (h : X_DA tb len p e) (hd : X_isD (X_at tb len e)) : X_DA tb len p (e + 1) := fun k h1 h2 => by
  by_cases hk : k = e
  · subst hk
    exact hd
  · exact h k h1 (by omega)
theorem X_Tok_r {tb : Int → Int} {len p r : Int} {ct : Int64} {e : Int} (hp : 0 ≤ p ∧ p ≤ len) (h : X_Tok tb len p r ct e) : p ≤ e ∧ e ≤ len ∧ (r ≠ 0 → p + 1 ≤ e) ∧ (0 ≤ r ∧ r ≤ 255) := by
  have hin : ∀ q, X_at tb len q ≠ -1 → q < len := fun q hq => by
    by_cases hz : 0 ≤ q ∧ q < len
    · exact hz.2
    · exact absurd (X_at_out hz) hq
  have hat := X_at_r tb len p
  rcases h with ⟨h1, h2, h3, h4⟩ | h | h | h | h
  · refine ⟨by omega, by omega, fun z => absurd h2 z, by omega, by omega⟩
  · obtain ⟨h1, h2, h3⟩ := h
    have hpl := hin p (by unfold X_isL at h1; omega)
    have g := X_se_go (P := X_isLD) hpl (Or.inl h1)
    have g2 := X_se_r X_isLD tb len (p + 1)
    have g3 : r = 1 ∨ r = 3 ∨ r = 2 := by
      rcases h3 with h | ⟨-, -, h | h⟩
      · exact Or.inl h.2.1
      · exact Or.inr (Or.inl h.2)
      · exact Or.inr (Or.inr h.2)
    refine ⟨by omega, by omega, fun _ => by omega, by omega, by omega⟩
  · obtain ⟨h1, h2, h3⟩ := h
    have hpl := hin p (by unfold X_isD at h1; omega)
    have g := X_se_go (P := X_isD) hpl h1
    have g2 := X_se_r X_isD tb len (p + 1)
    have g3 : r = 1 ∨ r = 5 ∨ r = 4 := by
      rcases h3 with h | ⟨-, -, -, h | h⟩
      · exact Or.inl h.2.1
      · exact Or.inr (Or.inl h.2)
      · exact Or.inr (Or.inr h.2)
    refine ⟨by omega, by omega, fun _ => by omega, by omega, by omega⟩
  · obtain ⟨h1, m, h2, h3⟩ := h
    have hpl := hin p (by omega)
    have g2 := X_se_r X_isPB tb len (p + 1)
    rcases h3 with ⟨-, h4, -, h5⟩ | ⟨h4, -, -, h5, -, h6⟩
    · refine ⟨by omega, by omega, fun _ => by omega, by omega, by omega⟩
    · have := hin m (by omega)
      refine ⟨by omega, by omega, fun _ => by omega, by omega, by omega⟩
  · obtain ⟨h1, h2, h3, h4, h5, h6, h7⟩ := h
    have hpl := hin p h4
    have g3 : r = X_at tb len p ∨ r = 1 := by
      rcases h7 with h | h
      · exact Or.inl h.2.2
      · exact Or.inr h.2
    refine ⟨by omega, by omega, fun _ => by omega, by omega, by omega⟩
/-- the first n tokens of a text -/
def X_Tks (tb : Int → Int) (len n : Int) (so pl : Int → Int) (ct : Int → Int64) (E : Int → Int) : Prop := E 0 = 0 ∧ ∀ i, 0 ≤ i → i < n → pl i = X_se X_isBl tb len (E i) ∧ X_Tok tb len (pl i) (so i) (ct i) (E (i + 1))
theorem X_Tks_go {tb : Int → Int} {len n : Int} {so pl : Int → Int} {ct ct' : Int → Int64} {E : Int → Int} {r e p : Int} (h : X_Tks tb len n so pl ct E) (hn : 0 ≤ n) (hp : p = X_se X_isBl tb len (E n)) (ht : X_Tok tb len p r (ct' n) e) (hu : ∀ k, k ≠ n → ct' k = ct k) :
    X_Tks tb len (n + 1) (X_ug so n r) (X_ug pl n p) ct' (X_ug E (n + 1) e) := by
  obtain ⟨h00, h⟩ := h
  refine ⟨by rw [X_ug_n _ _ (by omega)]; exact h00, ?_⟩
  intro i h1 h2
  by_cases hi : i = n
  · subst hi
    rw [X_ug_s, X_ug_s, X_ug_s, X_ug_n _ _ (by omega)]
    exact ⟨hp, ht⟩
  · rw [X_ug_n _ _ hi, X_ug_n _ _ hi, X_ug_n _ _ (by omega), X_ug_n _ _ (by omega), hu i hi]
    exact h i h1 (by omega)
end
section
def X_bt (b n : Int) : Prop := (iI b >>> (iI n &&& 31)).toInt % 2 = 1
def X_bO (a b : Int) : Int := (iI a ||| iI b).toInt
def X_bA (a b : Int) : Int := (iI a &&& iI b).toInt
def X_bS (k : Int) : Int := (iI 1 <<< (iI k &&& 31)).toInt
theorem X_sm (n : Nat) (h : n < 32) : ((iI (n : Int) &&& 31).toBitVec.smod 32).toNat = n := by
  have : ∀ n : Fin 32, ((iI ((n : Nat) : Int) &&& 31).toBitVec.smod 32).toNat = (n : Nat) := by decide
  exact this ⟨n, h⟩
theorem X_b0 (x : BitVec 32) : x.toInt % 2 = 1 ↔ x.getLsbD 0 = true := by
  have h1 := BitVec.toInt_eq_toNat_cond x
  have h2 : x.getLsbD 0 = decide (x.toNat % 2 = 1) := by
    rw [BitVec.getLsbD, Nat.testBit_zero]
  rw [h2, decide_eq_true_iff]
  have h3 : x.toNat < 2 ^ 32 := x.isLt
  split at h1 <;> omega
theorem X_bt_g (b : Int) (n : Nat) (h : n < 32) : X_bt b n ↔ (iI b).toBitVec.getLsbD n = true := by
  unfold X_bt
  rw [← Int32.toInt_toBitVec, X_b0, Int32.toBitVec_shiftRight, BitVec.sshiftRight_eq', X_sm n h, BitVec.getLsbD_sshiftRight]
  have h1 : ¬ 32 ≤ 0 := by decide
  have h2 : n + 0 < 32 := h
  simp [h1, h]
theorem X_ib (x : Int32) : (iI x.toInt).toBitVec = x.toBitVec := by rw [← iI_of]
theorem X_bt_or (a b n : Int) (h : 0 ≤ n ∧ n < 32) : X_bt (X_bO a b) n ↔ X_bt a n ∨ X_bt b n := by
  have e : n = (n.toNat : Int) := by omega
  rw [e, X_bt_g _ _ (by omega), X_bt_g _ _ (by omega), X_bt_g _ _ (by omega)]
  unfold X_bO
  rw [X_ib, Int32.toBitVec_or, BitVec.getLsbD_or, Bool.or_eq_true]
theorem X_bt_an (a b n : Int) (h : 0 ≤ n ∧ n < 32) : X_bt (X_bA a b) n ↔ X_bt a n ∧ X_bt b n := by
  have e : n = (n.toNat : Int) := by omega
  rw [e, X_bt_g _ _ (by omega), X_bt_g _ _ (by omega), X_bt_g _ _ (by omega)]
  unfold X_bA
  rw [X_ib, Int32.toBitVec_and, BitVec.getLsbD_and, Bool.and_eq_true]
theorem X_bt_sh (k n : Int) (hk : 0 ≤ k ∧ k < 32) (h : 0 ≤ n ∧ n < 32) : X_bt (X_bS k) n ↔ n = k := by
  have e : n = (n.toNat : Int) := by omega
  have e2 : k = (k.toNat : Int) := by omega
  have key : ∀ k n : Fin 32, ((iI (iI 1 <<< (iI ((k : Nat) : Int) &&& 31)).toInt).toBitVec.getLsbD (n : Nat) = true ↔ (n : Nat) = (k : Nat)) := by decide +kernel
  rw [e, X_bt_g _ _ (by omega)]
  unfold X_bS
  rw [e2]
  have := key ⟨k.toNat, by omega⟩ ⟨n.toNat, by omega⟩
  simp only at this
  rw [this]
  omega
theorem X_bt_0 (n : Int) (h : 0 ≤ n ∧ n < 32) : ¬ X_bt 0 n := by
  have e : n = (n.toNat : Int) := by omega
  rw [e, X_bt_g _ _ (by omega)]
  simp
theorem X_bt_m (n : Int) (h : 0 ≤ n ∧ n < 32) : X_bt (-1) n := by
  have e : n = (n.toNat : Int) := by omega
  have key : ∀ n : Fin 32, (iI (-1)).toBitVec.getLsbD (n : Nat) = true := by decide +kernel
  rw [e, X_bt_g _ _ (by omega)]
  exact key ⟨n.toNat, by omega⟩
theorem X_bt_1 (n : Int) (h : 0 ≤ n ∧ n < 32) : X_bt 1 n ↔ n = 0 := X_bt_sh 0 n (by omega) h
theorem X_QI {sc : X_Sc} {j : Nat} {F : X_F} {Q : Option Value → X_S → Prop} (k : ∀ Q' : Option Value → X_S → Prop, (∀ v S', Q v S' → Q' v S') → X_T sc j F Q') : X_T sc j F Q := k Q (fun _ _ h => h)
theorem X_bt_s (b n : Int) : iI ((iI b >>> (iI n &&& 31)).toInt % 2) = iI ((iI b >>> (iI n &&& 31)).toInt % 2) := rfl
/-! the class's words and books. d: a word's ints (0 rank, 1 lean, 2 kind, 3 size, 4 holes, 5 steps, 6 bound, 7 value; 8 holeAt, 9 holeKinds, 10 takenWords, 11 takenKinds, 12 stepSigns, 13 stepValues), q: its parts -/
def X_wu (d : Nat → Int → Int) (f : Nat) (g : Int → Int) : Nat → Int → Int := fun k => if k = f then g else d k
def C_wd (S : X_S) (a : Nat) (d : Nat → Int → Int) (q : Int → Int64) : Prop :=
  S.1 a = .inr (8, [.int (iI (d 0 0)), .int (iI (d 1 0)), .int (iI (d 2 0)), .int (iI (d 3 0)), .int (iI (d 4 0)), .int (iI (d 5 0)), .int (iI (d 6 0)), .int (iI (d 7 0)), .ref (a + 1), .ref (a + 2), .ref (a + 3), .ref (a + 4), .ref (a + 5), .ref (a + 6), .ref (a + 7)]) ∧
  S.1 (a + 1) = .inl (.long, 8, .inr (.inl fun k : Nat => q (k : Int))) ∧
  S.1 (a + 2) = .inl (.int, 8, .inl fun k : Nat => iI (d 8 (k : Int))) ∧
  S.1 (a + 3) = .inl (.int, 4, .inl fun k : Nat => iI (d 9 (k : Int))) ∧
  S.1 (a + 4) = .inl (.int, 4, .inl fun k : Nat => iI (d 10 (k : Int))) ∧
  S.1 (a + 5) = .inl (.int, 4, .inl fun k : Nat => iI (d 11 (k : Int))) ∧
  S.1 (a + 6) = .inl (.int, 30, .inl fun k : Nat => iI (d 12 (k : Int))) ∧
  S.1 (a + 7) = .inl (.int, 30, .inl fun k : Nat => iI (d 13 (k : Int)))
/-- within their rows -/
def X_wr (d : Nat → Int → Int) : Prop := (0 ≤ d 0 0 ∧ d 0 0 ≤ 11) ∧ (0 ≤ d 1 0 ∧ d 1 0 ≤ 2) ∧ (-1 ≤ d 2 0 ∧ d 2 0 ≤ 10) ∧ (0 ≤ d 3 0 ∧ d 3 0 ≤ 8) ∧ (0 ≤ d 4 0 ∧ d 4 0 ≤ 4) ∧ (-1 ≤ d 5 0 ∧ d 5 0 ≤ 30) ∧ (0 ≤ d 6 0 ∧ d 6 0 ≤ 1) ∧ (-2147483648 ≤ d 7 0 ∧ d 7 0 ≤ 2147483647)
def X_hl (d : Nat → Int → Int) (q : Int → Int64) (e : Int) : Prop := 0 ≤ e ∧ e < d 3 0 ∧ q e = 0
noncomputable def X_en (d : Nat → Int → Int) (q : Int → Int64) : Int := bI (X_hl d q 0) + 2 * bI (X_hl d q (d 3 0 - 1))
def X_hp (d : Nat → Int → Int) (q : Int → Int64) (t : Int64) : Prop := ∃ e, 0 ≤ e ∧ e < d 3 0 ∧ q e = t
theorem C_wd.fr {S S' : X_S} {a : Nat} {d : Nat → Int → Int} {q : Int → Int64} {P : Nat → Prop} (h : C_wd S a d q) (hf : X_Fr P S S') (hp : ∀ k, k ≤ 7 → ¬ P (a + k)) : C_wd S' a d q := by
  obtain ⟨h0, h1, h2, h3, h4, h5, h6, h7⟩ := h
  exact ⟨(hf.1 a (hp 0 (by omega))).trans h0, (hf.1 _ (hp 1 (by omega))).trans h1, (hf.1 _ (hp 2 (by omega))).trans h2, (hf.1 _ (hp 3 (by omega))).trans h3, (hf.1 _ (hp 4 (by omega))).trans h4, (hf.1 _ (hp 5 (by omega))).trans h5, (hf.1 _ (hp 6 (by omega))).trans h6, (hf.1 _ (hp 7 (by omega))).trans h7⟩
/-- a book's own cells; its words are told apart -/
def C_bk (S : X_S) (B : Nat) (rc kc wc : Int) (rn : Int → Int64) (lo : Int → Int) (kn : Int → Int64) (ab : Int → Int) : Prop :=
  S.1 B = .inr (0, [.int (iI rc), .int (iI kc), .int (iI wc), .ref (B + 1), .ref (B + 2), .ref (B + 3), .ref (B + 4), .ref (B + 5)]) ∧
  S.1 (B + 1) = .inl (.long, 12, .inr (.inl fun k : Nat => rn (k : Int))) ∧ S.1 (B + 2) = .inl (.int, 12, .inl fun k : Nat => iI (lo (k : Int))) ∧
  S.1 (B + 3) = .inl (.long, 11, .inr (.inl fun k : Nat => kn (k : Int))) ∧ S.1 (B + 4) = .inl (.int, 11, .inl fun k : Nat => iI (ab (k : Int))) ∧
  (∃ f : Nat → Option Nat, S.1 (B + 5) = .inl (.short, 30, .inr (.inr (.inr (.inr f)))) ∧ ∀ w : Nat, w < 30 → f w = some (B + 6 + 8 * w)) ∧
  (0 ≤ rc ∧ rc ≤ 12) ∧ (1 ≤ kc ∧ kc ≤ 11) ∧ (0 ≤ wc ∧ wc ≤ 30)
def C_ws (S : X_S) (B : Nat) (D : Int → Nat → Int → Int) (W : Int → Int → Int64) : Prop := ∀ w : Int, 0 ≤ w → w < 30 → C_wd S (B + 6 + 8 * w.toNat) (D w) (W w) ∧ X_wr (D w)
theorem C_bk.fr {S S' : X_S} {B : Nat} {rc kc wc : Int} {rn : Int → Int64} {lo : Int → Int} {kn : Int → Int64} {ab : Int → Int} {P : Nat → Prop} (h : C_bk S B rc kc wc rn lo kn ab) (hf : X_Fr P S S') (hp : ∀ k, k ≤ 5 → ¬ P (B + k)) : C_bk S' B rc kc wc rn lo kn ab := by
  obtain ⟨h0, h1, h2, h3, h4, ⟨f, h5, h6⟩, h7⟩ := h
  exact ⟨(hf.1 B (hp 0 (by omega))).trans h0, (hf.1 _ (hp 1 (by omega))).trans h1, (hf.1 _ (hp 2 (by omega))).trans h2, (hf.1 _ (hp 3 (by omega))).trans h3, (hf.1 _ (hp 4 (by omega))).trans h4, ⟨f, (hf.1 _ (hp 5 (by omega))).trans h5, h6⟩, h7⟩
theorem C_ws.fr {S S' : X_S} {B : Nat} {D : Int → Nat → Int → Int} {W : Int → Int → Int64} {P : Nat → Prop} (h : C_ws S B D W) (hf : X_Fr P S S') (hp : ∀ k, 6 ≤ k → k < 246 → ¬ P (B + k)) : C_ws S' B D W := fun w h1 h2 =>
  ⟨(h w h1 h2).1.fr hf (fun k hk => by rw [show B + 6 + 8 * w.toNat + k = B + (6 + 8 * w.toNat + k) by omega]; exact hp _ (by omega) (by omega)), (h w h1 h2).2⟩
/-- where a name stands -/
def X_Ix (g : Int → Int64) (n : Int) (x : Int64) (r : Int) : Prop := (0 ≤ r ∧ r < n ∧ g r = x ∧ ∀ k, 0 ≤ k → k < r → ¬ g k = x) ∨ (r = -1 ∧ ∀ k, 0 ≤ k → k < n → ¬ g k = x)
end
section
/-! reading a book's lines. so, ct: the tokens' sorts and contents, n: how many; c: the token that is looked at -/
def X_av (n c : Int) : Int := if c + 1 < n then c + 1 else c
theorem X_av_r {n c : Int} (h : 0 ≤ c ∧ c < n) : 0 ≤ X_av n c ∧ X_av n c < n := by
  unfold X_av
  split <;> omega
/-- the place of a name, -1 if it isn't there -/
noncomputable def X_ix (g : Int → Int64) (n : Int) (x : Int64) : Int := @dite Int (∃ r, X_Ix g n x r) (Classical.propDecidable _) (fun h => Classical.choose h) (fun _ => -1)
theorem X_Ix_u {g : Int → Int64} {n : Int} {x : Int64} {r r' : Int} (h : X_Ix g n x r) (h' : X_Ix g n x r') : r = r' := by
  rcases h with ⟨a1, a2, a3, a4⟩ | ⟨a1, a2⟩ <;> rcases h' with ⟨b1, b2, b3, b4⟩ | ⟨b1, b2⟩
  · by_cases h1 : r < r'
    · exact absurd a3 (b4 r a1 h1)
    · by_cases h2 : r' < r
      · exact absurd b3 (a4 r' b1 h2)
      · omega
  · exact absurd a3 (b2 r a1 a2)
  · exact absurd b3 (a2 r' b1 b2)
  · omega
theorem X_ix_e {g : Int → Int64} {n : Int} {x : Int64} {r : Int} (h : X_Ix g n x r) : r = X_ix g n x := by
  have hx : ∃ r, X_Ix g n x r := ⟨r, h⟩
  have e : X_ix g n x = Classical.choose hx := by
    unfold X_ix
    rw [dif_pos hx]
  rw [e]
  exact X_Ix_u h (Classical.choose_spec hx)
/-- what the reading of a book's text has come to: the token, how many ranks, kinds, words; their names and bits; the words -/
abbrev X_Kp : Type := Int × Int × Int × Int × (Int → Int64) × (Int → Int) × (Int → Int64) × (Int → Int) × (Int → Nat → Int → Int) × (Int → Int → Int64)
def C_pa (S : X_S) (B : Nat) (fl fp : Int) : Prop := S.1 496 = .inr (4, [.ref 497, .ref B, .int (iI fl), .int (iI fp)])
/-- the parser over its lexer and the book it writes -/
def C_K (S : X_S) (B : Nat) (fl fp at_ n : Int) (so pl : Int → Int) (ct : Int → Int64) (K : X_Kp) : Prop :=
  C_pa S B fl fp ∧ C_lx S at_ n K.1 so pl ct ∧ C_bk S B K.2.1 K.2.2.1 K.2.2.2.1 K.2.2.2.2.1 K.2.2.2.2.2.1 K.2.2.2.2.2.2.1 K.2.2.2.2.2.2.2.1 ∧ C_ws S B K.2.2.2.2.2.2.2.2.1 K.2.2.2.2.2.2.2.2.2 ∧ (0 ≤ K.1 ∧ K.1 < n)
noncomputable def sp_rank (n : Int) (so : Int → Int) (ct : Int → Int64) : X_Kp → Option X_Kp
  | (c, rc, kc, wc, rn, lo, kn, ab, D, W) =>
    if rc = 12 then none else if so (X_av n c) = 2 then (if X_ix rn rc (ct (X_av n c)) = -1 then (if so (X_av n (X_av n c)) = 59 then
      some (X_av n (X_av n (X_av n c)), rc + 1, kc, wc, X_ug rn rc (ct (X_av n c)), X_ug lo rc 0, kn, ab, D, W) else none) else none) else none
noncomputable def sp_kind (n : Int) (so : Int → Int) (ct : Int → Int64) : X_Kp → Option X_Kp
  | (c, rc, kc, wc, rn, lo, kn, ab, D, W) =>
    if kc = 11 then none else if so (X_av n c) = 2 then (if X_ix kn kc (ct (X_av n c)) = -1 then
      (if so (X_av n (X_av n c)) = 3 ∧ ct (X_av n (X_av n c)) = Int64.ofNat 504363246962 then
        (if so (X_av n (X_av n (X_av n c))) = 2 then (if X_ix kn kc (ct (X_av n (X_av n (X_av n c)))) = -1 then none else
          (if so (X_av n (X_av n (X_av n (X_av n c)))) = 59 then
            some (X_av n (X_av n (X_av n (X_av n (X_av n c)))), rc, kc + 1, wc, rn, lo, X_ug kn kc (ct (X_av n c)), X_ug ab kc (X_bO (ab (X_ix kn kc (ct (X_av n (X_av n (X_av n c)))))) (X_bS kc)), D, W) else none)) else none)
      else (if so (X_av n (X_av n c)) = 59 then
        some (X_av n (X_av n (X_av n c)), rc, kc + 1, wc, rn, lo, X_ug kn kc (ct (X_av n c)), X_ug ab kc (X_bO (ab 0) (X_bS kc)), D, W) else none)) else none) else none
end
