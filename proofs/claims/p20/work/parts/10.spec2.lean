def X_bt (b n : Int) : Prop := (iI b >>> (iI n &&& 31)).toInt % 2 = 1
def X_bO (a b : Int) : Int := (iI a ||| iI b).toInt
def X_bA (a b : Int) : Int := (iI a &&& iI b).toInt
def X_bS (k : Int) : Int := (iI 1 <<< (iI k &&& 31)).toInt
theorem X_sm (n : Nat) (h : n < 32) : ((iI (n : Int) &&& 31).toBitVec.smod 32).toNat = n := by
  have : ∀ n : Fin 32, ((iI ((n : Nat) : Int) &&& 31).toBitVec.smod 32).toNat = (n : Nat) := by decide
  exact this ⟨n, h⟩
theorem X_b0 (x : BitVec 32) : x.toInt % 2 = 1 ↔ x.getLsbD 0 = true := by
  have h1 := BitVec.toInt_eq_toNat_cond x
  have h2 : x.getLsbD 0 = decide (x.toNat % 2 = 1) := by
    rw [BitVec.getLsbD, Nat.testBit_zero]
  rw [h2, decide_eq_true_iff]
  have h3 : x.toNat < 2 ^ 32 := x.isLt
  split at h1 <;> omega
theorem X_bt_g (b : Int) (n : Nat) (h : n < 32) : X_bt b n ↔ (iI b).toBitVec.getLsbD n = true := by
  unfold X_bt
  rw [← Int32.toInt_toBitVec, X_b0, Int32.toBitVec_shiftRight, BitVec.sshiftRight_eq', X_sm n h, BitVec.getLsbD_sshiftRight]
  have h1 : ¬ 32 ≤ 0 := by decide
  have h2 : n + 0 < 32 := h
  simp [h1, h]
theorem X_ib (x : Int32) : (iI x.toInt).toBitVec = x.toBitVec := by rw [← iI_of]
theorem X_bt_or (a b n : Int) (h : 0 ≤ n ∧ n < 32) : X_bt (X_bO a b) n ↔ X_bt a n ∨ X_bt b n := by
  have e : n = (n.toNat : Int) := by omega
  rw [e, X_bt_g _ _ (by omega), X_bt_g _ _ (by omega), X_bt_g _ _ (by omega)]
  unfold X_bO
  rw [X_ib, Int32.toBitVec_or, BitVec.getLsbD_or, Bool.or_eq_true]
theorem X_bt_an (a b n : Int) (h : 0 ≤ n ∧ n < 32) : X_bt (X_bA a b) n ↔ X_bt a n ∧ X_bt b n := by
  have e : n = (n.toNat : Int) := by omega
  rw [e, X_bt_g _ _ (by omega), X_bt_g _ _ (by omega), X_bt_g _ _ (by omega)]
  unfold X_bA
  rw [X_ib, Int32.toBitVec_and, BitVec.getLsbD_and, Bool.and_eq_true]
theorem X_bt_sh (k n : Int) (hk : 0 ≤ k ∧ k < 32) (h : 0 ≤ n ∧ n < 32) : X_bt (X_bS k) n ↔ n = k := by
  have e : n = (n.toNat : Int) := by omega
  have e2 : k = (k.toNat : Int) := by omega
  have key : ∀ k n : Fin 32, ((iI (iI 1 <<< (iI ((k : Nat) : Int) &&& 31)).toInt).toBitVec.getLsbD (n : Nat) = true ↔ (n : Nat) = (k : Nat)) := by decide +kernel
  rw [e, X_bt_g _ _ (by omega)]
  unfold X_bS
  rw [e2]
  have := key ⟨k.toNat, by omega⟩ ⟨n.toNat, by omega⟩
  simp only at this
  rw [this]
  omega
theorem X_bt_0 (n : Int) (h : 0 ≤ n ∧ n < 32) : ¬ X_bt 0 n := by
  have e : n = (n.toNat : Int) := by omega
  rw [e, X_bt_g _ _ (by omega)]
  simp
theorem X_bt_m (n : Int) (h : 0 ≤ n ∧ n < 32) : X_bt (-1) n := by
  have e : n = (n.toNat : Int) := by omega
  have key : ∀ n : Fin 32, (iI (-1)).toBitVec.getLsbD (n : Nat) = true := by decide +kernel
  rw [e, X_bt_g _ _ (by omega)]
  exact key ⟨n.toNat, by omega⟩
theorem X_bt_1 (n : Int) (h : 0 ≤ n ∧ n < 32) : X_bt 1 n ↔ n = 0 := X_bt_sh 0 n (by omega) h
theorem X_QI {sc : X_Sc} {j : Nat} {F : X_F} {Q : Option Value → X_S → Prop} (k : ∀ Q' : Option Value → X_S → Prop, (∀ v S', Q v S' → Q' v S') → X_T sc j F Q') : X_T sc j F Q := k Q (fun _ _ h => h)
theorem X_bt_s (b n : Int) : iI ((iI b >>> (iI n &&& 31)).toInt % 2) = iI ((iI b >>> (iI n &&& 31)).toInt % 2) := rfl
/-! the class's words and books. d: a word's ints (0 rank, 1 lean, 2 kind, 3 size, 4 holes, 5 steps, 6 bound, 7 value; 8 holeAt, 9 holeKinds, 10 takenWords, 11 takenKinds, 12 stepSigns, 13 stepValues), q: its parts -/
def X_wu (d : Nat → Int → Int) (f : Nat) (g : Int → Int) : Nat → Int → Int := fun k => if k = f then g else d k
def C_wd (S : X_S) (a : Nat) (d : Nat → Int → Int) (q : Int → Int64) : Prop :=
  S.1 a = .inr (8, [.int (iI (d 0 0)), .int (iI (d 1 0)), .int (iI (d 2 0)), .int (iI (d 3 0)), .int (iI (d 4 0)), .int (iI (d 5 0)), .int (iI (d 6 0)), .int (iI (d 7 0)), .ref (a + 1), .ref (a + 2), .ref (a + 3), .ref (a + 4), .ref (a + 5), .ref (a + 6), .ref (a + 7)]) ∧
  S.1 (a + 1) = .inl (.long, 8, .inr (.inl fun k : Nat => q (k : Int))) ∧
  S.1 (a + 2) = .inl (.int, 8, .inl fun k : Nat => iI (d 8 (k : Int))) ∧
  S.1 (a + 3) = .inl (.int, 4, .inl fun k : Nat => iI (d 9 (k : Int))) ∧
  S.1 (a + 4) = .inl (.int, 4, .inl fun k : Nat => iI (d 10 (k : Int))) ∧
  S.1 (a + 5) = .inl (.int, 4, .inl fun k : Nat => iI (d 11 (k : Int))) ∧
  S.1 (a + 6) = .inl (.int, 30, .inl fun k : Nat => iI (d 12 (k : Int))) ∧
  S.1 (a + 7) = .inl (.int, 30, .inl fun k : Nat => iI (d 13 (k : Int)))
/-- within their rows -/
def X_wr (d : Nat → Int → Int) : Prop := (0 ≤ d 0 0 ∧ d 0 0 ≤ 11) ∧ (0 ≤ d 1 0 ∧ d 1 0 ≤ 2) ∧ (-1 ≤ d 2 0 ∧ d 2 0 ≤ 10) ∧ (0 ≤ d 3 0 ∧ d 3 0 ≤ 8) ∧ (0 ≤ d 4 0 ∧ d 4 0 ≤ 4) ∧ (-1 ≤ d 5 0 ∧ d 5 0 ≤ 30) ∧ (0 ≤ d 6 0 ∧ d 6 0 ≤ 1) ∧ (-2147483648 ≤ d 7 0 ∧ d 7 0 ≤ 2147483647)
def X_hl (d : Nat → Int → Int) (q : Int → Int64) (e : Int) : Prop := 0 ≤ e ∧ e < d 3 0 ∧ q e = 0
noncomputable def X_en (d : Nat → Int → Int) (q : Int → Int64) : Int := bI (X_hl d q 0) + 2 * bI (X_hl d q (d 3 0 - 1))
def X_hp (d : Nat → Int → Int) (q : Int → Int64) (t : Int64) : Prop := ∃ e, 0 ≤ e ∧ e < d 3 0 ∧ q e = t
theorem C_wd.fr {S S' : X_S} {a : Nat} {d : Nat → Int → Int} {q : Int → Int64} {P : Nat → Prop} (h : C_wd S a d q) (hf : X_Fr P S S') (hp : ∀ k, k ≤ 7 → ¬ P (a + k)) : C_wd S' a d q := by
  obtain ⟨h0, h1, h2, h3, h4, h5, h6, h7⟩ := h
  exact ⟨(hf.1 a (hp 0 (by omega))).trans h0, (hf.1 _ (hp 1 (by omega))).trans h1, (hf.1 _ (hp 2 (by omega))).trans h2, (hf.1 _ (hp 3 (by omega))).trans h3, (hf.1 _ (hp 4 (by omega))).trans h4, (hf.1 _ (hp 5 (by omega))).trans h5, (hf.1 _ (hp 6 (by omega))).trans h6, (hf.1 _ (hp 7 (by omega))).trans h7⟩
/-- a book's own cells; its words are told apart -/
def C_bk (S : X_S) (B : Nat) (rc kc wc : Int) (rn : Int → Int64) (lo : Int → Int) (kn : Int → Int64) (ab : Int → Int) : Prop :=
  S.1 B = .inr (0, [.int (iI rc), .int (iI kc), .int (iI wc), .ref (B + 1), .ref (B + 2), .ref (B + 3), .ref (B + 4), .ref (B + 5)]) ∧
  S.1 (B + 1) = .inl (.long, 12, .inr (.inl fun k : Nat => rn (k : Int))) ∧ S.1 (B + 2) = .inl (.int, 12, .inl fun k : Nat => iI (lo (k : Int))) ∧
  S.1 (B + 3) = .inl (.long, 11, .inr (.inl fun k : Nat => kn (k : Int))) ∧ S.1 (B + 4) = .inl (.int, 11, .inl fun k : Nat => iI (ab (k : Int))) ∧
  (∃ f : Nat → Option Nat, S.1 (B + 5) = .inl (.short, 30, .inr (.inr (.inr (.inr f)))) ∧ ∀ w : Nat, w < 30 → f w = some (B + 6 + 8 * w)) ∧
  (0 ≤ rc ∧ rc ≤ 12) ∧ (1 ≤ kc ∧ kc ≤ 11) ∧ (0 ≤ wc ∧ wc ≤ 30)
def C_ws (S : X_S) (B : Nat) (D : Int → Nat → Int → Int) (W : Int → Int → Int64) : Prop := ∀ w : Int, 0 ≤ w → w < 30 → C_wd S (B + 6 + 8 * w.toNat) (D w) (W w) ∧ X_wr (D w)
theorem C_bk.fr {S S' : X_S} {B : Nat} {rc kc wc : Int} {rn : Int → Int64} {lo : Int → Int} {kn : Int → Int64} {ab : Int → Int} {P : Nat → Prop} (h : C_bk S B rc kc wc rn lo kn ab) (hf : X_Fr P S S') (hp : ∀ k, k ≤ 5 → ¬ P (B + k)) : C_bk S' B rc kc wc rn lo kn ab := by
  obtain ⟨h0, h1, h2, h3, h4, ⟨f, h5, h6⟩, h7⟩ := h
  exact ⟨(hf.1 B (hp 0 (by omega))).trans h0, (hf.1 _ (hp 1 (by omega))).trans h1, (hf.1 _ (hp 2 (by omega))).trans h2, (hf.1 _ (hp 3 (by omega))).trans h3, (hf.1 _ (hp 4 (by omega))).trans h4, ⟨f, (hf.1 _ (hp 5 (by omega))).trans h5, h6⟩, h7⟩
theorem C_ws.fr {S S' : X_S} {B : Nat} {D : Int → Nat → Int → Int} {W : Int → Int → Int64} {P : Nat → Prop} (h : C_ws S B D W) (hf : X_Fr P S S') (hp : ∀ k, 6 ≤ k → k < 246 → ¬ P (B + k)) : C_ws S' B D W := fun w h1 h2 =>
  ⟨(h w h1 h2).1.fr hf (fun k hk => by rw [show B + 6 + 8 * w.toNat + k = B + (6 + 8 * w.toNat + k) by omega]; exact hp _ (by omega) (by omega)), (h w h1 h2).2⟩
/-- where a name stands -/
def X_Ix (g : Int → Int64) (n : Int) (x : Int64) (r : Int) : Prop := (0 ≤ r ∧ r < n ∧ g r = x ∧ ∀ k, 0 ≤ k → k < r → ¬ g k = x) ∨ (r = -1 ∧ ∀ k, 0 ≤ k → k < n → ¬ g k = x)
