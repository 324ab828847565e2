/-! WORK -/
section X_T6
variable {sc : X_Sc} {j : Nat} {Q : Option Value → X_S → Prop} {pc t : Nat} {ls : X_L} {r : List Value} {S : X_S}
theorem T_tsk {d lo hi : Int} {offs : Array Int} {n : Nat} {ax : Nat × Nat × Nat} {z c off : Int} (hr : X_row j pc = some (pc, (.tableswitch d lo hi offs, n), ax)) (hz : z = c) (hi1 : lo ≤ c ∧ c ≤ hi) (hb : -2147483648 ≤ c ∧ c ≤ 2147483647) (ho : offs[(c - lo).toNat]? = some off) (ht : X_tg pc off = some t) (k : X_T sc j (t, ls, r, S) Q) : X_T sc j (pc, ls, .int (iI z) :: r, S) Q := by
  subst hz
  refine T_p hr rfl ?_ k
  have e : (iI z).toInt = z := iI_t hb.1 hb.2
  simp only [X_pstep, e]
  rw [if_neg (by omega), ho]
  simp only [ht]
theorem T_tsd {d lo hi : Int} {offs : Array Int} {n : Nat} {ax : Nat × Nat × Nat} {z : Int} (hr : X_row j pc = some (pc, (.tableswitch d lo hi offs, n), ax)) (hz : z < lo ∨ hi < z) (hb : -2147483648 ≤ z ∧ z ≤ 2147483647) (ht : X_tg pc d = some t) (k : X_T sc j (t, ls, r, S) Q) : X_T sc j (pc, ls, .int (iI z) :: r, S) Q := by
  refine T_p hr rfl ?_ k
  have e : (iI z).toInt = z := iI_t hb.1 hb.2
  simp only [X_pstep, e]
  rw [if_pos hz, ht]
end X_T6
/-- an operation's outcome -/
noncomputable def X_out2 (s a b : Int) : Int := if s = 43 then (iI a + iI b).toInt else if s = 45 then (iI a - iI b).toInt else if s = 42 then (iI a * iI b).toInt else if s = 47 then (iI a / iI b).toInt else if s = 37 then (iI a - iI a / iI b * iI b).toInt else bI (a < b)
theorem X_out2_r {s a b : Int} : -2147483648 ≤ X_out2 s a b ∧ X_out2 s a b ≤ 2147483647 := by
  unfold X_out2
  have := bI_r (a < b)
  repeat' split
  all_goals first | exact iI_rng _ | omega
/-- the pile behind so many steps; none where an / or % is by 0 -/
noncomputable def X_wS (d : Nat → Int → Int) (ch : Int → Int) : Nat → Option (Int × (Int → Int))
  | 0 => some (0, fun _ => 0)
  | k + 1 => (X_wS d ch k).bind fun r =>
      if d 12 (k : Int) = 4 then some (r.1 + 1, X_ug r.2 r.1 (iI (d 13 (k : Int))).toInt) else if d 12 (k : Int) = 64 then some (r.1 + 1, X_ug r.2 r.1 (iI (ch (d 13 (k : Int) - 1))).toInt)
      else if (d 12 (k : Int) = 47 ∨ d 12 (k : Int) = 37) ∧ r.2 (r.1 - 1) = 0 then none else some (r.1 - 1, X_ug r.2 (r.1 - 2) (X_out2 (d 12 (k : Int)) (r.2 (r.1 - 2)) (r.2 (r.1 - 1))))
theorem X_wS_s (d : Nat → Int → Int) (ch : Int → Int) {k : Int} (h : 0 ≤ k) : X_wS d ch (k + 1).toNat = (X_wS d ch k.toNat).bind fun r =>
      if d 12 k = 4 then some (r.1 + 1, X_ug r.2 r.1 (iI (d 13 k)).toInt) else if d 12 k = 64 then some (r.1 + 1, X_ug r.2 r.1 (iI (ch (d 13 k - 1))).toInt)
      else if (d 12 k = 47 ∨ d 12 k = 37) ∧ r.2 (r.1 - 1) = 0 then none else some (r.1 - 1, X_ug r.2 (r.1 - 2) (X_out2 (d 12 k) (r.2 (r.1 - 2)) (r.2 (r.1 - 1)))) := by
  rw [show (k + 1).toNat = k.toNat + 1 by omega]
  show (X_wS d ch k.toNat).bind (fun r =>
      if d 12 ((k.toNat : Nat) : Int) = 4 then some (r.1 + 1, X_ug r.2 r.1 (iI (d 13 ((k.toNat : Nat) : Int))).toInt) else if d 12 ((k.toNat : Nat) : Int) = 64 then some (r.1 + 1, X_ug r.2 r.1 (iI (ch (d 13 ((k.toNat : Nat) : Int) - 1))).toInt)
      else if (d 12 ((k.toNat : Nat) : Int) = 47 ∨ d 12 ((k.toNat : Nat) : Int) = 37) ∧ r.2 (r.1 - 1) = 0 then none else some (r.1 - 1, X_ug r.2 (r.1 - 2) (X_out2 (d 12 ((k.toNat : Nat) : Int)) (r.2 (r.1 - 2)) (r.2 (r.1 - 1))))) = _
  rw [show ((k.toNat : Nat) : Int) = k by omega]
theorem X_wS_none {d : Nat → Int → Int} {ch : Int → Int} {k : Int} (h : 0 ≤ k) (hn : X_wS d ch k.toNat = none) : ∀ n : Nat, X_wS d ch (k.toNat + n) = none := by
  intro n
  induction n with
  | zero => exact hn
  | succ n ih =>
    show (X_wS d ch (k.toNat + n)).bind _ = none
    rw [ih]
    rfl
theorem X_wS_h {d : Nat → Int → Int} {ch : Int → Int} (hs : X_sok d) : ∀ (k : Nat) (r : Int × (Int → Int)), (k : Int) ≤ d 5 0 → X_wS d ch k = some r → r.1 = X_ph (d 12) k := by
  intro k
  induction k with
  | zero => intro r _ h; cases h; rfl
  | succ k ih =>
    intro r hk h
    cases hp : X_wS d ch k with
    | none =>
      have h : (X_wS d ch k).bind _ = some r := h
      rw [hp] at h
      cases h
    | some q =>
      have e := ih q (by omega) hp
      have h : (X_wS d ch k).bind _ = some r := h
      rw [hp] at h
      simp only [Option.bind] at h
      have hst := hs.2.2 (k : Int) (by omega) (by omega)
      show r.1 = X_ph (d 12) k + @ite Int (X_isOp (d 12 (k : Int))) (Classical.propDecidable _) (-1) 1
      rcases hst with ⟨h1, -⟩ | ⟨h1, h2, -⟩
      · rw [if_pos h1]
        unfold X_isOp at h1
        rw [if_neg (by omega), if_neg (by omega)] at h
        split at h
        · cases h
        · cases h
          show q.1 - 1 = _
          omega
      · rw [if_neg h1]
        split at h
        · cases h
          show q.1 + 1 = _
          omega
        · rcases h2 with h2 | h2
          · exact absurd h2 (by assumption)
          · rw [if_pos h2.1] at h
            cases h
            show q.1 + 1 = _
            omega
theorem X_wS_r {d : Nat → Int → Int} {ch : Int → Int} : ∀ (k : Nat) (r : Int × (Int → Int)), X_wS d ch k = some r → ∀ q, -2147483648 ≤ r.2 q ∧ r.2 q ≤ 2147483647 := by
  intro k
  induction k with
  | zero => intro r h q; cases h; exact ⟨(show (-2147483648 : Int) ≤ 0 by omega), (show (0 : Int) ≤ 2147483647 by omega)⟩
  | succ k ih =>
    intro r h q
    cases hp : X_wS d ch k with
    | none =>
      have h : (X_wS d ch k).bind _ = some r := h
      rw [hp] at h
      cases h
    | some z =>
      have e := ih z hp
      have key : ∀ (a v : Int), (-2147483648 ≤ v ∧ v ≤ 2147483647) → -2147483648 ≤ X_ug z.2 a v q ∧ X_ug z.2 a v q ≤ 2147483647 := fun a v hv => by
        by_cases hq : q = a
        · rw [hq, X_ug_s]; exact hv
        · rw [X_ug_n _ _ hq]; exact e q
      have h : (X_wS d ch k).bind _ = some r := h
      rw [hp] at h
      simp only [Option.bind] at h
      split at h
      · cases h; exact key _ _ (iI_rng _)
      · split at h
        · cases h; exact key _ _ (iI_rng _)
        · split at h
          · cases h
          · cases h; exact key _ _ X_out2_r
/-- a node's value: 0 and it; 1 an / or % by 0; 2 a word without a value -/
noncomputable def X_ev (G : X_G) (bo va : Int → Int) (N : Int → Int → Int) (nc : Int) (V : Int → Int) (n : Int) : Int × Int :=
  if N 0 n = -2 then (0, X_nv (gt G (N 1 n))) else if N 0 n = -3 then (0, V (X_lc N n 0 nc.toNat)) else
    if ¬ gD G (N 0 n) 5 0 = -1 then (match X_wS (gD G (N 0 n)) (fun h => V (X_lc N n h nc.toNat)) (gD G (N 0 n) 5 0).toNat with
      | none => (1, 0)
      | some r => (0, r.2 0))
    else if bo (N 0 n) = 1 then (0, va (N 0 n)) else (2, 0)
def X_wn (N : Int → Int → Int) (nc nx : Int) : Int := if nx < nc then N 3 nx else -1
noncomputable def X_wi (G : X_G) (bo va : Int → Int) (N : Int → Int → Int) (nc out : Int) : Nat → Int → (Int → Int) → (Int × Int) × (Int → Int)
  | 0, n, V => ((0, n), V)
  | f + 1, n, V => if out < n then (if (X_ev G bo va N nc V n).1 = 0 then X_wi G bo va N nc out f (N 3 n) (X_ug V n (X_ev G bo va N nc V n).2) else (((X_ev G bo va N nc V n).1, n), V)) else ((0, n), V)
noncomputable def X_wo (G : X_G) (bo va : Int → Int) (N : Int → Int → Int) (nc : Int) : Nat → Int → (Int → Int) → Int × Int × Int
  | 0, _, V => (0, -1, V 0)
  | m + 1, nx, V => if (X_wi G bo va N nc (X_wn N nc nx) 31 (nx - 1) V).1.1 = 0 then X_wo G bo va N nc m (nx + 1) (X_wi G bo va N nc (X_wn N nc nx) 31 (nx - 1) V).2 else ((X_wi G bo va N nc (X_wn N nc nx) 31 (nx - 1) V).1.1, (X_wi G bo va N nc (X_wn N nc nx) 31 (nx - 1) V).1.2, 0)
/-- the work on a reading: how it ended, where, the value -/
noncomputable def X_wk (G : X_G) (bo va : Int → Int) (N : Int → Int → Int) (nc : Int) : Int × Int × Int := X_wo G bo va N nc nc.toNat 1 (fun _ => 0)
/-- the nodes that one is in, itself too -/
def X_up (N : Int → Int → Int) : Nat → Int → Int
  | 0, n => n
  | t + 1, n => if n < 0 then n else X_up N t (N 3 n)
def X_An (N : Int → Int → Int) (n m : Int) : Prop := ∃ t, X_up N t n = m
theorem X_An.rf {N : Int → Int → Int} {n : Int} : X_An N n n := ⟨0, rfl⟩
theorem X_An.up {N : Int → Int → Int} {n m : Int} (h0 : 0 ≤ n) (h : X_An N (N 3 n) m) : X_An N n m := by
  obtain ⟨t, ht⟩ := h
  refine ⟨t + 1, ?_⟩
  show (if n < 0 then n else X_up N t (N 3 n)) = m
  rw [if_neg (by omega)]
  exact ht
theorem X_An.dn {N : Int → Int → Int} {n m : Int} (h : X_An N n m) (hne : ¬ n = m) : 0 ≤ n ∧ X_An N (N 3 n) m := by
  obtain ⟨t, ht⟩ := h
  cases t with
  | zero => exact absurd ht hne
  | succ t =>
    have ht : (if n < 0 then n else X_up N t (N 3 n)) = m := ht
    by_cases h0 : n < 0
    · rw [if_pos h0] at ht
      exact absurd ht hne
    · rw [if_neg h0] at ht
      exact ⟨by omega, t, ht⟩
/-- nodes are in nodes ahead of them -/
def X_tr0 (N : Int → Int → Int) (nc : Int) : Prop := ∀ k, 0 ≤ k → k < nc → -1 ≤ N 3 k ∧ N 3 k < k
theorem X_An_le {N : Int → Int → Int} {nc : Int} (ht : X_tr0 N nc) : ∀ (k : Nat) (n m : Int), n < k → n < nc → -1 ≤ n → X_An N n m → -1 ≤ m ∧ m ≤ n := by
  intro k
  induction k with
  | zero =>
    intro n m h1 h2 h3 h
    by_cases hne : n = m
    · omega
    · have := (h.dn hne).1; omega
  | succ k ih =>
    intro n m h1 h2 h3 h
    by_cases hne : n = m
    · omega
    · obtain ⟨h4, h5⟩ := h.dn hne
      have h6 := ht n h4 h2
      have := ih (N 3 n) m (by omega) (by omega) h6.1 h5
      omega
theorem X_An.le {N : Int → Int → Int} {nc n m : Int} (h : X_An N n m) (ht : X_tr0 N nc) (h1 : n < nc) (h2 : -1 ≤ n) : -1 ≤ m ∧ m ≤ n := X_An_le ht (n + 1).toNat n m (by omega) h1 h2 h
theorem X_An_tr {N : Int → Int → Int} {nc : Int} (ht : X_tr0 N nc) : ∀ (k : Nat) (n m l : Int), n < k → n < nc → X_An N n m → X_An N m l → X_An N n l := by
  intro k
  induction k with
  | zero =>
    intro n m l h1 h2 h h'
    by_cases hne : n = m
    · rw [hne]; exact h'
    · have := (h.dn hne).1; omega
  | succ k ih =>
    intro n m l h1 h2 h h'
    by_cases hne : n = m
    · rw [hne]; exact h'
    · obtain ⟨h4, h5⟩ := h.dn hne
      have h6 := ht n h4 h2
      exact X_An.up h4 (ih (N 3 n) m l (by omega) (by omega) h5 h')
theorem X_An.tr {N : Int → Int → Int} {nc n m l : Int} (h : X_An N n m) (h' : X_An N m l) (ht : X_tr0 N nc) (h1 : n < nc) : X_An N n l := X_An_tr ht (n + 1).toNat n m l (by omega) h1 h h'
/-- two that one is in: one is in the other -/
theorem X_An_cp {N : Int → Int → Int} {nc : Int} (ht : X_tr0 N nc) : ∀ (k : Nat) (n a b : Int), n < k → n < nc → -1 ≤ n → X_An N n a → X_An N n b → b ≤ a → X_An N a b := by
  intro k
  induction k with
  | zero =>
    intro n a b h1 h2 h3 ha hb hab
    by_cases hne : n = a
    · rw [← hne]; exact hb
    · have := (ha.dn hne).1; omega
  | succ k ih =>
    intro n a b h1 h2 h3 ha hb hab
    by_cases hne : n = a
    · rw [← hne]; exact hb
    · obtain ⟨h4, h5⟩ := ha.dn hne
      have h6 := ht n h4 h2
      have h7 := h5.le ht (by omega) (by omega)
      have h8 : ¬ n = b := by omega
      exact ih (N 3 n) a b (by omega) (by omega) h6.1 h5 (hb.dn h8).2 hab
theorem X_An.cp {N : Int → Int → Int} {nc n a b : Int} (ha : X_An N n a) (hb : X_An N n b) (hab : b ≤ a) (ht : X_tr0 N nc) (h1 : n < nc) (h2 : -1 ≤ n) : X_An N a b := X_An_cp ht (n + 1).toNat n a b (by omega) h1 h2 ha hb hab
/-- each node is in the one ahead of it, or in one that that one is in -/
def X_tr1 (N : Int → Int → Int) (nc : Int) : Prop := ∀ k, 1 ≤ k → k < nc → 0 ≤ N 3 k ∧ X_An N (k - 1) (N 3 k)
theorem X_An_no {N : Int → Int → Int} {nc nx n : Int} (ht : X_tr0 N nc) (ht1 : X_tr1 N nc) (h1 : 1 ≤ nx) (hn : n < nx) (ho : X_wn N nc nx < n) (h0 : 0 ≤ n) : ∀ (m : Nat) (k : Int), k = nx + m → k < nc → ¬ X_An N k n := by
  intro m
  induction m with
  | zero =>
    intro k hk hkn h
    have hk : k = nx := by omega
    subst hk
    obtain ⟨-, h5⟩ := h.dn (by omega)
    have h6 := ht k (by omega) hkn
    have h7 := h5.le ht (by omega) h6.1
    unfold X_wn at ho
    rw [if_pos hkn] at ho
    omega
  | succ m ih =>
    intro k hk hkn h
    obtain ⟨-, h5⟩ := h.dn (by omega)
    obtain ⟨h6, h7⟩ := ht1 k (by omega) hkn
    exact ih (k - 1) (by omega) (by omega) (X_An.tr h7 h5 ht (by omega))
