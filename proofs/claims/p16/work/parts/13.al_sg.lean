section
theorem X_An_m1 {N : Int → Int → Int} {nc : Int} (ht : X_tr0 N nc) : ∀ (k : Nat) (n : Int), n < k → n < nc → -1 ≤ n → X_An N n (-1) := by
  intro k
  induction k with
  | zero => intro n h1 h2 h3; rw [show n = -1 by omega]; exact X_An.rf
  | succ k ih =>
    intro n h1 h2 h3
    by_cases h0 : n = -1
    · rw [h0]; exact X_An.rf
    · have h6 := ht n (by omega) h2
      exact X_An.up (by omega) (ih (N 3 n) (by omega) (by omega) h6.1)
theorem X_An_neg {N : Int → Int → Int} {m : Int} (h : X_An N (-1) m) : m = -1 := by
  refine Classical.byContradiction (fun z => ?_)
  have := (h.dn (fun e => z e.symm)).1
  omega
/-- where a node's chain ends -/
theorem X_wn_A {G : X_G} {tn nc nx : Int} {N : Int → Int → Int} (hR : X_Rok G tn nc N) (h : 1 ≤ nx ∧ nx ≤ nc) : X_An N (nx - 1) (X_wn N nc nx) ∧ -1 ≤ X_wn N nc nx ∧ X_wn N nc nx < nx := by
  obtain ⟨-, t0, t1, -⟩ := hR
  unfold X_wn
  by_cases hn : nx < nc
  · rw [if_pos hn]
    have h1 := t1 nx h.1 hn
    have h2 := t0 nx (by omega) hn
    exact ⟨h1.2, by omega, h2.2⟩
  · rw [if_neg hn]
    exact ⟨X_An_m1 t0 nx.toNat (nx - 1) (by omega) (by omega) (by omega), by omega, by omega⟩
theorem X_out2_f {s a b z : Int} (hs : X_isOp s) (h : (s = 43 ∧ iI z = iI a + iI b) ∨ (s = 45 ∧ iI z = iI a - iI b) ∨ (s = 42 ∧ iI z = iI a * iI b) ∨ (s = 47 ∧ iI z = iI a / iI b) ∨ (s = 37 ∧ iI z = iI a - iI a / iI b * iI b) ∨ (s = 60 ∧ z = bI (a < b))) : iI z = iI (X_out2 s a b) := by
  unfold X_out2
  rcases h with ⟨h1, h2⟩ | ⟨h1, h2⟩ | ⟨h1, h2⟩ | ⟨h1, h2⟩ | ⟨h1, h2⟩ | ⟨h1, h2⟩
  · rw [if_pos h1, h2, ← iI_of]
  · rw [if_neg (by omega), if_pos h1, h2, ← iI_of]
  · rw [if_neg (by omega), if_neg (by omega), if_pos h1, h2, ← iI_of]
  · rw [if_neg (by omega), if_neg (by omega), if_neg (by omega), if_pos h1, h2, ← iI_of]
  · rw [if_neg (by omega), if_neg (by omega), if_neg (by omega), if_neg (by omega), if_pos h1, h2, ← iI_of]
  · rw [if_neg (by omega), if_neg (by omega), if_neg (by omega), if_neg (by omega), if_neg (by omega), h2]
theorem X_wi_s {G : X_G} {bo va V : Int → Int} {N : Int → Int → Int} {nc out n : Int} {f : Nat} (h : out < n) (h0 : (X_ev G bo va N nc V n).1 = 0) : X_wi G bo va N nc out (f + 1) n V = X_wi G bo va N nc out f (N 3 n) (X_ug V n (X_ev G bo va N nc V n).2) := by
  show (if out < n then _ else _) = _
  rw [if_pos h, if_pos h0]
theorem X_wi_x {G : X_G} {bo va V : Int → Int} {N : Int → Int → Int} {nc out n : Int} {f : Nat} (h : out < n) (h0 : ¬ (X_ev G bo va N nc V n).1 = 0) : X_wi G bo va N nc out (f + 1) n V = (((X_ev G bo va N nc V n).1, n), V) := by
  show (if out < n then _ else _) = _
  rw [if_pos h, if_neg h0]
theorem X_wi_e {G : X_G} {bo va V : Int → Int} {N : Int → Int → Int} {nc out n : Int} {f : Nat} (h : ¬ out < n) : X_wi G bo va N nc out f n V = ((0, n), V) := by
  cases f with
  | zero => rfl
  | succ f =>
    show (if out < n then _ else _) = _
    rw [if_neg h]
theorem X_wo_s {G : X_G} {bo va V V' : Int → Int} {N : Int → Int → Int} {nc nx n : Int} (hn : nx ≤ nc) (h : X_wi G bo va N nc (X_wn N nc nx) 31 (nx - 1) V = ((0, n), V')) : X_wo G bo va N nc (nc + 1 - nx).toNat nx V = X_wo G bo va N nc (nc + 1 - (nx + 1)).toNat (nx + 1) V' := by
  rw [show (nc + 1 - nx).toNat = (nc + 1 - (nx + 1)).toNat + 1 by omega]
  show (if (X_wi G bo va N nc (X_wn N nc nx) 31 (nx - 1) V).1.1 = 0 then X_wo G bo va N nc (nc + 1 - (nx + 1)).toNat (nx + 1) (X_wi G bo va N nc (X_wn N nc nx) 31 (nx - 1) V).2 else _) = _
  rw [h, if_pos rfl]
theorem X_wo_x {G : X_G} {bo va V V' : Int → Int} {N : Int → Int → Int} {nc nx n c : Int} (hn : nx ≤ nc) (hc : ¬ c = 0) (h : X_wi G bo va N nc (X_wn N nc nx) 31 (nx - 1) V = ((c, n), V')) : X_wo G bo va N nc (nc + 1 - nx).toNat nx V = (c, n, 0) := by
  rw [show (nc + 1 - nx).toNat = (nc + 1 - (nx + 1)).toNat + 1 by omega]
  show (if (X_wi G bo va N nc (X_wn N nc nx) 31 (nx - 1) V).1.1 = 0 then _ else ((X_wi G bo va N nc (X_wn N nc nx) 31 (nx - 1) V).1.1, (X_wi G bo va N nc (X_wn N nc nx) 31 (nx - 1) V).1.2, 0)) = _
  rw [h, if_neg hc]
end
section
theorem X_ev_r {G : X_G} {bo va V : Int → Int} {N : Int → Int → Int} {nc n : Int} : 0 ≤ (X_ev G bo va N nc V n).1 ∧ (X_ev G bo va N nc V n).1 ≤ 2 := by
  unfold X_ev
  split
  · exact ⟨Int.le_refl (0 : Int), (show (0 : Int) ≤ 2 by omega)⟩
  · split
    · exact ⟨Int.le_refl (0 : Int), (show (0 : Int) ≤ 2 by omega)⟩
    · split
      · split
        · exact ⟨(show (0 : Int) ≤ 1 by omega), (show (1 : Int) ≤ 2 by omega)⟩
        · exact ⟨Int.le_refl (0 : Int), (show (0 : Int) ≤ 2 by omega)⟩
      · split
        · exact ⟨Int.le_refl (0 : Int), (show (0 : Int) ≤ 2 by omega)⟩
        · exact ⟨(show (0 : Int) ≤ 2 by omega), Int.le_refl (2 : Int)⟩
theorem X_ev_n {G : X_G} {bo va V : Int → Int} {N : Int → Int → Int} {nc n : Int} (h : N 0 n = -2) : X_ev G bo va N nc V n = (0, X_nv (gt G (N 1 n))) := by
  unfold X_ev
  rw [if_pos h]
theorem X_ev_b {G : X_G} {bo va V : Int → Int} {N : Int → Int → Int} {nc n : Int} (h : N 0 n = -3) : X_ev G bo va N nc V n = (0, V (X_lc N n 0 nc.toNat)) := by
  unfold X_ev
  rw [if_neg (by omega), if_pos h]
theorem X_ev_s1 {G : X_G} {bo va V : Int → Int} {N : Int → Int → Int} {nc n : Int} (h : 0 ≤ N 0 n) (h5 : ¬ gD G (N 0 n) 5 0 = -1) (hs : X_wS (gD G (N 0 n)) (fun h => V (X_lc N n h nc.toNat)) (gD G (N 0 n) 5 0).toNat = none) : X_ev G bo va N nc V n = (1, 0) := by
  unfold X_ev
  rw [if_neg (by omega), if_neg (by omega), if_pos h5, hs]
theorem X_ev_s0 {G : X_G} {bo va V : Int → Int} {N : Int → Int → Int} {nc n : Int} {r : Int × (Int → Int)} (h : 0 ≤ N 0 n) (h5 : ¬ gD G (N 0 n) 5 0 = -1) (hs : X_wS (gD G (N 0 n)) (fun h => V (X_lc N n h nc.toNat)) (gD G (N 0 n) 5 0).toNat = some r) : X_ev G bo va N nc V n = (0, r.2 0) := by
  unfold X_ev
  rw [if_neg (by omega), if_neg (by omega), if_pos h5, hs]
theorem X_ev_v {G : X_G} {bo va V : Int → Int} {N : Int → Int → Int} {nc n : Int} (h : 0 ≤ N 0 n) (h5 : gD G (N 0 n) 5 0 = -1) : X_ev G bo va N nc V n = if bo (N 0 n) = 1 then (0, va (N 0 n)) else (2, 0) := by
  unfold X_ev
  rw [if_neg (by omega), if_neg (by omega), if_neg (fun z => z h5)]
end
section
/-! SENTENCES. how many tokens, how many bytes the last one has (0: it is ended), the tokens -/
def X_sn1 (s : Int × Int × (Int → Int64)) (c : Int) : Option (Int × Int × (Int → Int64)) :=
  if c = 32 ∨ c = 10 then some (s.1, 0, s.2.2) else if c < 33 ∨ 126 < c then none else if 0 < s.2.1 ∧ ¬ (c = 40 ∨ c = 41) then (if s.2.1 = 8 then none else some (s.1, s.2.1 + 1, X_ug s.2.2 (s.1 - 1) (X_pk1 (s.2.2 (s.1 - 1)) c)))
  else if s.1 = 30 then none else some (s.1 + 1, if c = 40 ∨ c = 41 then 0 else 1, X_ug s.2.2 s.1 (iI c).toInt64)
noncomputable def X_sn (tb : Int → Int) (len : Int) : Nat → Option (Int × Int × (Int → Int64))
  | 0 => some (0, 0, fun _ => 0)
  | k + 1 => (X_sn tb len k).bind fun s => X_sn1 s (X_at tb len (k : Int))
theorem X_sn_s {tb : Int → Int} {len k : Int} {s : Int × Int × (Int → Int64)} (h : 0 ≤ k) (hs : X_sn tb len k.toNat = some s) : X_sn tb len (k + 1).toNat = X_sn1 s (X_at tb len k) := by
  rw [show (k + 1).toNat = k.toNat + 1 by omega]
  show (X_sn tb len k.toNat).bind (fun s => X_sn1 s (X_at tb len ((k.toNat : Nat) : Int))) = _
  rw [hs, show ((k.toNat : Nat) : Int) = k by omega]
  rfl
theorem X_sn_n {tb : Int → Int} {len : Int} {k : Nat} (h : X_sn tb len k = none) : ∀ n : Nat, X_sn tb len (k + n) = none := by
  intro n
  induction n with
  | zero => exact h
  | succ n ih =>
    show (X_sn tb len (k + n)).bind _ = none
    rw [ih]
    rfl
theorem X_sn_x {tb : Int → Int} {len k : Int} (h0 : 0 ≤ k) (hk : k < len) (h : X_sn tb len (k + 1).toNat = none) : X_sn tb len len.toNat = none := by
  have := X_sn_n h (len.toNat - (k + 1).toNat)
  rw [show (k + 1).toNat + (len.toNat - (k + 1).toNat) = len.toNat by omega] at this
  exact this
theorem X_sn1_b {n z c : Int} {t : Int → Int64} (h : X_isBl c) : X_sn1 (n, z, t) c = some (n, 0, t) := by
  unfold X_sn1
  unfold X_isBl at h
  rw [if_pos h]
theorem X_sn1_x {n z c : Int} {t : Int → Int64} (h : ¬ X_isBl c) (h2 : c < 33 ∨ 126 < c) : X_sn1 (n, z, t) c = none := by
  unfold X_sn1
  unfold X_isBl at h
  rw [if_neg h, if_pos h2]
theorem X_sn1_m {n z c : Int} {t : Int → Int64} (h : ¬ X_isBl c) (h2 : ¬ (c < 33 ∨ 126 < c)) (h3 : 0 < z ∧ ¬ (c = 40 ∨ c = 41)) : X_sn1 (n, z, t) c = if z = 8 then none else some (n, z + 1, X_ug t (n - 1) (X_pk1 (t (n - 1)) c)) := by
  unfold X_sn1
  unfold X_isBl at h
  rw [if_neg h, if_neg h2, if_pos h3]
theorem X_sn1_n {n z c : Int} {t : Int → Int64} (h : ¬ X_isBl c) (h2 : ¬ (c < 33 ∨ 126 < c)) (h3 : ¬ (0 < z ∧ ¬ (c = 40 ∨ c = 41))) : X_sn1 (n, z, t) c = if n = 30 then none else some (n + 1, if c = 40 ∨ c = 41 then 0 else 1, X_ug t n (iI c).toInt64) := by
  unfold X_sn1
  unfold X_isBl at h
  rw [if_neg h, if_neg h2, if_neg h3]
end
section
/-! ANSWERS -/
theorem X_by_r (x : Int) : -128 ≤ X_by x ∧ X_by x ≤ 127 := by
  show -128 ≤ ((iI x).toInt8.toInt32).toInt ∧ ((iI x).toInt8.toInt32).toInt ≤ 127
  rw [Int8.toInt_toInt32]
  have h1 := Int8.le_toInt (iI x).toInt8
  have h2 := Int8.toInt_lt (iI x).toInt8
  omega
def X_fy (v s : Int) : Int := X_by (((iI ((iI v >>> (iI s &&& 31)).toInt)).toInt8.toInt32).toInt)
def X_fb (a b c d e k : Int) : Int := X_fy (if k < 4 then a else if k < 8 then b else if k < 12 then c else if k < 16 then d else e) (24 - 8 * (k % 4))
def X_fd5 (tb : Int → Int) (len a b c d e : Int) : Int → Int := X_ap4 (X_ap4 (X_ap4 (X_ap4 (X_ap4 tb len a) (len + 4) b) (len + 8) c) (len + 12) d) (len + 16) e
theorem X_ap4_o {tb : Int → Int} {len w q : Int} (h : ¬ (len ≤ q ∧ q < len + 4)) : X_ap4 tb len w q = tb q := by
  unfold X_ap4
  rw [X_ug_n _ _ (by omega), X_ug_n _ _ (by omega), X_ug_n _ _ (by omega), X_ug_n _ _ (by omega)]
theorem X_ap4_i {tb : Int → Int} {len w k : Int} (h : 0 ≤ k ∧ k < 4) : X_ap4 tb len w (len + k) = X_fy w (24 - 8 * k) := by
  unfold X_ap4 X_fy
  rcases (show k = 0 ∨ k = 1 ∨ k = 2 ∨ k = 3 by omega) with h | h | h | h <;> subst h
  · rw [X_ug_n _ _ (by omega), X_ug_n _ _ (by omega), X_ug_n _ _ (by omega), show len + 0 = len by omega, X_ug_s]; rfl
  · rw [X_ug_n _ _ (by omega), X_ug_n _ _ (by omega), X_ug_s]; rfl
  · rw [X_ug_n _ _ (by omega), X_ug_s]; rfl
  · rw [X_ug_s]; rfl
theorem X_fd5_o {tb : Int → Int} {len a b c d e q : Int} (h : q < len) : X_fd5 tb len a b c d e q = tb q := by
  unfold X_fd5
  rw [X_ap4_o (by omega), X_ap4_o (by omega), X_ap4_o (by omega), X_ap4_o (by omega), X_ap4_o (by omega)]
theorem X_fd5_i {tb : Int → Int} {len a b c d e k : Int} (h : 0 ≤ k ∧ k < 20) : X_fd5 tb len a b c d e (len + k) = X_fb a b c d e k := by
  unfold X_fd5 X_fb
  rcases (show k < 4 ∨ (4 ≤ k ∧ k < 8) ∨ (8 ≤ k ∧ k < 12) ∨ (12 ≤ k ∧ k < 16) ∨ 16 ≤ k by omega) with g | g | g | g | g
  · rw [X_ap4_o (by omega), X_ap4_o (by omega), X_ap4_o (by omega), X_ap4_o (by omega), X_ap4_i (by omega), if_pos g, show k % 4 = k by omega]
  · rw [X_ap4_o (by omega), X_ap4_o (by omega), X_ap4_o (by omega), show len + k = len + 4 + (k - 4) by omega, X_ap4_i (by omega), if_neg (by omega), if_pos g.2, show k % 4 = k - 4 by omega]
  · rw [X_ap4_o (by omega), X_ap4_o (by omega), show len + k = len + 8 + (k - 8) by omega, X_ap4_i (by omega), if_neg (by omega), if_neg (by omega), if_pos g.2, show k % 4 = k - 8 by omega]
  · rw [X_ap4_o (by omega), show len + k = len + 12 + (k - 12) by omega, X_ap4_i (by omega), if_neg (by omega), if_neg (by omega), if_neg (by omega), if_pos g.2, show k % 4 = k - 12 by omega]
  · rw [show len + k = len + 16 + (k - 16) by omega, X_ap4_i (by omega), if_neg (by omega), if_neg (by omega), if_neg (by omega), if_neg (by omega), show k % 4 = k - 16 by omega]
def X_qAb (rc kc wc tn nc len what : Int) : Int := if what = 0 then rc else if what = 1 then kc else if what = 2 then wc else if what = 3 then tn else if what = 4 then nc else if what = 5 then len else -1
noncomputable def X_qWd (G : X_G) (w what : Int) : Int := if 0 ≤ w ∧ w < gw G then (if what = 0 then gD G w 0 0 else if what = 1 then gD G w 1 0 else if what = 2 then gD G w 2 0 else if what = 3 then gD G w 3 0 else if what = 4 then gD G w 4 0 else if what = 5 then X_en (gD G w) (gW G w) else if what = 6 then gD G w 5 0 else -1) else -1
noncomputable def X_qTi (G : X_G) (rc a b : Int) : Int := if (0 ≤ a ∧ a < rc) ∧ 0 ≤ b ∧ b < rc then bI (X_bt (gl G a) b) else -1
noncomputable def X_qUn (G : X_G) (a b : Int) : Int := if (0 ≤ a ∧ a < gk G) ∧ 0 ≤ b ∧ b < gk G then bI (X_bt (ga G a) b) else -1
def X_qNd (nc : Int) (N : Int → Int → Int) (n what : Int) : Int := if 0 ≤ n ∧ n < nc then (if what = 0 then N 0 n else if what = 1 then N 1 n else if what = 2 then N 2 n else if what = 3 then N 3 n else if what = 4 then N 4 n else -1) else -1
noncomputable def X_qCt (G : X_G) (tn i j : Int) : Int64 := if 0 ≤ i ∧ j ≤ tn ∧ i < j then X_st (-2) (X_all G i j) else iL 0
/-- the least stretch with two readings -/
def X_qQu (G : X_G) (tn r : Int) : Prop := (r = -1 ∧ ∀ n i, 1 ≤ n → 0 ≤ i → i + n ≤ tn → ¬ 1 < X_all G i (i + n)) ∨ ∃ n i, r = 100 * i + n ∧ (1 ≤ n ∧ 0 ≤ i ∧ i + n ≤ tn) ∧ 1 < X_all G i (i + n) ∧ ∀ n' i', 1 ≤ n' → 0 ≤ i' → i' + n' ≤ tn → (n' < n ∨ (n' = n ∧ i' < i)) → ¬ 1 < X_all G i' (i' + n')
theorem X_qQu_u {G : X_G} {tn r r' : Int} (h : X_qQu G tn r) (h' : X_qQu G tn r') : r = r' := by
  rcases h with ⟨h1, h2⟩ | ⟨n, i, h1, h2, h3, h4⟩ <;> rcases h' with ⟨g1, g2⟩ | ⟨m, j, g1, g2, g3, g4⟩
  · omega
  · exact absurd g3 (h2 m j g2.1 g2.2.1 g2.2.2)
  · exact absurd h3 (g2 n i h2.1 h2.2.1 h2.2.2)
  · by_cases c1 : n < m ∨ (n = m ∧ i < j)
    · exact absurd h3 (g4 n i h2.1 h2.2.1 h2.2.2 c1)
    · by_cases c2 : m < n ∨ (m = n ∧ j < i)
      · exact absurd g3 (h4 m j g2.1 g2.2.1 g2.2.2 c2)
      · have e1 : n = m := by omega
        have e2 : i = j := by omega
        omega
def X_qRk (G : X_G) (tn k : Int) : Prop := 0 ≤ k ∧ 1 ≤ tn ∧ k < (X_all G 0 tn : Int)
/-- the first two words that are against it -/
def X_qSu (G : X_G) (r : Int) : Prop := (r = -1 ∧ ∀ a b, 0 ≤ a → a ≤ b → b < gw G → ¬ X_ag (gl G) (gD G) (gW G) a b) ∨ ∃ a b, r = 100 * a + b ∧ (0 ≤ a ∧ a ≤ b ∧ b < gw G) ∧ X_ag (gl G) (gD G) (gW G) a b ∧ ∀ a' b', 0 ≤ a' → a' ≤ b' → b' < gw G → (a' < a ∨ (a' = a ∧ b' < b)) → ¬ X_ag (gl G) (gD G) (gW G) a' b'
theorem X_qSu_u {G : X_G} {r r' : Int} (h : X_qSu G r) (h' : X_qSu G r') : r = r' := by
  rcases h with ⟨h1, h2⟩ | ⟨n, i, h1, h2, h3, h4⟩ <;> rcases h' with ⟨g1, g2⟩ | ⟨m, j, g1, g2, g3, g4⟩
  · omega
  · exact absurd g3 (h2 m j g2.1 g2.2.1 g2.2.2)
  · exact absurd h3 (g2 n i h2.1 h2.2.1 h2.2.2)
  · by_cases c1 : n < m ∨ (n = m ∧ i < j)
    · exact absurd h3 (g4 n i h2.1 h2.2.1 h2.2.2 c1)
    · by_cases c2 : m < n ∨ (m = n ∧ j < i)
      · exact absurd g3 (h4 m j g2.1 g2.2.1 g2.2.2 c2)
      · have e1 : n = m := by omega
        have e2 : i = j := by omega
        omega
end
section
/-! TOKENS' DIGITS -/
theorem X_tb_n (t : Int64) (i : Nat) (hi : i < 8) : X_tb t (8 * (i : Int)) = ((t.toBitVec.toNat / 256 ^ i % 256 : Nat) : Int) := by
  have hs : ((iI (8 * (i : Int))).toInt64 &&& 63).toBitVec.smod 64 = BitVec.ofNat 64 (8 * i) := by
    have key : ∀ i : Fin 8, ((iI (8 * ((i : Nat) : Int))).toInt64 &&& 63).toBitVec.smod 64 = BitVec.ofNat 64 (8 * (i : Nat)) := by decide +kernel
    exact key ⟨i, hi⟩
  have hn : (BitVec.ofNat 64 (8 * i)).toNat = 8 * i := by
    rw [BitVec.toNat_ofNat]
    exact Nat.mod_eq_of_lt (by omega)
  unfold X_tb
  obtain ⟨y, hy⟩ : ∃ y : Int64, y = t >>> ((iI (8 * (i : Int))).toInt64 &&& 63) &&& iL 255 := ⟨_, rfl⟩
  rw [← hy]
  have h1 : y.toBitVec.toNat = t.toBitVec.toNat / 256 ^ i % 256 := by
    rw [hy, Int64.toBitVec_and, Int64.toBitVec_shiftRight, hs, BitVec.sshiftRight_eq', hn]
    have e255 : (iL 255).toBitVec = 255#64 := rfl
    rw [e255]
    have e : t.toBitVec.sshiftRight (8 * i) &&& 255#64 = (t.toBitVec >>> (8 * i)) &&& 255#64 := by
      refine BitVec.eq_of_getLsbD_eq (fun j hj => ?_)
      rw [BitVec.getLsbD_and, BitVec.getLsbD_and, BitVec.getLsbD_sshiftRight, BitVec.getLsbD_ushiftRight]
      by_cases h8 : j < 8
      · rw [if_pos (by omega)]
        have : ¬ 64 ≤ j := by omega
        simp [this]
      · have : (255#64).getLsbD j = false := by
          have key : ∀ j : Fin 64, ¬ (j : Nat) < 8 → (255#64).getLsbD (j : Nat) = false := by decide +kernel
          exact key ⟨j, hj⟩ h8
        rw [this, Bool.and_false, Bool.and_false]
    rw [e, BitVec.toNat_and, BitVec.toNat_ushiftRight, Nat.shiftRight_eq_div_pow]
    have e3 : (255#64).toNat = 2 ^ 8 - 1 := rfl
    rw [e3, Nat.and_two_pow_sub_one_eq_mod, Nat.pow_mul]
  have h2 : y.toInt = (y.toBitVec.toNat : Int) := by
    rw [← Int64.toInt_toBitVec, BitVec.toInt_eq_toNat_of_lt (by omega)]
  have h3 : (y.toBitVec.toNat : Int).bmod (2 ^ 32) = (y.toBitVec.toNat : Int) := Int.bmod_eq_of_le (by omega) (by omega)
  rw [Int64.toInt_toInt32, h2, h3, h1]
/-- the value of so many bytes, -1 if one is no digit -/
noncomputable def X_rv (tb : Int → Int) (len p : Int) : Nat → Int
  | 0 => 0
  | m + 1 => if X_rv tb len p m = -1 then -1 else if X_at tb len (p + m) < 48 ∨ 57 < X_at tb len (p + m) then -1 else X_rv tb len p m * 10 + X_at tb len (p + m) - 48
theorem X_nv_pk {tb : Int → Int} {len p : Int} (k : Nat) (hk : k ≤ 8) (hb : ∀ i : Int, 0 ≤ i → i < k → 0 < X_at tb len (p + i) ∧ X_at tb len (p + i) < 256) : X_nv (X_pk tb len p k) = X_rv tb len p k := by
  obtain ⟨a1, a2, a3⟩ := X_pk_b (tb := tb) (len := len) (p := p) k hk hb
  have z : ∀ m : Nat, m ≤ 8 - k → X_nvl (X_pk tb len p k) m = 0 := by
    intro m
    induction m with
    | zero => intro _; rfl
    | succ m ih =>
      intro hm
      have h0 : X_tb (X_pk tb len p k) (56 - 8 * (m : Int)) = 0 := by
        rw [show 56 - 8 * (m : Int) = 8 * ((7 - m : Nat) : Int) by omega, X_tb_n _ _ (by omega)]
        have hp : 256 ^ k ≤ 256 ^ (7 - m) := Nat.pow_le_pow_right (by decide) (by omega)
        rw [Nat.div_eq_of_lt (by omega)]
        rfl
      rw [X_nvl_s, ih (by omega), if_neg (by omega), if_pos h0]
  have y : ∀ m : Nat, m ≤ k → X_nvl (X_pk tb len p k) (8 - k + m) = X_rv tb len p m := by
    intro m
    induction m with
    | zero => intro _; exact z (8 - k) (Nat.le_refl _)
    | succ m ih =>
      intro hm
      have hbm := hb (m : Int) (by omega) (by omega)
      have h0 : X_tb (X_pk tb len p k) (56 - 8 * ((8 - k + m : Nat) : Int)) = X_at tb len (p + m) := by
        rw [show 56 - 8 * ((8 - k + m : Nat) : Int) = 8 * ((k - 1 - m : Nat) : Int) by omega, X_tb_n _ _ (by omega), a3 m (by omega)]
        omega
      rw [← Nat.add_assoc, X_nvl_s, ih (by omega), h0]
      show _ = if X_rv tb len p m = -1 then -1 else if X_at tb len (p + m) < 48 ∨ 57 < X_at tb len (p + m) then -1 else X_rv tb len p m * 10 + X_at tb len (p + m) - 48
      rw [if_neg (show ¬ X_at tb len (p + m) = 0 by omega)]
  have := y k (Nat.le_refl _)
  rw [show 8 - k + k = 8 by omega] at this
  exact this
theorem X_rv_1 {tb : Int → Int} {len p : Int} {m : Nat} (h : X_rv tb len p m = -1) : ∀ n : Nat, X_rv tb len p (m + n) = -1 := by
  intro n
  induction n with
  | zero => exact h
  | succ n ih =>
    show (if X_rv tb len p (m + n) = -1 then -1 else _) = _
    rw [if_pos ih]
theorem X_rv_x {tb : Int → Int} {len p : Int} {k m : Nat} (hm : m < k) (h : X_at tb len (p + m) < 48 ∨ 57 < X_at tb len (p + m)) : X_rv tb len p k = -1 := by
  have h1 : X_rv tb len p (m + 1) = -1 := by
    show (if X_rv tb len p m = -1 then -1 else if X_at tb len (p + m) < 48 ∨ 57 < X_at tb len (p + m) then -1 else _) = _
    by_cases h0 : X_rv tb len p m = -1
    · rw [if_pos h0]
    · rw [if_neg h0, if_pos h]
  have := X_rv_1 h1 (k - (m + 1))
  rw [show m + 1 + (k - (m + 1)) = k by omega] at this
  exact this
/-- what a part's text isn't: a number, a bracket -/
def X_pt (t : Int64) : Prop := X_nv t = -1 ∧ ¬ t = iL 40 ∧ ¬ t = iL 41
theorem X_Tok_pt {tb : Int → Int} {len p r : Int} {ct : Int64} {e : Int} (h : X_Tok tb len p r ct e) (h6 : r = 6) : X_pt ct := by
  rcases h with ⟨h1, h2, h3, h4⟩ | h | h | h | h
  · omega
  · obtain ⟨h1, h2, h3⟩ := h
    exfalso
    rcases h3 with h | ⟨-, -, h | h⟩
    · omega
    · have := h.2; omega
    · have := h.2; omega
  · obtain ⟨h1, h2, h3⟩ := h
    exfalso
    rcases h3 with h | ⟨-, -, -, h | h⟩
    · have := h.2.1; omega
    · have := h.2; omega
    · have := h.2; omega
  · obtain ⟨h1, m, h2, h3⟩ := h
    rcases h3 with ⟨-, h4, -, h5⟩ | ⟨h4, h5, h6', -, h7, -⟩
    · omega
    · have hm := X_se_r X_isPB tb len (p + 1)
      have hin : ∀ i : Int, 0 ≤ i → i < ((m - (p + 1)).toNat : Int) → X_isPB (X_at tb len (p + 1 + i)) := fun i g1 g2 => X_se_in (p := p + 1) (by omega) (by rw [← h2]; omega)
      have hb : ∀ i : Int, 0 ≤ i → i < ((m - (p + 1)).toNat : Int) → 0 < X_at tb len (p + 1 + i) ∧ X_at tb len (p + 1 + i) < 256 := fun i g1 g2 => by
        have := hin i g1 g2
        unfold X_isPB at this
        omega
      obtain ⟨q, q1, q2, q3⟩ : ∃ q, p + 1 ≤ q ∧ q < m ∧ ¬ X_isD (X_at tb len q) := Classical.byContradiction (fun z => h6' (fun q q1 q2 => Classical.byContradiction (fun y => z ⟨q, q1, q2, y⟩)))
      have hv : X_nv ct = -1 := by
        rw [h7, X_nv_pk _ (by omega) hb]
        refine X_rv_x (m := (q - (p + 1)).toNat) (by omega) ?_
        rw [show p + 1 + ((q - (p + 1)).toNat : Int) = q by omega]
        unfold X_isD at q3
        omega
      obtain ⟨a1, a2, a3⟩ := X_pk_b (tb := tb) (len := len) (p := p + 1) (m - (p + 1)).toNat (by omega) hb
      have key : ∀ c : Nat, c = 40 ∨ c = 41 → ¬ ct = iL (c : Int) := by
        intro c hc he
        have hl := a3 ((m - (p + 1)).toNat - 1) (by omega)
        rw [← h7, he, show (m - (p + 1)).toNat - 1 - ((m - (p + 1)).toNat - 1) = 0 by omega] at hl
        have hbn := hin (((m - (p + 1)).toNat - 1 : Nat) : Int) (by omega) (by omega)
        have hcc : (iL (c : Int)).toBitVec.toNat / 256 ^ 0 % 256 = c := by
          rcases hc with hc | hc <;> subst hc <;> decide
        rw [hcc] at hl
        unfold X_isPB at hbn
        omega
      exact ⟨hv, key 40 (Or.inl rfl), key 41 (Or.inr rfl)⟩
  · obtain ⟨h1, h2, h3, h4, h5, h6', h7⟩ := h
    exfalso
    rcases h7 with h | h
    · have h8 := h.2.2
      have h9 := h.1
      unfold X_isSg at h9
      omega
    · have := h.2; omega
end
section
/-! A BOOK THAT IS TOLD is fit for counting -/
def X_wp (d : Nat → Int → Int) (q : Int → Int64) : Prop := ∀ e, 0 ≤ e → e < d 3 0 → ¬ q e = 0 → X_pt (q e)
theorem X_wp.P {d : Nat → Int → Int} {q : Int → Int64} {t : Int64} (h : X_wp d q) (ht : X_pt t) : X_wp (X_aP d) (X_ug q (d 3 0) t) := fun e h1 h2 h3 => by
  have h2 : e < d 3 0 + 1 := h2
  by_cases he : e = d 3 0
  · rw [he, X_ug_s]; exact ht
  · rw [X_ug_n _ _ he] at h3 ⊢
    exact h e h1 (by omega) h3
theorem X_wp.H {d : Nat → Int → Int} {q : Int → Int64} {k : Int} (h : X_wp d q) : X_wp (X_aH d k) (X_ug q (d 3 0) 0) := fun e h1 h2 h3 => by
  have h2 : e < d 3 0 + 1 := h2
  by_cases he : e = d 3 0
  · rw [he, X_ug_s] at h3; exact absurd rfl h3
  · rw [X_ug_n _ _ he] at h3 ⊢
    exact h e h1 (by omega) h3
theorem sp_el_pt {n : Int} {so : Int → Int} {ct : Int → Int64} {kn : Int → Int64} {kc : Int} (hct : ∀ i, 0 ≤ i → i < n → so i = 6 → X_pt (ct i)) : ∀ (k : Nat) (c : Int) (d : Nat → Int → Int) (q : Int → Int64) (r : Int × (Nat → Int → Int) × (Int → Int64)), (0 ≤ c ∧ c < n) → sp_el n so ct kn kc k c d q = some r → X_wp d q → X_wp r.2.1 r.2.2 := by
  intro k
  induction k with
  | zero => intro c d q r hcr h; cases h
  | succ k ih =>
    intro c d q r hcr h ho
    unfold sp_el at h
    split at h
    · cases h; exact ho
    · split at h
      · cases h; exact ho
      · split at h
        · rename_i h6
          exact ih _ _ _ _ (X_av_r hcr) h (ho.P (hct _ hcr.1 hcr.2 h6.1))
        · split at h
          · split at h
            · split at h
              · cases h
              · exact ih _ _ _ _ (X_av_r (X_av_r hcr)) h ho.H
            · exact ih _ _ _ _ (X_av_r hcr) h ho.H
          · cases h
theorem sp_wb_pt {n : Int} {so : Int → Int} {ct : Int → Int64} {kn : Int → Int64} {kc c : Int} {d : Nat → Int → Int} {q : Int → Int64} {r : Int × (Nat → Int → Int) × (Int → Int64)} (hkc : 1 ≤ kc) (hct : ∀ i, 0 ≤ i → i < n → so i = 6 → X_pt (ct i)) (hct0 : ∀ i, 0 ≤ i → i < n → so i = 6 → ¬ ct i = 0) (hcr : 0 ≤ c ∧ c < n) (h3 : d 3 0 = 0) (h4 : d 4 0 = 0) (h : sp_wb n so ct kn kc c d q = some r) : X_wp r.2.1 r.2.2 := by
  unfold sp_wb at h
  split at h
  · cases hs : sp_el n so ct kn kc 9 (X_av n c) d q with
    | none => rw [hs] at h; cases h
    | some z =>
      rw [hs] at h
      have h : sp_we n so ct z.1 z.2.1 z.2.2 = some r := h
      have b0 := sp_el_pt hct _ _ _ _ _ (X_av_r hcr) hs (fun e h1 h2 => by omega)
      obtain ⟨-, -, -, b3⟩ := sp_el_ok hkc hct0 _ _ _ _ _ (X_av_r hcr) hs (X_eok_0 h3 h4)
      obtain ⟨e1, -, e3, -, -⟩ := sp_we_ok b3 h
      intro e g1 g2 g3
      rw [e3 3 (by decide) (by decide) (by decide)] at g2
      rw [e1] at g3 ⊢
      exact b0 e g1 g2 g3
  · cases h
theorem sp_wk_pt {n : Int} {so : Int → Int} {ct : Int → Int64} {kn : Int → Int64} {kc c : Int} {d : Nat → Int → Int} {q : Int → Int64} {r : Int × (Nat → Int → Int) × (Int → Int64)} (hkc : 1 ≤ kc) (hct : ∀ i, 0 ≤ i → i < n → so i = 6 → X_pt (ct i)) (hct0 : ∀ i, 0 ≤ i → i < n → so i = 6 → ¬ ct i = 0) (hcr : 0 ≤ c ∧ c < n) (h3 : d 3 0 = 0) (h4 : d 4 0 = 0) (h : sp_wk n so ct kn kc c d q = some r) : X_wp r.2.1 r.2.2 := by
  unfold sp_wk at h
  split at h
  · split at h
    · cases h
    · exact sp_wb_pt (d := X_wu d 2 (fun _ => X_ix kn kc (ct c))) hkc hct hct0 (X_av_r hcr) h3 h4 h
  · exact sp_wb_pt (d := X_wu d 2 (fun _ => 0)) hkc hct hct0 hcr h3 h4 h
/-- kinds: each is under itself and all; parts are parts -/
def X_Kab (kc : Int) (ab : Int → Int) : Prop := (∀ k, 0 ≤ k → k < kc → X_bt (ab k) 0 ∧ X_bt (ab k) k) ∧ ∀ k u, 0 ≤ k → k < kc → 0 ≤ u → u < 32 → X_bt (ab k) u → u < kc
def X_Kp2 (K : X_Kp) : Prop := X_Kab K.2.2.1 K.2.2.2.2.2.2.2.1 ∧ ∀ w, 0 ≤ w → w < K.2.2.2.1 → X_wp (K.2.2.2.2.2.2.2.2.1 w) (K.2.2.2.2.2.2.2.2.2 w)
theorem X_Kab.ad {kc u : Int} {ab : Int → Int} (h : X_Kab kc ab) (hk : 1 ≤ kc ∧ kc < 11) (hu : 0 ≤ u ∧ u < kc) : X_Kab (kc + 1) (X_ug ab kc (X_bO (ab u) (X_bS kc))) := by
  refine ⟨fun k h1 h2 => ?_, fun k v h1 h2 h3 h4 h5 => ?_⟩
  · by_cases he : k = kc
    · rw [he, X_ug_s]
      exact ⟨(X_bt_or _ _ _ (by omega)).mpr (Or.inl (h.1 u hu.1 hu.2).1), (X_bt_or _ _ _ (by omega)).mpr (Or.inr ((X_bt_sh _ _ (by omega) (by omega)).mpr rfl))⟩
    · rw [X_ug_n _ _ he]
      exact h.1 k h1 (by omega)
  · by_cases he : k = kc
    · rw [he, X_ug_s, X_bt_or _ _ _ (by omega), X_bt_sh _ _ (by omega) (by omega)] at h5
      rcases h5 with h5 | h5
      · have := h.2 u v hu.1 hu.2 h3 h4 h5; omega
      · omega
    · rw [X_ug_n _ _ he] at h5
      have := h.2 k v h1 (by omega) h3 h4 h5
      omega
theorem sp_line_p2 {n : Int} {so : Int → Int} {ct : Int → Int64} {K K' : X_Kp} (hct : ∀ i, 0 ≤ i → i < n → so i = 6 → X_pt (ct i)) (hct0 : ∀ i, 0 ≤ i → i < n → so i = 6 → ¬ ct i = 0) (hcr : 0 ≤ K.1 ∧ K.1 < n) (hK : X_Kok K) (h2 : X_Kp2 K) (h : sp_line n so ct K = some K') : X_Kp2 K' := by
  obtain ⟨c, rc, kc, wc, rn, lo, kn, ab, D, W⟩ := K
  have hkc := hK.2.1.1
  obtain ⟨hab, hwp⟩ := h2
  simp only at hkc hcr hab hwp
  unfold sp_line at h
  split at h
  · simp only [sp_rank] at h
    repeat' split at h
    all_goals first | (cases h; done) | (cases h; exact ⟨hab, hwp⟩)
  · split at h
    · simp only [sp_tight] at h
      repeat' split at h
      all_goals first | (cases h; done) | (cases h; exact ⟨hab, hwp⟩)
    · split at h
      · have hk11 : kc ≤ 11 := hK.2.1.2
        simp only [sp_kind] at h
        split at h
        · cases h
        · split at h
          · split at h
            · split at h
              · split at h
                · split at h
                  · cases h
                  · split at h
                    · cases h
                      have hr := X_ix_r (g := kn) (n := kc) (x := ct (X_av n (X_av n (X_av n c)))) (by omega)
                      exact ⟨X_Kab.ad hab ⟨hkc, by omega⟩ ⟨by omega, by omega⟩, hwp⟩
                    · cases h
                · cases h
              · split at h
                · cases h
                  exact ⟨X_Kab.ad hab ⟨hkc, by omega⟩ ⟨Int.le_refl _, by omega⟩, hwp⟩
                · cases h
            · cases h
          · cases h
      · split at h
        · simp only [sp_word] at h
          split at h
          · cases h
          · split at h
            · split at h
              · cases h
              · cases hs : sp_wk n so ct kn kc (X_lnC n so ct (X_av n (X_av n c))) (X_wu (X_clr (D wc) (X_ix rn rc (ct (X_av n c)))) 1 (fun _ => X_lnV so ct (X_av n (X_av n c)) 0)) (W wc) with
                | none => rw [hs] at h; cases h
                | some z =>
                  rw [hs] at h
                  cases h
                  refine ⟨hab, fun w g1 g2 => ?_⟩
                  have g2 : w < wc + 1 := g2
                  show X_wp (X_ug D wc z.2.1 w) (X_ug W wc z.2.2 w)
                  by_cases hw : w = wc
                  · rw [hw, X_ug_s, X_ug_s]
                    exact sp_wk_pt hkc hct hct0 (X_lnC_r (X_av_r (X_av_r hcr))) rfl rfl hs
                  · rw [X_ug_n _ _ hw, X_ug_n _ _ hw]
                    exact hwp w g1 (show w < wc by omega)
            · cases h
        · cases h
theorem sp_lines_p2 {n : Int} {so : Int → Int} {ct : Int → Int64} (hct : ∀ i, 0 ≤ i → i < n → so i = 6 → X_pt (ct i)) (hct0 : ∀ i, 0 ≤ i → i < n → so i = 6 → ¬ ct i = 0) : ∀ (m : Nat) (K K' : X_Kp), (0 ≤ K.1 ∧ K.1 < n) → X_Kok K → X_K4 K → X_Kp2 K → sp_lines n so ct m K = some K' → X_Kok K' ∧ X_K4 K' ∧ X_Kp2 K' := by
  intro m
  induction m with
  | zero => intro K K' _ h1 h2 h3 h; cases h; exact ⟨h1, h2, h3⟩
  | succ m ih =>
    intro K K' hc h1 h2 h3 h
    have h : (if so K.1 = 0 then some K else (sp_line n so ct K).bind (sp_lines n so ct m)) = some K' := h
    split at h
    · cases h; exact ⟨h1, h2, h3⟩
    · cases hs : sp_line n so ct K with
      | none => rw [hs] at h; cases h
      | some z =>
        rw [hs] at h
        have a := sp_line_ok hct0 hc h1 hs
        exact ih z K' a.2 a.1 (sp_line_h4 hct0 hc h1 h2 hs) (sp_line_p2 hct hct0 hc h1 h3 hs) h
/-- a word's hole fits as the class tells it -/
theorem X_fi_lt {G : X_G} {w e v : Int} (he : 0 ≤ e) (h2 : 1 < gD G w 3 0) : X_fi (gl G) (gD G) (gW G) (gD G w) e v ↔ X_lt G w (X_eo G w e) v := by
  unfold X_fi X_lt X_eo
  by_cases h0 : e = 0
  · rw [if_pos h0]
    constructor
    · rintro (⟨a, -⟩ | a | a | ⟨a | a, b⟩)
      · exact absurd h0 a
      · exact Or.inr (Or.inl a)
      · exact Or.inr (Or.inr (Or.inl a))
      · exact Or.inr (Or.inr (Or.inr ⟨b, a.2⟩))
      · omega
    · rintro (a | a | a | ⟨a, b⟩)
      · omega
      · exact Or.inr (Or.inl a)
      · exact Or.inr (Or.inr (Or.inl a))
      · exact Or.inr (Or.inr (Or.inr ⟨Or.inl ⟨h0, b⟩, a⟩))
  · rw [if_neg h0]
    by_cases hl : e = gD G w 3 0 - 1
    · rw [if_pos hl]
      constructor
      · rintro (⟨-, a⟩ | a | a | ⟨a | a, b⟩)
        · exact absurd hl a
        · exact Or.inr (Or.inl a)
        · exact Or.inr (Or.inr (Or.inl a))
        · exact absurd a.1 h0
        · exact Or.inr (Or.inr (Or.inr ⟨b, a.2⟩))
      · rintro (a | a | a | ⟨a, b⟩)
        · omega
        · exact Or.inr (Or.inl a)
        · exact Or.inr (Or.inr (Or.inl a))
        · exact Or.inr (Or.inr (Or.inr ⟨Or.inr ⟨hl, b⟩, a⟩))
    · rw [if_neg hl]
      exact ⟨fun _ => Or.inl rfl, fun _ => Or.inl ⟨h0, hl⟩⟩
theorem X_Gok_of {c rc kc wc : Int} {rn : Int → Int64} {lo : Int → Int} {kn : Int → Int64} {ab : Int → Int} {D D2 : Int → Nat → Int → Int} {W : Int → Int → Int64} {tt : Int → Int64} (hK : X_Kok (c, rc, kc, wc, rn, lo, kn, ab, D, W)) (h4 : X_K4 (c, rc, kc, wc, rn, lo, kn, ab, D, W)) (h2 : X_Kp2 (c, rc, kc, wc, rn, lo, kn, ab, D, W)) (hD : X_sD D D2) (hT : ∀ w, 0 ≤ w → w < wc → ∀ e, X_hl (D w) (W w) e → X_tkn lo ab kc wc D W w e (D2 w 11 (D w 8 e)) (D2 w 10 (D w 8 e))) : X_Gok (kc, wc, lo, ab, D2, W, tt) ∧ X_Gst (kc, wc, lo, ab, D2, W, tt) := by
  obtain ⟨a1, a2, a3, a4⟩ := hK
  obtain ⟨hab, hwp⟩ := h2
  simp only at a1 a2 a3 a4 hab hwp
  have e : ∀ w f, f ≠ 10 → f ≠ 11 → D2 w f = D w f := hD
  have h4 : ∀ w, 0 ≤ w → w < wc → D w 4 0 ≤ 4 := h4
  refine ⟨⟨a3, a2, hab, fun w g1 g2 => ?_⟩, fun w g1 g2 => ?_⟩
  · obtain ⟨⟨b1, b2, b3, b4⟩, b5, b6, b7, b8, b9, b10⟩ := a4 w g1 g2
    have hp := hwp w g1 g2
    have h4w := h4 w g1 g2
    have hh := X_hn_b (q := W w) b1.1
    have q0 := e w 0 (by decide) (by decide)
    have q1 := e w 1 (by decide) (by decide)
    have q2 := e w 2 (by decide) (by decide)
    have q3 := e w 3 (by decide) (by decide)
    have q4 := e w 4 (by decide) (by decide)
    have q8 := e w 8 (by decide) (by decide)
    have q9 := e w 9 (by decide) (by decide)
    have hpw : X_pw (kc, wc, lo, ab, D2, W, tt) w := by
      refine ⟨show 1 ≤ D2 w 3 0 by rw [q3]; omega, ?_⟩
      by_cases h1 : 1 < D w 3 0
      · exact Or.inl (show 1 < D2 w 3 0 by rw [q3]; exact h1)
      · refine Or.inr (fun z => ?_)
        have z : W w 0 = 0 := z
        have s := X_hn_s (q := W w) (e := 0) (Int.le_refl 0)
        have z0 : X_hn (W w) 0 = 0 := rfl
        rw [if_pos z, z0] at s
        have e1 : D w 3 0 = 0 + 1 := by omega
        rw [e1, s] at b2
        omega
    refine ⟨show 1 ≤ D2 w 3 0 ∧ D2 w 3 0 ≤ 8 by rw [q3]; omega, show 0 ≤ D2 w 4 0 ∧ D2 w 4 0 ≤ 4 ∧ D2 w 4 0 < D2 w 3 0 by rw [q3, q4]; omega, hpw, show 0 ≤ D2 w 0 0 ∧ D2 w 0 0 ≤ 11 by rw [q0]; omega, show 0 ≤ D2 w 1 0 ∧ D2 w 1 0 ≤ 2 by rw [q1]; omega, show 0 ≤ D2 w 2 0 ∧ D2 w 2 0 < kc by rw [q2]; exact b7, show D2 w 4 0 = X_hn (W w) (D2 w 3 0) by rw [q3, q4]; exact b2, fun z z1 z2 z3 => ?_, fun z z1 z2 => ?_, fun z z1 z2 z3 => ?_, fun z z1 z2 z3 => ?_⟩
    · have z2 : z < D2 w 3 0 := z2
      rw [q3] at z2
      show D2 w 8 z = X_hn (W w) z
      rw [q8]
      exact b3 z z1 z2 z3
    · have z2 : z < D2 w 4 0 := z2
      rw [q4] at z2
      show 0 ≤ D2 w 9 z ∧ D2 w 9 z < kc
      rw [q9]
      exact b4 z z1 z2
    · have z2 : z < D2 w 3 0 := z2
      rw [q3] at z2
      exact hp z z1 z2 z3
    · have z2 : z < D2 w 3 0 := z2
      rw [q3] at z2
      obtain ⟨t1, t2⟩ := hT w g1 g2 z ⟨z1, z2, z3⟩
      have h1z : 1 < D2 w 3 0 := by
        rcases hpw.2 with y | y
        · exact y
        · rw [q3]
          refine Classical.byContradiction (fun x => ?_)
          have : z = 0 := by omega
          rw [this] at z3
          exact y z3
      constructor
      · intro k k1 k2
        show X_bt (D2 w 11 (D2 w 8 z)) k ↔ k < kc ∧ X_bt (ab k) (D2 w 9 (D2 w 8 z))
        rw [q8, q9]
        exact t1 k k1 k2
      · intro v v1 v2
        have hft := X_fi_lt (G := (kc, wc, lo, ab, D2, W, tt)) (w := w) (e := z) (v := v) z1 h1z
        show X_bt (D2 w 10 (D2 w 8 z)) v ↔ v < wc ∧ X_bt (ab (D2 v 2 0)) (D2 w 9 (D2 w 8 z)) ∧ _
        rw [q8, q9, ← hft, t2 v v1 v2, e v 2 (by decide) (by decide)]
        show v < wc ∧ X_bt (D2 w 11 (D w 8 z)) (D v 2 0) ∧ X_fi lo D W (D w) z v ↔ v < wc ∧ X_bt (ab (D v 2 0)) (D w 9 (D w 8 z)) ∧ X_fi lo D2 W (D2 w) z v
        rw [X_fi_c (D := D) (D' := D2) (d := D w) (d' := D2 w) hD q0 q1 q3]
        constructor
        · rintro ⟨y1, y2, y3⟩
          have hk := (a4 v v1 y1).2.2.2.1
          exact ⟨y1, ((t1 _ hk.1 (by omega)).mp y2).2, y3⟩
        · rintro ⟨y1, y2, y3⟩
          have hk := (a4 v v1 y1).2.2.2.1
          exact ⟨y1, (t1 _ hk.1 (by omega)).mpr ⟨hk.2, y2⟩, y3⟩
  · obtain ⟨-, -, -, -, -, -, b10⟩ := a4 w g1 g2
    have q4 := e w 4 (by decide) (by decide)
    have q5 := e w 5 (by decide) (by decide)
    have q12 := e w 12 (by decide) (by decide)
    have q13 := e w 13 (by decide) (by decide)
    show D2 w 5 0 = -1 ∨ (X_sok (D2 w) ∧ D2 w 5 0 ≤ 30 ∧ X_ph (D2 w 12) (D2 w 5 0).toNat = 1)
    unfold X_sok
    rw [q4, q5, q12, q13]
    exact b10
end
section
/-! THE REFERENCE'S COUNTS -/
theorem X_sum_f {m : Int} (hm : -2 ≤ m ∧ m ≤ -1) {a b : Nat} {r : Int64} (h : ((X_st m a < iL 0 ∨ X_st m b < iL 0) ∧ r = iL m) ∨ (¬ X_st m a < iL 0 ∧ ¬ X_st m b < iL 0 ∧ X_st m a + X_st m b < iL 0 ∧ r = iL m) ∨ (¬ X_st m a < iL 0 ∧ ¬ X_st m b < iL 0 ∧ ¬ X_st m a + X_st m b < iL 0 ∧ r = X_st m a + X_st m b)) : r = X_st m (a + b) := by
  rw [X_st_n hm, X_st_n hm] at h
  refine X_plus_f hm ?_
  rw [X_st_m hm, X_st_m hm]
  exact h
theorem X_prod_f {m : Int} (hm : -2 ≤ m ∧ m ≤ -1) {a b : Nat} {r : Int64} (h : ((X_st m a = iL 0 ∨ X_st m b = iL 0) ∧ r = iL 0) ∨ (¬ X_st m a = iL 0 ∧ ¬ X_st m b = iL 0 ∧ (X_st m a < iL 0 ∨ X_st m b < iL 0) ∧ r = iL m) ∨ (¬ X_st m a = iL 0 ∧ ¬ X_st m b = iL 0 ∧ ¬ X_st m a < iL 0 ∧ ¬ X_st m b < iL 0 ∧ iL 9223372036854775807 / X_st m b < X_st m a ∧ r = iL m) ∨ (¬ X_st m a = iL 0 ∧ ¬ X_st m b = iL 0 ∧ ¬ X_st m a < iL 0 ∧ ¬ X_st m b < iL 0 ∧ ¬ iL 9223372036854775807 / X_st m b < X_st m a ∧ r = X_st m a * X_st m b)) : r = X_st m (a * b) := by
  rw [X_st_n hm, X_st_n hm] at h
  refine X_times_f hm ?_
  rw [X_st_m hm, X_st_m hm]
  exact h
/-- forward: how often the first e elements match what is from i up to p -/
noncomputable def X_Fw (G : X_G) (T : X_TT) (w i j : Int) : Nat → Int → Nat
  | 0, p => if p = i then 1 else 0
  | e + 1, q => X_Su (fun p => if gW G w (e : Int) = 0 then X_if (p < q ∧ q - p < j - i) (X_Fw G T w i j e p * X_Hw G T w (e : Int) p q) else X_if (q = p + 1 ∧ gt G p = gW G w (e : Int)) (X_Fw G T w i j e p)) i j
noncomputable def X_Fe (G : X_G) (T : X_TT) (w i j e p : Int) : Nat := X_Fw G T w i j e.toNat p
noncomputable def X_cc (G : X_G) (T : X_TT) (w i j e q : Int) : Int → Nat := fun p => if gW G w e = 0 then X_if (p < q ∧ q - p < j - i) (X_Fe G T w i j e p * X_Hw G T w e p q) else X_if (q = p + 1 ∧ gt G p = gW G w e) (X_Fe G T w i j e p)
theorem X_Fe_0 {G : X_G} {T : X_TT} {w i j p : Int} : X_Fe G T w i j 0 p = if p = i then 1 else 0 := rfl
theorem X_Fe_s {G : X_G} {T : X_TT} {w i j e q : Int} (h : 0 ≤ e) : X_Fe G T w i j (e + 1) q = X_Su (X_cc G T w i j e q) i j := by
  unfold X_Fe X_cc X_Fe
  rw [show (e + 1).toNat = e.toNat + 1 by omega]
  show X_Su (fun p => if gW G w ((e.toNat : Nat) : Int) = 0 then X_if (p < q ∧ q - p < j - i) (X_Fw G T w i j e.toNat p * X_Hw G T w ((e.toNat : Nat) : Int) p q) else X_if (q = p + 1 ∧ gt G p = gW G w ((e.toNat : Nat) : Int)) (X_Fw G T w i j e.toNat p)) i j = _
  rw [show ((e.toNat : Nat) : Int) = e by omega]
theorem X_Fe_i {G : X_G} {T : X_TT} {w i j e : Int} (h : 0 ≤ e) : X_Fe G T w i j (e + 1) i = 0 := by
  rw [X_Fe_s h]
  refine X_Su_0 (fun p h1 h2 => ?_)
  unfold X_cc
  split
  · exact X_if_f (fun z => by omega)
  · exact X_if_f (fun z => by omega)
theorem X_Su_e0 {f : Int → Nat} {a b x : Int} (h1 : a ≤ x) (h2 : x < b) : X_Su (fun p => (if p = x then 1 else 0) * f p) a b = f x := by
  rw [X_Su_one (x := x) h1 h2 (fun k _ _ hk => by rw [if_neg hk, Nat.zero_mul]), if_pos rfl, Nat.one_mul]
theorem X_Su_m2 {f : Int → Nat} {c : Nat} {a b : Int} : X_Su (fun k => f k * c) a b = X_Su f a b * c := by
  rw [X_Su_c (g := fun k => c * f k) (fun k _ _ => Nat.mul_comm _ _), X_Su_mul, Nat.mul_comm]
/-- the ways ahead of e and from e on make all ways, wherever e is -/
theorem X_Fe_inv {G : X_G} {w i j : Int} (hp : X_pw G w) (hij : i < j) : ∀ e : Nat, (e : Int) ≤ gD G w 3 0 → X_Su (fun p => X_Fe G (X_T_ G) w i j (e : Int) p * X_Ew G (X_T_ G) w (e : Int) p j) i (j + 1) = X_Ew G (X_T_ G) w 0 i j := by
  intro e
  induction e with
  | zero =>
    intro _
    exact X_Su_e0 (Int.le_refl i) (by omega)
  | succ e ih =>
    intro he
    rw [← ih (by omega)]
    have e1 : ((e + 1 : Nat) : Int) = (e : Int) + 1 := by omega
    rw [e1]
    -- the left, from its middle
    have hL : X_Su (fun q => X_Fe G (X_T_ G) w i j ((e : Int) + 1) q * X_Ew G (X_T_ G) w ((e : Int) + 1) q j) i (j + 1) = X_Su (fun p => X_Su (fun q => X_cc G (X_T_ G) w i j (e : Int) q p * X_Ew G (X_T_ G) w ((e : Int) + 1) q j) i (j + 1)) i j := by
      rw [X_Su_sw]
      refine X_Su_c (fun q _ _ => ?_)
      rw [X_Fe_s (by omega), X_Su_m2]
    rw [hL]
    have hE0 : X_Ew G (X_T_ G) w (e : Int) j j = 0 := X_Ew_0 (by omega)
    rw [X_Su_s (show i ≤ j by omega), hE0, Nat.mul_zero, Nat.add_zero]
    refine X_Su_c (fun p h1 h2 => ?_)
    by_cases hq : gW G w (e : Int) = 0
    · rw [X_Ew_h (by omega) hq, ← X_Su_mul]
      -- q from p + 1 on
      have hs : X_Su (fun q => X_cc G (X_T_ G) w i j (e : Int) q p * X_Ew G (X_T_ G) w ((e : Int) + 1) q j) i (j + 1) = X_Su (fun q => X_cc G (X_T_ G) w i j (e : Int) q p * X_Ew G (X_T_ G) w ((e : Int) + 1) q j) (p + 1) (j + 1) := by
        refine X_Su_ind (a := i) (b := p + 1) (fun m => X_Su (fun q => X_cc G (X_T_ G) w i j (e : Int) q p * X_Ew G (X_T_ G) w ((e : Int) + 1) q j) i (j + 1) = X_Su (fun q => X_cc G (X_T_ G) w i j (e : Int) q p * X_Ew G (X_T_ G) w ((e : Int) + 1) q j) m (j + 1)) rfl (fun m g1 g2 g3 => ?_) (by omega)
        rw [g3, X_Su_f (show m < j + 1 by omega)]
        have : X_cc G (X_T_ G) w i j (e : Int) m p = 0 := by
          unfold X_cc
          rw [if_pos hq]
          exact X_if_f (fun z => by omega)
        rw [this, Nat.zero_mul, Nat.zero_add]
      rw [hs]
      refine X_Su_c (fun q g1 g2 => ?_)
      by_cases hg : q - p < j - i
      · have : X_cc G (X_T_ G) w i j (e : Int) q p = X_Fe G (X_T_ G) w i j (e : Int) p * X_Hw G (X_T_ G) w (e : Int) p q := by
          unfold X_cc
          rw [if_pos hq, X_if_t ⟨by omega, hg⟩]
        rw [this, Nat.mul_assoc]
      · have hpi : p = i := by omega
        have hqj : q = j := by omega
        have : X_cc G (X_T_ G) w i j (e : Int) q p = 0 := by
          unfold X_cc
          rw [if_pos hq, X_if_f (fun z => hg z.2)]
        rw [this, Nat.zero_mul]
        by_cases hl : (e : Int) + 1 < gD G w 3 0
        · rw [hqj, X_Ew_0 (show j - j < gD G w 3 0 - ((e : Int) + 1) by omega), Nat.mul_zero, Nat.mul_zero]
        · by_cases h0 : e = 0
          · subst h0
            exfalso
            rcases hp.2 with y | y
            · omega
            · exact y hq
          · rw [hpi, show ((e : Nat) : Int) = ((e : Int) - 1) + 1 by omega, X_Fe_i (by omega), Nat.zero_mul]
    · rw [X_Ew_p (by omega) hq, X_Su_one (x := p + 1) (by omega) (by omega) (fun q _ _ hk => by
        have : X_cc G (X_T_ G) w i j (e : Int) q p = 0 := by
          unfold X_cc
          rw [if_neg hq, X_if_f (fun z => hk z.1)]
        rw [this, Nat.zero_mul])]
      unfold X_cc
      rw [if_neg hq]
      by_cases ht : gt G p = gW G w (e : Int)
      · rw [X_if_t ⟨rfl, ht⟩, X_if_t ⟨h2, ht⟩]
      · rw [X_if_f (fun z => ht z.2), X_if_f (fun z => ht z.2), Nat.zero_mul, Nat.mul_zero]
theorem X_Fe_e {G : X_G} {w i j : Int} (hp : X_pw G w) (hij : i < j) : X_Fe G (X_T_ G) w i j (gD G w 3 0) j = X_Ew G (X_T_ G) w 0 i j := by
  have hs := hp.1
  have := X_Fe_inv hp hij (gD G w 3 0).toNat (by omega)
  rw [show ((gD G w 3 0).toNat : Int) = gD G w 3 0 by omega] at this
  rw [← this, X_Su_one (x := j) (by omega) (by omega) (fun p _ _ hk => by rw [X_Ew_e rfl, if_neg hk, Nat.mul_zero]), X_Ew_e rfl, if_pos rfl, Nat.mul_one]
theorem X_Hh_s {G : X_G} {w h i j : Int} (hG : X_Gok G) : X_Hh G w h i j = X_if ((j = i + 1 ∧ 0 ≤ X_nv (gt G i)) ∧ X_bt (ga G (bI (1 < gk G))) (gD G w 9 h)) 1 + X_Su (fun k => X_if (X_bt (ga G k) (gD G w 9 h)) ((X_T_ G).2 k i j)) 0 (gk G) + X_Su (fun v => X_if (X_bt (ga G (gD G v 2 0)) (gD G w 9 h) ∧ X_lt G w (X_eh G w h) v) ((X_T_ G).1 v i j)) 0 (gw G) := by
  have c2 := hG.2.1
  have hb := bI_r (1 < gk G)
  have hb2 : bI (1 < gk G) < gk G := by
    by_cases h1 : 1 < gk G
    · rw [bI_t h1]; omega
    · rw [bI_f h1]; omega
  unfold X_Hh X_Hc X_Hq X_Hv
  congr 1
  rw [X_Su_c (g := fun k => X_if (X_bt (ga G k) (gD G w 9 h)) (X_nm G k i j) + X_if (X_bt (ga G k) (gD G w 9 h)) ((X_T_ G).2 k i j)) (fun k _ _ => X_if_a), X_Su_add]
  congr 1
  rw [X_Su_one (x := bI (1 < gk G)) hb.1 hb2 (fun k _ _ hk => by unfold X_nm; rw [X_if_f (p := j = i + 1 ∧ 0 ≤ X_nv (gt G i) ∧ k = bI (1 < gk G)) (fun z => hk z.2.2)]; exact X_if_0)]
  unfold X_nm
  rw [X_if_if]
  exact X_if_c ⟨fun z => ⟨⟨z.2.1, z.2.2.1⟩, z.1⟩, fun z => ⟨z.2, z.1.1, z.1.2, rfl⟩⟩ (fun _ => rfl)
end
section
/-- the reference's cells of one stretch; of all -/
def R_rc (G : X_G) (i j : Int) (oW oK oH : Int → Int64) : Prop := (∀ w, 0 ≤ w → w < gw G → oW (961 * w + (31 * i + j)) = X_st (-1) ((X_T_ G).1 w i j)) ∧ (∀ k, 0 ≤ k → k < gk G → oK (961 * k + (31 * i + j)) = X_st (-1) ((X_T_ G).2 k i j)) ∧ ∀ w, 0 ≤ w → w < gw G → ∀ h, 0 ≤ h → h < gD G w 4 0 → oH (961 * (4 * w + h) + (31 * i + j)) = X_st (-1) (X_Hh G w h i j)
def R_ct (G : X_G) (tn : Int) (oW oK oH : Int → Int64) : Prop := ∀ i j, 0 ≤ i → i < j → j ≤ tn → R_rc G i j oW oK oH
theorem X_ix_ne {v w i j i' j' : Int} (h1 : 0 ≤ i ∧ i ≤ 30) (h2 : 0 ≤ j ∧ j ≤ 30) (h3 : 0 ≤ i' ∧ i' ≤ 30) (h4 : 0 ≤ j' ∧ j' ≤ 30) (hn : ¬ (v = w ∧ i = i' ∧ j = j')) : ¬ 961 * v + (31 * i + j) = 961 * w + (31 * i' + j') := by
  intro h
  obtain ⟨a, ha⟩ : ∃ a, a = 31 * v + i := ⟨_, rfl⟩
  obtain ⟨c, hc⟩ : ∃ c, c = 31 * w + i' := ⟨_, rfl⟩
  have h5 : 31 * a + j = 31 * c + j' := by omega
  have h6 : a = c := by omega
  have h7 : j = j' := by omega
  have h8 : v = w := by omega
  exact hn ⟨h8, by omega, h7⟩
end
