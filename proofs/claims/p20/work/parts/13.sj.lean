/-! ANSWERS -/
theorem X_by_r (x : Int) : -128 ≤ X_by x ∧ X_by x ≤ 127 := by
  show -128 ≤ ((iI x).toInt8.toInt32).toInt ∧ ((iI x).toInt8.toInt32).toInt ≤ 127
  rw [Int8.toInt_toInt32]
  have h1 := Int8.le_toInt (iI x).toInt8
  have h2 := Int8.toInt_lt (iI x).toInt8
  omega
def X_fy (v s : Int) : Int := X_by (((iI ((iI v >>> (iI s &&& 31)).toInt)).toInt8.toInt32).toInt)
def X_fb (a b c d e k : Int) : Int := X_fy (if k < 4 then a else if k < 8 then b else if k < 12 then c else if k < 16 then d else e) (24 - 8 * (k % 4))
def X_fd5 (tb : Int → Int) (len a b c d e : Int) : Int → Int := X_ap4 (X_ap4 (X_ap4 (X_ap4 (X_ap4 tb len a) (len + 4) b) (len + 8) c) (len + 12) d) (len + 16) e
theorem X_ap4_o {tb : Int → Int} {len w q : Int} (h : ¬ (len ≤ q ∧ q < len + 4)) : X_ap4 tb len w q = tb q := by
  unfold X_ap4
  rw [X_ug_n _ _ (by omega), X_ug_n _ _ (by omega), X_ug_n _ _ (by omega), X_ug_n _ _ (by omega)]
theorem X_ap4_i {tb : Int → Int} {len w k : Int} (h : 0 ≤ k ∧ k < 4) : X_ap4 tb len w (len + k) = X_fy w (24 - 8 * k) := by
  unfold X_ap4 X_fy
  rcases (show k = 0 ∨ k = 1 ∨ k = 2 ∨ k = 3 by omega) with h | h | h | h <;> subst h
  · rw [X_ug_n _ _ (by omega), X_ug_n _ _ (by omega), X_ug_n _ _ (by omega), show len + 0 = len by omega, X_ug_s]; rfl
  · rw [X_ug_n _ _ (by omega), X_ug_n _ _ (by omega), X_ug_s]; rfl
  · rw [X_ug_n _ _ (by omega), X_ug_s]; rfl
  · rw [X_ug_s]; rfl
theorem X_fd5_o {tb : Int → Int} {len a b c d e q : Int} (h : q < len) : X_fd5 tb len a b c d e q = tb q := by
  unfold X_fd5
  rw [X_ap4_o (by omega), X_ap4_o (by omega), X_ap4_o (by omega), X_ap4_o (by omega), X_ap4_o (by omega)]
theorem X_fd5_i {tb : Int → Int} {len a b c d e k : Int} (h : 0 ≤ k ∧ k < 20) : X_fd5 tb len a b c d e (len + k) = X_fb a b c d e k := by
  unfold X_fd5 X_fb
  rcases (show k < 4 ∨ (4 ≤ k ∧ k < 8) ∨ (8 ≤ k ∧ k < 12) ∨ (12 ≤ k ∧ k < 16) ∨ 16 ≤ k by omega) with g | g | g | g | g
  · rw [X_ap4_o (by omega), X_ap4_o (by omega), X_ap4_o (by omega), X_ap4_o (by omega), X_ap4_i (by omega), if_pos g, show k % 4 = k by omega]
  · rw [X_ap4_o (by omega), X_ap4_o (by omega), X_ap4_o (by omega), show len + k = len + 4 + (k - 4) by omega, X_ap4_i (by omega), if_neg (by omega), if_pos g.2, show k % 4 = k - 4 by omega]
  · rw [X_ap4_o (by omega), X_ap4_o (by omega), show len + k = len + 8 + (k - 8) by omega, X_ap4_i (by omega), if_neg (by omega), if_neg (by omega), if_pos g.2, show k % 4 = k - 8 by omega]
  · rw [X_ap4_o (by omega), show len + k = len + 12 + (k - 12) by omega, X_ap4_i (by omega), if_neg (by omega), if_neg (by omega), if_neg (by omega), if_pos g.2, show k % 4 = k - 12 by omega]
  · rw [show len + k = len + 16 + (k - 16) by omega, X_ap4_i (by omega), if_neg (by omega), if_neg (by omega), if_neg (by omega), if_neg (by omega), show k % 4 = k - 16 by omega]
def X_qAb (rc kc wc tn nc len what : Int) : Int := if what = 0 then rc else if what = 1 then kc else if what = 2 then wc else if what = 3 then tn else if what = 4 then nc else if what = 5 then len else -1
noncomputable def X_qWd (G : X_G) (w what : Int) : Int := if 0 ≤ w ∧ w < gw G then (if what = 0 then gD G w 0 0 else if what = 1 then gD G w 1 0 else if what = 2 then gD G w 2 0 else if what = 3 then gD G w 3 0 else if what = 4 then gD G w 4 0 else if what = 5 then X_en (gD G w) (gW G w) else if what = 6 then gD G w 5 0 else -1) else -1
noncomputable def X_qTi (G : X_G) (rc a b : Int) : Int := if (0 ≤ a ∧ a < rc) ∧ 0 ≤ b ∧ b < rc then bI (X_bt (gl G a) b) else -1
noncomputable def X_qUn (G : X_G) (a b : Int) : Int := if (0 ≤ a ∧ a < gk G) ∧ 0 ≤ b ∧ b < gk G then bI (X_bt (ga G a) b) else -1
def X_qNd (nc : Int) (N : Int → Int → Int) (n what : Int) : Int := if 0 ≤ n ∧ n < nc then (if what = 0 then N 0 n else if what = 1 then N 1 n else if what = 2 then N 2 n else if what = 3 then N 3 n else if what = 4 then N 4 n else -1) else -1
noncomputable def X_qCt (G : X_G) (tn i j : Int) : Int64 := if 0 ≤ i ∧ j ≤ tn ∧ i < j then X_st (-2) (X_all G i j) else iL 0
/-- the least stretch with two readings -/
def X_qQu (G : X_G) (tn r : Int) : Prop := (r = -1 ∧ ∀ n i, 1 ≤ n → 0 ≤ i → i + n ≤ tn → ¬ 1 < X_all G i (i + n)) ∨ ∃ n i, r = 100 * i + n ∧ (1 ≤ n ∧ 0 ≤ i ∧ i + n ≤ tn) ∧ 1 < X_all G i (i + n) ∧ ∀ n' i', 1 ≤ n' → 0 ≤ i' → i' + n' ≤ tn → (n' < n ∨ (n' = n ∧ i' < i)) → ¬ 1 < X_all G i' (i' + n')
theorem X_qQu_u {G : X_G} {tn r r' : Int} (h : X_qQu G tn r) (h' : X_qQu G tn r') : r = r' := by
  rcases h with ⟨h1, h2⟩ | ⟨n, i, h1, h2, h3, h4⟩ <;> rcases h' with ⟨g1, g2⟩ | ⟨m, j, g1, g2, g3, g4⟩
  · omega
  · exact absurd g3 (h2 m j g2.1 g2.2.1 g2.2.2)
  · exact absurd h3 (g2 n i h2.1 h2.2.1 h2.2.2)
  · by_cases c1 : n < m ∨ (n = m ∧ i < j)
    · exact absurd h3 (g4 n i h2.1 h2.2.1 h2.2.2 c1)
    · by_cases c2 : m < n ∨ (m = n ∧ j < i)
      · exact absurd g3 (h4 m j g2.1 g2.2.1 g2.2.2 c2)
      · have e1 : n = m := by omega
        have e2 : i = j := by omega
        omega
def X_qRk (G : X_G) (tn k : Int) : Prop := 0 ≤ k ∧ 1 ≤ tn ∧ k < (X_all G 0 tn : Int)
/-- the first two words that are against it -/
def X_qSu (G : X_G) (r : Int) : Prop := (r = -1 ∧ ∀ a b, 0 ≤ a → a ≤ b → b < gw G → ¬ X_ag (gl G) (gD G) (gW G) a b) ∨ ∃ a b, r = 100 * a + b ∧ (0 ≤ a ∧ a ≤ b ∧ b < gw G) ∧ X_ag (gl G) (gD G) (gW G) a b ∧ ∀ a' b', 0 ≤ a' → a' ≤ b' → b' < gw G → (a' < a ∨ (a' = a ∧ b' < b)) → ¬ X_ag (gl G) (gD G) (gW G) a' b'
theorem X_qSu_u {G : X_G} {r r' : Int} (h : X_qSu G r) (h' : X_qSu G r') : r = r' := by
  rcases h with ⟨h1, h2⟩ | ⟨n, i, h1, h2, h3, h4⟩ <;> rcases h' with ⟨g1, g2⟩ | ⟨m, j, g1, g2, g3, g4⟩
  · omega
  · exact absurd g3 (h2 m j g2.1 g2.2.1 g2.2.2)
  · exact absurd h3 (g2 n i h2.1 h2.2.1 h2.2.2)
  · by_cases c1 : n < m ∨ (n = m ∧ i < j)
    · exact absurd h3 (g4 n i h2.1 h2.2.1 h2.2.2 c1)
    · by_cases c2 : m < n ∨ (m = n ∧ j < i)
      · exact absurd g3 (h4 m j g2.1 g2.2.1 g2.2.2 c2)
      · have e1 : n = m := by omega
        have e2 : i = j := by omega
        omega
