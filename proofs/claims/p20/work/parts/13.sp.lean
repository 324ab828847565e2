/-- the reference's pile holds these n -/
def R_pl (n : Int) (St : Int → X_It) (pF pT pS pH pW pP pQ : Int → Int) (pN : Int → Int64) : Prop := ∀ q, 0 ≤ q → q < n → pF q = (St q).1 ∧ pT q = (St q).2.1 ∧ pS q = (St q).2.2.2.2.1 ∧ pH q = (St q).2.2.2.2.2.1 ∧ pW q = (St q).2.2.2.2.2.2.1 ∧ pP q = (St q).2.2.1 ∧ pQ q = (St q).2.2.2.1 ∧ pN q = iL ((St q).2.2.2.2.2.2.2 : Int)
theorem R_pl.add {n : Int} {St : Int → X_It} {pF pT pS pH pW pP pQ : Int → Int} {pN : Int → Int64} (h : R_pl n St pF pT pS pH pW pP pQ pN) (i j p h5 u o en : Int) (k : Nat) : R_pl (n + 1) (X_ug St n (i, j, p, h5, u, o, en, k)) (X_ug pF n i) (X_ug pT n j) (X_ug pS n u) (X_ug pH n o) (X_ug pW n en) (X_ug pP n p) (X_ug pQ n h5) (X_ug pN n (iL (k : Int))) := by
  intro q h1 h2
  by_cases hq : q = n
  · rw [hq]
    simp only [X_ug_s]
    exact ⟨trivial, trivial, trivial, trivial, trivial, trivial, trivial, trivial⟩
  · simp only [X_ug_n _ _ hq]
    exact h q h1 (by omega)
theorem R_pl.less {n m : Int} {St : Int → X_It} {pF pT pS pH pW pP pQ : Int → Int} {pN : Int → Int64} (h : R_pl n St pF pT pS pH pW pP pQ pN) (hm : m ≤ n) : R_pl m St pF pT pS pH pW pP pQ pN := fun q h1 h2 => h q h1 (by omega)
/-- the reference's nodes are these nc -/
def R_nd (nc : Int) (N : Int → Int → Int) (nW nF nL nP nH : Int → Int) : Prop := ∀ n, 0 ≤ n → n < nc → nW n = N 0 n ∧ nF n = N 1 n ∧ nL n = N 2 n ∧ nP n = N 3 n ∧ nH n = N 4 n
theorem R_nd.add {nc : Int} {N : Int → Int → Int} {nW nF nL nP nH : Int → Int} (h : R_nd nc N nW nF nL nP nH) (w i l p h5 : Int) : R_nd (nc + 1) (X_nn N nc w i l p h5) (X_ug nW nc w) (X_ug nF nc i) (X_ug nL nc l) (X_ug nP nc p) (X_ug nH nc h5) := by
  intro n h1 h2
  unfold X_nn
  by_cases hn : n = nc
  · subst hn
    refine ⟨?_, ?_, ?_, ?_, ?_⟩ <;> simp [X_ug_s]
  · simp only [X_ug_n _ _ hn, if_neg hn]
    exact h n h1 (by omega)
