section
/-- a byte that goes on with a token -/
def X_ct (c : Int) : Prop := 33 ≤ c ∧ c ≤ 126 ∧ ¬ (c = 40 ∨ c = 41)
theorem X_pk_1 {tb : Int → Int} {len p : Int} : X_pk tb len p 1 = (iI (X_at tb len p)).toInt64 := by
  show X_pk1 0 (X_at tb len (p + ((0 : Nat) : Int))) = _
  rw [show p + ((0 : Nat) : Int) = p by omega]
  unfold X_pk1
  simp
theorem X_ct_b {c : Int} (h : X_ct c) : ¬ X_isBl c ∧ ¬ (c < 33 ∨ 126 < c) := by
  unfold X_ct at h
  unfold X_isBl
  omega
/-- a token that begins at f -/
theorem X_sn_f {tb : Int → Int} {len f n z : Int} {t : Int → Int64} (h0 : 0 ≤ f) (hs : X_sn tb len f.toNat = some (n, z, t)) (hn : ¬ n = 30) (hc : ¬ X_isBl (X_at tb len f) ∧ ¬ (X_at tb len f < 33 ∨ 126 < X_at tb len f)) (hz : 0 < z → ¬ X_ct (X_at tb len f)) : X_sn tb len (f + 1).toNat = some (n + 1, (if X_at tb len f = 40 ∨ X_at tb len f = 41 then 0 else 1), X_ug t n (X_pk tb len f 1)) := by
  rw [X_sn_s h0 hs, X_sn1_n hc.1 hc.2 (fun y => hz y.1 ⟨by omega, by omega, y.2⟩), if_neg hn, X_pk_1]
theorem X_sn_m {tb : Int → Int} {len f n z : Int} {t : Int → Int64} (h0 : 0 ≤ f) (hs : X_sn tb len f.toNat = some (n, z, t)) (hn : ¬ n = 30) (hc : X_ct (X_at tb len f)) (hz : z = 0) : ∀ m : Nat, 1 ≤ m → m ≤ 8 → (∀ q, f < q → q < f + m → X_ct (X_at tb len q)) → ∃ T, X_sn tb len (f + m).toNat = some (n + 1, (m : Int), T) ∧ T n = X_pk tb len f m ∧ ∀ i, ¬ i = n → T i = t i := by
  intro m
  induction m with
  | zero => intro h; omega
  | succ m ih =>
    intro h1 h8 hq
    by_cases hm : m = 0
    · subst hm
      have hcb := X_ct_b hc
      have := X_sn_f h0 hs hn hcb (fun y => by omega)
      have hnb : ¬ (X_at tb len f = 40 ∨ X_at tb len f = 41) := hc.2.2
      rw [if_neg hnb] at this
      refine ⟨X_ug t n (X_pk tb len f 1), ?_, X_ug_s _ _ _, fun i hi => X_ug_n _ _ hi⟩
      rw [show f + ((0 + 1 : Nat) : Int) = f + 1 by omega]
      exact this
    · obtain ⟨T, a1, a2, a3⟩ := ih (by omega) (by omega) (fun q g1 g2 => hq q g1 (by omega))
      have hcq := hq (f + m) (by omega) (by omega)
      have hcb := X_ct_b hcq
      have e : X_sn tb len (f + m + 1).toNat = _ := X_sn_s (by omega) a1
      rw [X_sn1_m hcb.1 hcb.2 ⟨by omega, hcq.2.2⟩, if_neg (by omega)] at e
      refine ⟨X_ug T (n + 1 - 1) (X_pk1 (T (n + 1 - 1)) (X_at tb len (f + m))), ?_, ?_, fun i hi => ?_⟩
      · rw [show f + ((m + 1 : Nat) : Int) = f + m + 1 by omega, e, show ((m + 1 : Nat) : Int) = (m : Int) + 1 by omega]
      · rw [show n + 1 - 1 = n by omega, X_ug_s, a2]
        rfl
      · rw [show n + 1 - 1 = n by omega, X_ug_n _ _ hi]
        exact a3 i hi
theorem X_sn_9 {tb : Int → Int} {len f n z : Int} {t : Int → Int64} (h0 : 0 ≤ f) (hs : X_sn tb len f.toNat = some (n, z, t)) (hn : ¬ n = 30) (hc : X_ct (X_at tb len f)) (hz : z = 0) (hq : ∀ q, f < q → q < f + 9 → X_ct (X_at tb len q)) (hl : f + 9 ≤ len) : X_sn tb len len.toNat = none := by
  obtain ⟨T, a1, a2, a3⟩ := X_sn_m h0 hs hn hc hz 8 (by omega) (by omega) (fun q g1 g2 => hq q g1 (by omega))
  have hcq := hq (f + 8) (by omega) (by omega)
  have hcb := X_ct_b hcq
  have e : X_sn tb len (f + ((8 : Nat) : Int) + 1).toNat = _ := X_sn_s (by omega) a1
  rw [show f + ((8 : Nat) : Int) = f + 8 by omega, X_sn1_m hcb.1 hcb.2 ⟨by omega, hcq.2.2⟩, if_pos (by omega)] at e
  exact X_sn_x (by omega) (by omega) e
theorem X_rv_r {tb : Int → Int} {len p : Int} : ∀ m : Nat, (∀ i : Int, 0 ≤ i → i < m → 0 ≤ X_at tb len (p + i)) → -1 ≤ X_rv tb len p m ∧ X_rv tb len p m < ((10 ^ m : Nat) : Int) := by
  intro m
  induction m with
  | zero => intro _; exact ⟨(show (-1 : Int) ≤ 0 by omega), (show (0 : Int) < 1 by omega)⟩
  | succ m ih =>
    intro h
    have h1 := ih (fun i g1 g2 => h i g1 (by omega))
    show -1 ≤ (if X_rv tb len p m = -1 then -1 else if X_at tb len (p + m) < 48 ∨ 57 < X_at tb len (p + m) then -1 else X_rv tb len p m * 10 + X_at tb len (p + m) - 48) ∧ _
    have e : X_rv tb len p (m + 1) = if X_rv tb len p m = -1 then -1 else if X_at tb len (p + m) < 48 ∨ 57 < X_at tb len (p + m) then -1 else X_rv tb len p m * 10 + X_at tb len (p + m) - 48 := rfl
    rw [e, show (10 : Nat) ^ (m + 1) = 10 ^ m * 10 from Nat.pow_succ 10 m]
    have h3 : 0 < (10 : Nat) ^ m := Nat.pow_pos (by decide)
    repeat' split
    all_goals omega
theorem X_rv_s {tb : Int → Int} {len p i : Int} (h : p ≤ i) : X_rv tb len p (i + 1 - p).toNat = if X_rv tb len p (i - p).toNat = -1 then -1 else if X_at tb len i < 48 ∨ 57 < X_at tb len i then -1 else X_rv tb len p (i - p).toNat * 10 + X_at tb len i - 48 := by
  rw [show (i + 1 - p).toNat = (i - p).toNat + 1 by omega]
  show (if X_rv tb len p (i - p).toNat = -1 then -1 else if X_at tb len (p + ((i - p).toNat : Int)) < 48 ∨ 57 < X_at tb len (p + ((i - p).toNat : Int)) then -1 else X_rv tb len p (i - p).toNat * 10 + X_at tb len (p + ((i - p).toNat : Int)) - 48) = _
  rw [show p + ((i - p).toNat : Int) = i by omega]
theorem X_pk_s {tb : Int → Int} {len p i : Int} (h : p ≤ i) : X_pk tb len p (i + 1 - p).toNat = X_pk1 (X_pk tb len p (i - p).toNat) (X_at tb len i) := by
  rw [show (i + 1 - p).toNat = (i - p).toNat + 1 by omega]
  show X_pk1 (X_pk tb len p (i - p).toNat) (X_at tb len (p + ((i - p).toNat : Int))) = _
  rw [show p + ((i - p).toNat : Int) = i by omega]
end
section
/-- the reference's pile holds these n -/
def R_pl (n : Int) (St : Int → X_It) (pF pT pS pH pW pP pQ : Int → Int) (pN : Int → Int64) : Prop := ∀ q, 0 ≤ q → q < n → pF q = (St q).1 ∧ pT q = (St q).2.1 ∧ pS q = (St q).2.2.2.2.1 ∧ pH q = (St q).2.2.2.2.2.1 ∧ pW q = (St q).2.2.2.2.2.2.1 ∧ pP q = (St q).2.2.1 ∧ pQ q = (St q).2.2.2.1 ∧ pN q = iL ((St q).2.2.2.2.2.2.2 : Int)
theorem R_pl.add {n : Int} {St : Int → X_It} {pF pT pS pH pW pP pQ : Int → Int} {pN : Int → Int64} (h : R_pl n St pF pT pS pH pW pP pQ pN) (i j p h5 u o en : Int) (k : Nat) : R_pl (n + 1) (X_ug St n (i, j, p, h5, u, o, en, k)) (X_ug pF n i) (X_ug pT n j) (X_ug pS n u) (X_ug pH n o) (X_ug pW n en) (X_ug pP n p) (X_ug pQ n h5) (X_ug pN n (iL (k : Int))) := by
  intro q h1 h2
  by_cases hq : q = n
  · rw [hq]
    simp only [X_ug_s]
    exact ⟨trivial, trivial, trivial, trivial, trivial, trivial, trivial, trivial⟩
  · simp only [X_ug_n _ _ hq]
    exact h q h1 (by omega)
theorem R_pl.less {n m : Int} {St : Int → X_It} {pF pT pS pH pW pP pQ : Int → Int} {pN : Int → Int64} (h : R_pl n St pF pT pS pH pW pP pQ pN) (hm : m ≤ n) : R_pl m St pF pT pS pH pW pP pQ pN := fun q h1 h2 => h q h1 (by omega)
/-- the reference's nodes are these nc -/
def R_nd (nc : Int) (N : Int → Int → Int) (nW nF nL nP nH : Int → Int) : Prop := ∀ n, 0 ≤ n → n < nc → nW n = N 0 n ∧ nF n = N 1 n ∧ nL n = N 2 n ∧ nP n = N 3 n ∧ nH n = N 4 n
theorem R_nd.add {nc : Int} {N : Int → Int → Int} {nW nF nL nP nH : Int → Int} (h : R_nd nc N nW nF nL nP nH) (w i l p h5 : Int) : R_nd (nc + 1) (X_nn N nc w i l p h5) (X_ug nW nc w) (X_ug nF nc i) (X_ug nL nc l) (X_ug nP nc p) (X_ug nH nc h5) := by
  intro n h1 h2
  unfold X_nn
  by_cases hn : n = nc
  · subst hn
    refine ⟨?_, ?_, ?_, ?_, ?_⟩ <;> simp [X_ug_s]
  · simp only [X_ug_n _ _ hn, if_neg hn]
    exact h n h1 (by omega)
end
section
/-! brackets: how many are open -/
def X_bv (t : Int64) : Int := if t = iL 40 then 1 else if t = iL 41 then -1 else 0
def X_ba (G : X_G) (i : Int) : Nat → Int
  | 0 => 0
  | n + 1 => X_ba G i n + X_bv (gt G (i + n))
def X_bl (G : X_G) (i j : Int) : Int := X_ba G i (j - i).toNat
theorem X_bl_e {G : X_G} {i : Int} : X_bl G i i = 0 := by
  unfold X_bl
  rw [show (i - i).toNat = 0 by omega]
  rfl
theorem X_bl_s {G : X_G} {i m : Int} (h : i ≤ m) : X_bl G i (m + 1) = X_bl G i m + X_bv (gt G m) := by
  unfold X_bl
  rw [show (m + 1 - i).toNat = (m - i).toNat + 1 by omega]
  show X_ba G i (m - i).toNat + X_bv (gt G (i + ((m - i).toNat : Int))) = _
  rw [show i + ((m - i).toNat : Int) = m by omega]
theorem X_bl_a {G : X_G} {i m j : Int} (h1 : i ≤ m) (h2 : m ≤ j) : X_bl G i j = X_bl G i m + X_bl G m j := by
  refine X_Su_ind (a := m) (b := j) (fun x => X_bl G i x = X_bl G i m + X_bl G m x) ?_ (fun x g1 g2 ih => ?_) h2
  · rw [X_bl_e, Int.add_zero]
  · rw [X_bl_s (by omega), X_bl_s g1, ih, Int.add_assoc]
theorem X_bl_1 {G : X_G} {i : Int} : X_bl G i (i + 1) = X_bv (gt G i) := by
  rw [X_bl_s (Int.le_refl i), X_bl_e, Int.zero_add]
/-- in balance, and never too many closed -/
def X_bq (G : X_G) (i j : Int) : Prop := X_bl G i j = 0 ∧ ∀ m, i ≤ m → m ≤ j → 0 ≤ X_bl G i m
theorem X_bq.add {G : X_G} {i m j : Int} (h1 : i ≤ m) (h2 : m ≤ j) (ha : X_bq G i m) (hb : X_bq G m j) : X_bq G i j := by
  refine ⟨by rw [X_bl_a h1 h2, ha.1, hb.1]; rfl, fun x g1 g2 => ?_⟩
  by_cases hx : x ≤ m
  · exact ha.2 x g1 hx
  · rw [X_bl_a h1 (show m ≤ x by omega), ha.1, Int.zero_add]
    exact hb.2 x (by omega) g2
theorem X_bq_0 {G : X_G} {i : Int} : X_bq G i i := ⟨X_bl_e, fun m h1 h2 => by rw [show m = i by omega, X_bl_e]; exact Int.le_refl 0⟩
theorem X_bq_1 {G : X_G} {i : Int} (h : X_bv (gt G i) = 0) : X_bq G i (i + 1) := by
  refine ⟨by rw [X_bl_1]; exact h, fun m h1 h2 => ?_⟩
  by_cases hm : m = i
  · rw [hm, X_bl_e]; exact Int.le_refl 0
  · rw [show m = i + 1 by omega, X_bl_1, h]; exact Int.le_refl 0
theorem X_bv_n {t : Int64} (h : 0 ≤ X_nv t) : X_bv t = 0 := by
  unfold X_bv
  rw [if_neg (fun z => by rw [z, show X_nv (iL 40) = -1 by decide] at h; omega), if_neg (fun z => by rw [z, show X_nv (iL 41) = -1 by decide] at h; omega)]
theorem X_bv_p {t : Int64} (h1 : ¬ t = iL 40) (h2 : ¬ t = iL 41) : X_bv t = 0 := by
  unfold X_bv
  rw [if_neg h1, if_neg h2]
/-- what has a reading -/
def X_hr (G : X_G) (i j : Int) : Prop := (∃ k, 0 < X_nm G k i j + (X_T_ G).2 k i j) ∨ ∃ v, 0 ≤ v ∧ v < gw G ∧ 0 < (X_T_ G).1 v i j
theorem X_if_p {p : Prop} {n : Nat} (h : 0 < X_if p n) : p ∧ 0 < n := by
  by_cases hp : p
  · rw [X_if_t hp] at h; exact ⟨hp, h⟩
  · rw [X_if_f hp] at h; omega
theorem X_hr_c {G : X_G} {u o en i j : Int} (h : 0 < X_Hc G (X_T_ G) u o en i j) : X_hr G i j := by
  unfold X_Hc at h
  by_cases hq : 0 < X_Hq G (X_T_ G) u i j
  · obtain ⟨k, -, -, h1⟩ := X_Su_p hq
    exact Or.inl ⟨k, (X_if_p h1).2⟩
  · have hv : 0 < X_Hv G (X_T_ G) u o en i j := by omega
    obtain ⟨v, h1, h2, h3⟩ := X_Su_p hv
    exact Or.inr ⟨v, h1, h2, (X_if_p h3).2⟩
theorem X_hr_k {G : X_G} {k i j : Int} (h : 0 < X_Kd G (X_T_ G) k i j) : X_hr G i j := by
  unfold X_Kd at h
  by_cases hq : 0 < X_nm G k i j + (X_T_ G).2 k i j
  · exact Or.inl ⟨k, hq⟩
  · have hv : 0 < X_Su (fun v => X_if (gD G v 2 0 = k) ((X_T_ G).1 v i j)) 0 (gw G) := by omega
    obtain ⟨v, h1, h2, h3⟩ := X_Su_p hv
    exact Or.inr ⟨v, h1, h2, (X_if_p h3).2⟩
theorem X_Ew_bo {G : X_G} {w i j : Int} (hg : X_gw G w) (N : Int) (hN : j - i ≤ N) (ih : ∀ p q, p < q → q - p < N → X_hr G p q → X_bq G p q) : ∀ (n : Nat) (e p : Int), 0 ≤ e → e + n = gD G w 3 0 → i + e ≤ p → p ≤ j → 0 < X_Ew G (X_T_ G) w e p j → X_bq G p j := by
  have hn := hg.2.1
  intro n
  induction n with
  | zero =>
    intro e p h0 h1 h2 h3 h4
    rw [X_Ew_e (by omega)] at h4
    have : p = j := Classical.byContradiction (fun z => by rw [if_neg z] at h4; omega)
    rw [this]
    exact X_bq_0
  | succ n ihn =>
    intro e p h0 h1 h2 h3 h4
    by_cases hq : gW G w e = 0
    · rw [X_Ew_h (by omega) hq] at h4
      obtain ⟨q, g1, g2, g3⟩ := X_Su_p h4
      have gH : 0 < X_Hw G (X_T_ G) w e p q := Nat.pos_of_ne_zero (fun z => by rw [z, Nat.zero_mul] at g3; omega)
      have gE : 0 < X_Ew G (X_T_ G) w (e + 1) q j := Nat.pos_of_ne_zero (fun z => by rw [z, Nat.mul_zero] at g3; omega)
      have gl1 : ¬ j - q < gD G w 3 0 - (e + 1) := fun z => by rw [X_Ew_0 z] at gE; omega
      have hh := (hg.hole h0 (by omega) hq)
      exact (ih p q (by omega) (by omega) (X_hr_c gH)).add (by omega) (by omega) (ihn (e + 1) q (by omega) (by omega) (by omega) (by omega) gE)
    · rw [X_Ew_p (by omega) hq] at h4
      obtain ⟨⟨g1, g2⟩, g3⟩ := X_if_p h4
      have hp := hg.2.2.2.2.2.2.2.2.2.1 e h0 (by omega) hq
      exact (X_bq_1 (by rw [g2]; exact X_bv_p hp.2.1 hp.2.2)).add (by omega) (by omega) (ihn (e + 1) (p + 1) (by omega) (by omega) (by omega) (by omega) g3)
theorem X_brk_bl {G : X_G} {i j : Int} (h : X_brk G i j) (ho : X_bq G (i + 1) (j - 1)) : X_bl G i j = 0 ∧ ∀ m, i < m → m < j → 1 ≤ X_bl G i m := by
  obtain ⟨h1, h2, h3⟩ := h
  have v1 : X_bv (gt G i) = 1 := by rw [h2]; rfl
  have v2 : X_bv (gt G (j - 1)) = -1 := by rw [h3]; unfold X_bv; rw [if_neg (by decide), if_pos rfl]
  have s1 : X_bl G i (i + 1) = 1 := by rw [X_bl_1]; exact v1
  refine ⟨?_, fun m g1 g2 => ?_⟩
  · have s2 : X_bl G (j - 1) (j - 1 + 1) = -1 := by rw [X_bl_1]; exact v2
    rw [show j - 1 + 1 = j by omega] at s2
    rw [X_bl_a (show i ≤ i + 1 by omega) (show i + 1 ≤ j by omega), X_bl_a (show i + 1 ≤ j - 1 by omega) (show j - 1 ≤ j by omega), s1, s2, ho.1]
    rfl
  · rw [X_bl_a (show i ≤ i + 1 by omega) (show i + 1 ≤ m by omega), s1]
    have := ho.2 m (by omega) (by omega)
    omega
theorem X_hr_bo {G : X_G} (hG : X_Gok G) : ∀ (n : Nat) (i j : Int), i < j → j - i ≤ n → j - i ≤ 30 → X_hr G i j → X_bq G i j := by
  intro n
  induction n with
  | zero => intro i j h1 h2; omega
  | succ n ih =>
    intro i j h1 h2 h30 h
    rcases h with ⟨k, h⟩ | ⟨v, hv1, hv2, h⟩
    · have hb := X_nmB (G := G) (k := k) h1 h30
      by_cases hj : j = i + 1
      · rw [hb.1 hj] at h
        rw [hj]
        exact X_bq_1 (X_bv_n (X_if_p h).1.1)
      · rw [hb.2 hj] at h
        obtain ⟨hk, h3⟩ := X_if_p h
        have hk1 := hk.1
        have hb2 := X_brk_bl hk (ih (i + 1) (j - 1) (by omega) (by omega) (by omega) (X_hr_k h3))
        refine ⟨hb2.1, fun m g1 g2 => ?_⟩
        by_cases hm : m = i
        · rw [hm, X_bl_e]; exact Int.le_refl 0
        · by_cases hm2 : m = j
          · rw [hm2, hb2.1]; exact Int.le_refl 0
          · have := hb2.2 m (by omega) (by omega)
            omega
    · have hg := hG.2.2.2 v hv1 hv2
      rw [X_T_W hg.2.2.1 h1 h30] at h
      exact X_Ew_bo hg (j - i) (Int.le_refl _) (fun p q g1 g2 g3 => ih p q g1 (by omega) (by omega) g3) (gD G v 3 0).toNat 0 i (Int.le_refl 0) (by have := hg.1; omega) (by omega) (by omega) h
/-- the first element of a word that is read over brackets -/
theorem X_brk_w {G : X_G} {v k i j : Int} (hG : X_Gok G) (hv : 0 ≤ v ∧ v < gw G) (h1 : i < j) (h30 : j - i ≤ 30) (hb : 0 < (X_T_ G).2 k i j) : (X_T_ G).1 v i j = 0 := by
  refine Nat.eq_zero_of_not_pos (fun h => ?_)
  have hg := hG.2.2.2 v hv.1 hv.2
  rw [X_T_B h1 h30] at hb
  obtain ⟨hk, h3⟩ := X_if_p hb
  have hk1 := hk.1
  have hb2 := X_brk_bl hk (X_hr_bo hG (j - i).toNat (i + 1) (j - 1) (by omega) (by omega) (by omega) (X_hr_k h3))
  rw [X_T_W hg.2.2.1 h1 h30] at h
  have hs := hg.1
  have hn := hg.2.1
  by_cases hq : gW G v 0 = 0
  · rw [X_Ew_h (by omega) hq] at h
    obtain ⟨q, g1, g2, g3⟩ := X_Su_p h
    have gH : 0 < X_Hw G (X_T_ G) v 0 i q := Nat.pos_of_ne_zero (fun z => by rw [z, Nat.zero_mul] at g3; omega)
    have gE : 0 < X_Ew G (X_T_ G) v (0 + 1) q j := Nat.pos_of_ne_zero (fun z => by rw [z, Nat.mul_zero] at g3; omega)
    have gl1 : ¬ j - q < gD G v 3 0 - (0 + 1) := fun z => by rw [X_Ew_0 z] at gE; omega
    have hh := (hg.hole (Int.le_refl 0) (by omega) hq)
    have ho := X_hr_bo hG (q - i).toNat i q (by omega) (by omega) (by omega) (X_hr_c gH)
    have := hb2.2 q (by omega) (by omega)
    have := ho.1
    omega
  · rw [X_Ew_p (by omega) hq] at h
    obtain ⟨⟨g1, g2⟩, g3⟩ := X_if_p h
    have hp := hg.2.2.2.2.2.2.2.2.2.1 0 (Int.le_refl 0) (by omega) hq
    exact hp.2.1 (g2.symm.trans hk.2.1)
theorem X_num_w {G : X_G} {v i : Int} (hG : X_Gok G) (hv : 0 ≤ v ∧ v < gw G) (hb : 0 ≤ X_nv (gt G i)) : (X_T_ G).1 v i (i + 1) = 0 := by
  refine Nat.eq_zero_of_not_pos (fun h => ?_)
  have hg := hG.2.2.2 v hv.1 hv.2
  rw [X_T_W hg.2.2.1 (by omega) (by omega)] at h
  have hs := hg.1
  have hn := hg.2.1
  by_cases hq : gW G v 0 = 0
  · rw [X_Ew_h (by omega) hq] at h
    obtain ⟨q, g1, g2, g3⟩ := X_Su_p h
    have gE : 0 < X_Ew G (X_T_ G) v (0 + 1) q (i + 1) := Nat.pos_of_ne_zero (fun z => by rw [z, Nat.mul_zero] at g3; omega)
    have gl1 : ¬ i + 1 - q < gD G v 3 0 - (0 + 1) := fun z => by rw [X_Ew_0 z] at gE; omega
    have hh := (hg.hole (Int.le_refl 0) (by omega) hq)
    omega
  · rw [X_Ew_p (by omega) hq] at h
    obtain ⟨⟨g1, g2⟩, g3⟩ := X_if_p h
    have hp := hg.2.2.2.2.2.2.2.2.2.1 0 (Int.le_refl 0) (by omega) hq
    rw [g2, hp.1] at hb
    omega
/-- what open finds: a number .. -/
theorem R_num {G : X_G} {u o en i j : Int} {k : Nat} (hG : X_Gok G) (hj : j = i + 1) (hv : 0 ≤ X_nv (gt G i)) (hk : k < X_Hc G (X_T_ G) u o en i j) : k < X_Hq G (X_T_ G) u i j := by
  unfold X_Hc X_Hv at hk
  rw [X_Su_0 (fun v g1 g2 => by rw [hj, X_num_w hG ⟨g1, g2⟩ hv, X_if_0])] at hk
  exact hk
/-- .. brackets .. -/
theorem R_brk {G : X_G} {u o en i j x : Int} {k : Nat} (hG : X_Gok G) (h1 : i < j) (h30 : j - i ≤ 30) (hx : ¬ (X_T_ G).2 x i j = 0) (hk : k < X_Hc G (X_T_ G) u o en i j) : ¬ j = i + 1 ∧ k < X_Hq G (X_T_ G) u i j := by
  have hx : 0 < (X_T_ G).2 x i j := by omega
  have hb := hx
  rw [X_T_B h1 h30] at hb
  have hk1 := (X_if_p hb).1.1
  refine ⟨by omega, ?_⟩
  unfold X_Hc X_Hv at hk
  rw [X_Su_0 (fun v g1 g2 => by rw [X_brk_w hG ⟨g1, g2⟩ h1 h30 hx, X_if_0])] at hk
  exact hk
/-- .. or neither -/
theorem R_wrd {G : X_G} {u i j : Int} (hn : ¬ (j = i + 1 ∧ 0 ≤ X_nv (gt G i))) (hx : ∀ x, 0 ≤ x → x < gk G → (X_T_ G).2 x i j = 0) : X_Hq G (X_T_ G) u i j = 0 := by
  unfold X_Hq
  exact X_Su_0 (fun x g1 g2 => by rw [hx x g1 g2, show X_nm G x i j = 0 from X_if_f (fun z => hn ⟨z.1, z.2.1⟩), X_if_0])
end
section
/-! what a reading's making leaves alone -/
theorem X_mk_old {G : X_G} {wt nc : Int} {St : Int → X_It} {N : Int → Int → Int} : (X_mk G (wt, St, nc, N)).2.2.1 = nc + 1 ∧ ∃ a b c d e, (X_mk G (wt, St, nc, N)).2.2.2 = X_nn N nc a b c d e ∧ d = (St (wt - 1)).2.2.1 ∧ e = (St (wt - 1)).2.2.2.1 := by
  obtain ⟨⟨i, j, p, h, u, o, en, k⟩, ht⟩ : ∃ t : X_It, St (wt - 1) = t := ⟨_, rfl⟩
  by_cases hk : k < X_Hq G (X_T_ G) u i j
  · by_cases hj : j = i + 1
    · rw [X_mk_n ht hk hj]
      exact ⟨rfl, _, _, _, _, _, rfl, by rw [ht], by rw [ht]⟩
    · rw [X_mk_b ht hk hj]
      exact ⟨rfl, _, _, _, _, _, rfl, by rw [ht], by rw [ht]⟩
  · rw [X_mk_w ht hk (Prod.eta _).symm (show _ = ((X_spl G _ j _ 0 i _ 1 (fun _ => 0) (fun _ => 0)).1, (X_spl G _ j _ 0 i _ 1 (fun _ => 0) (fun _ => 0)).2.1, (X_spl G _ j _ 0 i _ 1 (fun _ => 0) (fun _ => 0)).2.2) from rfl)]
    exact ⟨rfl, _, _, _, _, _, rfl, by rw [ht], by rw [ht]⟩
theorem X_mks_old {G : X_G} {f n : Int} : ∀ (m : Nat) (s : X_Ms), n < s.2.2.1 → (X_mks G m s).2.2.2 f n = s.2.2.2 f n := by
  intro m
  induction m with
  | zero => intro s h; rfl
  | succ m ih =>
    intro s h
    by_cases hw : s.1 ≤ 0
    · rw [X_mks_e hw]
    · have e : X_mks G (m + 1) s = X_mks G m (X_mk G s) := by
        show (if s.1 ≤ 0 then s else _) = _
        rw [if_neg hw]
      obtain ⟨wt, St, nc, N⟩ := s
      obtain ⟨h1, a, b, c, d, e2, h2, -⟩ := X_mk_old (G := G) (wt := wt) (St := St) (nc := nc) (N := N)
      rw [e, ih _ (by rw [h1]; have : n < nc := h; omega), h2]
      unfold X_nn
      have : n < nc := h
      rw [if_neg (by omega)]
/-- the first node is in no hole -/
theorem X_rd_4 {G : X_G} {tn : Int} {k : Nat} : (X_rd G tn k).2.2.2 4 0 = -1 := by
  have e : X_rd G tn k = X_mks G 29 (X_mk G (1, fun _ => (0, tn, -1, -1, 0, 0, 0, k), 0, fun _ _ => 0)) := by
    have key : ∀ s : X_Ms, 0 < s.1 → X_mks G 30 s = X_mks G 29 (X_mk G s) := fun s hs => by
      show (if s.1 ≤ 0 then s else X_mks G 29 (X_mk G s)) = _
      rw [if_neg (by omega)]
    exact key _ (show (0 : Int) < 1 by omega)
  obtain ⟨h1, a, b, c, d, e2, h2, h3, h4⟩ := X_mk_old (G := G) (wt := 1) (St := fun _ => (0, tn, -1, -1, 0, 0, 0, k)) (nc := 0) (N := fun _ _ => 0)
  rw [e, X_mks_old 29 _ (by rw [h1]; omega), h2, h4]
  rfl
theorem X_Rok.n4 {G : X_G} {tn nc : Int} {N : Int → Int → Int} (hR : X_Rok G tn nc N) (h : N 4 0 = -1) : ∀ n, 0 ≤ n → n < nc → N 3 n < 0 → N 4 n = -1 := fun n h1 h2 h3 => by
  by_cases hn : n = 0
  · rw [hn]; exact h
  · have := (hR.2.2.1 n (by omega) h2).1
    omega
/-! the reference's work -/
theorem iI_ndiv {a : Int} : iI a / iI (-1) = iI (-a) := by
  rw [show iI (-a) = -(iI a) from Int32.ofInt_neg a]
  refine Int32.toInt_inj.mp ?_
  rw [Int32.toInt_div, Int32.toInt_neg, show (iI (-1)).toInt = -1 by decide, Int.tdiv_neg, Int.tdiv_one]
theorem iI_nmod {a : Int} : iI 0 = iI a - iI a / iI (-1) * iI (-1) := by
  rw [iI_ndiv, show iI a - iI (-a) * iI (-1) = iI (a - -a * -1) from by
    show Int32.ofInt a - Int32.ofInt (-a) * Int32.ofInt (-1) = _
    rw [← Int32.ofInt_mul, ← Int32.ofInt_sub]]
  congr 1
  omega
theorem X_lc_0 {N : Int → Int → Int} {nc n h : Int} (ht : X_tr0 N nc) (h0 : 0 ≤ n) (h1 : n < nc) : X_lc N n h (n + 1).toNat = -1 := by
  refine Classical.byContradiction (fun z => ?_)
  have h2 := X_lc_r (N := N) (p := n) (h := h) (n + 1).toNat
  have h3 := h2.2.2 z
  have h4 := ht (X_lc N n h (n + 1).toNat) (by omega) (by omega)
  omega
theorem X_lc_s {N : Int → Int → Int} {p h m : Int} (h0 : 0 ≤ m) : X_lc N p h (m + 1).toNat = if N 3 m = p ∧ N 4 m = h then m else X_lc N p h m.toNat := by
  rw [show (m + 1).toNat = m.toNat + 1 by omega]
  show (if N 3 (m.toNat : Int) = p ∧ N 4 (m.toNat : Int) = h then ((m.toNat : Nat) : Int) else X_lc N p h m.toNat) = _
  rw [show ((m.toNat : Nat) : Int) = m by omega]
/-- what is worked: nodes ahead of nx that n isn't in -/
def R_dn (N : Int → Int → Int) (nc nx n : Int) (dn : Int → Int) : Prop := ∀ m, 0 ≤ m → m < nc → (dn m = 1 ↔ m < nx ∧ ¬ X_An N n m) ∧ (dn m = 0 ∨ dn m = 1)
def R_cn (dn : Int → Int) : Int → Nat := fun m => if dn m = 1 then 1 else 0
theorem R_cn_le {dn : Int → Int} {m : Int} (h : 0 ≤ m) : (X_Su (R_cn dn) 0 m : Int) ≤ m := by
  refine X_Su_ind (a := 0) (b := m) (fun k => (X_Su (R_cn dn) 0 k : Int) ≤ k) ?_ (fun k h1 h2 ih => ?_) h
  · rw [X_Su_e (Int.le_refl 0)]; exact Int.le_refl 0
  · rw [X_Su_s h1]
    have : R_cn dn k ≤ 1 := by unfold R_cn; split <;> omega
    omega
theorem R_cn_lt {dn : Int → Int} {m n : Int} (h0 : 0 ≤ n) (h1 : n < m) (hn : ¬ dn n = 1) : (X_Su (R_cn dn) 0 m : Int) < m := by
  refine X_Su_ind (a := n + 1) (b := m) (fun k => (X_Su (R_cn dn) 0 k : Int) < k) ?_ (fun k g1 g2 ih => ?_) (by omega)
  · rw [X_Su_s h0, show R_cn dn n = 0 from if_neg hn]
    have := R_cn_le (dn := dn) h0
    omega
  · rw [X_Su_s (by omega)]
    have : R_cn dn k ≤ 1 := by unfold R_cn; split <;> omega
    omega
theorem R_cn_u {dn : Int → Int} {m n : Int} (h0 : 0 ≤ n) (h1 : n < m) (hn : ¬ dn n = 1) : X_Su (R_cn (X_ug dn n 1)) 0 m = X_Su (R_cn dn) 0 m + 1 := by
  refine X_Su_ind (a := n + 1) (b := m) (fun k => X_Su (R_cn (X_ug dn n 1)) 0 k = X_Su (R_cn dn) 0 k + 1) ?_ (fun k g1 g2 ih => ?_) (by omega)
  · rw [X_Su_s h0, X_Su_s h0, show R_cn dn n = 0 from if_neg hn, show R_cn (X_ug dn n 1) n = 1 from if_pos (X_ug_s _ _ _)]
    rw [X_Su_c (g := R_cn dn) (fun k g1 g2 => by unfold R_cn; rw [X_ug_n _ _ (by omega)])]
  · rw [X_Su_s (by omega), X_Su_s (by omega), ih, show R_cn (X_ug dn n 1) k = R_cn dn k from by unfold R_cn; rw [X_ug_n _ _ (by omega)]]
    omega
section X_RWK
variable {G : X_G} {tn nc nx n : Int} {N : Int → Int → Int} {dn : Int → Int}
theorem R_dn.self (h : R_dn N nc nx n dn) (h0 : 0 ≤ n) (h1 : n < nc) : ¬ dn n = 1 := fun z => ((h n h0 h1).1.mp z).2 X_An.rf
/-- a child that isn't worked: it is the next -/
theorem R_wk_d (hR : X_Rok G tn nc N) (hnx : 1 ≤ nx ∧ nx ≤ nc) (hn : 0 ≤ n ∧ n < nx) (hAo : X_An N n (X_wn N nc nx)) (hd : R_dn N nc nx n dn) {r : Int} (hr : n < r ∧ r < nc) (hr3 : N 3 r = n) (hr0 : dn r = 0) (hm : ∀ m, n < m → m < r → N 3 m = n → ¬ dn m = 0) : r = nx ∧ X_wn N nc nx = n ∧ nx < nc ∧ N 3 nx = n := by
  have t0 := hR.2.1
  have t1 := hR.2.2.1
  have hrA : X_An N r n := X_An.up (by omega) (by rw [hr3]; exact X_An.rf)
  have hnA : ¬ X_An N n r := fun z => by have := z.le t0 (by omega) (by omega); omega
  have hrx : ¬ r < nx := fun z => by
    have := (hd r (by omega) hr.2).1.mpr ⟨z, hnA⟩
    omega
  have hle := hAo.le t0 (by omega) (by omega)
  have hwn : X_wn N nc nx = n := Classical.byContradiction (fun z => X_An_no t0 t1 hnx.1 hn.2 (by omega) hn.1 (r - nx).toNat r (by omega) hr.2 hrA)
  have hxc : nx < nc := Classical.byContradiction (fun z => by unfold X_wn at hwn; rw [if_neg z] at hwn; omega)
  have h3 : N 3 nx = n := by unfold X_wn at hwn; rw [if_pos hxc] at hwn; exact hwn
  refine ⟨Classical.byContradiction (fun z => ?_), hwn, hxc, h3⟩
  have hd1 := (hd nx (by omega) hxc)
  have hd2 : ¬ dn nx = 1 := fun y => by have := (hd1.1.mp y).1; omega
  exact hm nx (by omega) (by omega) h3 (hd1.2.resolve_right hd2)
/-- no such child: it is to be worked -/
theorem R_wk_e (hR : X_Rok G tn nc N) (hnx : 1 ≤ nx ∧ nx ≤ nc) (hn : 0 ≤ n ∧ n < nx) (hAo : X_An N n (X_wn N nc nx)) (hd : R_dn N nc nx n dn) (h : (∀ m, n < m → m < nc → N 3 m = n → ¬ dn m = 0) ∨ (n + 1 = nc ∨ n + 1 < nc ∧ N 3 (n + 1) < n)) : X_wn N nc nx < n := by
  have t0 := hR.2.1
  have t1 := hR.2.2.1
  have hle := hAo.le t0 (by omega) (by omega)
  refine Classical.byContradiction (fun z => ?_)
  have hwn : X_wn N nc nx = n := by omega
  have hxc : nx < nc := Classical.byContradiction (fun z => by unfold X_wn at hwn; rw [if_neg z] at hwn; omega)
  have h3 : N 3 nx = n := by unfold X_wn at hwn; rw [if_pos hxc] at hwn; exact hwn
  rcases h with h | h | ⟨h1, h2⟩
  · have hd1 := (hd nx (by omega) hxc)
    have hd2 : ¬ dn nx = 1 := fun y => by have := (hd1.1.mp y).1; omega
    exact h nx (by omega) hxc h3 (hd1.2.resolve_right hd2)
  · omega
  · exact X_An_no t0 t1 (show 1 ≤ n + 1 by omega) (show n < n + 1 by omega) (by unfold X_wn; rw [if_pos h1]; exact h2) hn.1 (nx - (n + 1)).toNat nx (by omega) hxc (X_An.up (by omega) (by rw [h3]; exact X_An.rf))
theorem R_dn.down (hR : X_Rok G tn nc N) (hd : R_dn N nc nx n dn) (hn : 0 ≤ n ∧ n < nx) (hx : nx < nc) (h3 : N 3 nx = n) : R_dn N nc (nx + 1) nx dn := fun m h1 h2 => by
  have hm := hd m h1 h2
  refine ⟨⟨fun z => ?_, fun z => ?_⟩, hm.2⟩
  · have := hm.1.mp z
    refine ⟨by omega, fun y => ?_⟩
    have := (y.dn (by omega)).2
    rw [h3] at this
    exact (hm.1.mp z).2 this
  · obtain ⟨z1, z2⟩ := z
    by_cases hmx : m = nx
    · rw [hmx] at z2
      exact absurd X_An.rf z2
    · exact hm.1.mpr ⟨by omega, fun y => z2 (X_An.up (by omega) (by rw [h3]; exact y))⟩
theorem R_dn.upd (hR : X_Rok G tn nc N) (hd : R_dn N nc nx n dn) (hn : 0 ≤ n ∧ n < nx) (hx : nx ≤ nc) : R_dn N nc nx (N 3 n) (X_ug dn n 1) := fun m h1 h2 => by
  have t0 := hR.2.1
  have h3 := t0 n hn.1 (by omega)
  by_cases hmn : m = n
  · rw [hmn, X_ug_s]
    refine ⟨⟨fun _ => ⟨hn.2, fun y => ?_⟩, fun _ => rfl⟩, Or.inr rfl⟩
    have := y.le t0 (by omega) h3.1
    omega
  · rw [X_ug_n _ _ hmn]
    have hm := hd m h1 h2
    refine ⟨hm.1.trans ⟨fun z => ⟨z.1, fun y => z.2 (X_An.up hn.1 y)⟩, fun z => ⟨z.1, fun y => z.2 (y.dn (fun e => hmn e.symm)).2⟩⟩, hm.2⟩
theorem R_dn_0 (hz : ∀ m, 0 ≤ m → m < nc → dn m = 0) : R_dn N nc 1 0 dn := fun m h1 h2 => by
  refine ⟨⟨fun z => by rw [hz m h1 h2] at z; omega, fun z => ?_⟩, Or.inl (hz m h1 h2)⟩
  have : m = 0 := by omega
  rw [this] at z
  exact absurd X_An.rf z.2
theorem R_cn_0 (hz : ∀ m, 0 ≤ m → m < nc → dn m = 0) : X_Su (R_cn dn) 0 nc = 0 := X_Su_0 (fun k h1 h2 => if_neg (by rw [hz k h1 h2]; omega))
end X_RWK
end
section
/-! fields 6 and 7 (what is bound) don't count -/
def X_Dr (G : X_G) : X_G := (gk G, gw G, gl G, ga G, fun w f e => if f = 6 ∨ f = 7 then 0 else gD G w f e, gW G, gt G)
theorem X_Dr_D {G : X_G} {w : Int} {f : Nat} (h : ¬ (f = 6 ∨ f = 7)) : gD (X_Dr G) w f = gD G w f := by
  funext e
  show (if f = 6 ∨ f = 7 then 0 else gD G w f e) = _
  rw [if_neg h]
theorem X_en_dr {G : X_G} {v : Int} : X_en (gD (X_Dr G) v) (gW (X_Dr G) v) = X_en (gD G v) (gW G v) := rfl
theorem X_lt_dr {G : X_G} {o en v : Int} : X_lt (X_Dr G) o en v ↔ X_lt G o en v := Iff.rfl
theorem X_Hq_dr {G : X_G} {T : X_TT} {u i j : Int} : X_Hq (X_Dr G) T u i j = X_Hq G T u i j := rfl
theorem X_Hv_dr {G : X_G} {T : X_TT} {u o en i j : Int} : X_Hv (X_Dr G) T u o en i j = X_Hv G T u o en i j := rfl
theorem X_Hc_dr {G : X_G} {T : X_TT} {u o en i j : Int} : X_Hc (X_Dr G) T u o en i j = X_Hc G T u o en i j := by
  unfold X_Hc
  rw [X_Hq_dr, X_Hv_dr]
theorem X_Hw_dr {G : X_G} {T : X_TT} {w e i j : Int} : X_Hw (X_Dr G) T w e i j = X_Hw G T w e i j := by
  unfold X_Hw
  rw [X_Hc_dr]
  rfl
theorem X_Kd_dr {G : X_G} {T : X_TT} {k i j : Int} : X_Kd (X_Dr G) T k i j = X_Kd G T k i j := rfl
theorem X_El_dr {G : X_G} {T : X_TT} {w : Int} : ∀ (r : Nat) (p j : Int), X_El (X_Dr G) T w r p j = X_El G T w r p j := by
  intro r
  induction r with
  | zero => intro p j; rfl
  | succ r ih =>
    intro p j
    show (if gW (X_Dr G) w (gD (X_Dr G) w 3 0 - (r + 1)) = 0 then X_Su (fun q => X_Hw (X_Dr G) T w (gD (X_Dr G) w 3 0 - (r + 1)) p q * X_El (X_Dr G) T w r q j) (p + 1) (j + 1)
      else X_if (p < j ∧ gt (X_Dr G) p = gW (X_Dr G) w (gD (X_Dr G) w 3 0 - (r + 1))) (X_El (X_Dr G) T w r (p + 1) j)) = (if gW G w (gD G w 3 0 - (r + 1)) = 0 then X_Su (fun q => X_Hw G T w (gD G w 3 0 - (r + 1)) p q * X_El G T w r q j) (p + 1) (j + 1)
      else X_if (p < j ∧ gt G p = gW G w (gD G w 3 0 - (r + 1))) (X_El G T w r (p + 1) j))
    rw [ih (p + 1) j, X_Su_c (g := fun q => X_Hw G T w (gD G w 3 0 - (r + 1)) p q * X_El G T w r q j) (fun q _ _ => by rw [ih q j, X_Hw_dr]; rfl)]
    rfl
theorem X_Ew_dr {G : X_G} {T : X_TT} {w e p j : Int} : X_Ew (X_Dr G) T w e p j = X_Ew G T w e p j := X_El_dr _ _ _
theorem X_Tb_dr {G : X_G} : ∀ n : Nat, X_Tb (X_Dr G) n = X_Tb G n := by
  intro n
  induction n with
  | zero => rfl
  | succ n ih =>
    show ((fun w i j => if j - i ≤ n then (X_Tb (X_Dr G) n).1 w i j else X_Ew (X_Dr G) (X_Tb (X_Dr G) n) w 0 i j, fun k i j => if j - i ≤ n then (X_Tb (X_Dr G) n).2 k i j else X_if (X_brk (X_Dr G) i j) (X_Kd (X_Dr G) (X_Tb (X_Dr G) n) k (i + 1) (j - 1))) : X_TT) = ((fun w i j => if j - i ≤ n then (X_Tb G n).1 w i j else X_Ew G (X_Tb G n) w 0 i j, fun k i j => if j - i ≤ n then (X_Tb G n).2 k i j else X_if (X_brk G i j) (X_Kd G (X_Tb G n) k (i + 1) (j - 1))) : X_TT)
    rw [ih]
    refine Prod.ext ?_ ?_
    · funext w i j
      show (if j - i ≤ n then _ else _) = (if j - i ≤ n then _ else _)
      rw [X_Ew_dr]
    · funext k i j
      show (if j - i ≤ n then _ else _) = (if j - i ≤ n then _ else _)
      rw [X_Kd_dr]
      rfl
theorem X_T_dr {G : X_G} : X_T_ (X_Dr G) = X_T_ G := X_Tb_dr 30
theorem X_all_dr {G : X_G} {i j : Int} : X_all (X_Dr G) i j = X_all G i j := by
  unfold X_all
  rw [X_T_dr]
  rfl
theorem X_eh_dr {G : X_G} {w h : Int} : X_eh (X_Dr G) w h = X_eh G w h := rfl
theorem X_Hh_dr {G : X_G} {w h i j : Int} : X_Hh (X_Dr G) w h i j = X_Hh G w h i j := by
  unfold X_Hh
  rw [X_T_dr, X_Hc_dr, X_eh_dr]
  rfl
theorem X_gw_dr {G : X_G} {w : Int} : X_gw (X_Dr G) w ↔ X_gw G w := Iff.rfl
theorem X_Gok_dr {G : X_G} : X_Gok (X_Dr G) ↔ X_Gok G := Iff.rfl
theorem X_Gst_dr {G : X_G} : X_Gst (X_Dr G) ↔ X_Gst G := Iff.rfl
theorem X_Rok_dr {G : X_G} {tn nc : Int} {N : Int → Int → Int} : X_Rok (X_Dr G) tn nc N ↔ X_Rok G tn nc N := Iff.rfl
theorem X_rw_dr {G : X_G} {m i j : Int} {oK oW oA oH : Int → Int64} : X_rw (X_Dr G) m i j oK oW oA oH ↔ X_rw G m i j oK oW oA oH := by
  unfold X_rw
  rw [X_T_dr, X_all_dr]
  refine and_congr Iff.rfl (and_congr Iff.rfl (and_congr Iff.rfl ?_))
  refine forall_congr' fun w => forall_congr' fun _ => forall_congr' fun _ => forall_congr' fun e => forall_congr' fun _ => forall_congr' fun _ => forall_congr' fun _ => ?_
  rw [X_Hw_dr]
  exact Iff.rfl
theorem X_cht_dr {G : X_G} {m tn : Int} {oK oW oA oH : Int → Int64} : X_cht (X_Dr G) m tn oK oW oA oH ↔ X_cht G m tn oK oW oA oH := forall_congr' fun _ => forall_congr' fun _ => forall_congr' fun _ => forall_congr' fun _ => forall_congr' fun _ => X_rw_dr
theorem R_rc_dr {G : X_G} {i j : Int} {oW oK oH : Int → Int64} : R_rc (X_Dr G) i j oW oK oH ↔ R_rc G i j oW oK oH := by
  unfold R_rc
  rw [X_T_dr]
  refine and_congr Iff.rfl (and_congr Iff.rfl ?_)
  refine forall_congr' fun w => forall_congr' fun _ => forall_congr' fun _ => forall_congr' fun h => forall_congr' fun _ => forall_congr' fun _ => ?_
  rw [X_Hh_dr]
theorem R_ct_dr {G : X_G} {tn : Int} {oW oK oH : Int → Int64} : R_ct (X_Dr G) tn oW oK oH ↔ R_ct G tn oW oK oH := forall_congr' fun _ => forall_congr' fun _ => forall_congr' fun _ => forall_congr' fun _ => forall_congr' fun _ => R_rc_dr
/-- a word is bound -/
def X_Gb (G : X_G) (w vl : Int) : X_G := (gk G, gw G, gl G, ga G, X_ug (gD G) w (X_wu (X_wu (gD G w) 6 (fun _ => 1)) 7 (fun _ => vl)), gW G, gt G)
theorem X_Gb_D {G : X_G} {w vl v : Int} {f : Nat} (h : ¬ (f = 6 ∨ f = 7)) : gD (X_Gb G w vl) v f = gD G v f := by
  show X_ug (gD G) w (X_wu (X_wu (gD G w) 6 (fun _ => 1)) 7 (fun _ => vl)) v f = _
  by_cases hv : v = w
  · rw [hv, X_ug_s]
    show (if f = 7 then (fun _ => vl) else if f = 6 then (fun _ => 1) else gD G w f) = gD G w f
    rw [if_neg (fun z => h (Or.inr z)), if_neg (fun z => h (Or.inl z))]
  · rw [X_ug_n _ _ hv]
theorem X_Gb_dr {G : X_G} {w vl : Int} : X_Dr (X_Gb G w vl) = X_Dr G := by
  show ((gk G, gw G, gl G, ga G, fun v f e => if f = 6 ∨ f = 7 then 0 else gD (X_Gb G w vl) v f e, gW G, gt G) : X_G) = _
  have e : (fun v f e => if f = 6 ∨ f = 7 then 0 else gD (X_Gb G w vl) v f e) = (fun v (f : Nat) e => if f = 6 ∨ f = 7 then 0 else gD G v f e) := by
    funext v f x
    by_cases h : f = 6 ∨ f = 7
    · rw [if_pos h, if_pos h]
    · rw [if_neg h, if_neg h, X_Gb_D h]
  rw [e]
  rfl
/-- other tokens -/
def X_Gt (G : X_G) (t : Int → Int64) : X_G := (gk G, gw G, gl G, ga G, gD G, gW G, t)
theorem X_Gt_ok {G : X_G} {t : Int → Int64} : X_Gok (X_Gt G t) ↔ X_Gok G := Iff.rfl
theorem X_Gt_st {G : X_G} {t : Int → Int64} : X_Gst (X_Gt G t) ↔ X_Gst G := Iff.rfl
end
