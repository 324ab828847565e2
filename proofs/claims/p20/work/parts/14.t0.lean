/-! WHAT THE LAW KEEPS -/
/-- a parsed book and the book as it is now (bound words, holes told) -/
def X_KG (rc : Int) (G : X_G) (K : X_Kp) : Prop := K.2.1 = rc ∧ K.2.2.1 = gk G ∧ K.2.2.2.1 = gw G ∧ K.2.2.2.2.2.1 = gl G ∧ K.2.2.2.2.2.2.2.1 = ga G ∧ K.2.2.2.2.2.2.2.2.2 = gW G ∧ ∀ w f, ¬ (f = 6 ∨ f = 7) → f ≠ 10 → f ≠ 11 → gD G w f = K.2.2.2.2.2.2.2.2.1 w f
theorem X_KG.bind {rc : Int} {G : X_G} {K : X_Kp} (h : X_KG rc G K) {w vl : Int} : X_KG rc (X_Gb G w vl) K := ⟨h.1, h.2.1, h.2.2.1, h.2.2.2.1, h.2.2.2.2.1, h.2.2.2.2.2.1, fun v f g1 g2 g3 => (X_Gb_D g1).trans (h.2.2.2.2.2.2 v f g1 g2 g3)⟩
theorem X_KG.text {rc : Int} {G : X_G} {K : X_Kp} (h : X_KG rc G K) {t : Int → Int64} : X_KG rc (X_Gt G t) K := h
def X_Ao (len : Int) (tb : Int → Int) (G : X_G) (tn nc : Int) (N : Int → Int → Int) : Prop := (0 ≤ len ∧ len ≤ 2000) ∧ (∀ k, 0 ≤ k → k < len → -128 ≤ tb k ∧ tb k ≤ 127) ∧ X_Gok G ∧ X_Gst G ∧ (0 ≤ tn ∧ tn ≤ 30) ∧ X_Rok G tn nc N ∧ (0 < nc → N 4 0 = -1)
theorem X_Ao.len {len len' : Int} {tb : Int → Int} {G : X_G} {tn nc : Int} {N : Int → Int → Int} (h : X_Ao len tb G tn nc N) (h1 : 0 ≤ len' ∧ len' ≤ len) : X_Ao len' tb G tn nc N := ⟨by have := h.1; omega, fun k g1 g2 => h.2.1 k g1 (by omega), h.2.2⟩
theorem X_Ao.feed {len : Int} {tb : Int → Int} {G : X_G} {tn nc : Int} {N : Int → Int → Int} (h : X_Ao len tb G tn nc N) (h1 : len + 20 ≤ 2000) {a b c d e : Int} : X_Ao (len + 20) (X_fd5 tb len a b c d e) G tn nc N := by
  refine ⟨by have := h.1; omega, fun k g1 g2 => ?_, h.2.2⟩
  by_cases hk : k < len
  · rw [X_fd5_o hk]; exact h.2.1 k g1 hk
  · have e1 := X_fd5_i (tb := tb) (len := len) (a := a) (b := b) (c := c) (d := d) (e := e) (k := k - len) (by omega)
    rw [show len + (k - len) = k by omega] at e1
    rw [e1]
    exact X_by_r _
theorem X_Ao.bind {len : Int} {tb : Int → Int} {G : X_G} {tn nc : Int} {N : Int → Int → Int} (h : X_Ao len tb G tn nc N) {w vl : Int} : X_Ao len tb (X_Gb G w vl) tn nc N := by
  obtain ⟨h1, h2, h3, h4, h5, h6, h7⟩ := h
  refine ⟨h1, h2, ?_, ?_, h5, ?_, h7⟩
  · have e : X_Gok (X_Dr (X_Gb G w vl)) := by rw [X_Gb_dr]; exact X_Gok_dr.mpr h3
    exact X_Gok_dr.mp e
  · have e : X_Gst (X_Dr (X_Gb G w vl)) := by rw [X_Gb_dr]; exact X_Gst_dr.mpr h4
    exact X_Gst_dr.mp e
  · have e : X_Rok (X_Dr (X_Gb G w vl)) tn nc N := by rw [X_Gb_dr]; exact X_Rok_dr.mpr h6
    exact X_Rok_dr.mp e
theorem X_Ao.text {len : Int} {tb : Int → Int} {G : X_G} {tn nc : Int} {N : Int → Int → Int} (h : X_Ao len tb G tn nc N) {t : Int → Int64} {n1 : Int} (h1 : 0 ≤ n1 ∧ n1 ≤ 30) : X_Ao 0 tb (X_Gt G t) n1 0 N :=
  ⟨by omega, fun k g1 g2 => absurd g2 (by omega), X_Gt_ok.mpr h.2.2.1, X_Gt_st.mpr h.2.2.2.1, h1, X_Rok_0 h1, fun z => absurd z (by omega)⟩
theorem X_Ao.read {len : Int} {tb : Int → Int} {G : X_G} {tn nc nc1 kk : Int} {N N1 : Int → Int → Int} {r1 : Int} {St1 : Int → X_It} (h : X_Ao len tb G tn nc N) (hkr : kk ≤ 9223372036854775807) (hk : X_qRk G tn kk) (hr : X_rd G tn kk.toNat = (r1, St1, nc1, N1)) : X_Ao len tb G tn nc1 N1 := by
  obtain ⟨h1, h2, h3, h4, h5, h6, h7⟩ := h
  have h8 := X_rd_ok (tn := tn) (k := kk.toNat) h3 ⟨hk.2.1, h5.2⟩ (by have := hk.1; have := hk.2.2; omega) (by omega)
  have h9 := X_rd_4 (G := G) (tn := tn) (k := kk.toNat)
  rw [hr] at h8 h9
  exact ⟨h1, h2, h3, h4, h5, h8.2, fun _ => h9⟩
/-- a told book -/
theorem X_bk_ok {tb : Int → Int} {len n : Int} {so pl : Int → Int} {ct : Int → Int64} {rn : Int → Int64} {lo : Int → Int} {kn : Int → Int64} {ab : Int → Int} {D : Int → Nat → Int → Int} {W : Int → Int → Int64} {K : X_Kp} (hT : X_Txt tb len n so pl ct) (h : sp_lines n so ct 2001 (0, 0, 1, 0, rn, lo, X_ug kn 0 (Int64.ofNat 6384748), X_ug ab 0 1, D, W) = some K) : X_Kok K ∧ X_K4 K ∧ X_Kp2 K := by
  obtain ⟨h1, ⟨E, hE⟩, h3, h4⟩ := hT
  refine sp_lines_p2 (fun i a b c => X_Tok_pt (hE.2 i a b).2 c) (X_Tks_part hE) 2001 _ K ⟨Int.le_refl (0 : Int), show (0 : Int) < n by omega⟩ ⟨(show (0 : Int) ≤ 0 ∧ (0 : Int) ≤ 12 by omega), (show (1 : Int) ≤ 1 ∧ (1 : Int) ≤ 11 by omega), (show (0 : Int) ≤ 0 ∧ (0 : Int) ≤ 30 by omega), fun w g1 g2 => absurd (show w < 0 from g2) (by omega)⟩ (fun w g1 g2 => absurd (show w < 0 from g2) (by omega)) ⟨⟨fun k g1 g2 => ?_, fun k u g1 g2 g3 g4 g5 => ?_⟩, fun w g1 g2 => absurd (show w < 0 from g2) (by omega)⟩ h
  · have g2 : k < 1 := g2
    obtain rfl : k = 0 := by omega
    show X_bt (X_ug ab 0 1 0) 0 ∧ X_bt (X_ug ab 0 1 0) 0
    rw [X_ug_s]
    exact ⟨(X_bt_1 0 (by omega)).mpr rfl, (X_bt_1 0 (by omega)).mpr rfl⟩
  · have g2 : k < 1 := g2
    obtain rfl : k = 0 := by omega
    have g5 : X_bt (X_ug ab 0 1 0) u := g5
    rw [X_ug_s, X_bt_1 u ⟨g3, g4⟩] at g5
    show u < 1
    omega
theorem X_Txt.E {tb : Int → Int} {len n : Int} {so pl : Int → Int} {ct : Int → Int64} (hT : X_Txt tb len n so pl ct) (hl : 0 ≤ len ∧ len ≤ 2000) : ∃ E, X_TxE tb len n so pl ct E ∧ ∀ i, 0 ≤ i → i < n → so i = 6 → ¬ ct i = 0 := by
  obtain ⟨h1, ⟨E, hE⟩, h3, h4⟩ := hT
  exact ⟨E, ⟨hl, h1, hE, h3, h4⟩, X_Tks_part hE⟩
theorem X_Ao.book {len : Int} {tb : Int → Int} {G : X_G} {tn nc : Int} {N : Int → Int → Int} (h : X_Ao len tb G tn nc N) {n : Int} {so pl : Int → Int} {ct : Int → Int64} {c1 rc1 kc1 wc1 : Int} {rn1 rn : Int → Int64} {lo1 lo : Int → Int} {kn1 kn : Int → Int64} {ab1 ab : Int → Int} {D1 D3 D : Int → Nat → Int → Int} {W1 W : Int → Int → Int64} (hT : X_Txt tb len n so pl ct) (hs : sp_lines n so ct 2001 (0, 0, 1, 0, rn, lo, X_ug kn 0 (Int64.ofNat 6384748), X_ug ab 0 1, D, W) = some (c1, rc1, kc1, wc1, rn1, lo1, kn1, ab1, D1, W1)) (hD : X_sD D1 D3) (ht : ∀ w, 0 ≤ w → w < wc1 → ∀ e, X_hl (D1 w) (W1 w) e → X_tkn lo1 ab1 kc1 wc1 D1 W1 w e (D3 w 11 (D1 w 8 e)) (D3 w 10 (D1 w 8 e))) :
    X_Ao 0 tb (kc1, wc1, lo1, ab1, D3, W1, gt G) 0 0 N ∧ X_KG rc1 (kc1, wc1, lo1, ab1, D3, W1, gt G) (c1, rc1, kc1, wc1, rn1, lo1, kn1, ab1, D1, W1) ∧ ∀ w, 0 ≤ w → w < wc1 → gD (kc1, wc1, lo1, ab1, D3, W1, gt G) w 6 0 = 0 := by
  obtain ⟨b1, b2, b3⟩ := X_bk_ok hT hs
  have hg := X_Gok_of (tt := gt G) b1 b2 b3 hD ht
  refine ⟨⟨by omega, fun k g1 g2 => absurd g2 (by omega), hg.1, hg.2, by omega, X_Rok_0 (by omega), fun z => absurd z (by omega)⟩, ⟨rfl, rfl, rfl, rfl, rfl, rfl, fun w f g1 g2 g3 => hD w f g2 g3⟩, fun w g1 g2 => ?_⟩
  have h6 := (b1.2.2.2 w g1 g2).2.2.2.2.2.1
  have e : D3 w 6 = D1 w 6 := hD w 6 (by decide) (by decide)
  show D3 w 6 0 = 0
  rw [e]
  exact h6
