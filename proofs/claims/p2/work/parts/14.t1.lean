/-! WHAT THE LAW KEEPS -/
/-- a parsed book and the book as it is now (bound words, holes told) -/
def X_KG (rc : Int) (G : X_G) (K : X_Kp) : Prop := K.2.1 = rc ∧ K.2.2.1 = gk G ∧ K.2.2.2.1 = gw G ∧ K.2.2.2.2.2.1 = gl G ∧ K.2.2.2.2.2.2.2.1 = ga G ∧ K.2.2.2.2.2.2.2.2.2 = gW G ∧ ∀ w f, ¬ (f = 6 ∨ f = 7) → f ≠ 10 → f ≠ 11 → gD G w f = K.2.2.2.2.2.2.2.2.1 w f
theorem X_KG.bind {rc : Int} {G : X_G} {K : X_Kp} (h : X_KG rc G K) {w vl : Int} : X_KG rc (X_Gb G w vl) K := ⟨h.1, h.2.1, h.2.2.1, h.2.2.2.1, h.2.2.2.2.1, h.2.2.2.2.2.1, fun v f g1 g2 g3 => (X_Gb_D g1).trans (h.2.2.2.2.2.2 v f g1 g2 g3)⟩
theorem X_KG.text {rc : Int} {G : X_G} {K : X_Kp} (h : X_KG rc G K) {t : Int → Int64} : X_KG rc (X_Gt G t) K := h
def X_Ao (len : Int) (tb : Int → Int) (G : X_G) (tn nc : Int) (N : Int → Int → Int) : Prop := (0 ≤ len ∧ len ≤ 2000) ∧ (∀ k, 0 ≤ k → k < len → -128 ≤ tb k ∧ tb k ≤ 127) ∧ X_Gok G ∧ X_Gst G ∧ (0 ≤ tn ∧ tn ≤ 30) ∧ X_Rok G tn nc N ∧ (0 < nc → N 4 0 = -1)
theorem X_Ao.len {len len' : Int} {tb : Int → Int} {G : X_G} {tn nc : Int} {N : Int → Int → Int} (h : X_Ao len tb G tn nc N) (h1 : 0 ≤ len' ∧ len' ≤ len) : X_Ao len' tb G tn nc N := ⟨by have := h.1; omega, fun k g1 g2 => h.2.1 k g1 (by omega), h.2.2⟩
theorem X_Ao.feed {len : Int} {tb : Int → Int} {G : X_G} {tn nc : Int} {N : Int → Int → Int} (h : X_Ao len tb G tn nc N) (h1 : len + 20 ≤ 2000) {a b c d e : Int} : X_Ao (len + 20) (X_fd5 tb len a b c d e) G tn nc N := by
  refine ⟨by have := h.1; omega, fun k g1 g2 => ?_, h.2.2⟩
  by_cases hk : k < len
  · rw [X_fd5_o hk]; exact h.2.1 k g1 hk
  · have e1 := X_fd5_i (tb := tb) (len := len) (a := a) (b := b) (c := c) (d := d) (e := e) (k := k - len) (by omega)
    rw [show len + (k - len) = k by omega] at e1
    rw [e1]
    exact X_by_r _
theorem X_Ao.bind {len : Int} {tb : Int → Int} {G : X_G} {tn nc : Int} {N : Int → Int → Int} (h : X_Ao len tb G tn nc N) {w vl : Int} : X_Ao len tb (X_Gb G w vl) tn nc N := by
  obtain ⟨h1, h2, h3, h4, h5, h6, h7⟩ := h
  refine ⟨h1, h2, ?_, ?_, h5, ?_, h7⟩
  · have e : X_Gok (X_Dr (X_Gb G w vl)) := by rw [X_Gb_dr]; exact X_Gok_dr.mpr h3
    exact X_Gok_dr.mp e
  · have e : X_Gst (X_Dr (X_Gb G w vl)) := by rw [X_Gb_dr]; exact X_Gst_dr.mpr h4
    exact X_Gst_dr.mp e
  · have e : X_Rok (X_Dr (X_Gb G w vl)) tn nc N := by rw [X_Gb_dr]; exact X_Rok_dr.mpr h6
    exact X_Rok_dr.mp e
theorem X_Ao.text {len : Int} {tb : Int → Int} {G : X_G} {tn nc : Int} {N : Int → Int → Int} (h : X_Ao len tb G tn nc N) {t : Int → Int64} {n1 : Int} (h1 : 0 ≤ n1 ∧ n1 ≤ 30) : X_Ao 0 tb (X_Gt G t) n1 0 N :=
  ⟨by omega, fun k g1 g2 => absurd g2 (by omega), X_Gt_ok.mpr h.2.2.1, X_Gt_st.mpr h.2.2.2.1, h1, X_Rok_0 h1, fun z => absurd z (by omega)⟩
theorem X_Ao.read {len : Int} {tb : Int → Int} {G : X_G} {tn nc nc1 kk : Int} {N N1 : Int → Int → Int} {r1 : Int} {St1 : Int → X_It} (h : X_Ao len tb G tn nc N) (hkr : kk ≤ 9223372036854775807) (hk : X_qRk G tn kk) (hr : X_rd G tn kk.toNat = (r1, St1, nc1, N1)) : X_Ao len tb G tn nc1 N1 := by
  obtain ⟨h1, h2, h3, h4, h5, h6, h7⟩ := h
  have h8 := X_rd_ok (tn := tn) (k := kk.toNat) h3 ⟨hk.2.1, h5.2⟩ (by have := hk.1; have := hk.2.2; omega) (by omega)
  have h9 := X_rd_4 (G := G) (tn := tn) (k := kk.toNat)
  rw [hr] at h8 h9
  exact ⟨h1, h2, h3, h4, h5, h8.2, fun _ => h9⟩
/-- a told book -/
theorem X_bk_ok {tb : Int → Int} {len n : Int} {so pl : Int → Int} {ct : Int → Int64} {rn : Int → Int64} {lo : Int → Int} {kn : Int → Int64} {ab : Int → Int} {D : Int → Nat → Int → Int} {W : Int → Int → Int64} {K : X_Kp} (hT : X_Txt tb len n so pl ct) (h : sp_lines n so ct 2001 (0, 0, 1, 0, rn, lo, X_ug kn 0 (Int64.ofNat 6384748), X_ug ab 0 1, D, W) = some K) : X_Kok K ∧ X_K4 K ∧ X_Kp2 K := by
  obtain ⟨h1, ⟨E, hE⟩, h3, h4⟩ := hT
  refine sp_lines_p2 (fun i a b c => X_Tok_pt (hE.2 i a b).2 c) (X_Tks_part hE) 2001 _ K ⟨Int.le_refl (0 : Int), show (0 : Int) < n by omega⟩ ⟨(show (0 : Int) ≤ 0 ∧ (0 : Int) ≤ 12 by omega), (show (1 : Int) ≤ 1 ∧ (1 : Int) ≤ 11 by omega), (show (0 : Int) ≤ 0 ∧ (0 : Int) ≤ 30 by omega), fun w g1 g2 => absurd (show w < 0 from g2) (by omega)⟩ (fun w g1 g2 => absurd (show w < 0 from g2) (by omega)) ⟨⟨fun k g1 g2 => ?_, fun k u g1 g2 g3 g4 g5 => ?_⟩, fun w g1 g2 => absurd (show w < 0 from g2) (by omega)⟩ h
  · have g2 : k < 1 := g2
    obtain rfl : k = 0 := by omega
    show X_bt (X_ug ab 0 1 0) 0 ∧ X_bt (X_ug ab 0 1 0) 0
    rw [X_ug_s]
    exact ⟨(X_bt_1 0 (by omega)).mpr rfl, (X_bt_1 0 (by omega)).mpr rfl⟩
  · have g2 : k < 1 := g2
    obtain rfl : k = 0 := by omega
    have g5 : X_bt (X_ug ab 0 1 0) u := g5
    rw [X_ug_s, X_bt_1 u ⟨g3, g4⟩] at g5
    show u < 1
    omega
theorem X_Txt.E {tb : Int → Int} {len n : Int} {so pl : Int → Int} {ct : Int → Int64} (hT : X_Txt tb len n so pl ct) (hl : 0 ≤ len ∧ len ≤ 2000) : ∃ E, X_TxE tb len n so pl ct E ∧ ∀ i, 0 ≤ i → i < n → so i = 6 → ¬ ct i = 0 := by
  obtain ⟨h1, ⟨E, hE⟩, h3, h4⟩ := hT
  exact ⟨E, ⟨hl, h1, hE, h3, h4⟩, X_Tks_part hE⟩
theorem X_Ao.book {len : Int} {tb : Int → Int} {G : X_G} {tn nc : Int} {N : Int → Int → Int} (h : X_Ao len tb G tn nc N) {n : Int} {so pl : Int → Int} {ct : Int → Int64} {c1 rc1 kc1 wc1 : Int} {rn1 rn : Int → Int64} {lo1 lo : Int → Int} {kn1 kn : Int → Int64} {ab1 ab : Int → Int} {D1 D3 D : Int → Nat → Int → Int} {W1 W : Int → Int → Int64} (hT : X_Txt tb len n so pl ct) (hs : sp_lines n so ct 2001 (0, 0, 1, 0, rn, lo, X_ug kn 0 (Int64.ofNat 6384748), X_ug ab 0 1, D, W) = some (c1, rc1, kc1, wc1, rn1, lo1, kn1, ab1, D1, W1)) (hD : X_sD D1 D3) (ht : ∀ w, 0 ≤ w → w < wc1 → ∀ e, X_hl (D1 w) (W1 w) e → X_tkn lo1 ab1 kc1 wc1 D1 W1 w e (D3 w 11 (D1 w 8 e)) (D3 w 10 (D1 w 8 e))) :
    X_Ao 0 tb (kc1, wc1, lo1, ab1, D3, W1, gt G) 0 0 N ∧ X_KG rc1 (kc1, wc1, lo1, ab1, D3, W1, gt G) (c1, rc1, kc1, wc1, rn1, lo1, kn1, ab1, D1, W1) ∧ ∀ w, 0 ≤ w → w < wc1 → gD (kc1, wc1, lo1, ab1, D3, W1, gt G) w 6 0 = 0 := by
  obtain ⟨b1, b2, b3⟩ := X_bk_ok hT hs
  have hg := X_Gok_of (tt := gt G) b1 b2 b3 hD ht
  refine ⟨⟨by omega, fun k g1 g2 => absurd g2 (by omega), hg.1, hg.2, by omega, X_Rok_0 (by omega), fun z => absurd z (by omega)⟩, ⟨rfl, rfl, rfl, rfl, rfl, rfl, fun w f g1 g2 g3 => hD w f g2 g3⟩, fun w g1 g2 => ?_⟩
  have h6 := (b1.2.2.2 w g1 g2).2.2.2.2.2.1
  have e : D3 w 6 = D1 w 6 := hD w 6 (by decide) (by decide)
  show D3 w 6 0 = 0
  rw [e]
  exact h6
theorem R_bk.hyps {b rc : Int} {G : X_G} {K : X_Kp} {rN : Int → Int64} {kN : Int → Int64} {tg : Int → Int} {kU : Int → Int} {wR : Int → Int} {wL : Int → Int} {wK : Int → Int} {wM : Int → Int} {wH : Int → Int} {wS : Int → Int} {sO : Int → Int} {sN : Int → Int} {eP : Int → Int64} {eH : Int → Int} {hK : Int → Int} (h : R_bk b K rN kN tg kU wR wL wK wM wH wS sO sN eP eH hK) (hKk : X_Kok K) (hg : X_KG rc G K) : (0 ≤ rc ∧ rc ≤ 12) ∧ ((∀ u, 0 ≤ u → u < 32 → (X_bt (ga G 0) u ↔ u = 0)) ∧ kU (11 * b) = -1 ∧ ∀ k, 1 ≤ k → k < gk G → (0 ≤ kU (11 * b + k) ∧ kU (11 * b + k) < k) ∧ ∀ u, 0 ≤ u → u < 32 → (X_bt (ga G k) u ↔ u = k ∨ X_bt (ga G (kU (11 * b + k))) u)) ∧ ((∀ i j, 0 ≤ i → i < rc → 0 ≤ j → j < rc → tg (144 * b + 12 * i + j) = bI (X_bt (gl G i) j)) ∧ ∀ w, 0 ≤ w → w < gw G → gD G w 0 0 < rc) ∧ (∀ w, 0 ≤ w → w < gw G → wR (30 * b + w) = gD G w 0 0) ∧ (∀ w, 0 ≤ w → w < gw G → wL (30 * b + w) = gD G w 1 0) ∧ (∀ w, 0 ≤ w → w < gw G → wK (30 * b + w) = gD G w 2 0) ∧ (∀ w, 0 ≤ w → w < gw G → wM (30 * b + w) = gD G w 3 0) ∧ (∀ w, 0 ≤ w → w < gw G → wH (30 * b + w) = gD G w 4 0) ∧ (∀ w, 0 ≤ w → w < gw G → wS (30 * b + w) = gD G w 5 0) ∧ (∀ w, 0 ≤ w → w < gw G → ∀ e, 0 ≤ e → e < gD G w 3 0 → eP (8 * (30 * b + w) + e) = gW G w e) ∧ (∀ w, 0 ≤ w → w < gw G → ∀ e, 0 ≤ e → e < gD G w 3 0 → gW G w e = 0 → eH (8 * (30 * b + w) + e) = gD G w 8 e) ∧ (∀ w, 0 ≤ w → w < gw G → ∀ h, 0 ≤ h → h < gD G w 4 0 → hK (4 * (30 * b + w) + h) = gD G w 9 h) ∧ (∀ w, 0 ≤ w → w < gw G → ∀ k, 0 ≤ k → k < gD G w 5 0 → sO (30 * (30 * b + w) + k) = X_op (gD G w 12 k) ∧ (gD G w 12 k = 4 → sN (30 * (30 * b + w) + k) = gD G w 13 k) ∧ (gD G w 12 k = 64 → sN (30 * (30 * b + w) + k) = gD G w 13 k - 1)) := by
  obtain ⟨c, rc', kc, wc, rn, lo, kn, ab, D, W⟩ := K
  obtain ⟨e1, e2, e3, e4, e5, e6, e7⟩ := hg
  obtain ⟨k1, -, -, k4⟩ := hKk
  obtain ⟨⟨-, a2, -⟩, ⟨-, c2, c3, c4⟩, h3⟩ := h
  simp only at e1 e2 e3 e4 e5 e6 e7 k1 k4 a2 c2 c3 c4 h3
  subst e1; subst e2; subst e3; subst e4; subst e5; subst e6
  refine ⟨k1, ⟨c2, c3, c4⟩, ⟨a2, fun w h1 h2 => by rw [(e7 w 0 (by decide) (by decide) (by decide))]; exact (k4 w h1 h2).2.2.1.2⟩, fun w h1 h2 => by rw [(e7 w 0 (by decide) (by decide) (by decide))]; exact (h3 w h1 h2).1, fun w h1 h2 => by rw [(e7 w 1 (by decide) (by decide) (by decide))]; exact (h3 w h1 h2).2.1, fun w h1 h2 => by rw [(e7 w 2 (by decide) (by decide) (by decide))]; exact (h3 w h1 h2).2.2.1, fun w h1 h2 => by rw [(e7 w 3 (by decide) (by decide) (by decide))]; exact (h3 w h1 h2).2.2.2.1.1, fun w h1 h2 => by rw [(e7 w 4 (by decide) (by decide) (by decide))]; exact (h3 w h1 h2).2.2.2.1.2.1, fun w h1 h2 => by rw [(e7 w 5 (by decide) (by decide) (by decide))]; exact (h3 w h1 h2).2.2.2.2.1, ?_, ?_, ?_, ?_⟩
  · intro w h1 h2 e g1 g2
    rw [(e7 w 3 (by decide) (by decide) (by decide))] at g2
    exact ((h3 w h1 h2).2.2.2.1.2.2.1 e g1 g2).1
  · intro w h1 h2 e g1 g2 g3
    rw [(e7 w 3 (by decide) (by decide) (by decide))] at g2
    rw [(e7 w 8 (by decide) (by decide) (by decide))]
    exact ((h3 w h1 h2).2.2.2.1.2.2.1 e g1 g2).2 g3
  · intro w h1 h2 x g1 g2
    rw [(e7 w 4 (by decide) (by decide) (by decide))] at g2
    rw [(e7 w 9 (by decide) (by decide) (by decide))]
    exact (h3 w h1 h2).2.2.2.1.2.2.2 x g1 g2
  · intro w h1 h2 k g1 g2
    rw [(e7 w 5 (by decide) (by decide) (by decide))] at g2
    rw [(e7 w 12 (by decide) (by decide) (by decide)), (e7 w 13 (by decide) (by decide) (by decide))]
    exact (h3 w h1 h2).2.2.2.2.2 k g1 g2
theorem X_Mo_ob {S : X_S} {o : Nat → Int} {nm : Int64} {len b x28 x29 x30 x31 x32 x33 tn nc wk f69 f70 : Int} (h : M_o S o nm) (h1 : o 1 = len) (h4 : o 4 = b) (h28 : o 28 = x28) (h29 : o 29 = x29) (h30 : o 30 = x30) (h31 : o 31 = x31) (h32 : o 32 = x32) (h33 : o 33 = x33) (h38 : o 38 = tn) (h49 : o 49 = nc) (h68 : o 68 = wk) (h69 : o 69 = f69) (h70 : o 70 = f70) : S.1 530 = .inr (11, [.ref 531, .int (iI len), .ref 532, .int (iI (o 3)), .int (iI b), .int (iI (o 5)), .int (iI (o 6)), .int (iI (o 7)), .int (iI (o 8)), .int (iI (o 9)), .int (iI (o 10)), .int (iI (o 11)), .long nm, .ref 533, .ref 534, .ref 535, .ref 536, .ref 537, .ref 538, .ref 539, .ref 540, .ref 541, .ref 542, .ref 543, .ref 544, .ref 545, .ref 546, .ref 547, .int (iI x28), .int (iI x29), .int (iI x30), .int (iI x31), .int (iI x32), .int (iI x33), .ref 548, .ref 549, .ref 550, .ref 551, .int (iI tn), .ref 552, .ref 553, .ref 554, .ref 555, .ref 556, .ref 557, .ref 558, .ref 559, .ref 560, .ref 561, .int (iI nc), .ref 562, .ref 563, .ref 564, .ref 565, .ref 566, .ref 567, .ref 568, .ref 569, .int (iI (o 58)), .ref 570, .ref 571, .ref 572, .ref 573, .ref 574, .ref 575, .ref 576, .ref 577, .ref 578, .int (iI wk), .int (iI f69), .int (iI f70), .ref 579]) := by
  subst h1; subst h4; subst h28; subst h29; subst h30; subst h31; subst h32; subst h33; subst h38; subst h49; subst h68; subst h69; subst h70
  exact h
theorem X_ob_Mo {S : X_S} {o : Nat → Int} {nm : Int64} {len b x28 x29 x30 x31 x32 x33 tn nc wk f69 f70 : Int} (h : S.1 530 = .inr (11, [.ref 531, .int (iI len), .ref 532, .int (iI (o 3)), .int (iI b), .int (iI (o 5)), .int (iI (o 6)), .int (iI (o 7)), .int (iI (o 8)), .int (iI (o 9)), .int (iI (o 10)), .int (iI (o 11)), .long nm, .ref 533, .ref 534, .ref 535, .ref 536, .ref 537, .ref 538, .ref 539, .ref 540, .ref 541, .ref 542, .ref 543, .ref 544, .ref 545, .ref 546, .ref 547, .int (iI x28), .int (iI x29), .int (iI x30), .int (iI x31), .int (iI x32), .int (iI x33), .ref 548, .ref 549, .ref 550, .ref 551, .int (iI tn), .ref 552, .ref 553, .ref 554, .ref 555, .ref 556, .ref 557, .ref 558, .ref 559, .ref 560, .ref 561, .int (iI nc), .ref 562, .ref 563, .ref 564, .ref 565, .ref 566, .ref 567, .ref 568, .ref 569, .int (iI (o 58)), .ref 570, .ref 571, .ref 572, .ref 573, .ref 574, .ref 575, .ref 576, .ref 577, .ref 578, .int (iI wk), .int (iI f69), .int (iI f70), .ref 579])) : ∃ o2 : Nat → Int, M_o S o2 nm ∧ o2 1 = len ∧ o2 4 = b ∧ o2 28 = x28 ∧ o2 29 = x29 ∧ o2 30 = x30 ∧ o2 31 = x31 ∧ o2 32 = x32 ∧ o2 33 = x33 ∧ o2 38 = tn ∧ o2 49 = nc ∧ o2 68 = wk ∧ o2 69 = f69 ∧ o2 70 = f70 := by
  refine ⟨fun k => if k = 1 then len else if k = 4 then b else if k = 28 then x28 else if k = 29 then x29 else if k = 30 then x30 else if k = 31 then x31 else if k = 32 then x32 else if k = 33 then x33 else if k = 38 then tn else if k = 49 then nc else if k = 68 then wk else if k = 69 then f69 else if k = 70 then f70 else o k, ?_, rfl, rfl, rfl, rfl, rfl, rfl, rfl, rfl, rfl, rfl, rfl, rfl, rfl⟩
  unfold M_o
  simp only [Nat.reduceEqDiff, reduceIte]
  exact h
