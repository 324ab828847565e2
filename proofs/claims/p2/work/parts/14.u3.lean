theorem m_book (sc : X_Sc) (S : X_S) (len : Int) (tb : Int → Int) (rc : Int) (G : X_G) (tn : Int) (nc : Int) (N : Int → Int → Int) (rs : Int) (re : Int) (rc1 : Int) (G1 : X_G) (n : Int) (so : Int → Int) (pl : Int → Int) (ct : Int → Int64) (rn0 : Int → Int64) (lo0 : Int → Int) (kn0 : Int → Int64) (ab0 : Int → Int) (D0 : Int → Nat → Int → Int) (W0 : Int → Int → Int64) (hI : X_IR S len tb rc G tn nc N rs re) (hA : X_Ao len tb G tn nc N) (hTx : X_Txt tb len n so pl ct) (hKs : ∀ K2, sp_lines n so ct 2001 (0, 0, 1, 0, rn0, lo0, X_ug kn0 0 (Int64.ofNat 6384748), X_ug ab0 0 1, D0, W0) = some K2 → X_KG rc1 G1 K2 ∧ ∀ w, 0 ≤ w → w < gw G1 → gD G1 w 6 0 = 0) : X_T sc 162 (0, [(0, .ref 530)], [], S) (fun v S' => (v = some (.int (iI (gw G1))) ∧ (∃ K2, sp_lines n so ct 2001 (0, 0, 1, 0, rn0, lo0, X_ug kn0 0 (Int64.ofNat 6384748), X_ug ab0 0 1, D0, W0) = some K2) ∧ X_IR S' 0 tb rc1 G1 0 0 N 0 (-1) ∧ (X_Fr (fun q => 530 ≤ q ∧ q ≤ 579) S S')) ∨ (v = some (.int (iI (-1))) ∧ sp_lines n so ct 2001 (0, 0, 1, 0, rn0, lo0, X_ug kn0 0 (Int64.ofNat 6384748), X_ug ab0 0 1, D0, W0) = none ∧ X_IR S' 0 tb rc G tn nc N rs re ∧ (X_Fr (fun q => 530 ≤ q ∧ q ≤ 579) S S'))) := by
  obtain ⟨o, nm, b, wk, f69, f70, hbr, hwr, hwk, hc530, hg_t, hg_b, hg_s, hg_c, hg_n, hg_p, hg_v, hg_w⟩ := hI
  obtain ⟨hl, htb, hG, hGs, htn, hR, h40⟩ := hA
  have hh_t := hg_t
  obtain ⟨tp, tx, hc531, hc532, htp0⟩ := hh_t
  have hh_b := hg_b
  obtain ⟨KO, rN, kN, tg, kU, wR, wL, wK, wM, wH, wS, sO, sN, eP, eH, hK, hc533, hc534, hc535, hc536, hc537, hc538, hc539, hc540, hc541, hc542, hc543, hc544, hc545, hc546, hc547, hOk, hO4, hO, hKG⟩ := hh_b
  have hh_v := hg_v
  obtain ⟨bo, va, hc574, hc575, hbo⟩ := hh_v
  obtain ⟨E, hE, hct⟩ := hTx.E hl
  obtain ⟨o2, hM, e1, e4, e28, e29, e30, e31, e32, e33, e38, e49, e68, e69, e70⟩ := X_ob_Mo hc530
  refine T_mono (r_book sc S o2 nm tp tx bo rN kN tg kU wR wL wK wM wH wS sO sN eP eH hK tb len n so pl ct E rn0 lo0 kn0 ab0 D0 W0 KO hM hc531 hc532 hc574 hc533 hc534 hc535 hc536 hc537 hc538 hc539 hc540 hc541 hc542 hc543 hc544 hc545 hc546 hc547 e1 hl (fun k h1 h2 => ⟨htp0 k h1 h2, htb k h1 h2⟩) hE hct (by rw [e4]; exact hbr) hOk hO4 (by rw [e4]; exact hO)) (fun v S' h => ?_)
  rcases h with ⟨at1, en1, tk1, nu1, dg1, nm1, g1, K2, rN1, kN1, tg1, kU1, wR1, wL1, wK1, wM1, wH1, wS1, sO1, sN1, eP1, eH1, hK1, tx1, ib1, hv, hsp, hKk, hK4, hRb, hib, hM1, h533, h534, h535, h536, h537, h538, h539, h540, h541, h542, h543, h544, h545, h546, h547, h532, h574, hF⟩ | ⟨at1, en1, tk1, nu1, dg1, nm1, f1, g1, rN1, kN1, tg1, kU1, wR1, wL1, wK1, wM1, wH1, wS1, sO1, sN1, eP1, eH1, hK1, tx1, hv, hsp, hRb, hM1, h533, h534, h535, h536, h537, h538, h539, h540, h541, h542, h543, h544, h545, h546, h547, h532, hF⟩
  · obtain ⟨hKG1, hz⟩ := hKs K2 hsp
    have hw : K2.2.2.2.1 = gw G1 := hKG1.2.2.1
    have hw30 := hKk.2.2.1
    rw [e4] at hRb
    obtain ⟨tT, nn, tU, nu, s1, s2, s3, s4, -, -⟩ := hg_s.fr hF (fun q h1 h2 => by omega)
    obtain ⟨oW, oK, oH, r1, r2, c1, c2, c3, c4, c5, -⟩ := hg_c.fr hF (fun q h1 h2 => by omega)
    obtain ⟨nW, nF, nL, nP, nH, n1, n2, n3, n4, n5, -⟩ := hg_n.fr hF (fun q h1 h2 => by omega)
    have hob := X_Mo_ob hM1 rfl (show 1 - o2 4 = 1 - b by rw [e4]) hKG1.1 hKG1.2.1 hKG1.2.2.1 hKG1.1 hKG1.2.1 hKG1.2.2.1 rfl rfl rfl e69 e70
    exact Or.inl ⟨by rw [hv, hw], ⟨K2, hsp⟩, ⟨_, nm1, 1 - b, 0, f69, f70, by omega, by omega, Or.inr ⟨rfl, rfl, rfl⟩, hob, ⟨tp, tx1, (hF.1 531 (by omega)).trans hc531, h532, fun k h1 h2 => absurd h2 (by omega)⟩, ⟨K2, rN1, kN1, tg1, kU1, wR1, wL1, wK1, wM1, wH1, wS1, sO1, sN1, eP1, eH1, hK1, h533, h534, h535, h536, h537, h538, h539, h540, h541, h542, h543, h544, h545, h546, h547, hKk, hK4, hRb, hKG1⟩, ⟨tT, nn, tU, nu, s1, s2, s3, s4, fun t h1 h2 => absurd h2 (by omega), fun t h1 h2 => absurd h2 (by omega)⟩, ⟨oW, oK, oH, r1, r2, c1, c2, c3, c4, c5, fun i j h1 h2 h3 => absurd h3 (by omega)⟩, ⟨nW, nF, nL, nP, nH, n1, n2, n3, n4, n5, fun n h1 h2 => absurd h2 (by omega)⟩, hg_p.fr hF (fun q h1 h2 => by omega), ⟨ib1, va, h574, (hF.1 575 (by omega)).trans hc575, fun w h1 h2 => by rw [hz w h1 h2]; exact ⟨⟨hib w h1 (by omega), fun z => absurd z (by omega)⟩, by omega, by omega⟩⟩, hg_w.fr hF (fun q h1 h2 => by omega)⟩, hF.mono (fun q hq => by omega)⟩
  · rw [e4] at hRb
    have hob := X_Mo_ob hM1 rfl e4 e31 e32 e33 e31 e32 e33 e38 e49 e68 e69 e70
    exact Or.inr ⟨hv, hsp, ⟨_, nm1, b, wk, f69, f70, hbr, hwr, hwk, hob, ⟨tp, tx1, (hF.1 531 (by omega)).trans hc531, h532, fun k h1 h2 => absurd h2 (by omega)⟩, ⟨KO, rN1, kN1, tg1, kU1, wR1, wL1, wK1, wM1, wH1, wS1, sO1, sN1, eP1, eH1, hK1, h533, h534, h535, h536, h537, h538, h539, h540, h541, h542, h543, h544, h545, h546, h547, hOk, hO4, hRb, hKG⟩, hg_s.fr hF (fun q h1 h2 => by omega), hg_c.fr hF (fun q h1 h2 => by omega), hg_n.fr hF (fun q h1 h2 => by omega), hg_p.fr hF (fun q h1 h2 => by omega), hg_v.fr hF (fun q h1 h2 => by omega), hg_w.fr hF (fun q h1 h2 => by omega)⟩, hF.mono (fun q hq => by omega)⟩
