def X_IRt (S : X_S) (len : Int) (tb : Int → Int) : Prop := ∃ (tp : Int → Int) (tx : Int → Int), S.1 531 = .inl (.byte, 2020, .inl fun k : Nat => iI (tp (k : Int))) ∧ S.1 532 = .inl (.byte, 2000, .inl fun k : Nat => iI (tx (k : Int))) ∧ (∀ k, 0 ≤ k → k < len → tp k = tb k)
theorem X_IRt.fr {S S' : X_S} {len : Int} {tb : Int → Int} {P : Nat → Prop} (h : X_IRt S len tb) (hf : X_Fr P S S') (hp : ∀ q, 531 ≤ q → q ≤ 532 → ¬ P q) : X_IRt S' len tb := by
  obtain ⟨tp, tx, hc531, hc532, htp0⟩ := h
  exact ⟨tp, tx, (hf.1 531 (hp 531 (by omega) (by omega))).trans hc531, (hf.1 532 (hp 532 (by omega) (by omega))).trans hc532, htp0⟩
def X_IRb (S : X_S) (b : Int) (rc : Int) (G : X_G) : Prop := ∃ (KO : X_Kp) (rN : Int → Int64) (kN : Int → Int64) (tg : Int → Int) (kU : Int → Int) (wR : Int → Int) (wL : Int → Int) (wK : Int → Int) (wM : Int → Int) (wH : Int → Int) (wS : Int → Int) (sO : Int → Int) (sN : Int → Int) (eP : Int → Int64) (eH : Int → Int) (hK : Int → Int), S.1 533 = .inl (.long, 24, .inr (.inl fun k : Nat => rN (k : Int))) ∧ S.1 534 = .inl (.long, 22, .inr (.inl fun k : Nat => kN (k : Int))) ∧ S.1 535 = .inl (.boolean, 288, .inl fun k : Nat => iI (tg (k : Int))) ∧ S.1 536 = .inl (.int, 22, .inl fun k : Nat => iI (kU (k : Int))) ∧ S.1 537 = .inl (.int, 60, .inl fun k : Nat => iI (wR (k : Int))) ∧ S.1 538 = .inl (.int, 60, .inl fun k : Nat => iI (wL (k : Int))) ∧ S.1 539 = .inl (.int, 60, .inl fun k : Nat => iI (wK (k : Int))) ∧ S.1 540 = .inl (.int, 60, .inl fun k : Nat => iI (wM (k : Int))) ∧ S.1 541 = .inl (.int, 60, .inl fun k : Nat => iI (wH (k : Int))) ∧ S.1 542 = .inl (.int, 60, .inl fun k : Nat => iI (wS (k : Int))) ∧ S.1 543 = .inl (.int, 1800, .inl fun k : Nat => iI (sO (k : Int))) ∧ S.1 544 = .inl (.int, 1800, .inl fun k : Nat => iI (sN (k : Int))) ∧ S.1 545 = .inl (.long, 480, .inr (.inl fun k : Nat => eP (k : Int))) ∧ S.1 546 = .inl (.int, 480, .inl fun k : Nat => iI (eH (k : Int))) ∧ S.1 547 = .inl (.int, 240, .inl fun k : Nat => iI (hK (k : Int))) ∧ X_Kok KO ∧ X_K4 KO ∧ R_bk b KO rN kN tg kU wR wL wK wM wH wS sO sN eP eH hK ∧ X_KG rc G KO
theorem X_IRb.fr {S S' : X_S} {b : Int} {rc : Int} {G : X_G} {P : Nat → Prop} (h : X_IRb S b rc G) (hf : X_Fr P S S') (hp : ∀ q, 533 ≤ q → q ≤ 547 → ¬ P q) : X_IRb S' b rc G := by
  obtain ⟨KO, rN, kN, tg, kU, wR, wL, wK, wM, wH, wS, sO, sN, eP, eH, hK, hc533, hc534, hc535, hc536, hc537, hc538, hc539, hc540, hc541, hc542, hc543, hc544, hc545, hc546, hc547, hOk, hO4, hO, hKG⟩ := h
  exact ⟨KO, rN, kN, tg, kU, wR, wL, wK, wM, wH, wS, sO, sN, eP, eH, hK, (hf.1 533 (hp 533 (by omega) (by omega))).trans hc533, (hf.1 534 (hp 534 (by omega) (by omega))).trans hc534, (hf.1 535 (hp 535 (by omega) (by omega))).trans hc535, (hf.1 536 (hp 536 (by omega) (by omega))).trans hc536, (hf.1 537 (hp 537 (by omega) (by omega))).trans hc537, (hf.1 538 (hp 538 (by omega) (by omega))).trans hc538, (hf.1 539 (hp 539 (by omega) (by omega))).trans hc539, (hf.1 540 (hp 540 (by omega) (by omega))).trans hc540, (hf.1 541 (hp 541 (by omega) (by omega))).trans hc541, (hf.1 542 (hp 542 (by omega) (by omega))).trans hc542, (hf.1 543 (hp 543 (by omega) (by omega))).trans hc543, (hf.1 544 (hp 544 (by omega) (by omega))).trans hc544, (hf.1 545 (hp 545 (by omega) (by omega))).trans hc545, (hf.1 546 (hp 546 (by omega) (by omega))).trans hc546, (hf.1 547 (hp 547 (by omega) (by omega))).trans hc547, hOk, hO4, hO, hKG⟩
def X_IRs (S : X_S) (G : X_G) (tn : Int) : Prop := ∃ (tT : Int → Int64) (nn : Int → Int64) (tU : Int → Int) (nu : Int → Int), S.1 548 = .inl (.long, 30, .inr (.inl fun k : Nat => tT (k : Int))) ∧ S.1 549 = .inl (.long, 30, .inr (.inl fun k : Nat => nn (k : Int))) ∧ S.1 550 = .inl (.int, 30, .inl fun k : Nat => iI (tU (k : Int))) ∧ S.1 551 = .inl (.int, 30, .inl fun k : Nat => iI (nu (k : Int))) ∧ (∀ t, 0 ≤ t → t < tn → tT t = gt G t) ∧ (∀ t, 0 ≤ t → t < tn → tU t = X_nv (gt G t))
theorem X_IRs.fr {S S' : X_S} {G : X_G} {tn : Int} {P : Nat → Prop} (h : X_IRs S G tn) (hf : X_Fr P S S') (hp : ∀ q, 548 ≤ q → q ≤ 551 → ¬ P q) : X_IRs S' G tn := by
  obtain ⟨tT, nn, tU, nu, hc548, hc549, hc550, hc551, hTT, hTU⟩ := h
  exact ⟨tT, nn, tU, nu, (hf.1 548 (hp 548 (by omega) (by omega))).trans hc548, (hf.1 549 (hp 549 (by omega) (by omega))).trans hc549, (hf.1 550 (hp 550 (by omega) (by omega))).trans hc550, (hf.1 551 (hp 551 (by omega) (by omega))).trans hc551, hTT, hTU⟩
def X_IRc (S : X_S) (G : X_G) (tn : Int) : Prop := ∃ (oW : Int → Int64) (oK : Int → Int64) (oH : Int → Int64) (r1 : Int → Int64) (r2 : Int → Int64), S.1 552 = .inl (.long, 28830, .inr (.inl fun k : Nat => oW (k : Int))) ∧ S.1 553 = .inl (.long, 10571, .inr (.inl fun k : Nat => oK (k : Int))) ∧ S.1 554 = .inl (.long, 115320, .inr (.inl fun k : Nat => oH (k : Int))) ∧ S.1 555 = .inl (.long, 32, .inr (.inl fun k : Nat => r1 (k : Int))) ∧ S.1 556 = .inl (.long, 32, .inr (.inl fun k : Nat => r2 (k : Int))) ∧ R_ct G tn oW oK oH
theorem X_IRc.fr {S S' : X_S} {G : X_G} {tn : Int} {P : Nat → Prop} (h : X_IRc S G tn) (hf : X_Fr P S S') (hp : ∀ q, 552 ≤ q → q ≤ 556 → ¬ P q) : X_IRc S' G tn := by
  obtain ⟨oW, oK, oH, r1, r2, hc552, hc553, hc554, hc555, hc556, hCt⟩ := h
  exact ⟨oW, oK, oH, r1, r2, (hf.1 552 (hp 552 (by omega) (by omega))).trans hc552, (hf.1 553 (hp 553 (by omega) (by omega))).trans hc553, (hf.1 554 (hp 554 (by omega) (by omega))).trans hc554, (hf.1 555 (hp 555 (by omega) (by omega))).trans hc555, (hf.1 556 (hp 556 (by omega) (by omega))).trans hc556, hCt⟩
def X_IRn (S : X_S) (nc : Int) (N : Int → Int → Int) : Prop := ∃ (nW : Int → Int) (nF : Int → Int) (nL : Int → Int) (nP : Int → Int) (nH : Int → Int), S.1 557 = .inl (.int, 40, .inl fun k : Nat => iI (nW (k : Int))) ∧ S.1 558 = .inl (.int, 40, .inl fun k : Nat => iI (nF (k : Int))) ∧ S.1 559 = .inl (.int, 40, .inl fun k : Nat => iI (nL (k : Int))) ∧ S.1 560 = .inl (.int, 40, .inl fun k : Nat => iI (nP (k : Int))) ∧ S.1 561 = .inl (.int, 40, .inl fun k : Nat => iI (nH (k : Int))) ∧ R_nd nc N nW nF nL nP nH
theorem X_IRn.fr {S S' : X_S} {nc : Int} {N : Int → Int → Int} {P : Nat → Prop} (h : X_IRn S nc N) (hf : X_Fr P S S') (hp : ∀ q, 557 ≤ q → q ≤ 561 → ¬ P q) : X_IRn S' nc N := by
  obtain ⟨nW, nF, nL, nP, nH, hc557, hc558, hc559, hc560, hc561, hnd⟩ := h
  exact ⟨nW, nF, nL, nP, nH, (hf.1 557 (hp 557 (by omega) (by omega))).trans hc557, (hf.1 558 (hp 558 (by omega) (by omega))).trans hc558, (hf.1 559 (hp 559 (by omega) (by omega))).trans hc559, (hf.1 560 (hp 560 (by omega) (by omega))).trans hc560, (hf.1 561 (hp 561 (by omega) (by omega))).trans hc561, hnd⟩
def X_IRp (S : X_S)  : Prop := ∃ (pF : Int → Int) (pT : Int → Int) (pS : Int → Int) (pH : Int → Int) (pW : Int → Int) (pP : Int → Int) (pQ : Int → Int) (pN : Int → Int64) (cF : Int → Int) (cT : Int → Int) (cN : Int → Int64) (rr : Int → Int64), S.1 562 = .inl (.int, 160, .inl fun k : Nat => iI (pF (k : Int))) ∧ S.1 563 = .inl (.int, 160, .inl fun k : Nat => iI (pT (k : Int))) ∧ S.1 564 = .inl (.int, 160, .inl fun k : Nat => iI (pS (k : Int))) ∧ S.1 565 = .inl (.int, 160, .inl fun k : Nat => iI (pH (k : Int))) ∧ S.1 566 = .inl (.int, 160, .inl fun k : Nat => iI (pW (k : Int))) ∧ S.1 567 = .inl (.int, 160, .inl fun k : Nat => iI (pP (k : Int))) ∧ S.1 568 = .inl (.int, 160, .inl fun k : Nat => iI (pQ (k : Int))) ∧ S.1 569 = .inl (.long, 160, .inr (.inl fun k : Nat => pN (k : Int))) ∧ S.1 570 = .inl (.int, 4, .inl fun k : Nat => iI (cF (k : Int))) ∧ S.1 571 = .inl (.int, 4, .inl fun k : Nat => iI (cT (k : Int))) ∧ S.1 572 = .inl (.long, 4, .inr (.inl fun k : Nat => cN (k : Int))) ∧ S.1 573 = .inl (.long, 288, .inr (.inl fun k : Nat => rr (k : Int)))
theorem X_IRp.fr {S S' : X_S}  {P : Nat → Prop} (h : X_IRp S ) (hf : X_Fr P S S') (hp : ∀ q, 562 ≤ q → q ≤ 573 → ¬ P q) : X_IRp S'  := by
  obtain ⟨pF, pT, pS, pH, pW, pP, pQ, pN, cF, cT, cN, rr, hc562, hc563, hc564, hc565, hc566, hc567, hc568, hc569, hc570, hc571, hc572, hc573⟩ := h
  exact ⟨pF, pT, pS, pH, pW, pP, pQ, pN, cF, cT, cN, rr, (hf.1 562 (hp 562 (by omega) (by omega))).trans hc562, (hf.1 563 (hp 563 (by omega) (by omega))).trans hc563, (hf.1 564 (hp 564 (by omega) (by omega))).trans hc564, (hf.1 565 (hp 565 (by omega) (by omega))).trans hc565, (hf.1 566 (hp 566 (by omega) (by omega))).trans hc566, (hf.1 567 (hp 567 (by omega) (by omega))).trans hc567, (hf.1 568 (hp 568 (by omega) (by omega))).trans hc568, (hf.1 569 (hp 569 (by omega) (by omega))).trans hc569, (hf.1 570 (hp 570 (by omega) (by omega))).trans hc570, (hf.1 571 (hp 571 (by omega) (by omega))).trans hc571, (hf.1 572 (hp 572 (by omega) (by omega))).trans hc572, (hf.1 573 (hp 573 (by omega) (by omega))).trans hc573⟩
def X_IRv (S : X_S) (G : X_G) : Prop := ∃ (bo : Int → Int) (va : Int → Int), S.1 574 = .inl (.boolean, 30, .inl fun k : Nat => iI (bo (k : Int))) ∧ S.1 575 = .inl (.int, 30, .inl fun k : Nat => iI (va (k : Int))) ∧ (∀ w, 0 ≤ w → w < gw G → (bo w = gD G w 6 0 ∧ (gD G w 6 0 = 1 → va w = gD G w 7 0)) ∧ 0 ≤ gD G w 6 0 ∧ gD G w 6 0 ≤ 1)
theorem X_IRv.fr {S S' : X_S} {G : X_G} {P : Nat → Prop} (h : X_IRv S G) (hf : X_Fr P S S') (hp : ∀ q, 574 ≤ q → q ≤ 575 → ¬ P q) : X_IRv S' G := by
  obtain ⟨bo, va, hc574, hc575, hbo⟩ := h
  exact ⟨bo, va, (hf.1 574 (hp 574 (by omega) (by omega))).trans hc574, (hf.1 575 (hp 575 (by omega) (by omega))).trans hc575, hbo⟩
def X_IRw (S : X_S)  : Prop := ∃ (vs : Int → Int) (pl : Int → Int) (hv : Int → Int) (dn : Int → Int), S.1 576 = .inl (.int, 40, .inl fun k : Nat => iI (vs (k : Int))) ∧ S.1 577 = .inl (.int, 18, .inl fun k : Nat => iI (pl (k : Int))) ∧ S.1 578 = .inl (.int, 4, .inl fun k : Nat => iI (hv (k : Int))) ∧ S.1 579 = .inl (.boolean, 40, .inl fun k : Nat => iI (dn (k : Int)))
theorem X_IRw.fr {S S' : X_S}  {P : Nat → Prop} (h : X_IRw S ) (hf : X_Fr P S S') (hp : ∀ q, 576 ≤ q → q ≤ 579 → ¬ P q) : X_IRw S'  := by
  obtain ⟨vs, pl, hv, dn, hc576, hc577, hc578, hc579⟩ := h
  exact ⟨vs, pl, hv, dn, (hf.1 576 (hp 576 (by omega) (by omega))).trans hc576, (hf.1 577 (hp 577 (by omega) (by omega))).trans hc577, (hf.1 578 (hp 578 (by omega) (by omega))).trans hc578, (hf.1 579 (hp 579 (by omega) (by omega))).trans hc579⟩
def X_IR (S : X_S) (len : Int) (tb : Int → Int) (rc : Int) (G : X_G) (tn : Int) (nc : Int) (N : Int → Int → Int) (rs : Int) (re : Int) : Prop :=
  ∃ (o : Nat → Int) (nm : Int64) (b : Int) (wk : Int) (f69 : Int) (f70 : Int), (0 ≤ b ∧ b ≤ 1) ∧ (0 ≤ wk ∧ wk ≤ 1) ∧ ((¬ wk = 0 ∧ f70 = rs ∧ f69 = re) ∨ (wk = 0 ∧ rs = 0 ∧ re = -1)) ∧ S.1 530 = .inr (11, [.ref 531, .int (iI len), .ref 532, .int (iI (o 3)), .int (iI b), .int (iI (o 5)), .int (iI (o 6)), .int (iI (o 7)), .int (iI (o 8)), .int (iI (o 9)), .int (iI (o 10)), .int (iI (o 11)), .long nm, .ref 533, .ref 534, .ref 535, .ref 536, .ref 537, .ref 538, .ref 539, .ref 540, .ref 541, .ref 542, .ref 543, .ref 544, .ref 545, .ref 546, .ref 547, .int (iI rc), .int (iI (gk G)), .int (iI (gw G)), .int (iI rc), .int (iI (gk G)), .int (iI (gw G)), .ref 548, .ref 549, .ref 550, .ref 551, .int (iI tn), .ref 552, .ref 553, .ref 554, .ref 555, .ref 556, .ref 557, .ref 558, .ref 559, .ref 560, .ref 561, .int (iI nc), .ref 562, .ref 563, .ref 564, .ref 565, .ref 566, .ref 567, .ref 568, .ref 569, .int (iI (o 58)), .ref 570, .ref 571, .ref 572, .ref 573, .ref 574, .ref 575, .ref 576, .ref 577, .ref 578, .int (iI wk), .int (iI f69), .int (iI f70), .ref 579]) ∧ X_IRt S len tb ∧ X_IRb S b rc G ∧ X_IRs S G tn ∧ X_IRc S G tn ∧ X_IRn S nc N ∧ X_IRp S  ∧ X_IRv S G ∧ X_IRw S 
theorem X_IR.fr {S S' : X_S} {len : Int} {tb : Int → Int} {rc : Int} {G : X_G} {tn : Int} {nc : Int} {N : Int → Int → Int} {rs : Int} {re : Int} {P : Nat → Prop} (hI : X_IR S len tb rc G tn nc N rs re) (hf : X_Fr P S S') (hp : ∀ q, 530 ≤ q → q ≤ 579 → ¬ P q) : X_IR S' len tb rc G tn nc N rs re := by
  obtain ⟨o, nm, b, wk, f69, f70, hbr, hwr, hwk, hc530, hg_t, hg_b, hg_s, hg_c, hg_n, hg_p, hg_v, hg_w⟩ := hI
  exact ⟨o, nm, b, wk, f69, f70, hbr, hwr, hwk, (hf.1 530 (hp 530 (by omega) (by omega))).trans hc530, hg_t.fr hf (fun q h1 h2 => hp q (by omega) (by omega)), hg_b.fr hf (fun q h1 h2 => hp q (by omega) (by omega)), hg_s.fr hf (fun q h1 h2 => hp q (by omega) (by omega)), hg_c.fr hf (fun q h1 h2 => hp q (by omega) (by omega)), hg_n.fr hf (fun q h1 h2 => hp q (by omega) (by omega)), hg_p.fr hf (fun q h1 h2 => hp q (by omega) (by omega)), hg_v.fr hf (fun q h1 h2 => hp q (by omega) (by omega)), hg_w.fr hf (fun q h1 h2 => hp q (by omega) (by omega))⟩
theorem X_Gb_6 {G : X_G} {w vl v : Int} : gD (X_Gb G w vl) v 6 0 = if v = w then 1 else gD G v 6 0 := by
  show X_ug (gD G) w (X_wu (X_wu (gD G w) 6 (fun _ => 1)) 7 (fun _ => vl)) v 6 0 = _
  by_cases hv : v = w
  · rw [hv, X_ug_s, if_pos rfl]; rfl
  · rw [X_ug_n _ _ hv, if_neg hv]
theorem X_Gb_7 {G : X_G} {w vl v : Int} : gD (X_Gb G w vl) v 7 0 = if v = w then vl else gD G v 7 0 := by
  show X_ug (gD G) w (X_wu (X_wu (gD G w) 6 (fun _ => 1)) 7 (fun _ => vl)) v 7 0 = _
  by_cases hv : v = w
  · rw [hv, X_ug_s, if_pos rfl]; rfl
  · rw [X_ug_n _ _ hv, if_neg hv]
theorem X_IRb.bind {S : X_S} {b rc : Int} {G : X_G} {w vl : Int} (h : X_IRb S b rc G) : X_IRb S b rc (X_Gb G w vl) := by
  obtain ⟨KO, rN, kN, tg, kU, wR, wL, wK, wM, wH, wS, sO, sN, eP, eH, hK, hc533, hc534, hc535, hc536, hc537, hc538, hc539, hc540, hc541, hc542, hc543, hc544, hc545, hc546, hc547, hOk, hO4, hO, hKG⟩ := h
  exact ⟨KO, rN, kN, tg, kU, wR, wL, wK, wM, wH, wS, sO, sN, eP, eH, hK, hc533, hc534, hc535, hc536, hc537, hc538, hc539, hc540, hc541, hc542, hc543, hc544, hc545, hc546, hc547, hOk, hO4, hO, hKG.bind⟩
theorem X_IRc.bind {S : X_S} {G : X_G} {tn w vl : Int} (h : X_IRc S G tn) : X_IRc S (X_Gb G w vl) tn := by
  obtain ⟨oW, oK, oH, r1, r2, hc552, hc553, hc554, hc555, hc556, hCt⟩ := h
  exact ⟨oW, oK, oH, r1, r2, hc552, hc553, hc554, hc555, hc556, R_ct_dr.mp (by rw [X_Gb_dr]; exact R_ct_dr.mpr hCt)⟩
theorem X_IRs.bind {S : X_S} {G : X_G} {tn w vl : Int} (h : X_IRs S G tn) : X_IRs S (X_Gb G w vl) tn := h
theorem X_IRb.text {S : X_S} {b rc : Int} {G : X_G} {t : Int → Int64} (h : X_IRb S b rc G) : X_IRb S b rc (X_Gt G t) := h
theorem X_IRv.text {S : X_S} {G : X_G} {t : Int → Int64} (h : X_IRv S G) : X_IRv S (X_Gt G t) := h
theorem m_feed (sc : X_Sc) (S : X_S) (len : Int) (tb : Int → Int) (rc : Int) (G : X_G) (tn : Int) (nc : Int) (N : Int → Int → Int) (rs : Int) (re : Int) (a : Int) (b_ : Int) (c : Int) (d : Int) (e : Int) (hI : X_IR S len tb rc G tn nc N rs re) (hA : X_Ao len tb G tn nc N) : X_T sc 201 (0, [(0, .ref 530), (1, .int (iI a)), (2, .int (iI b_)), (3, .int (iI c)), (4, .int (iI d)), (5, .int (iI e))], [], S) (fun v S' => (v = some (.int (iI (-1))) ∧ 2000 < len + 20 ∧ X_IR S' len tb rc G tn nc N rs re ∧ (X_Fr (fun q => 530 ≤ q ∧ q ≤ 579) S S')) ∨ (v = some (.int (iI (len + 20))) ∧ len + 20 ≤ 2000 ∧ X_IR S' (len + 20) (X_fd5 tb len a b_ c d e) rc G tn nc N rs re ∧ (X_Fr (fun q => 530 ≤ q ∧ q ≤ 579) S S'))) := by
  obtain ⟨o, nm, b, wk, f69, f70, hbr, hwr, hwk, hc530, hg_t, hg_b, hg_s, hg_c, hg_n, hg_p, hg_v, hg_w⟩ := hI
  obtain ⟨hl, htb, hG, hGs, htn, hR, h40⟩ := hA
  have hRn := hR.1
  have hh_t := hg_t
  obtain ⟨tp, tx, hc531, hc532, htp0⟩ := hh_t
  refine X_QI (fun Q hQ => ?_)
  refine T_mono (r_feed sc S tp (X_ou (X_ou (X_ou (X_ou (X_ou (X_ou (X_ou (X_ou o 1 len) 31 rc) 32 (gk G)) 33 (gw G)) 49 nc) 68 wk) 69 f69) 70 f70) nm b rc G tn len a b_ c d e hc530 hc531 (by omega)) (fun v2757 S2758 h2759 => hQ _ _ ?_)
  rcases h2759 with ⟨hv2760, hp2761, hf2762⟩ | ⟨tp2763, hv2764, hp2765, hp2766, hp2767, ho2768, ha2769, hf2770⟩
  · skip
    rw [hv2760]
    rw [hf2762]
    exact Or.inl ⟨rfl, hp2761, ⟨o, nm, b, wk, f69, f70, hbr, (by omega), hwk, hc530, hg_t, hg_b, hg_s, hg_c, hg_n, hg_p, hg_v, hg_w⟩, X_Fr.rf⟩
  · skip
    rw [hv2764]
    have hF : X_Fr (fun q => q = 530 ∨ q = 531) S S2758 := (X_Fr.rf).tr (X_Fr.mono ⟨hf2770.1, hf2770.2⟩ (fun q hq => (by omega)))
    have h2771 := (hf2770.1 532 (by omega)).trans (hc532)
    exact Or.inr ⟨rfl, hp2765, ⟨o, nm, b, wk, f69, f70, hbr, (by omega), hwk, ho2768, ⟨tp2763, tx, ha2769, h2771, (fun k h1 h2 => by
        by_cases hk : k < len
        · rw [hp2766 k h1 hk, X_fd5_o hk]; exact htp0 k h1 hk
        · have e1 := X_fd5_i (tb := tb) (len := len) (a := a) (b := b_) (c := c) (d := d) (e := e) (k := k - len) (by omega)
          have e2 := hp2767 (k - len) (by omega) (by omega)
          rw [show len + (k - len) = k by omega] at e1 e2
          rw [e1, e2])⟩, hg_b.fr hF (fun q h1 h2 => by omega), hg_s.fr hF (fun q h1 h2 => by omega), hg_c.fr hF (fun q h1 h2 => by omega), hg_n.fr hF (fun q h1 h2 => by omega), hg_p.fr hF (fun q h1 h2 => by omega), hg_v.fr hF (fun q h1 h2 => by omega), hg_w.fr hF (fun q h1 h2 => by omega)⟩, (X_Fr.rf).tr (X_Fr.mono ⟨hf2770.1, hf2770.2⟩ (fun q hq => (by omega)))⟩
theorem m_end (sc : X_Sc) (S : X_S) (len : Int) (tb : Int → Int) (rc : Int) (G : X_G) (tn : Int) (nc : Int) (N : Int → Int → Int) (rs : Int) (re : Int) (n : Int) (hI : X_IR S len tb rc G tn nc N rs re) (hA : X_Ao len tb G tn nc N) (hr_n : -2147483648 ≤ n ∧ n ≤ 2147483647) : X_T sc 202 (0, [(0, .ref 530), (1, .int (iI n))], [], S) (fun v S' => (v = some (.int (iI (-1))) ∧ (n < 0 ∨ len < n) ∧ X_IR S' len tb rc G tn nc N rs re ∧ (X_Fr (fun q => 530 ≤ q ∧ q ≤ 579) S S')) ∨ (v = some (.int (iI n)) ∧ (0 ≤ n ∧ n ≤ len) ∧ X_IR S' n tb rc G tn nc N rs re ∧ (X_Fr (fun q => 530 ≤ q ∧ q ≤ 579) S S'))) := by
  obtain ⟨o, nm, b, wk, f69, f70, hbr, hwr, hwk, hc530, hg_t, hg_b, hg_s, hg_c, hg_n, hg_p, hg_v, hg_w⟩ := hI
  obtain ⟨hl, htb, hG, hGs, htn, hR, h40⟩ := hA
  have hRn := hR.1
  have hh_t := hg_t
  obtain ⟨tp, tx, hc531, hc532, htp0⟩ := hh_t
  refine X_QI (fun Q hQ => ?_)
  refine T_mono (r_end sc S (X_ou (X_ou (X_ou (X_ou (X_ou (X_ou (X_ou (X_ou o 1 len) 31 rc) 32 (gk G)) 33 (gw G)) 49 nc) 68 wk) 69 f69) 70 f70) nm b rc G tn len n hc530 (by omega) (by omega)) (fun v2772 S2773 h2774 => hQ _ _ ?_)
  rcases h2774 with ⟨hv2775, hp2776, hf2777⟩ | ⟨hv2778, hp2779, ho2780, hf2781⟩
  · skip
    rw [hv2775]
    rw [hf2777]
    exact Or.inl ⟨rfl, hp2776, ⟨o, nm, b, wk, f69, f70, hbr, (by omega), hwk, hc530, hg_t, hg_b, hg_s, hg_c, hg_n, hg_p, hg_v, hg_w⟩, X_Fr.rf⟩
  · skip
    rw [hv2778]
    have hF : X_Fr (fun q => q = 530) S S2773 := (X_Fr.rf).tr (X_Fr.mono ⟨hf2781.1, hf2781.2⟩ (fun q hq => (by omega)))
    have h2782 := (hf2781.1 531 (by omega)).trans (hc531)
    have h2783 := (hf2781.1 532 (by omega)).trans (hc532)
    exact Or.inr ⟨rfl, hp2779, ⟨o, nm, b, wk, f69, f70, hbr, (by omega), hwk, ho2780, ⟨tp, tx, h2782, h2783, (fun k h1 h2 => htp0 k h1 (by omega))⟩, hg_b.fr hF (fun q h1 h2 => by omega), hg_s.fr hF (fun q h1 h2 => by omega), hg_c.fr hF (fun q h1 h2 => by omega), hg_n.fr hF (fun q h1 h2 => by omega), hg_p.fr hF (fun q h1 h2 => by omega), hg_v.fr hF (fun q h1 h2 => by omega), hg_w.fr hF (fun q h1 h2 => by omega)⟩, (X_Fr.rf).tr (X_Fr.mono ⟨hf2781.1, hf2781.2⟩ (fun q hq => (by omega)))⟩
theorem m_fault (sc : X_Sc) (S : X_S) (len : Int) (tb : Int → Int) (rc : Int) (G : X_G) (tn : Int) (nc : Int) (N : Int → Int → Int) (rs : Int) (re : Int) (w : Int) (hI : X_IR S len tb rc G tn nc N rs re) (hA : X_Ao len tb G tn nc N) (hr_w : -2147483648 ≤ w ∧ w ≤ 2147483647) : X_T sc 163 (0, [(0, .ref 530), (1, .int (iI w))], [], S) (fun v S' => ∃ (r : Int), v = some (.int (iI r)) ∧ X_IR S' len tb rc G tn nc N rs re ∧ (X_Fr (fun q => 530 ≤ q ∧ q ≤ 579) S S')) := by
  obtain ⟨o, nm, b, wk, f69, f70, hbr, hwr, hwk, hc530, hg_t, hg_b, hg_s, hg_c, hg_n, hg_p, hg_v, hg_w⟩ := hI
  obtain ⟨hl, htb, hG, hGs, htn, hR, h40⟩ := hA
  have hRn := hR.1
  refine X_QI (fun Q hQ => ?_)
  refine T_mono (r_fault sc S (X_ou (X_ou (X_ou (X_ou (X_ou (X_ou (X_ou (X_ou o 1 len) 31 rc) 32 (gk G)) 33 (gw G)) 49 nc) 68 wk) 69 f69) 70 f70) nm b rc G tn w hc530 (by omega)) (fun v2784 S2785 h2786 => hQ _ _ ?_)
  rcases h2786 with ⟨r2787, hv2788, hf2789⟩
  skip
  rw [hv2788]
  rw [hf2789]
  exact ⟨r2787, rfl, ⟨o, nm, b, wk, f69, f70, hbr, (by omega), hwk, hc530, hg_t, hg_b, hg_s, hg_c, hg_n, hg_p, hg_v, hg_w⟩, X_Fr.rf⟩
theorem m_about (sc : X_Sc) (S : X_S) (len : Int) (tb : Int → Int) (rc : Int) (G : X_G) (tn : Int) (nc : Int) (N : Int → Int → Int) (rs : Int) (re : Int) (w : Int) (hI : X_IR S len tb rc G tn nc N rs re) (hA : X_Ao len tb G tn nc N) (hr_w : -2147483648 ≤ w ∧ w ≤ 2147483647) : X_T sc 164 (0, [(0, .ref 530), (1, .int (iI w))], [], S) (fun v S' => v = some (.int (iI (X_qAb rc (gk G) (gw G) tn nc len w))) ∧ X_IR S' len tb rc G tn nc N rs re ∧ (X_Fr (fun q => 530 ≤ q ∧ q ≤ 579) S S')) := by
  obtain ⟨o, nm, b, wk, f69, f70, hbr, hwr, hwk, hc530, hg_t, hg_b, hg_s, hg_c, hg_n, hg_p, hg_v, hg_w⟩ := hI
  obtain ⟨hl, htb, hG, hGs, htn, hR, h40⟩ := hA
  have hRn := hR.1
  refine X_QI (fun Q hQ => ?_)
  refine T_mono (r_about sc S (X_ou (X_ou (X_ou (X_ou (X_ou (X_ou (X_ou (X_ou o 1 len) 31 rc) 32 (gk G)) 33 (gw G)) 49 nc) 68 wk) 69 f69) 70 f70) nm b rc G tn nc len w hc530 (by omega)) (fun v2790 S2791 h2792 => hQ _ _ ?_)
  rcases h2792 with ⟨hv2793, hf2794⟩
  skip
  rw [hv2793]
  rw [hf2794]
  exact ⟨rfl, ⟨o, nm, b, wk, f69, f70, hbr, (by omega), hwk, hc530, hg_t, hg_b, hg_s, hg_c, hg_n, hg_p, hg_v, hg_w⟩, X_Fr.rf⟩
theorem m_word (sc : X_Sc) (S : X_S) (len : Int) (tb : Int → Int) (rc : Int) (G : X_G) (tn : Int) (nc : Int) (N : Int → Int → Int) (rs : Int) (re : Int) (w : Int) (wh : Int) (hI : X_IR S len tb rc G tn nc N rs re) (hA : X_Ao len tb G tn nc N) (hr_w : -2147483648 ≤ w ∧ w ≤ 2147483647) (hr_wh : -2147483648 ≤ wh ∧ wh ≤ 2147483647) : X_T sc 166 (0, [(0, .ref 530), (1, .int (iI w)), (2, .int (iI wh))], [], S) (fun v S' => v = some (.int (iI (X_qWd G w wh))) ∧ X_IR S' len tb rc G tn nc N rs re ∧ (X_Fr (fun q => 530 ≤ q ∧ q ≤ 579) S S')) := by
  obtain ⟨o, nm, b, wk, f69, f70, hbr, hwr, hwk, hc530, hg_t, hg_b, hg_s, hg_c, hg_n, hg_p, hg_v, hg_w⟩ := hI
  obtain ⟨hl, htb, hG, hGs, htn, hR, h40⟩ := hA
  have hRn := hR.1
  have hh_b := hg_b
  obtain ⟨KO, rN, kN, tg, kU, wR, wL, wK, wM, wH, wS, sO, sN, eP, eH, hK, hc533, hc534, hc535, hc536, hc537, hc538, hc539, hc540, hc541, hc542, hc543, hc544, hc545, hc546, hc547, hOk, hO4, hO, hKG⟩ := hh_b
  obtain ⟨hrc, hKU, hTG, hWR, hWL, hWK, hWM, hWH, hWS, hEP, hEH, hHK, hST⟩ := R_bk.hyps hO hOk hKG
  refine X_QI (fun Q hQ => ?_)
  refine T_mono (r_word sc S wR wL wK wM wH wS eP (X_ou (X_ou (X_ou (X_ou (X_ou (X_ou (X_ou (X_ou o 1 len) 31 rc) 32 (gk G)) 33 (gw G)) 49 nc) 68 wk) 69 f69) 70 f70) nm b rc G tn w wh hc530 hc537 hc538 hc539 hc540 hc541 hc542 hc545 hbr hG hWR hWL hWK hWM hWH hWS hEP (by omega) (by omega)) (fun v2795 S2796 h2797 => hQ _ _ ?_)
  rcases h2797 with ⟨hv2798, hf2799⟩
  skip
  rw [hv2798]
  rw [hf2799]
  exact ⟨rfl, ⟨o, nm, b, wk, f69, f70, hbr, (by omega), hwk, hc530, hg_t, hg_b, hg_s, hg_c, hg_n, hg_p, hg_v, hg_w⟩, X_Fr.rf⟩
theorem m_tighter (sc : X_Sc) (S : X_S) (len : Int) (tb : Int → Int) (rc : Int) (G : X_G) (tn : Int) (nc : Int) (N : Int → Int → Int) (rs : Int) (re : Int) (a : Int) (c : Int) (hI : X_IR S len tb rc G tn nc N rs re) (hA : X_Ao len tb G tn nc N) (hr_a : -2147483648 ≤ a ∧ a ≤ 2147483647) (hr_c : -2147483648 ≤ c ∧ c ≤ 2147483647) : X_T sc 167 (0, [(0, .ref 530), (1, .int (iI a)), (2, .int (iI c))], [], S) (fun v S' => v = some (.int (iI (X_qTi G rc a c))) ∧ X_IR S' len tb rc G tn nc N rs re ∧ (X_Fr (fun q => 530 ≤ q ∧ q ≤ 579) S S')) := by
  obtain ⟨o, nm, b, wk, f69, f70, hbr, hwr, hwk, hc530, hg_t, hg_b, hg_s, hg_c, hg_n, hg_p, hg_v, hg_w⟩ := hI
  obtain ⟨hl, htb, hG, hGs, htn, hR, h40⟩ := hA
  have hRn := hR.1
  have hh_b := hg_b
  obtain ⟨KO, rN, kN, tg, kU, wR, wL, wK, wM, wH, wS, sO, sN, eP, eH, hK, hc533, hc534, hc535, hc536, hc537, hc538, hc539, hc540, hc541, hc542, hc543, hc544, hc545, hc546, hc547, hOk, hO4, hO, hKG⟩ := hh_b
  obtain ⟨hrc, hKU, hTG, hWR, hWL, hWK, hWM, hWH, hWS, hEP, hEH, hHK, hST⟩ := R_bk.hyps hO hOk hKG
  refine X_QI (fun Q hQ => ?_)
  refine T_mono (r_tighter sc S tg (X_ou (X_ou (X_ou (X_ou (X_ou (X_ou (X_ou (X_ou o 1 len) 31 rc) 32 (gk G)) 33 (gw G)) 49 nc) 68 wk) 69 f69) 70 f70) nm b rc G tn a c hc530 hc535 hbr hTG (by omega) (by omega) (by omega)) (fun v2800 S2801 h2802 => hQ _ _ ?_)
  rcases h2802 with ⟨hv2803, hf2804⟩
  skip
  rw [hv2803]
  rw [hf2804]
  exact ⟨rfl, ⟨o, nm, b, wk, f69, f70, hbr, (by omega), hwk, hc530, hg_t, hg_b, hg_s, hg_c, hg_n, hg_p, hg_v, hg_w⟩, X_Fr.rf⟩
theorem m_under (sc : X_Sc) (S : X_S) (len : Int) (tb : Int → Int) (rc : Int) (G : X_G) (tn : Int) (nc : Int) (N : Int → Int → Int) (rs : Int) (re : Int) (a : Int) (c : Int) (hI : X_IR S len tb rc G tn nc N rs re) (hA : X_Ao len tb G tn nc N) (hr_a : -2147483648 ≤ a ∧ a ≤ 2147483647) (hr_c : -2147483648 ≤ c ∧ c ≤ 2147483647) : X_T sc 169 (0, [(0, .ref 530), (1, .int (iI a)), (2, .int (iI c))], [], S) (fun v S' => v = some (.int (iI (X_qUn G a c))) ∧ X_IR S' len tb rc G tn nc N rs re ∧ (X_Fr (fun q => 530 ≤ q ∧ q ≤ 579) S S')) := by
  obtain ⟨o, nm, b, wk, f69, f70, hbr, hwr, hwk, hc530, hg_t, hg_b, hg_s, hg_c, hg_n, hg_p, hg_v, hg_w⟩ := hI
  obtain ⟨hl, htb, hG, hGs, htn, hR, h40⟩ := hA
  have hRn := hR.1
  have hh_b := hg_b
  obtain ⟨KO, rN, kN, tg, kU, wR, wL, wK, wM, wH, wS, sO, sN, eP, eH, hK, hc533, hc534, hc535, hc536, hc537, hc538, hc539, hc540, hc541, hc542, hc543, hc544, hc545, hc546, hc547, hOk, hO4, hO, hKG⟩ := hh_b
  obtain ⟨hrc, hKU, hTG, hWR, hWL, hWK, hWM, hWH, hWS, hEP, hEH, hHK, hST⟩ := R_bk.hyps hO hOk hKG
  refine X_QI (fun Q hQ => ?_)
  refine T_mono (r_under sc S kU (X_ou (X_ou (X_ou (X_ou (X_ou (X_ou (X_ou (X_ou o 1 len) 31 rc) 32 (gk G)) 33 (gw G)) 49 nc) 68 wk) 69 f69) 70 f70) nm b rc G tn a c hc530 hc536 hbr hG hKU (by omega) (by omega)) (fun v2805 S2806 h2807 => hQ _ _ ?_)
  rcases h2807 with ⟨hv2808, hf2809⟩
  skip
  rw [hv2808]
  rw [hf2809]
  exact ⟨rfl, ⟨o, nm, b, wk, f69, f70, hbr, (by omega), hwk, hc530, hg_t, hg_b, hg_s, hg_c, hg_n, hg_p, hg_v, hg_w⟩, X_Fr.rf⟩
theorem m_node (sc : X_Sc) (S : X_S) (len : Int) (tb : Int → Int) (rc : Int) (G : X_G) (tn : Int) (nc : Int) (N : Int → Int → Int) (rs : Int) (re : Int) (n : Int) (wh : Int) (hI : X_IR S len tb rc G tn nc N rs re) (hA : X_Ao len tb G tn nc N) (hr_n : -2147483648 ≤ n ∧ n ≤ 2147483647) (hr_wh : -2147483648 ≤ wh ∧ wh ≤ 2147483647) : X_T sc 190 (0, [(0, .ref 530), (1, .int (iI n)), (2, .int (iI wh))], [], S) (fun v S' => v = some (.int (iI (X_qNd nc N n wh))) ∧ X_IR S' len tb rc G tn nc N rs re ∧ (X_Fr (fun q => 530 ≤ q ∧ q ≤ 579) S S')) := by
  obtain ⟨o, nm, b, wk, f69, f70, hbr, hwr, hwk, hc530, hg_t, hg_b, hg_s, hg_c, hg_n, hg_p, hg_v, hg_w⟩ := hI
  obtain ⟨hl, htb, hG, hGs, htn, hR, h40⟩ := hA
  have hRn := hR.1
  have hh_n := hg_n
  obtain ⟨nW, nF, nL, nP, nH, hc557, hc558, hc559, hc560, hc561, hnd⟩ := hh_n
  refine X_QI (fun Q hQ => ?_)
  refine T_mono (r_node sc S nW nF nL nP nH (X_ou (X_ou (X_ou (X_ou (X_ou (X_ou (X_ou (X_ou o 1 len) 31 rc) 32 (gk G)) 33 (gw G)) 49 nc) 68 wk) 69 f69) 70 f70) nm b rc G tn nc N n wh hc530 hc557 hc558 hc559 hc560 hc561 (by omega) (by omega) (by omega) hnd (fun n h1 h2 h3 => hR.n4 (h40 (by omega)) n h1 h2 h3) hR.2.1) (fun v2810 S2811 h2812 => hQ _ _ ?_)
  rcases h2812 with ⟨hv2813, hf2814⟩
  skip
  rw [hv2813]
  rw [hf2814]
  exact ⟨rfl, ⟨o, nm, b, wk, f69, f70, hbr, (by omega), hwk, hc530, hg_t, hg_b, hg_s, hg_c, hg_n, hg_p, hg_v, hg_w⟩, X_Fr.rf⟩
theorem m_worked (sc : X_Sc) (S : X_S) (len : Int) (tb : Int → Int) (rc : Int) (G : X_G) (tn : Int) (nc : Int) (N : Int → Int → Int) (rs : Int) (re : Int) (w : Int) (hI : X_IR S len tb rc G tn nc N rs re) (hA : X_Ao len tb G tn nc N) (hr_w : -2147483648 ≤ w ∧ w ≤ 2147483647) : X_T sc 198 (0, [(0, .ref 530), (1, .int (iI w))], [], S) (fun v S' => v = some (.int (iI (if w = 0 then rs else if w = 1 then re else -1))) ∧ X_IR S' len tb rc G tn nc N rs re ∧ (X_Fr (fun q => 530 ≤ q ∧ q ≤ 579) S S')) := by
  obtain ⟨o, nm, b, wk, f69, f70, hbr, hwr, hwk, hc530, hg_t, hg_b, hg_s, hg_c, hg_n, hg_p, hg_v, hg_w⟩ := hI
  obtain ⟨hl, htb, hG, hGs, htn, hR, h40⟩ := hA
  have hRn := hR.1
  refine X_QI (fun Q hQ => ?_)
  refine T_mono (r_worked sc S (X_ou (X_ou (X_ou (X_ou (X_ou (X_ou (X_ou (X_ou o 1 len) 31 rc) 32 (gk G)) 33 (gw G)) 49 nc) 68 wk) 69 f69) 70 f70) nm b rc G tn wk f69 f70 rs re w hc530 (by omega) hwk (by omega)) (fun v2815 S2816 h2817 => hQ _ _ ?_)
  rcases h2817 with ⟨hv2818, hf2819⟩
  skip
  rw [hv2818]
  rw [hf2819]
  exact ⟨rfl, ⟨o, nm, b, wk, f69, f70, hbr, (by omega), hwk, hc530, hg_t, hg_b, hg_s, hg_c, hg_n, hg_p, hg_v, hg_w⟩, X_Fr.rf⟩
theorem m_sure (sc : X_Sc) (S : X_S) (len : Int) (tb : Int → Int) (rc : Int) (G : X_G) (tn : Int) (nc : Int) (N : Int → Int → Int) (rs : Int) (re : Int) (hI : X_IR S len tb rc G tn nc N rs re) (hA : X_Ao len tb G tn nc N) : X_T sc 199 (0, [(0, .ref 530)], [], S) (fun v S' => ∃ (r : Int), v = some (.int (iI r)) ∧ X_qSu G r ∧ X_IR S' len tb rc G tn nc N rs re ∧ (X_Fr (fun q => 530 ≤ q ∧ q ≤ 579) S S')) := by
  obtain ⟨o, nm, b, wk, f69, f70, hbr, hwr, hwk, hc530, hg_t, hg_b, hg_s, hg_c, hg_n, hg_p, hg_v, hg_w⟩ := hI
  obtain ⟨hl, htb, hG, hGs, htn, hR, h40⟩ := hA
  have hRn := hR.1
  have hh_b := hg_b
  obtain ⟨KO, rN, kN, tg, kU, wR, wL, wK, wM, wH, wS, sO, sN, eP, eH, hK, hc533, hc534, hc535, hc536, hc537, hc538, hc539, hc540, hc541, hc542, hc543, hc544, hc545, hc546, hc547, hOk, hO4, hO, hKG⟩ := hh_b
  obtain ⟨hrc, hKU, hTG, hWR, hWL, hWK, hWM, hWH, hWS, hEP, hEH, hHK, hST⟩ := R_bk.hyps hO hOk hKG
  refine X_QI (fun Q hQ => ?_)
  refine T_mono (r_sure sc S tg wR wL wM eP (X_ou (X_ou (X_ou (X_ou (X_ou (X_ou (X_ou (X_ou o 1 len) 31 rc) 32 (gk G)) 33 (gw G)) 49 nc) 68 wk) 69 f69) 70 f70) nm b rc G tn hc530 hc535 hc537 hc538 hc540 hc545 hbr hG hTG hWR hWL hWM hEP) (fun v2820 S2821 h2822 => hQ _ _ ?_)
  rcases h2822 with ⟨r2823, hv2824, hp2825, hf2826⟩
  skip
  rw [hv2824]
  rw [hf2826]
  exact ⟨r2823, rfl, hp2825, ⟨o, nm, b, wk, f69, f70, hbr, (by omega), hwk, hc530, hg_t, hg_b, hg_s, hg_c, hg_n, hg_p, hg_v, hg_w⟩, X_Fr.rf⟩
theorem m_count (sc : X_Sc) (S : X_S) (len : Int) (tb : Int → Int) (rc : Int) (G : X_G) (tn : Int) (nc : Int) (N : Int → Int → Int) (rs : Int) (re : Int) (i : Int) (j : Int) (hI : X_IR S len tb rc G tn nc N rs re) (hA : X_Ao len tb G tn nc N) (hr_i : -2147483648 ≤ i ∧ i ≤ 2147483647) (hr_j : -2147483648 ≤ j ∧ j ≤ 2147483647) : X_T sc 183 (0, [(0, .ref 530), (1, .int (iI i)), (2, .int (iI j))], [], S) (fun v S' => v = some (.long (X_qCt G tn i j)) ∧ X_IR S' len tb rc G tn nc N rs re ∧ (X_Fr (fun q => 530 ≤ q ∧ q ≤ 579) S S')) := by
  obtain ⟨o, nm, b, wk, f69, f70, hbr, hwr, hwk, hc530, hg_t, hg_b, hg_s, hg_c, hg_n, hg_p, hg_v, hg_w⟩ := hI
  obtain ⟨hl, htb, hG, hGs, htn, hR, h40⟩ := hA
  have hRn := hR.1
  have hh_b := hg_b
  obtain ⟨KO, rN, kN, tg, kU, wR, wL, wK, wM, wH, wS, sO, sN, eP, eH, hK, hc533, hc534, hc535, hc536, hc537, hc538, hc539, hc540, hc541, hc542, hc543, hc544, hc545, hc546, hc547, hOk, hO4, hO, hKG⟩ := hh_b
  have hh_s := hg_s
  obtain ⟨tT, nn, tU, nu, hc548, hc549, hc550, hc551, hTT, hTU⟩ := hh_s
  have hh_c := hg_c
  obtain ⟨oW, oK, oH, r1, r2, hc552, hc553, hc554, hc555, hc556, hCt⟩ := hh_c
  obtain ⟨hrc, hKU, hTG, hWR, hWL, hWK, hWM, hWH, hWS, hEP, hEH, hHK, hST⟩ := R_bk.hyps hO hOk hKG
  refine X_QI (fun Q hQ => ?_)
  refine T_mono (r_count sc S wK tU oW oK oH (X_ou (X_ou (X_ou (X_ou (X_ou (X_ou (X_ou (X_ou o 1 len) 31 rc) 32 (gk G)) 33 (gw G)) 49 nc) 68 wk) 69 f69) 70 f70) nm b rc G tn i j hc530 hc539 hc550 hc552 hc553 hc554 hbr hG (by omega) hTU hWK hCt (by omega) (by omega)) (fun v2827 S2828 h2829 => hQ _ _ ?_)
  rcases h2829 with ⟨hv2830, hf2831⟩
  skip
  rw [hv2830]
  rw [hf2831]
  exact ⟨rfl, ⟨o, nm, b, wk, f69, f70, hbr, (by omega), hwk, hc530, hg_t, hg_b, hg_s, hg_c, hg_n, hg_p, hg_v, hg_w⟩, X_Fr.rf⟩
theorem m_quarrel (sc : X_Sc) (S : X_S) (len : Int) (tb : Int → Int) (rc : Int) (G : X_G) (tn : Int) (nc : Int) (N : Int → Int → Int) (rs : Int) (re : Int) (hI : X_IR S len tb rc G tn nc N rs re) (hA : X_Ao len tb G tn nc N) : X_T sc 184 (0, [(0, .ref 530)], [], S) (fun v S' => ∃ (r : Int), v = some (.int (iI r)) ∧ X_qQu G tn r ∧ X_IR S' len tb rc G tn nc N rs re ∧ (X_Fr (fun q => 530 ≤ q ∧ q ≤ 579) S S')) := by
  obtain ⟨o, nm, b, wk, f69, f70, hbr, hwr, hwk, hc530, hg_t, hg_b, hg_s, hg_c, hg_n, hg_p, hg_v, hg_w⟩ := hI
  obtain ⟨hl, htb, hG, hGs, htn, hR, h40⟩ := hA
  have hRn := hR.1
  have hh_b := hg_b
  obtain ⟨KO, rN, kN, tg, kU, wR, wL, wK, wM, wH, wS, sO, sN, eP, eH, hK, hc533, hc534, hc535, hc536, hc537, hc538, hc539, hc540, hc541, hc542, hc543, hc544, hc545, hc546, hc547, hOk, hO4, hO, hKG⟩ := hh_b
  have hh_s := hg_s
  obtain ⟨tT, nn, tU, nu, hc548, hc549, hc550, hc551, hTT, hTU⟩ := hh_s
  have hh_c := hg_c
  obtain ⟨oW, oK, oH, r1, r2, hc552, hc553, hc554, hc555, hc556, hCt⟩ := hh_c
  obtain ⟨hrc, hKU, hTG, hWR, hWL, hWK, hWM, hWH, hWS, hEP, hEH, hHK, hST⟩ := R_bk.hyps hO hOk hKG
  refine X_QI (fun Q hQ => ?_)
  refine T_mono (r_quarrel sc S wK tU oW oK oH (X_ou (X_ou (X_ou (X_ou (X_ou (X_ou (X_ou (X_ou o 1 len) 31 rc) 32 (gk G)) 33 (gw G)) 49 nc) 68 wk) 69 f69) 70 f70) nm b rc G tn hc530 hc539 hc550 hc552 hc553 hc554 hbr hG (by omega) hTU hWK hCt) (fun v2832 S2833 h2834 => hQ _ _ ?_)
  rcases h2834 with ⟨r2835, hv2836, hp2837, hf2838⟩
  skip
  rw [hv2836]
  rw [hf2838]
  exact ⟨r2835, rfl, hp2837, ⟨o, nm, b, wk, f69, f70, hbr, (by omega), hwk, hc530, hg_t, hg_b, hg_s, hg_c, hg_n, hg_p, hg_v, hg_w⟩, X_Fr.rf⟩
theorem m_bind (sc : X_Sc) (S : X_S) (len : Int) (tb : Int → Int) (rc : Int) (G : X_G) (tn : Int) (nc : Int) (N : Int → Int → Int) (rs : Int) (re : Int) (w : Int) (vl : Int) (hI : X_IR S len tb rc G tn nc N rs re) (hA : X_Ao len tb G tn nc N) (hr_w : -2147483648 ≤ w ∧ w ≤ 2147483647) (hr_vl : -2147483648 ≤ vl ∧ vl ≤ 2147483647) : X_T sc 191 (0, [(0, .ref 530), (1, .int (iI w)), (2, .int (iI vl))], [], S) (fun v S' => (v = some (.int (iI 0)) ∧ (¬ ((0 ≤ w ∧ w < gw G) ∧ gD G w 5 0 = -1 ∧ gD G w 4 0 ≤ 0)) ∧ X_IR S' len tb rc G tn nc N rs re ∧ (X_Fr (fun q => 530 ≤ q ∧ q ≤ 579) S S')) ∨ (v = some (.int (iI 1)) ∧ ((0 ≤ w ∧ w < gw G) ∧ gD G w 5 0 = -1 ∧ gD G w 4 0 ≤ 0) ∧ X_IR S' len tb rc (X_Gb G w vl) tn nc N rs re ∧ (X_Fr (fun q => 530 ≤ q ∧ q ≤ 579) S S'))) := by
  obtain ⟨o, nm, b, wk, f69, f70, hbr, hwr, hwk, hc530, hg_t, hg_b, hg_s, hg_c, hg_n, hg_p, hg_v, hg_w⟩ := hI
  obtain ⟨hl, htb, hG, hGs, htn, hR, h40⟩ := hA
  have hRn := hR.1
  have hh_b := hg_b
  obtain ⟨KO, rN, kN, tg, kU, wR, wL, wK, wM, wH, wS, sO, sN, eP, eH, hK, hc533, hc534, hc535, hc536, hc537, hc538, hc539, hc540, hc541, hc542, hc543, hc544, hc545, hc546, hc547, hOk, hO4, hO, hKG⟩ := hh_b
  have hh_v := hg_v
  obtain ⟨bo, va, hc574, hc575, hbo⟩ := hh_v
  obtain ⟨hrc, hKU, hTG, hWR, hWL, hWK, hWM, hWH, hWS, hEP, hEH, hHK, hST⟩ := R_bk.hyps hO hOk hKG
  refine X_QI (fun Q hQ => ?_)
  refine T_mono (r_bind sc S wH wS bo va (X_ou (X_ou (X_ou (X_ou (X_ou (X_ou (X_ou (X_ou o 1 len) 31 rc) 32 (gk G)) 33 (gw G)) 49 nc) 68 wk) 69 f69) 70 f70) nm b rc G tn w vl hc530 hc541 hc542 hc574 hc575 hbr hG hGs hWH hWS (by omega) (by omega)) (fun v2839 S2840 h2841 => hQ _ _ ?_)
  rcases h2841 with ⟨hv2842, hp2843, hf2844⟩ | ⟨hv2845, hp2846, ha2847, ha2848, hf2849⟩
  · skip
    rw [hv2842]
    rw [hf2844]
    exact Or.inl ⟨rfl, hp2843, ⟨o, nm, b, wk, f69, f70, hbr, (by omega), hwk, hc530, hg_t, hg_b, hg_s, hg_c, hg_n, hg_p, hg_v, hg_w⟩, X_Fr.rf⟩
  · skip
    rw [hv2845]
    have hF : X_Fr (fun q => q = 574 ∨ q = 575) S S2840 := (X_Fr.rf).tr (X_Fr.mono ⟨hf2849.1, hf2849.2⟩ (fun q hq => (by omega)))
    have h2850 := (hf2849.1 530 (by omega)).trans (hc530)
    exact Or.inr ⟨rfl, hp2846, ⟨o, nm, b, wk, f69, f70, hbr, (by omega), hwk, h2850, hg_t.fr hF (fun q h1 h2 => by omega), (hg_b.fr hF (fun q h1 h2 => by omega)).bind, (hg_s.fr hF (fun q h1 h2 => by omega)).bind, (hg_c.fr hF (fun q h1 h2 => by omega)).bind, hg_n.fr hF (fun q h1 h2 => by omega), hg_p.fr hF (fun q h1 h2 => by omega), ⟨(X_ug bo w 1), (X_ug va w vl), ha2847, ha2848, (fun v h1 h2 => by
        have z := hbo v h1 h2
        rw [X_Gb_6, X_Gb_7]
        by_cases hv : v = w
        · rw [if_pos hv, if_pos hv, hv, X_ug_s, X_ug_s]; exact ⟨⟨rfl, fun _ => rfl⟩, by omega, by omega⟩
        · rw [if_neg hv, if_neg hv, X_ug_n _ _ hv, X_ug_n _ _ hv]; exact z)⟩, hg_w.fr hF (fun q h1 h2 => by omega)⟩, (X_Fr.rf).tr (X_Fr.mono ⟨hf2849.1, hf2849.2⟩ (fun q hq => (by omega)))⟩
theorem m_work (sc : X_Sc) (S : X_S) (len : Int) (tb : Int → Int) (rc : Int) (G : X_G) (tn : Int) (nc : Int) (N : Int → Int → Int) (rs : Int) (re : Int) (hI : X_IR S len tb rc G tn nc N rs re) (hA : X_Ao len tb G tn nc N) : X_T sc 193 (0, [(0, .ref 530)], [], S) (fun v S' => (v = some (.int (iI (-1))) ∧ nc = 0 ∧ X_IR S' len tb rc G tn nc N rs re ∧ (X_Fr (fun q => 530 ≤ q ∧ q ≤ 579) S S')) ∨ (v = some (.int (iI ((X_wk G (fun w => gD G w 6 0) (fun w => gD G w 7 0) N nc).1))) ∧ ¬ nc = 0 ∧ X_IR S' len tb rc G tn nc N ((X_wk G (fun w => gD G w 6 0) (fun w => gD G w 7 0) N nc).2.2) ((X_wk G (fun w => gD G w 6 0) (fun w => gD G w 7 0) N nc).2.1) ∧ (X_Fr (fun q => 530 ≤ q ∧ q ≤ 579) S S'))) := by
  obtain ⟨o, nm, b, wk, f69, f70, hbr, hwr, hwk, hc530, hg_t, hg_b, hg_s, hg_c, hg_n, hg_p, hg_v, hg_w⟩ := hI
  obtain ⟨hl, htb, hG, hGs, htn, hR, h40⟩ := hA
  have hRn := hR.1
  have hh_b := hg_b
  obtain ⟨KO, rN, kN, tg, kU, wR, wL, wK, wM, wH, wS, sO, sN, eP, eH, hK, hc533, hc534, hc535, hc536, hc537, hc538, hc539, hc540, hc541, hc542, hc543, hc544, hc545, hc546, hc547, hOk, hO4, hO, hKG⟩ := hh_b
  have hh_s := hg_s
  obtain ⟨tT, nn, tU, nu, hc548, hc549, hc550, hc551, hTT, hTU⟩ := hh_s
  have hh_n := hg_n
  obtain ⟨nW, nF, nL, nP, nH, hc557, hc558, hc559, hc560, hc561, hnd⟩ := hh_n
  have hh_v := hg_v
  obtain ⟨bo, va, hc574, hc575, hbo⟩ := hh_v
  have hh_w := hg_w
  obtain ⟨vs, pl, hv, dn, hc576, hc577, hc578, hc579⟩ := hh_w
  obtain ⟨hrc, hKU, hTG, hWR, hWL, hWK, hWM, hWH, hWS, hEP, hEH, hHK, hST⟩ := R_bk.hyps hO hOk hKG
  refine X_QI (fun Q hQ => ?_)
  refine T_mono (r_work sc S wS sO sN tU nW nF nL nP nH bo va vs pl hv dn (X_ou (X_ou (X_ou (X_ou (X_ou (X_ou (X_ou (X_ou o 1 len) 31 rc) 32 (gk G)) 33 (gw G)) 49 nc) 68 wk) 69 f69) 70 f70) nm b rc G tn nc N hc530 hc542 hc543 hc544 hc550 hc557 hc558 hc559 hc560 hc561 hc574 hc575 hc576 hc577 hc578 hc579 hbr hG hGs hTU hWS hST hbo hR hnd) (fun v2851 S2852 h2853 => hQ _ _ ?_)
  rcases h2853 with ⟨hv2854, hp2855, hf2856⟩ | ⟨vs2857, pl2858, hv2859, dn2860, hv2861, hp2862, ho2863, ha2864, ha2865, ha2866, ha2867, hf2868⟩
  · skip
    rw [hv2854]
    rw [hf2856]
    exact Or.inl ⟨rfl, hp2855, ⟨o, nm, b, wk, f69, f70, hbr, (by omega), hwk, hc530, hg_t, hg_b, hg_s, hg_c, hg_n, hg_p, hg_v, hg_w⟩, X_Fr.rf⟩
  · skip
    rw [hv2861]
    have hF : X_Fr (fun q => q = 530 ∨ (576 ≤ q ∧ q ≤ 579)) S S2852 := (X_Fr.rf).tr (X_Fr.mono ⟨hf2868.1, hf2868.2⟩ (fun q hq => (by omega)))
    exact Or.inr ⟨rfl, hp2862, ⟨o, nm, b, 1, (X_wk G (fun w => gD G w 6 0) (fun w => gD G w 7 0) N nc).2.1, (X_wk G (fun w => gD G w 6 0) (fun w => gD G w 7 0) N nc).2.2, hbr, (by omega), (Or.inl ⟨by omega, rfl, rfl⟩), ho2863, hg_t.fr hF (fun q h1 h2 => by omega), hg_b.fr hF (fun q h1 h2 => by omega), hg_s.fr hF (fun q h1 h2 => by omega), hg_c.fr hF (fun q h1 h2 => by omega), hg_n.fr hF (fun q h1 h2 => by omega), hg_p.fr hF (fun q h1 h2 => by omega), hg_v.fr hF (fun q h1 h2 => by omega), ⟨vs2857, pl2858, hv2859, dn2860, ha2864, ha2865, ha2866, ha2867⟩⟩, (X_Fr.rf).tr (X_Fr.mono ⟨hf2868.1, hf2868.2⟩ (fun q hq => (by omega)))⟩
theorem m_sentence (sc : X_Sc) (S : X_S) (len : Int) (tb : Int → Int) (rc : Int) (G : X_G) (tn : Int) (nc : Int) (N : Int → Int → Int) (rs : Int) (re : Int) (ot1 : Int → Int64) (hI : X_IR S len tb rc G tn nc N rs re) (hA : X_Ao len tb G tn nc N) (hgt : ∀ n2 z2 t2, X_sn tb len len.toNat = some (n2, z2, t2) → ∀ i, 0 ≤ i → i < n2 → ot1 i = t2 i) : X_T sc 170 (0, [(0, .ref 530)], [], S) (fun v S' => (v = some (.int (iI (-1))) ∧ X_sn tb len len.toNat = none ∧ X_IR S' 0 tb rc G tn nc N rs re ∧ (X_Fr (fun q => 530 ≤ q ∧ q ≤ 579) S S')) ∨ (∃ (n1 : Int) (z1 : Int) (t1 : Int → Int64), v = some (.int (iI n1)) ∧ X_sn tb len len.toNat = some (n1, z1, t1) ∧ (0 ≤ n1 ∧ n1 ≤ 30) ∧ X_IR S' 0 tb rc (X_Gt G ot1) n1 0 N 0 (-1) ∧ (X_Fr (fun q => 530 ≤ q ∧ q ≤ 579) S S'))) := by
  obtain ⟨o, nm, b, wk, f69, f70, hbr, hwr, hwk, hc530, hg_t, hg_b, hg_s, hg_c, hg_n, hg_p, hg_v, hg_w⟩ := hI
  obtain ⟨hl, htb, hG, hGs, htn, hR, h40⟩ := hA
  have hRn := hR.1
  have hh_t := hg_t
  obtain ⟨tp, tx, hc531, hc532, htp0⟩ := hh_t
  have hh_b := hg_b
  obtain ⟨KO, rN, kN, tg, kU, wR, wL, wK, wM, wH, wS, sO, sN, eP, eH, hK, hc533, hc534, hc535, hc536, hc537, hc538, hc539, hc540, hc541, hc542, hc543, hc544, hc545, hc546, hc547, hOk, hO4, hO, hKG⟩ := hh_b
  have hh_s := hg_s
  obtain ⟨tT, nn, tU, nu, hc548, hc549, hc550, hc551, hTT, hTU⟩ := hh_s
  have hh_c := hg_c
  obtain ⟨oW, oK, oH, r1, r2, hc552, hc553, hc554, hc555, hc556, hCt⟩ := hh_c
  obtain ⟨hrc, hKU, hTG, hWR, hWL, hWK, hWM, hWH, hWS, hEP, hEH, hHK, hST⟩ := R_bk.hyps hO hOk hKG
  have hh_n := hg_n
  obtain ⟨nW, nF, nL, nP, nH, hc557, hc558, hc559, hc560, hc561, hnd⟩ := hh_n
  refine X_QI (fun Q hQ => ?_)
  refine T_mono (r_sentence sc S tp tg kU wR wL wK wM wH eP eH hK tT nn tU nu oW oK oH r1 r2 (X_ou (X_ou (X_ou (X_ou (X_ou (X_ou (X_ou (X_ou o 1 len) 31 rc) 32 (gk G)) 33 (gw G)) 49 nc) 68 wk) 69 f69) 70 f70) nm b rc (X_Gt G ot1) tn len tb hc530 hc531 hc535 hc536 hc537 hc538 hc539 hc540 hc541 hc545 hc546 hc547 hc548 hc549 hc550 hc551 hc552 hc553 hc554 hc555 hc556 hbr hG (by omega) rfl (fun k h1 h2 => ⟨htp0 k h1 h2, htb k h1 h2⟩) hgt hKU hTG hWR hWL hWK hWM hWH hEP hEH hHK) (fun v2869 S2870 h2871 => hQ _ _ ?_)
  rcases h2871 with ⟨nn2872, nu2873, hv2874, hp2875, ho2876, ha2877, ha2878, hf2879⟩ | ⟨n2880, z2881, t2882, tT2883, nn2884, oW2885, oK2886, oH2887, rx2888, rx2889, tU2890, nu2891, hv2892, hp2893, hp2894, hp2895, hp2896, hp2897, ho2898, ha2899, ha2900, ha2901, ha2902, ha2903, ha2904, ha2905, ha2906, ha2907, hf2908⟩
  · skip
    rw [hv2874]
    have hF : X_Fr (fun q => q = 530 ∨ q = 549 ∨ q = 551) S S2870 := (X_Fr.rf).tr (X_Fr.mono ⟨hf2879.1, hf2879.2⟩ (fun q hq => (by omega)))
    have h2909 := (hf2879.1 531 (by omega)).trans (hc531)
    have h2910 := (hf2879.1 532 (by omega)).trans (hc532)
    have h2911 := (hf2879.1 548 (by omega)).trans (hc548)
    have h2912 := (hf2879.1 550 (by omega)).trans (hc550)
    exact Or.inl ⟨rfl, hp2875, ⟨o, nm, b, wk, f69, f70, hbr, (by omega), hwk, ho2876, ⟨tp, tx, h2909, h2910, (fun k h1 h2 => absurd h2 (by omega))⟩, hg_b.fr hF (fun q h1 h2 => by omega), ⟨tT, nn2872, tU, nu2873, h2911, ha2877, h2912, ha2878, hTT, hTU⟩, hg_c.fr hF (fun q h1 h2 => by omega), hg_n.fr hF (fun q h1 h2 => by omega), hg_p.fr hF (fun q h1 h2 => by omega), hg_v.fr hF (fun q h1 h2 => by omega), hg_w.fr hF (fun q h1 h2 => by omega)⟩, (X_Fr.rf).tr (X_Fr.mono ⟨hf2879.1, hf2879.2⟩ (fun q hq => (by omega)))⟩
  · skip
    rw [hv2892]
    have hF : X_Fr (fun q => q = 530 ∨ (548 ≤ q ∧ q ≤ 556)) S S2870 := (X_Fr.rf).tr (X_Fr.mono ⟨hf2908.1, hf2908.2⟩ (fun q hq => (by omega)))
    have h2913 := (hf2908.1 531 (by omega)).trans (hc531)
    have h2914 := (hf2908.1 532 (by omega)).trans (hc532)
    exact Or.inr ⟨n2880, z2881, t2882, rfl, hp2893, hp2894, ⟨o, nm, b, 0, f69, f70, hbr, (by omega), (Or.inr ⟨rfl, rfl, rfl⟩), ho2898, ⟨tp, tx, h2913, h2914, (fun k h1 h2 => absurd h2 (by omega))⟩, (hg_b.fr hF (fun q h1 h2 => by omega)).text, ⟨tT2883, nn2884, tU2890, nu2891, ha2899, ha2900, ha2901, ha2902, hp2895, hp2896⟩, ⟨oW2885, oK2886, oH2887, rx2888, rx2889, ha2903, ha2904, ha2905, ha2906, ha2907, hp2897⟩, ⟨nW, nF, nL, nP, nH, (hF.1 557 (by omega)).trans hc557, (hF.1 558 (by omega)).trans hc558, (hF.1 559 (by omega)).trans hc559, (hF.1 560 (by omega)).trans hc560, (hF.1 561 (by omega)).trans hc561, (fun n h1 h2 => absurd h2 (by omega))⟩, hg_p.fr hF (fun q h1 h2 => by omega), (hg_v.fr hF (fun q h1 h2 => by omega)).text, hg_w.fr hF (fun q h1 h2 => by omega)⟩, (X_Fr.rf).tr (X_Fr.mono ⟨hf2908.1, hf2908.2⟩ (fun q hq => (by omega)))⟩
theorem m_read (sc : X_Sc) (S : X_S) (len : Int) (tb : Int → Int) (rc : Int) (G : X_G) (tn : Int) (nc : Int) (N : Int → Int → Int) (rs : Int) (re : Int) (kk : Int) (hI : X_IR S len tb rc G tn nc N rs re) (hA : X_Ao len tb G tn nc N) (hkr : -9223372036854775808 ≤ kk ∧ kk ≤ 9223372036854775807) : X_T sc 186 (0, [(0, .ref 530), (1, .long (iL kk))], [], S) (fun v S' => (v = some (.int (iI (-1))) ∧ ¬ X_qRk G tn kk ∧ X_IR S' len tb rc G tn nc N rs re ∧ (X_Fr (fun q => 530 ≤ q ∧ q ≤ 579) S S')) ∨ (∃ (r1 : Int) (St1 : Int → X_It) (nc1 : Int) (N1 : Int → Int → Int), v = some (.int (iI nc1)) ∧ X_qRk G tn kk ∧ X_rd G tn kk.toNat = (r1, St1, nc1, N1) ∧ X_IR S' len tb rc G tn nc1 N1 0 (-1) ∧ (X_Fr (fun q => 530 ≤ q ∧ q ≤ 579) S S'))) := by
  obtain ⟨o, nm, b, wk, f69, f70, hbr, hwr, hwk, hc530, hg_t, hg_b, hg_s, hg_c, hg_n, hg_p, hg_v, hg_w⟩ := hI
  obtain ⟨hl, htb, hG, hGs, htn, hR, h40⟩ := hA
  have hRn := hR.1
  have hh_b := hg_b
  obtain ⟨KO, rN, kN, tg, kU, wR, wL, wK, wM, wH, wS, sO, sN, eP, eH, hK, hc533, hc534, hc535, hc536, hc537, hc538, hc539, hc540, hc541, hc542, hc543, hc544, hc545, hc546, hc547, hOk, hO4, hO, hKG⟩ := hh_b
  have hh_s := hg_s
  obtain ⟨tT, nn, tU, nu, hc548, hc549, hc550, hc551, hTT, hTU⟩ := hh_s
  have hh_c := hg_c
  obtain ⟨oW, oK, oH, r1, r2, hc552, hc553, hc554, hc555, hc556, hCt⟩ := hh_c
  have hh_n := hg_n
  obtain ⟨nW, nF, nL, nP, nH, hc557, hc558, hc559, hc560, hc561, hnd⟩ := hh_n
  have hh_p := hg_p
  obtain ⟨pF, pT, pS, pH, pW, pP, pQ, pN, cF, cT, cN, rr, hc562, hc563, hc564, hc565, hc566, hc567, hc568, hc569, hc570, hc571, hc572, hc573⟩ := hh_p
  obtain ⟨hrc, hKU, hTG, hWR, hWL, hWK, hWM, hWH, hWS, hEP, hEH, hHK, hST⟩ := R_bk.hyps hO hOk hKG
  refine X_QI (fun Q hQ => ?_)
  refine T_mono (r_read sc S tg kU wR wL wK wM wH eP eH hK tT tU oW oK oH nW nF nL nP nH pF pT pS pH pW pP pQ pN cF cT cN rr (X_ou (X_ou (X_ou (X_ou (X_ou (X_ou (X_ou (X_ou o 1 len) 31 rc) 32 (gk G)) 33 (gw G)) 49 nc) 68 wk) 69 f69) 70 f70) nm b rc G tn kk hc530 hc535 hc536 hc537 hc538 hc539 hc540 hc541 hc545 hc546 hc547 hc548 hc550 hc552 hc553 hc554 hc557 hc558 hc559 hc560 hc561 hc562 hc563 hc564 hc565 hc566 hc567 hc568 hc569 hc570 hc571 hc572 hc573 hbr hG (by omega) hTU hTT hKU hTG hWR hWL hWK hWM hWH hEP hEH hHK hCt (by omega)) (fun v2915 S2916 h2917 => hQ _ _ ?_)
  rcases h2917 with ⟨hv2918, hp2919, hf2920⟩ | ⟨r2921, nc2922, St2923, N2924, nW2925, nF2926, nL2927, nP2928, nH2929, pF2930, pT2931, pS2932, pH2933, pW2934, pP2935, pQ2936, pN2937, cF2938, cT2939, cN2940, rr2941, hv2942, hp2943, hp2944, hp2945, ho2946, ha2947, ha2948, ha2949, ha2950, ha2951, ha2952, ha2953, ha2954, ha2955, ha2956, ha2957, ha2958, ha2959, ha2960, ha2961, ha2962, ha2963, hf2964⟩
  · skip
    rw [hv2918]
    rw [hf2920]
    exact Or.inl ⟨rfl, hp2919, ⟨o, nm, b, wk, f69, f70, hbr, (by omega), hwk, hc530, hg_t, hg_b, hg_s, hg_c, hg_n, hg_p, hg_v, hg_w⟩, X_Fr.rf⟩
  · skip
    rw [hv2942]
    have hF : X_Fr (fun q => q = 530 ∨ (557 ≤ q ∧ q ≤ 573)) S S2916 := (X_Fr.rf).tr (X_Fr.mono ⟨hf2964.1, hf2964.2⟩ (fun q hq => (by omega)))
    exact Or.inr ⟨r2921, St2923, nc2922, N2924, rfl, hp2943, hp2944, ⟨X_ou o 58 r2921, nm, b, 0, f69, f70, hbr, (by omega), (Or.inr ⟨rfl, rfl, rfl⟩), ho2946, hg_t.fr hF (fun q h1 h2 => by omega), hg_b.fr hF (fun q h1 h2 => by omega), hg_s.fr hF (fun q h1 h2 => by omega), hg_c.fr hF (fun q h1 h2 => by omega), ⟨nW2925, nF2926, nL2927, nP2928, nH2929, ha2947, ha2948, ha2949, ha2950, ha2951, hp2945⟩, ⟨pF2930, pT2931, pS2932, pH2933, pW2934, pP2935, pQ2936, pN2937, cF2938, cT2939, cN2940, rr2941, ha2952, ha2953, ha2954, ha2955, ha2956, ha2957, ha2958, ha2959, ha2960, ha2961, ha2962, ha2963⟩, hg_v.fr hF (fun q h1 h2 => by omega), hg_w.fr hF (fun q h1 h2 => by omega)⟩, (X_Fr.rf).tr (X_Fr.mono ⟨hf2964.1, hf2964.2⟩ (fun q hq => (by omega)))⟩
