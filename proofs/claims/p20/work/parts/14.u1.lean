def X_ICa (S : X_S) (B : Nat) (B2 : Nat) (len : Int) (tb : Int → Int) : Prop := S.1 1 = .inr (10, [.ref 2, .ref B, .ref B2, .ref 496, .ref 501, .ref 504, .ref 511, .ref 517, .ref 527]) ∧ S.1 2 = .inr (7, [.ref 3, .int (iI len)]) ∧ S.1 3 = .inl (.byte, 2000, .inl fun k : Nat => iI (tb (k : Int)))
theorem X_ICa.fr {S S' : X_S} {B : Nat} {B2 : Nat} {len : Int} {tb : Int → Int} {P : Nat → Prop} (h : X_ICa S B B2 len tb) (hf : X_Fr P S S') (hp : ∀ q, 1 ≤ q → q ≤ 3 → ¬ P q) : X_ICa S' B B2 len tb := by
  obtain ⟨hc1, hc2, hc3⟩ := h
  exact ⟨(hf.1 1 (hp 1 (by omega) (by omega))).trans hc1, (hf.1 2 (hp 2 (by omega) (by omega))).trans hc2, (hf.1 3 (hp 3 (by omega) (by omega))).trans hc3⟩
def X_ICp (S : X_S)  : Prop := ∃ (B0 : Nat) (fl0 : Int) (fp0 : Int) (at0 : Int) (n0 : Int) (cur0 : Int) (so0 : Int → Int) (pl0 : Int → Int) (ct0 : Int → Int64), C_pa S B0 fl0 fp0 ∧ C_lx S at0 n0 cur0 so0 pl0 ct0
theorem X_ICp.fr {S S' : X_S}  {P : Nat → Prop} (h : X_ICp S ) (hf : X_Fr P S S') (hp : ∀ q, 496 ≤ q → q ≤ 500 → ¬ P q) : X_ICp S'  := by
  obtain ⟨B0, fl0, fp0, at0, n0, cur0, so0, pl0, ct0, hp0, hx0⟩ := h
  exact ⟨B0, fl0, fp0, at0, n0, cur0, so0, pl0, ct0, (hf.1 496 (hp 496 (by omega) (by omega))).trans hp0, ⟨(hf.1 497 (hp 497 (by omega) (by omega))).trans hx0.1, (hf.1 498 (hp 498 (by omega) (by omega))).trans hx0.2.1, (hf.1 499 (hp 499 (by omega) (by omega))).trans hx0.2.2.1, (hf.1 500 (hp 500 (by omega) (by omega))).trans hx0.2.2.2⟩⟩
def X_ICb (S : X_S) (B : Nat) (rc : Int) (G : X_G) : Prop := ∃ (rn : Int → Int64) (kn : Int → Int64), C_bk S B rc (gk G) (gw G) rn (gl G) kn (ga G) ∧ C_ws S B (gD G) (gW G)
theorem X_ICb.fr {S S' : X_S} {B : Nat} {rc : Int} {G : X_G} {P : Nat → Prop} (h : X_ICb S B rc G) (hf : X_Fr P S S') (hp : ∀ q, B ≤ q → q ≤ B + 245 → ¬ P q) : X_ICb S' B rc G := by
  obtain ⟨rn, kn, hb, hs⟩ := h
  exact ⟨rn, kn, hb.fr hf (fun k hk => hp _ (by omega) (by omega)), hs.fr hf (fun k h1 h2 => hp _ (by omega) (by omega))⟩
def X_ICd (S : X_S) (B2 : Nat) : Prop := ∃ (rc2 : Int) (kc2 : Int) (wc2 : Int) (rn2 : Int → Int64) (lo2 : Int → Int) (kn2 : Int → Int64) (ab2 : Int → Int) (D2 : Int → Nat → Int → Int) (W2 : Int → Int → Int64), C_bk S B2 rc2 kc2 wc2 rn2 lo2 kn2 ab2 ∧ C_ws S B2 D2 W2
theorem X_ICd.fr {S S' : X_S} {B2 : Nat} {P : Nat → Prop} (h : X_ICd S B2) (hf : X_Fr P S S') (hp : ∀ q, B2 ≤ q → q ≤ B2 + 245 → ¬ P q) : X_ICd S' B2 := by
  obtain ⟨rc2, kc2, wc2, rn2, lo2, kn2, ab2, D2, W2, hb2, hs2⟩ := h
  exact ⟨rc2, kc2, wc2, rn2, lo2, kn2, ab2, D2, W2, hb2.fr hf (fun k hk => hp _ (by omega) (by omega)), hs2.fr hf (fun k h1 h2 => hp _ (by omega) (by omega))⟩
def X_ICs (S : X_S) (G : X_G) (tn : Int) : Prop := ∃ (dr : Int → Int64), S.1 501 = .inr (6, [.int (iI tn), .ref 502, .ref 503]) ∧ S.1 502 = .inl (.long, 30, .inr (.inl fun k : Nat => (gt G) (k : Int))) ∧ S.1 503 = .inl (.long, 30, .inr (.inl fun k : Nat => dr (k : Int)))
theorem X_ICs.fr {S S' : X_S} {G : X_G} {tn : Int} {P : Nat → Prop} (h : X_ICs S G tn) (hf : X_Fr P S S') (hp : ∀ q, 501 ≤ q → q ≤ 503 → ¬ P q) : X_ICs S' G tn := by
  obtain ⟨dr, hc501, hc502, hc503⟩ := h
  exact ⟨dr, (hf.1 501 (hp 501 (by omega) (by omega))).trans hc501, (hf.1 502 (hp 502 (by omega) (by omega))).trans hc502, (hf.1 503 (hp 503 (by omega) (by omega))).trans hc503⟩
def X_ICr (S : X_S) (nc : Int) (N : Int → Int → Int) : Prop := ∃ (nW : Int → Int) (nF : Int → Int) (nL : Int → Int) (nP : Int → Int) (nH : Int → Int) (nC : Int → Int), S.1 504 = .inr (5, [.int (iI nc), .ref 505, .ref 506, .ref 507, .ref 508, .ref 509, .ref 510]) ∧ S.1 505 = .inl (.int, 30, .inl fun k : Nat => iI (nW (k : Int))) ∧ S.1 506 = .inl (.int, 30, .inl fun k : Nat => iI (nF (k : Int))) ∧ S.1 507 = .inl (.int, 30, .inl fun k : Nat => iI (nL (k : Int))) ∧ S.1 508 = .inl (.int, 30, .inl fun k : Nat => iI (nP (k : Int))) ∧ S.1 509 = .inl (.int, 30, .inl fun k : Nat => iI (nH (k : Int))) ∧ S.1 510 = .inl (.int, 120, .inl fun k : Nat => iI (nC (k : Int))) ∧ F_nd nc N nW nF nL nP nH ∧ F_ch nc N nC
theorem X_ICr.fr {S S' : X_S} {nc : Int} {N : Int → Int → Int} {P : Nat → Prop} (h : X_ICr S nc N) (hf : X_Fr P S S') (hp : ∀ q, 504 ≤ q → q ≤ 510 → ¬ P q) : X_ICr S' nc N := by
  obtain ⟨nW, nF, nL, nP, nH, nC, hc504, hc505, hc506, hc507, hc508, hc509, hc510, hnd, hch⟩ := h
  exact ⟨nW, nF, nL, nP, nH, nC, (hf.1 504 (hp 504 (by omega) (by omega))).trans hc504, (hf.1 505 (hp 505 (by omega) (by omega))).trans hc505, (hf.1 506 (hp 506 (by omega) (by omega))).trans hc506, (hf.1 507 (hp 507 (by omega) (by omega))).trans hc507, (hf.1 508 (hp 508 (by omega) (by omega))).trans hc508, (hf.1 509 (hp 509 (by omega) (by omega))).trans hc509, (hf.1 510 (hp 510 (by omega) (by omega))).trans hc510, hnd, hch⟩
def X_ICc (S : X_S) (B : Nat) (G : X_G) (tn : Int) : Prop := ∃ (fl : Int) (oK : Int → Int64) (oW : Int → Int64) (oA : Int → Int64) (oH : Int → Int64) (tl : Int → Int64), S.1 511 = .inr (1, [.ref B, .ref 501, .int (iI fl), .ref 512, .ref 513, .ref 514, .ref 515, .ref 516]) ∧ S.1 512 = .inl (.long, 5115, .inr (.inl fun k : Nat => oK (k : Int))) ∧ S.1 513 = .inl (.long, 13950, .inr (.inl fun k : Nat => oW (k : Int))) ∧ S.1 514 = .inl (.long, 465, .inr (.inl fun k : Nat => oA (k : Int))) ∧ S.1 515 = .inl (.long, 55800, .inr (.inl fun k : Nat => oH (k : Int))) ∧ S.1 516 = .inl (.long, 7200, .inr (.inl fun k : Nat => tl (k : Int))) ∧ (0 ≤ fl ∧ fl ≤ 1) ∧ (fl = 1 → X_cht G (-2) tn oK oW oA oH)
theorem X_ICc.fr {S S' : X_S} {B : Nat} {G : X_G} {tn : Int} {P : Nat → Prop} (h : X_ICc S B G tn) (hf : X_Fr P S S') (hp : ∀ q, 511 ≤ q → q ≤ 516 → ¬ P q) : X_ICc S' B G tn := by
  obtain ⟨fl, oK, oW, oA, oH, tl, hc511, hc512, hc513, hc514, hc515, hc516, hfl, hC⟩ := h
  exact ⟨fl, oK, oW, oA, oH, tl, (hf.1 511 (hp 511 (by omega) (by omega))).trans hc511, (hf.1 512 (hp 512 (by omega) (by omega))).trans hc512, (hf.1 513 (hp 513 (by omega) (by omega))).trans hc513, (hf.1 514 (hp 514 (by omega) (by omega))).trans hc514, (hf.1 515 (hp 515 (by omega) (by omega))).trans hc515, (hf.1 516 (hp 516 (by omega) (by omega))).trans hc516, hfl, hC⟩
def X_ICf (S : X_S)  : Prop := ∃ (wt : Int) (fF : Int → Int) (fE : Int → Int) (fP : Int → Int) (fH : Int → Int) (fW : Int → Int) (fK : Int → Int) (fN : Int → Int64) (hF : Int → Int) (hE : Int → Int), S.1 517 = .inr (2, [.ref 511, .ref 501, .ref 504, .int (iI wt), .ref 518, .ref 519, .ref 520, .ref 521, .ref 522, .ref 523, .ref 524, .ref 525, .ref 526]) ∧ S.1 518 = .inl (.int, 30, .inl fun k : Nat => iI (fF (k : Int))) ∧ S.1 519 = .inl (.int, 30, .inl fun k : Nat => iI (fE (k : Int))) ∧ S.1 520 = .inl (.int, 30, .inl fun k : Nat => iI (fP (k : Int))) ∧ S.1 521 = .inl (.int, 30, .inl fun k : Nat => iI (fH (k : Int))) ∧ S.1 522 = .inl (.int, 30, .inl fun k : Nat => iI (fW (k : Int))) ∧ S.1 523 = .inl (.int, 30, .inl fun k : Nat => iI (fK (k : Int))) ∧ S.1 524 = .inl (.long, 30, .inr (.inl fun k : Nat => fN (k : Int))) ∧ S.1 525 = .inl (.int, 4, .inl fun k : Nat => iI (hF (k : Int))) ∧ S.1 526 = .inl (.int, 4, .inl fun k : Nat => iI (hE (k : Int)))
theorem X_ICf.fr {S S' : X_S}  {P : Nat → Prop} (h : X_ICf S ) (hf : X_Fr P S S') (hp : ∀ q, 517 ≤ q → q ≤ 526 → ¬ P q) : X_ICf S'  := by
  obtain ⟨wt, fF, fE, fP, fH, fW, fK, fN, hF, hE, hc517, hc518, hc519, hc520, hc521, hc522, hc523, hc524, hc525, hc526⟩ := h
  exact ⟨wt, fF, fE, fP, fH, fW, fK, fN, hF, hE, (hf.1 517 (hp 517 (by omega) (by omega))).trans hc517, (hf.1 518 (hp 518 (by omega) (by omega))).trans hc518, (hf.1 519 (hp 519 (by omega) (by omega))).trans hc519, (hf.1 520 (hp 520 (by omega) (by omega))).trans hc520, (hf.1 521 (hp 521 (by omega) (by omega))).trans hc521, (hf.1 522 (hp 522 (by omega) (by omega))).trans hc522, (hf.1 523 (hp 523 (by omega) (by omega))).trans hc523, (hf.1 524 (hp 524 (by omega) (by omega))).trans hc524, (hf.1 525 (hp 525 (by omega) (by omega))).trans hc525, (hf.1 526 (hp 526 (by omega) (by omega))).trans hc526⟩
def X_ICw (S : X_S) (rs : Int) (re : Int) : Prop := ∃ (hgt : Int) (vs : Int → Int) (pl : Int → Int), S.1 527 = .inr (9, [.ref 501, .ref 504, .int (iI rs), .int (iI re), .ref 528, .ref 529, .int (iI hgt)]) ∧ S.1 528 = .inl (.int, 30, .inl fun k : Nat => iI (vs (k : Int))) ∧ S.1 529 = .inl (.int, 16, .inl fun k : Nat => iI (pl (k : Int)))
theorem X_ICw.fr {S S' : X_S} {rs : Int} {re : Int} {P : Nat → Prop} (h : X_ICw S rs re) (hf : X_Fr P S S') (hp : ∀ q, 527 ≤ q → q ≤ 529 → ¬ P q) : X_ICw S' rs re := by
  obtain ⟨hgt, vs, pl, hc527, hc528, hc529⟩ := h
  exact ⟨hgt, vs, pl, (hf.1 527 (hp 527 (by omega) (by omega))).trans hc527, (hf.1 528 (hp 528 (by omega) (by omega))).trans hc528, (hf.1 529 (hp 529 (by omega) (by omega))).trans hc529⟩
def X_IC (S : X_S) (len : Int) (tb : Int → Int) (rc : Int) (G : X_G) (tn : Int) (nc : Int) (N : Int → Int → Int) (rs : Int) (re : Int) : Prop :=
  ∃ (B : Nat) (B2 : Nat), ((B = 4 ∧ B2 = 250) ∨ (B = 250 ∧ B2 = 4)) ∧ X_ICa S B B2 len tb ∧ X_ICp S  ∧ X_ICb S B rc G ∧ X_ICd S B2 ∧ X_ICs S G tn ∧ X_ICr S nc N ∧ X_ICc S B G tn ∧ X_ICf S  ∧ X_ICw S rs re
theorem X_IC.fr {S S' : X_S} {len : Int} {tb : Int → Int} {rc : Int} {G : X_G} {tn : Int} {nc : Int} {N : Int → Int → Int} {rs : Int} {re : Int} {P : Nat → Prop} (hI : X_IC S len tb rc G tn nc N rs re) (hf : X_Fr P S S') (hp : ∀ q, 1 ≤ q → q < 530 → ¬ P q) : X_IC S' len tb rc G tn nc N rs re := by
  obtain ⟨B, B2, hB_, hg_a, hg_p, hg_b, hg_d, hg_s, hg_r, hg_c, hg_f, hg_w⟩ := hI
  exact ⟨B, B2, hB_, hg_a.fr hf (fun q h1 h2 => hp q (by omega) (by omega)), hg_p.fr hf (fun q h1 h2 => hp q (by omega) (by omega)), hg_b.fr hf (fun q h1 h2 => hp q (by omega) (by omega)), hg_d.fr hf (fun q h1 h2 => hp q (by omega) (by omega)), hg_s.fr hf (fun q h1 h2 => hp q (by omega) (by omega)), hg_r.fr hf (fun q h1 h2 => hp q (by omega) (by omega)), hg_c.fr hf (fun q h1 h2 => hp q (by omega) (by omega)), hg_f.fr hf (fun q h1 h2 => hp q (by omega) (by omega)), hg_w.fr hf (fun q h1 h2 => hp q (by omega) (by omega))⟩
theorem X_ICc.bind {S : X_S} {B : Nat} {G : X_G} {tn w vl : Int} (h : X_ICc S B G tn) : X_ICc S B (X_Gb G w vl) tn := by
  obtain ⟨fl, oK, oW, oA, oH, tl, h1, h2, h3, h4, h5, h6, h7, hC⟩ := h
  exact ⟨fl, oK, oW, oA, oH, tl, h1, h2, h3, h4, h5, h6, h7, fun z => X_cht_dr.mp (by rw [X_Gb_dr]; exact X_cht_dr.mpr (hC z))⟩
theorem k_feed (sc : X_Sc) (S : X_S) (len : Int) (tb : Int → Int) (rc : Int) (G : X_G) (tn : Int) (nc : Int) (N : Int → Int → Int) (rs : Int) (re : Int) (a : Int) (b : Int) (c : Int) (d : Int) (e : Int) (hI : X_IC S len tb rc G tn nc N rs re) (hA : X_Ao len tb G tn nc N) : X_T sc 101 (0, [(0, .ref 1), (1, .int (iI a)), (2, .int (iI b)), (3, .int (iI c)), (4, .int (iI d)), (5, .int (iI e))], [], S) (fun v S' => (v = some (.int (iI (-1))) ∧ 2000 < len + 20 ∧ X_IC S' len tb rc G tn nc N rs re ∧ (X_Fr (fun q => 1 ≤ q ∧ q < 530) S S')) ∨ (v = some (.int (iI (len + 20))) ∧ len + 20 ≤ 2000 ∧ X_IC S' (len + 20) (X_fd5 tb len a b c d e) rc G tn nc N rs re ∧ (X_Fr (fun q => 1 ≤ q ∧ q < 530) S S'))) := by
  obtain ⟨B, B2, hB_, hg_a, hg_p, hg_b, hg_d, hg_s, hg_r, hg_c, hg_f, hg_w⟩ := hI
  obtain ⟨hl, htb, hG, hGs, htn, hR, h40⟩ := hA
  have hRn := hR.1
  have hh_a := hg_a
  obtain ⟨hc1, hc2, hc3⟩ := hh_a
  refine X_QI (fun Q hQ => ?_)
  refine T_mono (c_feed sc S tb len B2 B a b c d e hc1 hc2 hc3 (by omega)) (fun v2339 S2340 h2341 => hQ _ _ ?_)
  rcases h2341 with ⟨hv2342, hp2343, hf2344⟩ | ⟨hv2345, hp2346, ho2347, ha2348, hf2349⟩
  · skip
    rw [hv2342]
    rw [hf2344]
    exact Or.inl ⟨rfl, hp2343, ⟨B, B2, hB_, hg_a, hg_p, hg_b, hg_d, hg_s, hg_r, hg_c, hg_f, hg_w⟩, X_Fr.rf⟩
  · skip
    rw [hv2345]
    have hF : X_Fr (fun q => q = 3 ∨ q = 2) S S2340 := (X_Fr.rf).tr (X_Fr.mono ⟨hf2349.1, hf2349.2⟩ (fun q hq => (by omega)))
    have h2350 := (hf2349.1 1 (by omega)).trans (hc1)
    exact Or.inr ⟨rfl, hp2346, ⟨B, B2, hB_, ⟨h2350, ho2347, ha2348⟩, hg_p.fr hF (fun q h1 h2 => by omega), hg_b.fr hF (fun q h1 h2 => by omega), hg_d.fr hF (fun q h1 h2 => by omega), hg_s.fr hF (fun q h1 h2 => by omega), hg_r.fr hF (fun q h1 h2 => by omega), hg_c.fr hF (fun q h1 h2 => by omega), hg_f.fr hF (fun q h1 h2 => by omega), hg_w.fr hF (fun q h1 h2 => by omega)⟩, (X_Fr.rf).tr (X_Fr.mono ⟨hf2349.1, hf2349.2⟩ (fun q hq => (by omega)))⟩
theorem k_end (sc : X_Sc) (S : X_S) (len : Int) (tb : Int → Int) (rc : Int) (G : X_G) (tn : Int) (nc : Int) (N : Int → Int → Int) (rs : Int) (re : Int) (n : Int) (hI : X_IC S len tb rc G tn nc N rs re) (hA : X_Ao len tb G tn nc N) (hr_n : -2147483648 ≤ n ∧ n ≤ 2147483647) : X_T sc 102 (0, [(0, .ref 1), (1, .int (iI n))], [], S) (fun v S' => (v = some (.int (iI (-1))) ∧ (n < 0 ∨ len < n) ∧ X_IC S' len tb rc G tn nc N rs re ∧ (X_Fr (fun q => 1 ≤ q ∧ q < 530) S S')) ∨ (v = some (.int (iI n)) ∧ (0 ≤ n ∧ n ≤ len) ∧ X_IC S' n tb rc G tn nc N rs re ∧ (X_Fr (fun q => 1 ≤ q ∧ q < 530) S S'))) := by
  obtain ⟨B, B2, hB_, hg_a, hg_p, hg_b, hg_d, hg_s, hg_r, hg_c, hg_f, hg_w⟩ := hI
  obtain ⟨hl, htb, hG, hGs, htn, hR, h40⟩ := hA
  have hRn := hR.1
  have hh_a := hg_a
  obtain ⟨hc1, hc2, hc3⟩ := hh_a
  refine X_QI (fun Q hQ => ?_)
  refine T_mono (c_end sc S len B2 B n hc1 hc2 (by omega) (by omega)) (fun v2351 S2352 h2353 => hQ _ _ ?_)
  rcases h2353 with ⟨hv2354, hp2355, hf2356⟩ | ⟨hv2357, hp2358, ho2359, hf2360⟩
  · skip
    rw [hv2354]
    rw [hf2356]
    exact Or.inl ⟨rfl, hp2355, ⟨B, B2, hB_, hg_a, hg_p, hg_b, hg_d, hg_s, hg_r, hg_c, hg_f, hg_w⟩, X_Fr.rf⟩
  · skip
    rw [hv2357]
    have hF : X_Fr (fun q => q = 2) S S2352 := (X_Fr.rf).tr (X_Fr.mono ⟨hf2360.1, hf2360.2⟩ (fun q hq => (by omega)))
    have h2361 := (hf2360.1 1 (by omega)).trans (hc1)
    have h2362 := (hf2360.1 3 (by omega)).trans (hc3)
    exact Or.inr ⟨rfl, hp2358, ⟨B, B2, hB_, ⟨h2361, ho2359, h2362⟩, hg_p.fr hF (fun q h1 h2 => by omega), hg_b.fr hF (fun q h1 h2 => by omega), hg_d.fr hF (fun q h1 h2 => by omega), hg_s.fr hF (fun q h1 h2 => by omega), hg_r.fr hF (fun q h1 h2 => by omega), hg_c.fr hF (fun q h1 h2 => by omega), hg_f.fr hF (fun q h1 h2 => by omega), hg_w.fr hF (fun q h1 h2 => by omega)⟩, (X_Fr.rf).tr (X_Fr.mono ⟨hf2360.1, hf2360.2⟩ (fun q hq => (by omega)))⟩
theorem k_about (sc : X_Sc) (S : X_S) (len : Int) (tb : Int → Int) (rc : Int) (G : X_G) (tn : Int) (nc : Int) (N : Int → Int → Int) (rs : Int) (re : Int) (w : Int) (hI : X_IC S len tb rc G tn nc N rs re) (hA : X_Ao len tb G tn nc N) (hr_w : -2147483648 ≤ w ∧ w ≤ 2147483647) : X_T sc 104 (0, [(0, .ref 1), (1, .int (iI w))], [], S) (fun v S' => v = some (.int (iI (X_qAb rc (gk G) (gw G) tn nc len w))) ∧ X_IC S' len tb rc G tn nc N rs re ∧ (X_Fr (fun q => 1 ≤ q ∧ q < 530) S S')) := by
  obtain ⟨B, B2, hB_, hg_a, hg_p, hg_b, hg_d, hg_s, hg_r, hg_c, hg_f, hg_w⟩ := hI
  obtain ⟨hl, htb, hG, hGs, htn, hR, h40⟩ := hA
  have hRn := hR.1
  have hh_a := hg_a
  obtain ⟨hc1, hc2, hc3⟩ := hh_a
  have hh_b := hg_b
  obtain ⟨rn, kn, hb, hs⟩ := hh_b
  have hh_s := hg_s
  obtain ⟨dr, hc501, hc502, hc503⟩ := hh_s
  have hh_r := hg_r
  obtain ⟨nW, nF, nL, nP, nH, nC, hc504, hc505, hc506, hc507, hc508, hc509, hc510, hnd, hch⟩ := hh_r
  refine X_QI (fun Q hQ => ?_)
  refine T_mono (c_about sc S B rc rn kn G B2 tn nc len w hc1 hc2 hc501 hc504 (by omega) hb hs (by omega)) (fun v2363 S2364 h2365 => hQ _ _ ?_)
  rcases h2365 with ⟨hv2366, hf2367⟩
  skip
  rw [hv2366]
  rw [hf2367]
  exact ⟨rfl, ⟨B, B2, hB_, hg_a, hg_p, hg_b, hg_d, hg_s, hg_r, hg_c, hg_f, hg_w⟩, X_Fr.rf⟩
theorem k_word (sc : X_Sc) (S : X_S) (len : Int) (tb : Int → Int) (rc : Int) (G : X_G) (tn : Int) (nc : Int) (N : Int → Int → Int) (rs : Int) (re : Int) (w : Int) (wh : Int) (hI : X_IC S len tb rc G tn nc N rs re) (hA : X_Ao len tb G tn nc N) (hr_w : -2147483648 ≤ w ∧ w ≤ 2147483647) (hr_wh : -2147483648 ≤ wh ∧ wh ≤ 2147483647) : X_T sc 105 (0, [(0, .ref 1), (1, .int (iI w)), (2, .int (iI wh))], [], S) (fun v S' => v = some (.int (iI (X_qWd G w wh))) ∧ X_IC S' len tb rc G tn nc N rs re ∧ (X_Fr (fun q => 1 ≤ q ∧ q < 530) S S')) := by
  obtain ⟨B, B2, hB_, hg_a, hg_p, hg_b, hg_d, hg_s, hg_r, hg_c, hg_f, hg_w⟩ := hI
  obtain ⟨hl, htb, hG, hGs, htn, hR, h40⟩ := hA
  have hRn := hR.1
  have hh_a := hg_a
  obtain ⟨hc1, hc2, hc3⟩ := hh_a
  have hh_b := hg_b
  obtain ⟨rn, kn, hb, hs⟩ := hh_b
  refine X_QI (fun Q hQ => ?_)
  refine T_mono (c_word sc S B rc rn kn G B2 w wh hc1 (by omega) hb hs (by omega) (by omega)) (fun v2368 S2369 h2370 => hQ _ _ ?_)
  rcases h2370 with ⟨hv2371, hf2372⟩
  skip
  rw [hv2371]
  rw [hf2372]
  exact ⟨rfl, ⟨B, B2, hB_, hg_a, hg_p, hg_b, hg_d, hg_s, hg_r, hg_c, hg_f, hg_w⟩, X_Fr.rf⟩
theorem k_node (sc : X_Sc) (S : X_S) (len : Int) (tb : Int → Int) (rc : Int) (G : X_G) (tn : Int) (nc : Int) (N : Int → Int → Int) (rs : Int) (re : Int) (n : Int) (wh : Int) (hI : X_IC S len tb rc G tn nc N rs re) (hA : X_Ao len tb G tn nc N) (hr_n : -2147483648 ≤ n ∧ n ≤ 2147483647) (hr_wh : -2147483648 ≤ wh ∧ wh ≤ 2147483647) : X_T sc 110 (0, [(0, .ref 1), (1, .int (iI n)), (2, .int (iI wh))], [], S) (fun v S' => v = some (.int (iI (X_qNd nc N n wh))) ∧ X_IC S' len tb rc G tn nc N rs re ∧ (X_Fr (fun q => 1 ≤ q ∧ q < 530) S S')) := by
  obtain ⟨B, B2, hB_, hg_a, hg_p, hg_b, hg_d, hg_s, hg_r, hg_c, hg_f, hg_w⟩ := hI
  obtain ⟨hl, htb, hG, hGs, htn, hR, h40⟩ := hA
  have hRn := hR.1
  have hh_a := hg_a
  obtain ⟨hc1, hc2, hc3⟩ := hh_a
  have hh_r := hg_r
  obtain ⟨nW, nF, nL, nP, nH, nC, hc504, hc505, hc506, hc507, hc508, hc509, hc510, hnd, hch⟩ := hh_r
  refine X_QI (fun Q hQ => ?_)
  refine T_mono (c_node sc S nW nF nL nP nH B2 B nc N n wh hc1 hc504 hc505 hc506 hc507 hc508 hc509 (by omega) (by omega) (by omega) hnd) (fun v2373 S2374 h2375 => hQ _ _ ?_)
  rcases h2375 with ⟨hv2376, hf2377⟩
  skip
  rw [hv2376]
  rw [hf2377]
  exact ⟨rfl, ⟨B, B2, hB_, hg_a, hg_p, hg_b, hg_d, hg_s, hg_r, hg_c, hg_f, hg_w⟩, X_Fr.rf⟩
theorem k_count (sc : X_Sc) (S : X_S) (len : Int) (tb : Int → Int) (rc : Int) (G : X_G) (tn : Int) (nc : Int) (N : Int → Int → Int) (rs : Int) (re : Int) (i : Int) (j : Int) (hI : X_IC S len tb rc G tn nc N rs re) (hA : X_Ao len tb G tn nc N) (hr_i : -2147483648 ≤ i ∧ i ≤ 2147483647) (hr_j : -2147483648 ≤ j ∧ j ≤ 2147483647) : X_T sc 107 (0, [(0, .ref 1), (1, .int (iI i)), (2, .int (iI j))], [], S) (fun v S' => v = some (.long (X_qCt G tn i j)) ∧ X_IC S' len tb rc G tn nc N rs re ∧ (X_Fr (fun q => 1 ≤ q ∧ q < 530) S S')) := by
  obtain ⟨B, B2, hB_, hg_a, hg_p, hg_b, hg_d, hg_s, hg_r, hg_c, hg_f, hg_w⟩ := hI
  obtain ⟨hl, htb, hG, hGs, htn, hR, h40⟩ := hA
  have hRn := hR.1
  have hh_a := hg_a
  obtain ⟨hc1, hc2, hc3⟩ := hh_a
  have hh_b := hg_b
  obtain ⟨rn, kn, hb, hs⟩ := hh_b
  have hh_s := hg_s
  obtain ⟨dr, hc501, hc502, hc503⟩ := hh_s
  have hh_c := hg_c
  obtain ⟨fl, oK, oW, oA, oH, tl, hc511, hc512, hc513, hc514, hc515, hc516, hfl, hC⟩ := hh_c
  refine X_QI (fun Q hQ => ?_)
  refine T_mono (c_count sc S oK oW oA oH tl B rc rn kn G B2 tn fl i j hc1 hc501 hc511 hc512 hc513 hc514 hc515 hc516 (by omega) hb hs hG hc502 (by omega) hfl hC (by omega) (by omega)) (fun v2378 S2379 h2380 => hQ _ _ ?_)
  rcases h2380 with ⟨oK2381, oW2382, oA2383, oH2384, tl2385, fl2386, hv2387, hp2388, hp2389, ho2390, ha2391, ha2392, ha2393, ha2394, ha2395, hf2396⟩
  skip
  rw [hv2387]
  have hF : X_Fr (fun q => 511 ≤ q ∧ q ≤ 516) S S2379 := (X_Fr.rf).tr (X_Fr.mono ⟨hf2396.1, hf2396.2⟩ (fun q hq => (by omega)))
  exact ⟨rfl, ⟨B, B2, hB_, hg_a.fr hF (fun q h1 h2 => by omega), hg_p.fr hF (fun q h1 h2 => by omega), hg_b.fr hF (fun q h1 h2 => by omega), hg_d.fr hF (fun q h1 h2 => by omega), hg_s.fr hF (fun q h1 h2 => by omega), hg_r.fr hF (fun q h1 h2 => by omega), ⟨fl2386, oK2381, oW2382, oA2383, oH2384, tl2385, ho2390, ha2391, ha2392, ha2393, ha2394, ha2395, hp2388, hp2389⟩, hg_f.fr hF (fun q h1 h2 => by omega), hg_w.fr hF (fun q h1 h2 => by omega)⟩, (X_Fr.rf).tr (X_Fr.mono ⟨hf2396.1, hf2396.2⟩ (fun q hq => (by omega)))⟩
theorem k_quarrel (sc : X_Sc) (S : X_S) (len : Int) (tb : Int → Int) (rc : Int) (G : X_G) (tn : Int) (nc : Int) (N : Int → Int → Int) (rs : Int) (re : Int) (hI : X_IC S len tb rc G tn nc N rs re) (hA : X_Ao len tb G tn nc N) : X_T sc 108 (0, [(0, .ref 1)], [], S) (fun v S' => ∃ (r : Int), v = some (.int (iI r)) ∧ X_qQu G tn r ∧ X_IC S' len tb rc G tn nc N rs re ∧ (X_Fr (fun q => 1 ≤ q ∧ q < 530) S S')) := by
  obtain ⟨B, B2, hB_, hg_a, hg_p, hg_b, hg_d, hg_s, hg_r, hg_c, hg_f, hg_w⟩ := hI
  obtain ⟨hl, htb, hG, hGs, htn, hR, h40⟩ := hA
  have hRn := hR.1
  have hh_a := hg_a
  obtain ⟨hc1, hc2, hc3⟩ := hh_a
  have hh_b := hg_b
  obtain ⟨rn, kn, hb, hs⟩ := hh_b
  have hh_s := hg_s
  obtain ⟨dr, hc501, hc502, hc503⟩ := hh_s
  have hh_c := hg_c
  obtain ⟨fl, oK, oW, oA, oH, tl, hc511, hc512, hc513, hc514, hc515, hc516, hfl, hC⟩ := hh_c
  refine X_QI (fun Q hQ => ?_)
  refine T_mono (c_quarrel sc S oK oW oA oH tl B rc rn kn G B2 tn fl hc1 hc501 hc511 hc512 hc513 hc514 hc515 hc516 (by omega) hb hs hG hc502 (by omega) hfl hC) (fun v2397 S2398 h2399 => hQ _ _ ?_)
  rcases h2399 with ⟨oK2400, oW2401, oA2402, oH2403, tl2404, fl2405, r2406, hv2407, hp2408, hp2409, hp2410, ho2411, ha2412, ha2413, ha2414, ha2415, ha2416, hf2417⟩
  skip
  rw [hv2407]
  have hF : X_Fr (fun q => 511 ≤ q ∧ q ≤ 516) S S2398 := (X_Fr.rf).tr (X_Fr.mono ⟨hf2417.1, hf2417.2⟩ (fun q hq => (by omega)))
  exact ⟨r2406, rfl, hp2410, ⟨B, B2, hB_, hg_a.fr hF (fun q h1 h2 => by omega), hg_p.fr hF (fun q h1 h2 => by omega), hg_b.fr hF (fun q h1 h2 => by omega), hg_d.fr hF (fun q h1 h2 => by omega), hg_s.fr hF (fun q h1 h2 => by omega), hg_r.fr hF (fun q h1 h2 => by omega), ⟨fl2405, oK2400, oW2401, oA2402, oH2403, tl2404, ho2411, ha2412, ha2413, ha2414, ha2415, ha2416, hp2408, hp2409⟩, hg_f.fr hF (fun q h1 h2 => by omega), hg_w.fr hF (fun q h1 h2 => by omega)⟩, (X_Fr.rf).tr (X_Fr.mono ⟨hf2417.1, hf2417.2⟩ (fun q hq => (by omega)))⟩
theorem k_sentence (sc : X_Sc) (S : X_S) (len : Int) (tb : Int → Int) (rc : Int) (G : X_G) (tn : Int) (nc : Int) (N : Int → Int → Int) (rs : Int) (re : Int) (hI : X_IC S len tb rc G tn nc N rs re) (hA : X_Ao len tb G tn nc N) : X_T sc 106 (0, [(0, .ref 1)], [], S) (fun v S' => (v = some (.int (iI (-1))) ∧ X_sn tb len len.toNat = none ∧ X_IC S' 0 tb rc G tn nc N rs re ∧ (X_Fr (fun q => 1 ≤ q ∧ q < 530) S S')) ∨ (∃ (n1 : Int) (z1 : Int) (t1 : Int → Int64) (ot1 : Int → Int64), v = some (.int (iI n1)) ∧ X_sn tb len len.toNat = some (n1, z1, t1) ∧ (0 ≤ n1 ∧ n1 ≤ 30) ∧ (∀ i, 0 ≤ i → i < n1 → ot1 i = t1 i) ∧ X_IC S' 0 tb rc (X_Gt G ot1) n1 0 N 0 (-1) ∧ (X_Fr (fun q => 1 ≤ q ∧ q < 530) S S'))) := by
  obtain ⟨B, B2, hB_, hg_a, hg_p, hg_b, hg_d, hg_s, hg_r, hg_c, hg_f, hg_w⟩ := hI
  obtain ⟨hl, htb, hG, hGs, htn, hR, h40⟩ := hA
  have hRn := hR.1
  have hh_a := hg_a
  obtain ⟨hc1, hc2, hc3⟩ := hh_a
  have hh_s := hg_s
  obtain ⟨dr, hc501, hc502, hc503⟩ := hh_s
  have hh_r := hg_r
  obtain ⟨nW, nF, nL, nP, nH, nC, hc504, hc505, hc506, hc507, hc508, hc509, hc510, hnd, hch⟩ := hh_r
  have hh_c := hg_c
  obtain ⟨fl, oK, oW, oA, oH, tl, hc511, hc512, hc513, hc514, hc515, hc516, hfl, hC⟩ := hh_c
  have hh_w := hg_w
  obtain ⟨hgt, vs, pl, hc527, hc528, hc529⟩ := hh_w
  refine X_QI (fun Q hQ => ?_)
  refine T_mono (c_sentence sc S (gt G) dr B B2 tn fl nc rs re hgt len tb hc1 hc2 hc501 hc511 hc504 hc527 hc502 hc503 hc3 (by omega)) (fun v2418 S2419 h2420 => hQ _ _ ?_)
  rcases h2420 with ⟨dr2421, hv2422, hp2423, ho2424, ha2425, hf2426⟩ | ⟨n2427, z2428, t2429, ot2430, dr2431, hv2432, hp2433, hp2434, hp2435, ho2436, ho2437, ho2438, ho2439, ho2440, ha2441, ha2442, hf2443⟩
  · skip
    rw [hv2422]
    have hF : X_Fr (fun q => q = 503 ∨ q = 2) S S2419 := (X_Fr.rf).tr (X_Fr.mono ⟨hf2426.1, hf2426.2⟩ (fun q hq => (by omega)))
    have h2444 := (hf2426.1 1 (by omega)).trans (hc1)
    have h2445 := (hf2426.1 3 (by omega)).trans (hc3)
    have h2446 := (hf2426.1 501 (by omega)).trans (hc501)
    have h2447 := (hf2426.1 502 (by omega)).trans (hc502)
    exact Or.inl ⟨rfl, hp2423, ⟨B, B2, hB_, ⟨h2444, ho2424, h2445⟩, hg_p.fr hF (fun q h1 h2 => by omega), hg_b.fr hF (fun q h1 h2 => by omega), hg_d.fr hF (fun q h1 h2 => by omega), ⟨dr2421, h2446, h2447, ha2425⟩, hg_r.fr hF (fun q h1 h2 => by omega), hg_c.fr hF (fun q h1 h2 => by omega), hg_f.fr hF (fun q h1 h2 => by omega), hg_w.fr hF (fun q h1 h2 => by omega)⟩, (X_Fr.rf).tr (X_Fr.mono ⟨hf2426.1, hf2426.2⟩ (fun q hq => (by omega)))⟩
  · skip
    rw [hv2432]
    have hF : X_Fr (fun q => q = 2 ∨ (501 ≤ q ∧ q ≤ 504) ∨ q = 511 ∨ q = 527) S S2419 := (X_Fr.rf).tr (X_Fr.mono ⟨hf2443.1, hf2443.2⟩ (fun q hq => (by omega)))
    have h2448 := (hf2443.1 1 (by omega)).trans (hc1)
    have h2449 := (hf2443.1 3 (by omega)).trans (hc3)
    have h2450 := (hf2443.1 505 (by omega)).trans (hc505)
    have h2451 := (hf2443.1 506 (by omega)).trans (hc506)
    have h2452 := (hf2443.1 507 (by omega)).trans (hc507)
    have h2453 := (hf2443.1 508 (by omega)).trans (hc508)
    have h2454 := (hf2443.1 509 (by omega)).trans (hc509)
    have h2455 := (hf2443.1 510 (by omega)).trans (hc510)
    have h2456 := (hf2443.1 512 (by omega)).trans (hc512)
    have h2457 := (hf2443.1 513 (by omega)).trans (hc513)
    have h2458 := (hf2443.1 514 (by omega)).trans (hc514)
    have h2459 := (hf2443.1 515 (by omega)).trans (hc515)
    have h2460 := (hf2443.1 516 (by omega)).trans (hc516)
    have h2461 := (hf2443.1 528 (by omega)).trans (hc528)
    have h2462 := (hf2443.1 529 (by omega)).trans (hc529)
    exact Or.inr ⟨n2427, z2428, t2429, ot2430, rfl, hp2433, hp2434, hp2435, ⟨B, B2, hB_, ⟨h2448, ho2436, h2449⟩, hg_p.fr hF (fun q h1 h2 => by omega), hg_b.fr hF (fun q h1 h2 => by omega), hg_d.fr hF (fun q h1 h2 => by omega), ⟨dr2431, ho2437, ha2441, ha2442⟩, ⟨nW, nF, nL, nP, nH, nC, ho2439, h2450, h2451, h2452, h2453, h2454, h2455, (fun n h1 h2 => absurd h2 (by omega)), (fun p h h1 h2 h3 h4 => absurd rfl h4)⟩, ⟨0, oK, oW, oA, oH, tl, ho2438, h2456, h2457, h2458, h2459, h2460, (by omega), (fun z => absurd z (by omega))⟩, hg_f.fr hF (fun q h1 h2 => by omega), ⟨hgt, vs, pl, ho2440, h2461, h2462⟩⟩, (X_Fr.rf).tr (X_Fr.mono ⟨hf2443.1, hf2443.2⟩ (fun q hq => (by omega)))⟩
theorem k_read (sc : X_Sc) (S : X_S) (len : Int) (tb : Int → Int) (rc : Int) (G : X_G) (tn : Int) (nc : Int) (N : Int → Int → Int) (rs : Int) (re : Int) (kk : Int) (hI : X_IC S len tb rc G tn nc N rs re) (hA : X_Ao len tb G tn nc N) (hkr : -9223372036854775808 ≤ kk ∧ kk ≤ 9223372036854775807) : X_T sc 109 (0, [(0, .ref 1), (1, .long (iL kk))], [], S) (fun v S' => (v = some (.int (iI (-1))) ∧ ¬ X_qRk G tn kk ∧ X_IC S' len tb rc G tn nc N rs re ∧ (X_Fr (fun q => 1 ≤ q ∧ q < 530) S S')) ∨ (∃ (r1 : Int) (St1 : Int → X_It) (nc1 : Int) (N1 : Int → Int → Int), v = some (.int (iI nc1)) ∧ X_qRk G tn kk ∧ X_rd G tn kk.toNat = (r1, St1, nc1, N1) ∧ X_IC S' len tb rc G tn nc1 N1 0 (-1) ∧ (X_Fr (fun q => 1 ≤ q ∧ q < 530) S S'))) := by
  obtain ⟨B, B2, hB_, hg_a, hg_p, hg_b, hg_d, hg_s, hg_r, hg_c, hg_f, hg_w⟩ := hI
  obtain ⟨hl, htb, hG, hGs, htn, hR, h40⟩ := hA
  have hRn := hR.1
  have hh_a := hg_a
  obtain ⟨hc1, hc2, hc3⟩ := hh_a
  have hh_b := hg_b
  obtain ⟨rn, kn, hb, hs⟩ := hh_b
  have hh_s := hg_s
  obtain ⟨dr, hc501, hc502, hc503⟩ := hh_s
  have hh_r := hg_r
  obtain ⟨nW, nF, nL, nP, nH, nC, hc504, hc505, hc506, hc507, hc508, hc509, hc510, hnd, hch⟩ := hh_r
  have hh_c := hg_c
  obtain ⟨fl, oK, oW, oA, oH, tl, hc511, hc512, hc513, hc514, hc515, hc516, hfl, hC⟩ := hh_c
  have hh_f := hg_f
  obtain ⟨wt, fF, fE, fP, fH, fW, fK, fN, hF, hE, hc517, hc518, hc519, hc520, hc521, hc522, hc523, hc524, hc525, hc526⟩ := hh_f
  have hh_w := hg_w
  obtain ⟨hgt, vs, pl, hc527, hc528, hc529⟩ := hh_w
  refine X_QI (fun Q hQ => ?_)
  refine T_mono (c_read sc S oK oW oA oH tl nW nF nL nP nH nC fF fE fP fH fW fK fN hF hE B rc rn kn G B2 tn fl wt nc rs re hgt kk hc1 hc501 hc511 hc517 hc504 hc527 hc512 hc513 hc514 hc515 hc516 hc505 hc506 hc507 hc508 hc509 hc510 hc518 hc519 hc520 hc521 hc522 hc523 hc524 hc525 hc526 (by omega) hb hs hG hc502 (by omega) hfl hC (by omega)) (fun v2463 S2464 h2465 => hQ _ _ ?_)
  rcases h2465 with ⟨oK2466, oW2467, oA2468, oH2469, tl2470, fl2471, hv2472, hp2473, hp2474, hp2475, ho2476, ha2477, ha2478, ha2479, ha2480, ha2481, hf2482⟩ | ⟨oK2483, oW2484, oA2485, oH2486, tl2487, fl2488, r2489, nc2490, St2491, N2492, nW2493, nF2494, nL2495, nP2496, nH2497, nC2498, fF2499, fE2500, fP2501, fH2502, fW2503, fK2504, fN2505, hF2506, hE2507, hv2508, hp2509, hp2510, hp2511, hp2512, hp2513, hp2514, ho2515, ho2516, ho2517, ho2518, ha2519, ha2520, ha2521, ha2522, ha2523, ha2524, ha2525, ha2526, ha2527, ha2528, ha2529, ha2530, ha2531, ha2532, ha2533, ha2534, ha2535, ha2536, ha2537, ha2538, hf2539⟩
  · skip
    rw [hv2472]
    have hF : X_Fr (fun q => 511 ≤ q ∧ q ≤ 516) S S2464 := (X_Fr.rf).tr (X_Fr.mono ⟨hf2482.1, hf2482.2⟩ (fun q hq => (by omega)))
    exact Or.inl ⟨rfl, hp2475, ⟨B, B2, hB_, hg_a.fr hF (fun q h1 h2 => by omega), hg_p.fr hF (fun q h1 h2 => by omega), hg_b.fr hF (fun q h1 h2 => by omega), hg_d.fr hF (fun q h1 h2 => by omega), hg_s.fr hF (fun q h1 h2 => by omega), hg_r.fr hF (fun q h1 h2 => by omega), ⟨fl2471, oK2466, oW2467, oA2468, oH2469, tl2470, ho2476, ha2477, ha2478, ha2479, ha2480, ha2481, hp2473, hp2474⟩, hg_f.fr hF (fun q h1 h2 => by omega), hg_w.fr hF (fun q h1 h2 => by omega)⟩, (X_Fr.rf).tr (X_Fr.mono ⟨hf2482.1, hf2482.2⟩ (fun q hq => (by omega)))⟩
  · skip
    rw [hv2508]
    have hF : X_Fr (fun q => 504 ≤ q ∧ q ≤ 527) S S2464 := (X_Fr.rf).tr (X_Fr.mono ⟨hf2539.1, hf2539.2⟩ (fun q hq => (by omega)))
    have h2540 := (hf2539.1 528 (by omega)).trans (hc528)
    have h2541 := (hf2539.1 529 (by omega)).trans (hc529)
    exact Or.inr ⟨r2489, St2491, nc2490, N2492, rfl, hp2511, hp2512, ⟨B, B2, hB_, hg_a.fr hF (fun q h1 h2 => by omega), hg_p.fr hF (fun q h1 h2 => by omega), hg_b.fr hF (fun q h1 h2 => by omega), hg_d.fr hF (fun q h1 h2 => by omega), hg_s.fr hF (fun q h1 h2 => by omega), ⟨nW2493, nF2494, nL2495, nP2496, nH2497, nC2498, ho2517, ha2524, ha2525, ha2526, ha2527, ha2528, ha2529, hp2513, hp2514⟩, ⟨fl2488, oK2483, oW2484, oA2485, oH2486, tl2487, ho2515, ha2519, ha2520, ha2521, ha2522, ha2523, hp2509, hp2510⟩, ⟨r2489, fF2499, fE2500, fP2501, fH2502, fW2503, fK2504, fN2505, hF2506, hE2507, ho2516, ha2530, ha2531, ha2532, ha2533, ha2534, ha2535, ha2536, ha2537, ha2538⟩, ⟨hgt, vs, pl, ho2518, h2540, h2541⟩⟩, (X_Fr.rf).tr (X_Fr.mono ⟨hf2539.1, hf2539.2⟩ (fun q hq => (by omega)))⟩
theorem k_book (sc : X_Sc) (S : X_S) (len : Int) (tb : Int → Int) (rc : Int) (G : X_G) (tn : Int) (nc : Int) (N : Int → Int → Int) (rs : Int) (re : Int) (hI : X_IC S len tb rc G tn nc N rs re) (hA : X_Ao len tb G tn nc N) : X_T sc 103 (0, [(0, .ref 1)], [], S) (fun v S' => (∃ (n : Int) (so : Int → Int) (pl : Int → Int) (ct : Int → Int64) (rc2 : Int) (kc2 : Int) (wc2 : Int) (rn2 : Int → Int64) (lo2 : Int → Int) (kn2 : Int → Int64) (ab2 : Int → Int) (D2 : Int → Nat → Int → Int) (W2 : Int → Int → Int64) (c1 : Int) (rc1 : Int) (kc1 : Int) (wc1 : Int) (rn1 : Int → Int64) (lo1 : Int → Int) (kn1 : Int → Int64) (ab1 : Int → Int) (D1 : Int → Nat → Int → Int) (W1 : Int → Int → Int64) (D3 : Int → Nat → Int → Int), v = some (.int (iI wc1)) ∧ X_Txt tb len n so pl ct ∧ sp_lines n so ct 2001 (0, 0, 1, 0, rn2, lo2, X_ug kn2 0 (Int64.ofNat 6384748), X_ug ab2 0 1, D2, W2) = some (c1, rc1, kc1, wc1, rn1, lo1, kn1, ab1, D1, W1) ∧ X_sD D1 D3 ∧ (∀ w, 0 ≤ w → w < wc1 → ∀ e, X_hl (D1 w) (W1 w) e → X_tkn lo1 ab1 kc1 wc1 D1 W1 w e (D3 w 11 (D1 w 8 e)) (D3 w 10 (D1 w 8 e))) ∧ X_IC S' 0 tb rc1 (kc1, wc1, lo1, ab1, D3, W1, gt G) 0 0 N 0 (-1) ∧ (X_Fr (fun q => 1 ≤ q ∧ q < 530) S S')) ∨ (∃ (n : Int) (so : Int → Int) (pl : Int → Int) (ct : Int → Int64) (rc2 : Int) (kc2 : Int) (wc2 : Int) (rn2 : Int → Int64) (lo2 : Int → Int) (kn2 : Int → Int64) (ab2 : Int → Int) (D2 : Int → Nat → Int → Int) (W2 : Int → Int → Int64), v = some (.int (iI (-1))) ∧ X_Txt tb len n so pl ct ∧ sp_lines n so ct 2001 (0, 0, 1, 0, rn2, lo2, X_ug kn2 0 (Int64.ofNat 6384748), X_ug ab2 0 1, D2, W2) = none ∧ X_IC S' 0 tb rc G tn nc N rs re ∧ (X_Fr (fun q => 1 ≤ q ∧ q < 530) S S'))) := by
  obtain ⟨B, B2, hB_, hg_a, hg_p, hg_b, hg_d, hg_s, hg_r, hg_c, hg_f, hg_w⟩ := hI
  obtain ⟨hl, htb, hG, hGs, htn, hR, h40⟩ := hA
  have hRn := hR.1
  have hh_a := hg_a
  obtain ⟨hc1, hc2, hc3⟩ := hh_a
  have hh_p := hg_p
  obtain ⟨B0, fl0, fp0, at0, n0, cur0, so0, pl0, ct0, hp0, hx0⟩ := hh_p
  have hh_d := hg_d
  obtain ⟨rc2, kc2, wc2, rn2, lo2, kn2, ab2, D2, W2, hb2, hs2⟩ := hh_d
  have hh_s := hg_s
  obtain ⟨dr, hc501, hc502, hc503⟩ := hh_s
  have hh_r := hg_r
  obtain ⟨nW, nF, nL, nP, nH, nC, hc504, hc505, hc506, hc507, hc508, hc509, hc510, hnd, hch⟩ := hh_r
  have hh_c := hg_c
  obtain ⟨fl, oK, oW, oA, oH, tl, hc511, hc512, hc513, hc514, hc515, hc516, hfl, hC⟩ := hh_c
  have hh_w := hg_w
  obtain ⟨hgt, vs, pl, hc527, hc528, hc529⟩ := hh_w
  refine X_QI (fun Q hQ => ?_)
  refine T_mono (c_book sc S B B2 B0 fl0 fp0 at0 n0 cur0 so0 pl0 ct0 rc2 kc2 wc2 rn2 lo2 kn2 ab2 D2 W2 tn fl nc rs re hgt len tb hc1 hc2 hc501 hc511 hc504 hc527 (by omega) hc3 (by omega) hp0 hx0 hb2 hs2) (fun v2542 S2543 h2544 => hQ _ _ ?_)
  rcases h2544 with ⟨n2545, so2546, pl2547, ct2548, c2549, rc2550, kc2551, wc2552, rn2553, lo2554, kn2555, ab2556, D2557, W2558, D2559, hv2560, hp2561, hp2562, hp2563, hp2564, hp2565, hp2566, hp2567, hp2568, ho2569, ho2570, ho2571, ho2572, ho2573, ho2574, hf2575⟩ | ⟨n2576, so2577, pl2578, ct2579, rcx2580, kcx2581, wcx2582, rnx2583, lox2584, knx2585, abx2586, Dx2587, Wx2588, hv2589, hp2590, hp2591, hp2592, hp2593, hp2594, ho2595, hf2596⟩
  · skip
    rw [hv2560]
    have hF : X_Fr (fun q => q = 1 ∨ q = 2 ∨ (496 ≤ q ∧ q ≤ 501) ∨ q = 504 ∨ q = 511 ∨ q = 527 ∨ (B2 ≤ q ∧ q < B2 + 246)) S S2543 := (X_Fr.rf).tr (X_Fr.mono ⟨hf2575.1, hf2575.2⟩ (fun q hq => (by omega)))
    obtain ⟨⟨fl9, fp9, hpa9⟩, at9, n9, cur9, so9, pl9, ct9, hlx9⟩ := hp2568
    have hgb9 := hg_b.fr hF (fun q h1 h2 => by omega)
    obtain ⟨rn9, kn9, hb9, hs9⟩ := hgb9
    have h2597 := (hf2575.1 3 (by omega)).trans (hc3)
    have h2598 := (hf2575.1 502 (by omega)).trans (hc502)
    have h2599 := (hf2575.1 503 (by omega)).trans (hc503)
    have h2600 := (hf2575.1 505 (by omega)).trans (hc505)
    have h2601 := (hf2575.1 506 (by omega)).trans (hc506)
    have h2602 := (hf2575.1 507 (by omega)).trans (hc507)
    have h2603 := (hf2575.1 508 (by omega)).trans (hc508)
    have h2604 := (hf2575.1 509 (by omega)).trans (hc509)
    have h2605 := (hf2575.1 510 (by omega)).trans (hc510)
    have h2606 := (hf2575.1 512 (by omega)).trans (hc512)
    have h2607 := (hf2575.1 513 (by omega)).trans (hc513)
    have h2608 := (hf2575.1 514 (by omega)).trans (hc514)
    have h2609 := (hf2575.1 515 (by omega)).trans (hc515)
    have h2610 := (hf2575.1 516 (by omega)).trans (hc516)
    have h2611 := (hf2575.1 528 (by omega)).trans (hc528)
    have h2612 := (hf2575.1 529 (by omega)).trans (hc529)
    exact Or.inl ⟨n2545, so2546, pl2547, ct2548, rc2, kc2, wc2, rn2, lo2, kn2, ab2, D2, W2, c2549, rc2550, kc2551, wc2552, rn2553, lo2554, kn2555, ab2556, D2557, W2558, D2559, rfl, hp2561, hp2562, hp2564, hp2565, ⟨B2, B, (by omega), ⟨ho2569, ho2570, h2597⟩, ⟨B2, fl9, fp9, at9, n9, cur9, so9, pl9, ct9, hpa9, hlx9⟩, ⟨rn2553, kn2555, hp2566, hp2567⟩, ⟨_, _, _, _, _, _, _, _, _, hb9, hs9⟩, ⟨dr, ho2571, h2598, h2599⟩, ⟨nW, nF, nL, nP, nH, nC, ho2573, h2600, h2601, h2602, h2603, h2604, h2605, (fun n h1 h2 => absurd h2 (by omega)), (fun p h h1 h2 h3 h4 => absurd rfl h4)⟩, ⟨0, oK, oW, oA, oH, tl, ho2572, h2606, h2607, h2608, h2609, h2610, (by omega), (fun z => absurd z (by omega))⟩, hg_f.fr hF (fun q h1 h2 => by omega), ⟨hgt, vs, pl, ho2574, h2611, h2612⟩⟩, (X_Fr.rf).tr (X_Fr.mono ⟨hf2575.1, hf2575.2⟩ (fun q hq => (by omega)))⟩
  · skip
    rw [hv2589]
    have hF : X_Fr (fun q => q = 2 ∨ (496 ≤ q ∧ q ≤ 500) ∨ (B2 ≤ q ∧ q < B2 + 246)) S S2543 := (X_Fr.rf).tr (X_Fr.mono ⟨hf2596.1, hf2596.2⟩ (fun q hq => (by omega)))
    obtain ⟨⟨fl9, fp9, hpa9⟩, at9, n9, cur9, so9, pl9, ct9, hlx9⟩ := hp2594
    have h2613 := (hf2596.1 1 (by omega)).trans (hc1)
    have h2614 := (hf2596.1 3 (by omega)).trans (hc3)
    exact Or.inr ⟨n2576, so2577, pl2578, ct2579, rc2, kc2, wc2, rn2, lo2, kn2, ab2, D2, W2, rfl, hp2590, hp2591, ⟨B, B2, hB_, ⟨h2613, ho2595, h2614⟩, ⟨B2, fl9, fp9, at9, n9, cur9, so9, pl9, ct9, hpa9, hlx9⟩, hg_b.fr hF (fun q h1 h2 => by omega), ⟨rcx2580, kcx2581, wcx2582, rnx2583, lox2584, knx2585, abx2586, Dx2587, Wx2588, hp2592, hp2593⟩, hg_s.fr hF (fun q h1 h2 => by omega), hg_r.fr hF (fun q h1 h2 => by omega), hg_c.fr hF (fun q h1 h2 => by omega), hg_f.fr hF (fun q h1 h2 => by omega), hg_w.fr hF (fun q h1 h2 => by omega)⟩, (X_Fr.rf).tr (X_Fr.mono ⟨hf2596.1, hf2596.2⟩ (fun q hq => (by omega)))⟩
