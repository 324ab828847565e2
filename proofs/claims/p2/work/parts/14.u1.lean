def X_ICa (S : X_S) (B : Nat) (B2 : Nat) (len : Int) (tb : Int → Int) : Prop := S.1 1 = .inr (10, [.ref 2, .ref B, .ref B2, .ref 496, .ref 501, .ref 504, .ref 511, .ref 517, .ref 527]) ∧ S.1 2 = .inr (7, [.ref 3, .int (iI len)]) ∧ S.1 3 = .inl (.byte, 2000, .inl fun k : Nat => iI (tb (k : Int)))
theorem X_ICa.fr {S S' : X_S} {B : Nat} {B2 : Nat} {len : Int} {tb : Int → Int} {P : Nat → Prop} (h : X_ICa S B B2 len tb) (hf : X_Fr P S S') (hp : ∀ q, 1 ≤ q → q ≤ 3 → ¬ P q) : X_ICa S' B B2 len tb := by
  obtain ⟨hc1, hc2, hc3⟩ := h
  exact ⟨(hf.1 1 (hp 1 (by omega) (by omega))).trans hc1, (hf.1 2 (hp 2 (by omega) (by omega))).trans hc2, (hf.1 3 (hp 3 (by omega) (by omega))).trans hc3⟩
def X_ICp (S : X_S)  : Prop := ∃ (B0 : Nat) (fl0 : Int) (fp0 : Int) (at0 : Int) (n0 : Int) (cur0 : Int) (so0 : Int → Int) (pl0 : Int → Int) (ct0 : Int → Int64), C_pa S B0 fl0 fp0 ∧ C_lx S at0 n0 cur0 so0 pl0 ct0
theorem X_ICp.fr {S S' : X_S}  {P : Nat → Prop} (h : X_ICp S ) (hf : X_Fr P S S') (hp : ∀ q, 496 ≤ q → q ≤ 500 → ¬ P q) : X_ICp S'  := by
  obtain ⟨B0, fl0, fp0, at0, n0, cur0, so0, pl0, ct0, hp0, hx0⟩ := h
  exact ⟨B0, fl0, fp0, at0, n0, cur0, so0, pl0, ct0, (hf.1 496 (hp 496 (by omega) (by omega))).trans hp0, ⟨(hf.1 497 (hp 497 (by omega) (by omega))).trans hx0.1, (hf.1 498 (hp 498 (by omega) (by omega))).trans hx0.2.1, (hf.1 499 (hp 499 (by omega) (by omega))).trans hx0.2.2.1, (hf.1 500 (hp 500 (by omega) (by omega))).trans hx0.2.2.2⟩⟩
def X_ICb (S : X_S) (B : Nat) (rc : Int) (G : X_G) : Prop := ∃ (rn : Int → Int64) (kn : Int → Int64), C_bk S B rc (gk G) (gw G) rn (gl G) kn (ga G) ∧ C_ws S B (gD G) (gW G)
theorem X_ICb.fr {S S' : X_S} {B : Nat} {rc : Int} {G : X_G} {P : Nat → Prop} (h : X_ICb S B rc G) (hf : X_Fr P S S') (hp : ∀ q, B ≤ q → q ≤ B + 245 → ¬ P q) : X_ICb S' B rc G := by
  obtain ⟨rn, kn, hb, hs⟩ := h
  exact ⟨rn, kn, hb.fr hf (fun k hk => hp _ (by omega) (by omega)), hs.fr hf (fun k h1 h2 => hp _ (by omega) (by omega))⟩
def X_ICd (S : X_S) (B2 : Nat) : Prop := ∃ (rc2 : Int) (kc2 : Int) (wc2 : Int) (rn2 : Int → Int64) (lo2 : Int → Int) (kn2 : Int → Int64) (ab2 : Int → Int) (D2 : Int → Nat → Int → Int) (W2 : Int → Int → Int64), C_bk S B2 rc2 kc2 wc2 rn2 lo2 kn2 ab2 ∧ C_ws S B2 D2 W2
theorem X_ICd.fr {S S' : X_S} {B2 : Nat} {P : Nat → Prop} (h : X_ICd S B2) (hf : X_Fr P S S') (hp : ∀ q, B2 ≤ q → q ≤ B2 + 245 → ¬ P q) : X_ICd S' B2 := by
  obtain ⟨rc2, kc2, wc2, rn2, lo2, kn2, ab2, D2, W2, hb2, hs2⟩ := h
  exact ⟨rc2, kc2, wc2, rn2, lo2, kn2, ab2, D2, W2, hb2.fr hf (fun k hk => hp _ (by omega) (by omega)), hs2.fr hf (fun k h1 h2 => hp _ (by omega) (by omega))⟩
def X_ICs (S : X_S) (G : X_G) (tn : Int) : Prop := ∃ (dr : Int → Int64), S.1 501 = .inr (6, [.int (iI tn), .ref 502, .ref 503]) ∧ S.1 502 = .inl (.long, 30, .inr (.inl fun k : Nat => (gt G) (k : Int))) ∧ S.1 503 = .inl (.long, 30, .inr (.inl fun k : Nat => dr (k : Int)))
theorem X_ICs.fr {S S' : X_S} {G : X_G} {tn : Int} {P : Nat → Prop} (h : X_ICs S G tn) (hf : X_Fr P S S') (hp : ∀ q, 501 ≤ q → q ≤ 503 → ¬ P q) : X_ICs S' G tn := by
  obtain ⟨dr, hc501, hc502, hc503⟩ := h
  exact ⟨dr, (hf.1 501 (hp 501 (by omega) (by omega))).trans hc501, (hf.1 502 (hp 502 (by omega) (by omega))).trans hc502, (hf.1 503 (hp 503 (by omega) (by omega))).trans hc503⟩
def X_ICr (S : X_S) (nc : Int) (N : Int → Int → Int) : Prop := ∃ (nW : Int → Int) (nF : Int → Int) (nL : Int → Int) (nP : Int → Int) (nH : Int → Int) (nC : Int → Int), S.1 504 = .inr (5, [.int (iI nc), .ref 505, .ref 506, .ref 507, .ref 508, .ref 509, .ref 510]) ∧ S.1 505 = .inl (.int, 30, .inl fun k : Nat => iI (nW (k : Int))) ∧ S.1 506 = .inl (.int, 30, .inl fun k : Nat => iI (nF (k : Int))) ∧ S.1 507 = .inl (.int, 30, .inl fun k : Nat => iI (nL (k : Int))) ∧ S.1 508 = .inl (.int, 30, .inl fun k : Nat => iI (nP (k : Int))) ∧ S.1 509 = .inl (.int, 30, .inl fun k : Nat => iI (nH (k : Int))) ∧ S.1 510 = .inl (.int, 120, .inl fun k : Nat => iI (nC (k : Int))) ∧ F_nd nc N nW nF nL nP nH ∧ F_ch nc N nC
theorem X_ICr.fr {S S' : X_S} {nc : Int} {N : Int → Int → Int} {P : Nat → Prop} (h : X_ICr S nc N) (hf : X_Fr P S S') (hp : ∀ q, 504 ≤ q → q ≤ 510 → ¬ P q) : X_ICr S' nc N := by
  obtain ⟨nW, nF, nL, nP, nH, nC, hc504, hc505, hc506, hc507, hc508, hc509, hc510, hnd, hch⟩ := h
  exact ⟨nW, nF, nL, nP, nH, nC, (hf.1 504 (hp 504 (by omega) (by omega))).trans hc504, (hf.1 505 (hp 505 (by omega) (by omega))).trans hc505, (hf.1 506 (hp 506 (by omega) (by omega))).trans hc506, (hf.1 507 (hp 507 (by omega) (by omega))).trans hc507, (hf.1 508 (hp 508 (by omega) (by omega))).trans hc508, (hf.1 509 (hp 509 (by omega) (by omega))).trans hc509, (hf.1 510 (hp 510 (by omega) (by omega))).trans hc510, hnd, hch⟩
def X_ICc (S : X_S) (B : Nat) (G : X_G) (tn : Int) : Prop := ∃ (fl : Int) (oK : Int → Int64) (oW : Int → Int64) (oA : Int → Int64) (oH : Int → Int64) (tl : Int → Int64), S.1 511 = .inr (1, [.ref B, .ref 501, .int (iI fl), .ref 512, .ref 513, .ref 514, .ref 515, .ref 516]) ∧ S.1 512 = .inl (.long, 5115, .inr (.inl fun k : Nat => oK (k : Int))) ∧ S.1 513 = .inl (.long, 13950, .inr (.inl fun k : Nat => oW (k : Int))) ∧ S.1 514 = .inl (.long, 465, .inr (.inl fun k : Nat => oA (k : Int))) ∧ S.1 515 = .inl (.long, 55800, .inr (.inl fun k : Nat => oH (k : Int))) ∧ S.1 516 = .inl (.long, 7200, .inr (.inl fun k : Nat => tl (k : Int))) ∧ (0 ≤ fl ∧ fl ≤ 1) ∧ (fl = 1 → X_cht G (-2) tn oK oW oA oH)
theorem X_ICc.fr {S S' : X_S} {B : Nat} {G : X_G} {tn : Int} {P : Nat → Prop} (h : X_ICc S B G tn) (hf : X_Fr P S S') (hp : ∀ q, 511 ≤ q → q ≤ 516 → ¬ P q) : X_ICc S' B G tn := by
  obtain ⟨fl, oK, oW, oA, oH, tl, hc511, hc512, hc513, hc514, hc515, hc516, hfl, hC⟩ := h
  exact ⟨fl, oK, oW, oA, oH, tl, (hf.1 511 (hp 511 (by omega) (by omega))).trans hc511, (hf.1 512 (hp 512 (by omega) (by omega))).trans hc512, (hf.1 513 (hp 513 (by omega) (by omega))).trans hc513, (hf.1 514 (hp 514 (by omega) (by omega))).trans hc514, (hf.1 515 (hp 515 (by omega) (by omega))).trans hc515, (hf.1 516 (hp 516 (by omega) (by omega))).trans hc516, hfl, hC⟩
def X_ICf (S : X_S)  : Prop := ∃ (wt : Int) (fF : Int → Int) (fE : Int → Int) (fP : Int → Int) (fH : Int → Int) (fW : Int → Int) (fK : Int → Int) (fN : Int → Int64) (hF : Int → Int) (hE : Int → Int), S.1 517 = .inr (2, [.ref 511, .ref 501, .ref 504, .int (iI wt), .ref 518, .ref 519, .ref 520, .ref 521, .ref 522, .ref 523, .ref 524, .ref 525, .ref 526]) ∧ S.1 518 = .inl (.int, 30, .inl fun k : Nat => iI (fF (k : Int))) ∧ S.1 519 = .inl (.int, 30, .inl fun k : Nat => iI (fE (k : Int))) ∧ S.1 520 = .inl (.int, 30, .inl fun k : Nat => iI (fP (k : Int))) ∧ S.1 521 = .inl (.int, 30, .inl fun k : Nat => iI (fH (k : Int))) ∧ S.1 522 = .inl (.int, 30, .inl fun k : Nat => iI (fW (k : Int))) ∧ S.1 523 = .inl (.int, 30, .inl fun k : Nat => iI (fK (k : Int))) ∧ S.1 524 = .inl (.long, 30, .inr (.inl fun k : Nat => fN (k : Int))) ∧ S.1 525 = .inl (.int, 4, .inl fun k : Nat => iI (hF (k : Int))) ∧ S.1 526 = .inl (.int, 4, .inl fun k : Nat => iI (hE (k : Int)))
theorem X_ICf.fr {S S' : X_S}  {P : Nat → Prop} (h : X_ICf S ) (hf : X_Fr P S S') (hp : ∀ q, 517 ≤ q → q ≤ 526 → ¬ P q) : X_ICf S'  := by
  obtain ⟨wt, fF, fE, fP, fH, fW, fK, fN, hF, hE, hc517, hc518, hc519, hc520, hc521, hc522, hc523, hc524, hc525, hc526⟩ := h
  exact ⟨wt, fF, fE, fP, fH, fW, fK, fN, hF, hE, (hf.1 517 (hp 517 (by omega) (by omega))).trans hc517, (hf.1 518 (hp 518 (by omega) (by omega))).trans hc518, (hf.1 519 (hp 519 (by omega) (by omega))).trans hc519, (hf.1 520 (hp 520 (by omega) (by omega))).trans hc520, (hf.1 521 (hp 521 (by omega) (by omega))).trans hc521, (hf.1 522 (hp 522 (by omega) (by omega))).trans hc522, (hf.1 523 (hp 523 (by omega) (by omega))).trans hc523, (hf.1 524 (hp 524 (by omega) (by omega))).trans hc524, (hf.1 525 (hp 525 (by omega) (by omega))).trans hc525, (hf.1 526 (hp 526 (by omega) (by omega))).trans hc526⟩
def X_ICw (S : X_S) (rs : Int) (re : Int) : Prop := ∃ (hgt : Int) (vs : Int → Int) (pl : Int → Int), S.1 527 = .inr (9, [.ref 501, .ref 504, .int (iI rs), .int (iI re), .ref 528, .ref 529, .int (iI hgt)]) ∧ S.1 528 = .inl (.int, 30, .inl fun k : Nat => iI (vs (k : Int))) ∧ S.1 529 = .inl (.int, 16, .inl fun k : Nat => iI (pl (k : Int)))
theorem X_ICw.fr {S S' : X_S} {rs : Int} {re : Int} {P : Nat → Prop} (h : X_ICw S rs re) (hf : X_Fr P S S') (hp : ∀ q, 527 ≤ q → q ≤ 529 → ¬ P q) : X_ICw S' rs re := by
  obtain ⟨hgt, vs, pl, hc527, hc528, hc529⟩ := h
  exact ⟨hgt, vs, pl, (hf.1 527 (hp 527 (by omega) (by omega))).trans hc527, (hf.1 528 (hp 528 (by omega) (by omega))).trans hc528, (hf.1 529 (hp 529 (by omega) (by omega))).trans hc529⟩
def X_IC (S : X_S) (len : Int) (tb : Int → Int) (rc : Int) (G : X_G) (tn : Int) (nc : Int) (N : Int → Int → Int) (rs : Int) (re : Int) : Prop :=
  ∃ (B : Nat) (B2 : Nat), ((B = 4 ∧ B2 = 250) ∨ (B = 250 ∧ B2 = 4)) ∧ X_ICa S B B2 len tb ∧ X_ICp S  ∧ X_ICb S B rc G ∧ X_ICd S B2 ∧ X_ICs S G tn ∧ X_ICr S nc N ∧ X_ICc S B G tn ∧ X_ICf S  ∧ X_ICw S rs re
theorem X_IC.fr {S S' : X_S} {len : Int} {tb : Int → Int} {rc : Int} {G : X_G} {tn : Int} {nc : Int} {N : Int → Int → Int} {rs : Int} {re : Int} {P : Nat → Prop} (hI : X_IC S len tb rc G tn nc N rs re) (hf : X_Fr P S S') (hp : ∀ q, 1 ≤ q → q < 530 → ¬ P q) : X_IC S' len tb rc G tn nc N rs re := by
  obtain ⟨B, B2, hB_, hg_a, hg_p, hg_b, hg_d, hg_s, hg_r, hg_c, hg_f, hg_w⟩ := hI
  exact ⟨B, B2, hB_, hg_a.fr hf (fun q h1 h2 => hp q (by omega) (by omega)), hg_p.fr hf (fun q h1 h2 => hp q (by omega) (by omega)), hg_b.fr hf (fun q h1 h2 => hp q (by omega) (by omega)), hg_d.fr hf (fun q h1 h2 => hp q (by omega) (by omega)), hg_s.fr hf (fun q h1 h2 => hp q (by omega) (by omega)), hg_r.fr hf (fun q h1 h2 => hp q (by omega) (by omega)), hg_c.fr hf (fun q h1 h2 => hp q (by omega) (by omega)), hg_f.fr hf (fun q h1 h2 => hp q (by omega) (by omega)), hg_w.fr hf (fun q h1 h2 => hp q (by omega) (by omega))⟩
theorem X_ICc.bind {S : X_S} {B : Nat} {G : X_G} {tn w vl : Int} (h : X_ICc S B G tn) : X_ICc S B (X_Gb G w vl) tn := by
  obtain ⟨fl, oK, oW, oA, oH, tl, h1, h2, h3, h4, h5, h6, h7, hC⟩ := h
  exact ⟨fl, oK, oW, oA, oH, tl, h1, h2, h3, h4, h5, h6, h7, fun z => X_cht_dr.mp (by rw [X_Gb_dr]; exact X_cht_dr.mpr (hC z))⟩
theorem k_feed (sc : X_Sc) (S : X_S) (len : Int) (tb : Int → Int) (rc : Int) (G : X_G) (tn : Int) (nc : Int) (N : Int → Int → Int) (rs : Int) (re : Int) (a : Int) (b : Int) (c : Int) (d : Int) (e : Int) (hI : X_IC S len tb rc G tn nc N rs re) (hA : X_Ao len tb G tn nc N) : X_T sc 113 (0, [(0, .ref 1), (1, .int (iI a)), (2, .int (iI b)), (3, .int (iI c)), (4, .int (iI d)), (5, .int (iI e))], [], S) (fun v S' => (v = some (.int (iI (-1))) ∧ 2000 < len + 20 ∧ X_IC S' len tb rc G tn nc N rs re ∧ (X_Fr (fun q => 1 ≤ q ∧ q < 530) S S')) ∨ (v = some (.int (iI (len + 20))) ∧ len + 20 ≤ 2000 ∧ X_IC S' (len + 20) (X_fd5 tb len a b c d e) rc G tn nc N rs re ∧ (X_Fr (fun q => 1 ≤ q ∧ q < 530) S S'))) := by
  obtain ⟨B, B2, hB_, hg_a, hg_p, hg_b, hg_d, hg_s, hg_r, hg_c, hg_f, hg_w⟩ := hI
  obtain ⟨hl, htb, hG, hGs, htn, hR, h40⟩ := hA
  have hRn := hR.1
  have hh_a := hg_a
  obtain ⟨hc1, hc2, hc3⟩ := hh_a
  refine X_QI (fun Q hQ => ?_)
  refine T_mono (c_feed sc S tb len B2 B a b c d e hc1 hc2 hc3 (by omega)) (fun v2820 S2821 h2822 => hQ _ _ ?_)
  rcases h2822 with ⟨hv2823, hp2824, hf2825⟩ | ⟨hv2826, hp2827, ho2828, ha2829, hf2830⟩
  · skip
    rw [hv2823]
    rw [hf2825]
    exact Or.inl ⟨rfl, hp2824, ⟨B, B2, hB_, hg_a, hg_p, hg_b, hg_d, hg_s, hg_r, hg_c, hg_f, hg_w⟩, X_Fr.rf⟩
  · skip
    rw [hv2826]
    have hF : X_Fr (fun q => q = 3 ∨ q = 2) S S2821 := (X_Fr.rf).tr (X_Fr.mono ⟨hf2830.1, hf2830.2⟩ (fun q hq => (by omega)))
    have h2831 := (hf2830.1 1 (by omega)).trans (hc1)
    exact Or.inr ⟨rfl, hp2827, ⟨B, B2, hB_, ⟨h2831, ho2828, ha2829⟩, hg_p.fr hF (fun q h1 h2 => by omega), hg_b.fr hF (fun q h1 h2 => by omega), hg_d.fr hF (fun q h1 h2 => by omega), hg_s.fr hF (fun q h1 h2 => by omega), hg_r.fr hF (fun q h1 h2 => by omega), hg_c.fr hF (fun q h1 h2 => by omega), hg_f.fr hF (fun q h1 h2 => by omega), hg_w.fr hF (fun q h1 h2 => by omega)⟩, (X_Fr.rf).tr (X_Fr.mono ⟨hf2830.1, hf2830.2⟩ (fun q hq => (by omega)))⟩
theorem k_end (sc : X_Sc) (S : X_S) (len : Int) (tb : Int → Int) (rc : Int) (G : X_G) (tn : Int) (nc : Int) (N : Int → Int → Int) (rs : Int) (re : Int) (n : Int) (hI : X_IC S len tb rc G tn nc N rs re) (hA : X_Ao len tb G tn nc N) (hr_n : -2147483648 ≤ n ∧ n ≤ 2147483647) : X_T sc 114 (0, [(0, .ref 1), (1, .int (iI n))], [], S) (fun v S' => (v = some (.int (iI (-1))) ∧ (n < 0 ∨ len < n) ∧ X_IC S' len tb rc G tn nc N rs re ∧ (X_Fr (fun q => 1 ≤ q ∧ q < 530) S S')) ∨ (v = some (.int (iI n)) ∧ (0 ≤ n ∧ n ≤ len) ∧ X_IC S' n tb rc G tn nc N rs re ∧ (X_Fr (fun q => 1 ≤ q ∧ q < 530) S S'))) := by
  obtain ⟨B, B2, hB_, hg_a, hg_p, hg_b, hg_d, hg_s, hg_r, hg_c, hg_f, hg_w⟩ := hI
  obtain ⟨hl, htb, hG, hGs, htn, hR, h40⟩ := hA
  have hRn := hR.1
  have hh_a := hg_a
  obtain ⟨hc1, hc2, hc3⟩ := hh_a
  refine X_QI (fun Q hQ => ?_)
  refine T_mono (c_end sc S len B2 B n hc1 hc2 (by omega) (by omega)) (fun v2832 S2833 h2834 => hQ _ _ ?_)
  rcases h2834 with ⟨hv2835, hp2836, hf2837⟩ | ⟨hv2838, hp2839, ho2840, hf2841⟩
  · skip
    rw [hv2835]
    rw [hf2837]
    exact Or.inl ⟨rfl, hp2836, ⟨B, B2, hB_, hg_a, hg_p, hg_b, hg_d, hg_s, hg_r, hg_c, hg_f, hg_w⟩, X_Fr.rf⟩
  · skip
    rw [hv2838]
    have hF : X_Fr (fun q => q = 2) S S2833 := (X_Fr.rf).tr (X_Fr.mono ⟨hf2841.1, hf2841.2⟩ (fun q hq => (by omega)))
    have h2842 := (hf2841.1 1 (by omega)).trans (hc1)
    have h2843 := (hf2841.1 3 (by omega)).trans (hc3)
    exact Or.inr ⟨rfl, hp2839, ⟨B, B2, hB_, ⟨h2842, ho2840, h2843⟩, hg_p.fr hF (fun q h1 h2 => by omega), hg_b.fr hF (fun q h1 h2 => by omega), hg_d.fr hF (fun q h1 h2 => by omega), hg_s.fr hF (fun q h1 h2 => by omega), hg_r.fr hF (fun q h1 h2 => by omega), hg_c.fr hF (fun q h1 h2 => by omega), hg_f.fr hF (fun q h1 h2 => by omega), hg_w.fr hF (fun q h1 h2 => by omega)⟩, (X_Fr.rf).tr (X_Fr.mono ⟨hf2841.1, hf2841.2⟩ (fun q hq => (by omega)))⟩
theorem k_fault (sc : X_Sc) (S : X_S) (len : Int) (tb : Int → Int) (rc : Int) (G : X_G) (tn : Int) (nc : Int) (N : Int → Int → Int) (rs : Int) (re : Int) (w : Int) (hI : X_IC S len tb rc G tn nc N rs re) (hA : X_Ao len tb G tn nc N) (hr_w : -2147483648 ≤ w ∧ w ≤ 2147483647) : X_T sc 116 (0, [(0, .ref 1), (1, .int (iI w))], [], S) (fun v S' => ∃ (r : Int), v = some (.int (iI r)) ∧ X_IC S' len tb rc G tn nc N rs re ∧ (X_Fr (fun q => 1 ≤ q ∧ q < 530) S S')) := by
  obtain ⟨B, B2, hB_, hg_a, hg_p, hg_b, hg_d, hg_s, hg_r, hg_c, hg_f, hg_w⟩ := hI
  obtain ⟨hl, htb, hG, hGs, htn, hR, h40⟩ := hA
  have hRn := hR.1
  have hh_a := hg_a
  obtain ⟨hc1, hc2, hc3⟩ := hh_a
  have hh_p := hg_p
  obtain ⟨B0, fl0, fp0, at0, n0, cur0, so0, pl0, ct0, hp0, hx0⟩ := hh_p
  refine X_QI (fun Q hQ => ?_)
  refine T_mono (c_fault sc S B2 B B0 fl0 fp0 w hc1 hp0 (by omega)) (fun v2844 S2845 h2846 => hQ _ _ ?_)
  rcases h2846 with ⟨r2847, hv2848, hf2849⟩
  skip
  rw [hv2848]
  rw [hf2849]
  exact ⟨r2847, rfl, ⟨B, B2, hB_, hg_a, hg_p, hg_b, hg_d, hg_s, hg_r, hg_c, hg_f, hg_w⟩, X_Fr.rf⟩
theorem k_about (sc : X_Sc) (S : X_S) (len : Int) (tb : Int → Int) (rc : Int) (G : X_G) (tn : Int) (nc : Int) (N : Int → Int → Int) (rs : Int) (re : Int) (w : Int) (hI : X_IC S len tb rc G tn nc N rs re) (hA : X_Ao len tb G tn nc N) (hr_w : -2147483648 ≤ w ∧ w ≤ 2147483647) : X_T sc 117 (0, [(0, .ref 1), (1, .int (iI w))], [], S) (fun v S' => v = some (.int (iI (X_qAb rc (gk G) (gw G) tn nc len w))) ∧ X_IC S' len tb rc G tn nc N rs re ∧ (X_Fr (fun q => 1 ≤ q ∧ q < 530) S S')) := by
  obtain ⟨B, B2, hB_, hg_a, hg_p, hg_b, hg_d, hg_s, hg_r, hg_c, hg_f, hg_w⟩ := hI
  obtain ⟨hl, htb, hG, hGs, htn, hR, h40⟩ := hA
  have hRn := hR.1
  have hh_a := hg_a
  obtain ⟨hc1, hc2, hc3⟩ := hh_a
  have hh_b := hg_b
  obtain ⟨rn, kn, hb, hs⟩ := hh_b
  have hh_s := hg_s
  obtain ⟨dr, hc501, hc502, hc503⟩ := hh_s
  have hh_r := hg_r
  obtain ⟨nW, nF, nL, nP, nH, nC, hc504, hc505, hc506, hc507, hc508, hc509, hc510, hnd, hch⟩ := hh_r
  refine X_QI (fun Q hQ => ?_)
  refine T_mono (c_about sc S B rc rn kn G B2 tn nc len w hc1 hc2 hc501 hc504 (by omega) hb hs (by omega)) (fun v2850 S2851 h2852 => hQ _ _ ?_)
  rcases h2852 with ⟨hv2853, hf2854⟩
  skip
  rw [hv2853]
  rw [hf2854]
  exact ⟨rfl, ⟨B, B2, hB_, hg_a, hg_p, hg_b, hg_d, hg_s, hg_r, hg_c, hg_f, hg_w⟩, X_Fr.rf⟩
theorem k_word (sc : X_Sc) (S : X_S) (len : Int) (tb : Int → Int) (rc : Int) (G : X_G) (tn : Int) (nc : Int) (N : Int → Int → Int) (rs : Int) (re : Int) (w : Int) (wh : Int) (hI : X_IC S len tb rc G tn nc N rs re) (hA : X_Ao len tb G tn nc N) (hr_w : -2147483648 ≤ w ∧ w ≤ 2147483647) (hr_wh : -2147483648 ≤ wh ∧ wh ≤ 2147483647) : X_T sc 118 (0, [(0, .ref 1), (1, .int (iI w)), (2, .int (iI wh))], [], S) (fun v S' => v = some (.int (iI (X_qWd G w wh))) ∧ X_IC S' len tb rc G tn nc N rs re ∧ (X_Fr (fun q => 1 ≤ q ∧ q < 530) S S')) := by
  obtain ⟨B, B2, hB_, hg_a, hg_p, hg_b, hg_d, hg_s, hg_r, hg_c, hg_f, hg_w⟩ := hI
  obtain ⟨hl, htb, hG, hGs, htn, hR, h40⟩ := hA
  have hRn := hR.1
  have hh_a := hg_a
  obtain ⟨hc1, hc2, hc3⟩ := hh_a
  have hh_b := hg_b
  obtain ⟨rn, kn, hb, hs⟩ := hh_b
  refine X_QI (fun Q hQ => ?_)
  refine T_mono (c_word sc S B rc rn kn G B2 w wh hc1 (by omega) hb hs (by omega) (by omega)) (fun v2855 S2856 h2857 => hQ _ _ ?_)
  rcases h2857 with ⟨hv2858, hf2859⟩
  skip
  rw [hv2858]
  rw [hf2859]
  exact ⟨rfl, ⟨B, B2, hB_, hg_a, hg_p, hg_b, hg_d, hg_s, hg_r, hg_c, hg_f, hg_w⟩, X_Fr.rf⟩
theorem k_tighter (sc : X_Sc) (S : X_S) (len : Int) (tb : Int → Int) (rc : Int) (G : X_G) (tn : Int) (nc : Int) (N : Int → Int → Int) (rs : Int) (re : Int) (a : Int) (b : Int) (hI : X_IC S len tb rc G tn nc N rs re) (hA : X_Ao len tb G tn nc N) (hr_a : -2147483648 ≤ a ∧ a ≤ 2147483647) (hr_b : -2147483648 ≤ b ∧ b ≤ 2147483647) : X_T sc 119 (0, [(0, .ref 1), (1, .int (iI a)), (2, .int (iI b))], [], S) (fun v S' => v = some (.int (iI (X_qTi G rc a b))) ∧ X_IC S' len tb rc G tn nc N rs re ∧ (X_Fr (fun q => 1 ≤ q ∧ q < 530) S S')) := by
  obtain ⟨B, B2, hB_, hg_a, hg_p, hg_b, hg_d, hg_s, hg_r, hg_c, hg_f, hg_w⟩ := hI
  obtain ⟨hl, htb, hG, hGs, htn, hR, h40⟩ := hA
  have hRn := hR.1
  have hh_a := hg_a
  obtain ⟨hc1, hc2, hc3⟩ := hh_a
  have hh_b := hg_b
  obtain ⟨rn, kn, hb, hs⟩ := hh_b
  refine X_QI (fun Q hQ => ?_)
  refine T_mono (c_tighter sc S B rc rn kn G B2 a b hc1 (by omega) hb hs (by omega) (by omega)) (fun v2860 S2861 h2862 => hQ _ _ ?_)
  rcases h2862 with ⟨hv2863, hf2864⟩
  skip
  rw [hv2863]
  rw [hf2864]
  exact ⟨rfl, ⟨B, B2, hB_, hg_a, hg_p, hg_b, hg_d, hg_s, hg_r, hg_c, hg_f, hg_w⟩, X_Fr.rf⟩
theorem k_under (sc : X_Sc) (S : X_S) (len : Int) (tb : Int → Int) (rc : Int) (G : X_G) (tn : Int) (nc : Int) (N : Int → Int → Int) (rs : Int) (re : Int) (a : Int) (b : Int) (hI : X_IC S len tb rc G tn nc N rs re) (hA : X_Ao len tb G tn nc N) (hr_a : -2147483648 ≤ a ∧ a ≤ 2147483647) (hr_b : -2147483648 ≤ b ∧ b ≤ 2147483647) : X_T sc 120 (0, [(0, .ref 1), (1, .int (iI a)), (2, .int (iI b))], [], S) (fun v S' => v = some (.int (iI (X_qUn G a b))) ∧ X_IC S' len tb rc G tn nc N rs re ∧ (X_Fr (fun q => 1 ≤ q ∧ q < 530) S S')) := by
  obtain ⟨B, B2, hB_, hg_a, hg_p, hg_b, hg_d, hg_s, hg_r, hg_c, hg_f, hg_w⟩ := hI
  obtain ⟨hl, htb, hG, hGs, htn, hR, h40⟩ := hA
  have hRn := hR.1
  have hh_a := hg_a
  obtain ⟨hc1, hc2, hc3⟩ := hh_a
  have hh_b := hg_b
  obtain ⟨rn, kn, hb, hs⟩ := hh_b
  refine X_QI (fun Q hQ => ?_)
  refine T_mono (c_under sc S B rc rn kn G B2 a b hc1 (by omega) hb hs (by omega) (by omega)) (fun v2865 S2866 h2867 => hQ _ _ ?_)
  rcases h2867 with ⟨hv2868, hf2869⟩
  skip
  rw [hv2868]
  rw [hf2869]
  exact ⟨rfl, ⟨B, B2, hB_, hg_a, hg_p, hg_b, hg_d, hg_s, hg_r, hg_c, hg_f, hg_w⟩, X_Fr.rf⟩
theorem k_node (sc : X_Sc) (S : X_S) (len : Int) (tb : Int → Int) (rc : Int) (G : X_G) (tn : Int) (nc : Int) (N : Int → Int → Int) (rs : Int) (re : Int) (n : Int) (wh : Int) (hI : X_IC S len tb rc G tn nc N rs re) (hA : X_Ao len tb G tn nc N) (hr_n : -2147483648 ≤ n ∧ n ≤ 2147483647) (hr_wh : -2147483648 ≤ wh ∧ wh ≤ 2147483647) : X_T sc 125 (0, [(0, .ref 1), (1, .int (iI n)), (2, .int (iI wh))], [], S) (fun v S' => v = some (.int (iI (X_qNd nc N n wh))) ∧ X_IC S' len tb rc G tn nc N rs re ∧ (X_Fr (fun q => 1 ≤ q ∧ q < 530) S S')) := by
  obtain ⟨B, B2, hB_, hg_a, hg_p, hg_b, hg_d, hg_s, hg_r, hg_c, hg_f, hg_w⟩ := hI
  obtain ⟨hl, htb, hG, hGs, htn, hR, h40⟩ := hA
  have hRn := hR.1
  have hh_a := hg_a
  obtain ⟨hc1, hc2, hc3⟩ := hh_a
  have hh_r := hg_r
  obtain ⟨nW, nF, nL, nP, nH, nC, hc504, hc505, hc506, hc507, hc508, hc509, hc510, hnd, hch⟩ := hh_r
  refine X_QI (fun Q hQ => ?_)
  refine T_mono (c_node sc S nW nF nL nP nH B2 B nc N n wh hc1 hc504 hc505 hc506 hc507 hc508 hc509 (by omega) (by omega) (by omega) hnd) (fun v2870 S2871 h2872 => hQ _ _ ?_)
  rcases h2872 with ⟨hv2873, hf2874⟩
  skip
  rw [hv2873]
  rw [hf2874]
  exact ⟨rfl, ⟨B, B2, hB_, hg_a, hg_p, hg_b, hg_d, hg_s, hg_r, hg_c, hg_f, hg_w⟩, X_Fr.rf⟩
theorem k_worked (sc : X_Sc) (S : X_S) (len : Int) (tb : Int → Int) (rc : Int) (G : X_G) (tn : Int) (nc : Int) (N : Int → Int → Int) (rs : Int) (re : Int) (w : Int) (hI : X_IC S len tb rc G tn nc N rs re) (hA : X_Ao len tb G tn nc N) (hr_w : -2147483648 ≤ w ∧ w ≤ 2147483647) : X_T sc 128 (0, [(0, .ref 1), (1, .int (iI w))], [], S) (fun v S' => v = some (.int (iI (if w = 0 then rs else if w = 1 then re else -1))) ∧ X_IC S' len tb rc G tn nc N rs re ∧ (X_Fr (fun q => 1 ≤ q ∧ q < 530) S S')) := by
  obtain ⟨B, B2, hB_, hg_a, hg_p, hg_b, hg_d, hg_s, hg_r, hg_c, hg_f, hg_w⟩ := hI
  obtain ⟨hl, htb, hG, hGs, htn, hR, h40⟩ := hA
  have hRn := hR.1
  have hh_a := hg_a
  obtain ⟨hc1, hc2, hc3⟩ := hh_a
  have hh_w := hg_w
  obtain ⟨hgt, vs, pl, hc527, hc528, hc529⟩ := hh_w
  refine X_QI (fun Q hQ => ?_)
  refine T_mono (c_worked sc S B2 B rs re hgt w hc1 hc527 (by omega)) (fun v2875 S2876 h2877 => hQ _ _ ?_)
  rcases h2877 with ⟨hv2878, hf2879⟩
  skip
  rw [hv2878]
  rw [hf2879]
  exact ⟨rfl, ⟨B, B2, hB_, hg_a, hg_p, hg_b, hg_d, hg_s, hg_r, hg_c, hg_f, hg_w⟩, X_Fr.rf⟩
theorem k_sure (sc : X_Sc) (S : X_S) (len : Int) (tb : Int → Int) (rc : Int) (G : X_G) (tn : Int) (nc : Int) (N : Int → Int → Int) (rs : Int) (re : Int) (hI : X_IC S len tb rc G tn nc N rs re) (hA : X_Ao len tb G tn nc N) : X_T sc 129 (0, [(0, .ref 1)], [], S) (fun v S' => ∃ (r : Int), v = some (.int (iI r)) ∧ X_qSu G r ∧ X_IC S' len tb rc G tn nc N rs re ∧ (X_Fr (fun q => 1 ≤ q ∧ q < 530) S S')) := by
  obtain ⟨B, B2, hB_, hg_a, hg_p, hg_b, hg_d, hg_s, hg_r, hg_c, hg_f, hg_w⟩ := hI
  obtain ⟨hl, htb, hG, hGs, htn, hR, h40⟩ := hA
  have hRn := hR.1
  have hh_a := hg_a
  obtain ⟨hc1, hc2, hc3⟩ := hh_a
  have hh_b := hg_b
  obtain ⟨rn, kn, hb, hs⟩ := hh_b
  refine X_QI (fun Q hQ => ?_)
  refine T_mono (c_sure sc S B rc rn kn G B2 hc1 (by omega) hb hs) (fun v2880 S2881 h2882 => hQ _ _ ?_)
  rcases h2882 with ⟨r2883, hv2884, hp2885, hf2886⟩
  skip
  rw [hv2884]
  rw [hf2886]
  exact ⟨r2883, rfl, hp2885, ⟨B, B2, hB_, hg_a, hg_p, hg_b, hg_d, hg_s, hg_r, hg_c, hg_f, hg_w⟩, X_Fr.rf⟩
theorem k_count (sc : X_Sc) (S : X_S) (len : Int) (tb : Int → Int) (rc : Int) (G : X_G) (tn : Int) (nc : Int) (N : Int → Int → Int) (rs : Int) (re : Int) (i : Int) (j : Int) (hI : X_IC S len tb rc G tn nc N rs re) (hA : X_Ao len tb G tn nc N) (hr_i : -2147483648 ≤ i ∧ i ≤ 2147483647) (hr_j : -2147483648 ≤ j ∧ j ≤ 2147483647) : X_T sc 122 (0, [(0, .ref 1), (1, .int (iI i)), (2, .int (iI j))], [], S) (fun v S' => v = some (.long (X_qCt G tn i j)) ∧ X_IC S' len tb rc G tn nc N rs re ∧ (X_Fr (fun q => 1 ≤ q ∧ q < 530) S S')) := by
  obtain ⟨B, B2, hB_, hg_a, hg_p, hg_b, hg_d, hg_s, hg_r, hg_c, hg_f, hg_w⟩ := hI
  obtain ⟨hl, htb, hG, hGs, htn, hR, h40⟩ := hA
  have hRn := hR.1
  have hh_a := hg_a
  obtain ⟨hc1, hc2, hc3⟩ := hh_a
  have hh_b := hg_b
  obtain ⟨rn, kn, hb, hs⟩ := hh_b
  have hh_s := hg_s
  obtain ⟨dr, hc501, hc502, hc503⟩ := hh_s
  have hh_c := hg_c
  obtain ⟨fl, oK, oW, oA, oH, tl, hc511, hc512, hc513, hc514, hc515, hc516, hfl, hC⟩ := hh_c
  refine X_QI (fun Q hQ => ?_)
  refine T_mono (c_count sc S oK oW oA oH tl B rc rn kn G B2 tn fl i j hc1 hc501 hc511 hc512 hc513 hc514 hc515 hc516 (by omega) hb hs hG hc502 (by omega) hfl hC (by omega) (by omega)) (fun v2887 S2888 h2889 => hQ _ _ ?_)
  rcases h2889 with ⟨oK2890, oW2891, oA2892, oH2893, tl2894, fl2895, hv2896, hp2897, hp2898, ho2899, ha2900, ha2901, ha2902, ha2903, ha2904, hf2905⟩
  skip
  rw [hv2896]
  have hF : X_Fr (fun q => 511 ≤ q ∧ q ≤ 516) S S2888 := (X_Fr.rf).tr (X_Fr.mono ⟨hf2905.1, hf2905.2⟩ (fun q hq => (by omega)))
  exact ⟨rfl, ⟨B, B2, hB_, hg_a.fr hF (fun q h1 h2 => by omega), hg_p.fr hF (fun q h1 h2 => by omega), hg_b.fr hF (fun q h1 h2 => by omega), hg_d.fr hF (fun q h1 h2 => by omega), hg_s.fr hF (fun q h1 h2 => by omega), hg_r.fr hF (fun q h1 h2 => by omega), ⟨fl2895, oK2890, oW2891, oA2892, oH2893, tl2894, ho2899, ha2900, ha2901, ha2902, ha2903, ha2904, hp2897, hp2898⟩, hg_f.fr hF (fun q h1 h2 => by omega), hg_w.fr hF (fun q h1 h2 => by omega)⟩, (X_Fr.rf).tr (X_Fr.mono ⟨hf2905.1, hf2905.2⟩ (fun q hq => (by omega)))⟩
theorem k_quarrel (sc : X_Sc) (S : X_S) (len : Int) (tb : Int → Int) (rc : Int) (G : X_G) (tn : Int) (nc : Int) (N : Int → Int → Int) (rs : Int) (re : Int) (hI : X_IC S len tb rc G tn nc N rs re) (hA : X_Ao len tb G tn nc N) : X_T sc 123 (0, [(0, .ref 1)], [], S) (fun v S' => ∃ (r : Int), v = some (.int (iI r)) ∧ X_qQu G tn r ∧ X_IC S' len tb rc G tn nc N rs re ∧ (X_Fr (fun q => 1 ≤ q ∧ q < 530) S S')) := by
  obtain ⟨B, B2, hB_, hg_a, hg_p, hg_b, hg_d, hg_s, hg_r, hg_c, hg_f, hg_w⟩ := hI
  obtain ⟨hl, htb, hG, hGs, htn, hR, h40⟩ := hA
  have hRn := hR.1
  have hh_a := hg_a
  obtain ⟨hc1, hc2, hc3⟩ := hh_a
  have hh_b := hg_b
  obtain ⟨rn, kn, hb, hs⟩ := hh_b
  have hh_s := hg_s
  obtain ⟨dr, hc501, hc502, hc503⟩ := hh_s
  have hh_c := hg_c
  obtain ⟨fl, oK, oW, oA, oH, tl, hc511, hc512, hc513, hc514, hc515, hc516, hfl, hC⟩ := hh_c
  refine X_QI (fun Q hQ => ?_)
  refine T_mono (c_quarrel sc S oK oW oA oH tl B rc rn kn G B2 tn fl hc1 hc501 hc511 hc512 hc513 hc514 hc515 hc516 (by omega) hb hs hG hc502 (by omega) hfl hC) (fun v2906 S2907 h2908 => hQ _ _ ?_)
  rcases h2908 with ⟨oK2909, oW2910, oA2911, oH2912, tl2913, fl2914, r2915, hv2916, hp2917, hp2918, hp2919, ho2920, ha2921, ha2922, ha2923, ha2924, ha2925, hf2926⟩
  skip
  rw [hv2916]
  have hF : X_Fr (fun q => 511 ≤ q ∧ q ≤ 516) S S2907 := (X_Fr.rf).tr (X_Fr.mono ⟨hf2926.1, hf2926.2⟩ (fun q hq => (by omega)))
  exact ⟨r2915, rfl, hp2919, ⟨B, B2, hB_, hg_a.fr hF (fun q h1 h2 => by omega), hg_p.fr hF (fun q h1 h2 => by omega), hg_b.fr hF (fun q h1 h2 => by omega), hg_d.fr hF (fun q h1 h2 => by omega), hg_s.fr hF (fun q h1 h2 => by omega), hg_r.fr hF (fun q h1 h2 => by omega), ⟨fl2914, oK2909, oW2910, oA2911, oH2912, tl2913, ho2920, ha2921, ha2922, ha2923, ha2924, ha2925, hp2917, hp2918⟩, hg_f.fr hF (fun q h1 h2 => by omega), hg_w.fr hF (fun q h1 h2 => by omega)⟩, (X_Fr.rf).tr (X_Fr.mono ⟨hf2926.1, hf2926.2⟩ (fun q hq => (by omega)))⟩
theorem k_bind (sc : X_Sc) (S : X_S) (len : Int) (tb : Int → Int) (rc : Int) (G : X_G) (tn : Int) (nc : Int) (N : Int → Int → Int) (rs : Int) (re : Int) (w : Int) (vl : Int) (hI : X_IC S len tb rc G tn nc N rs re) (hA : X_Ao len tb G tn nc N) (hr_w : -2147483648 ≤ w ∧ w ≤ 2147483647) (hr_vl : -2147483648 ≤ vl ∧ vl ≤ 2147483647) : X_T sc 126 (0, [(0, .ref 1), (1, .int (iI w)), (2, .int (iI vl))], [], S) (fun v S' => (v = some (.int (iI 0)) ∧ (¬ ((0 ≤ w ∧ w < gw G) ∧ gD G w 5 0 = -1 ∧ gD G w 4 0 ≤ 0)) ∧ X_IC S' len tb rc G tn nc N rs re ∧ (X_Fr (fun q => 1 ≤ q ∧ q < 530) S S')) ∨ (v = some (.int (iI 1)) ∧ ((0 ≤ w ∧ w < gw G) ∧ gD G w 5 0 = -1 ∧ gD G w 4 0 ≤ 0) ∧ X_IC S' len tb rc (X_Gb G w vl) tn nc N rs re ∧ (X_Fr (fun q => 1 ≤ q ∧ q < 530) S S'))) := by
  obtain ⟨B, B2, hB_, hg_a, hg_p, hg_b, hg_d, hg_s, hg_r, hg_c, hg_f, hg_w⟩ := hI
  obtain ⟨hl, htb, hG, hGs, htn, hR, h40⟩ := hA
  have hRn := hR.1
  have hh_a := hg_a
  obtain ⟨hc1, hc2, hc3⟩ := hh_a
  have hh_b := hg_b
  obtain ⟨rn, kn, hb, hs⟩ := hh_b
  refine X_QI (fun Q hQ => ?_)
  refine T_mono (c_bind sc S B rc rn kn G B2 w vl hc1 (by omega) hb hs (by omega) (by omega)) (fun v2927 S2928 h2929 => hQ _ _ ?_)
  rcases h2929 with ⟨hv2930, hp2931, hf2932⟩ | ⟨hv2933, hp2934, hp2935, hf2936⟩
  · skip
    rw [hv2930]
    rw [hf2932]
    exact Or.inl ⟨rfl, hp2931, ⟨B, B2, hB_, hg_a, hg_p, hg_b, hg_d, hg_s, hg_r, hg_c, hg_f, hg_w⟩, X_Fr.rf⟩
  · skip
    rw [hv2933]
    have hF : X_Fr (fun q => B + 6 ≤ q ∧ q < B + 246) S S2928 := (X_Fr.rf).tr (X_Fr.mono ⟨hf2936.1, hf2936.2⟩ (fun q hq => (by omega)))
    exact Or.inr ⟨rfl, hp2934, ⟨B, B2, hB_, hg_a.fr hF (fun q h1 h2 => by omega), hg_p.fr hF (fun q h1 h2 => by omega), ⟨rn, kn, hb.fr hF (fun k hk => by omega), hp2935⟩, hg_d.fr hF (fun q h1 h2 => by omega), hg_s.fr hF (fun q h1 h2 => by omega), hg_r.fr hF (fun q h1 h2 => by omega), (X_ICc.bind (hg_c.fr hF (fun q h1 h2 => by omega))), hg_f.fr hF (fun q h1 h2 => by omega), hg_w.fr hF (fun q h1 h2 => by omega)⟩, (X_Fr.rf).tr (X_Fr.mono ⟨hf2936.1, hf2936.2⟩ (fun q hq => (by omega)))⟩
theorem k_work (sc : X_Sc) (S : X_S) (len : Int) (tb : Int → Int) (rc : Int) (G : X_G) (tn : Int) (nc : Int) (N : Int → Int → Int) (rs : Int) (re : Int) (hI : X_IC S len tb rc G tn nc N rs re) (hA : X_Ao len tb G tn nc N) : X_T sc 127 (0, [(0, .ref 1)], [], S) (fun v S' => (v = some (.int (iI (-1))) ∧ nc = 0 ∧ X_IC S' len tb rc G tn nc N rs re ∧ (X_Fr (fun q => 1 ≤ q ∧ q < 530) S S')) ∨ (v = some (.int (iI ((X_wk G (fun w => gD G w 6 0) (fun w => gD G w 7 0) N nc).1))) ∧ ¬ nc = 0 ∧ X_IC S' len tb rc G tn nc N ((X_wk G (fun w => gD G w 6 0) (fun w => gD G w 7 0) N nc).2.2) ((X_wk G (fun w => gD G w 6 0) (fun w => gD G w 7 0) N nc).2.1) ∧ (X_Fr (fun q => 1 ≤ q ∧ q < 530) S S'))) := by
  obtain ⟨B, B2, hB_, hg_a, hg_p, hg_b, hg_d, hg_s, hg_r, hg_c, hg_f, hg_w⟩ := hI
  obtain ⟨hl, htb, hG, hGs, htn, hR, h40⟩ := hA
  have hRn := hR.1
  have hh_a := hg_a
  obtain ⟨hc1, hc2, hc3⟩ := hh_a
  have hh_b := hg_b
  obtain ⟨rn, kn, hb, hs⟩ := hh_b
  have hh_s := hg_s
  obtain ⟨dr, hc501, hc502, hc503⟩ := hh_s
  have hh_r := hg_r
  obtain ⟨nW, nF, nL, nP, nH, nC, hc504, hc505, hc506, hc507, hc508, hc509, hc510, hnd, hch⟩ := hh_r
  have hh_w := hg_w
  obtain ⟨hgt, vs, pl, hc527, hc528, hc529⟩ := hh_w
  refine X_QI (fun Q hQ => ?_)
  refine T_mono (c_work sc S nW nF nL nP nH nC vs pl B rc rn kn G B2 tn nc N rs re hgt hc1 hc501 hc504 hc527 hc505 hc506 hc507 hc508 hc509 hc510 hc528 hc529 (by omega) hb hs hG hGs hc502 hR hnd hch) (fun v2937 S2938 h2939 => hQ _ _ ?_)
  rcases h2939 with ⟨hv2940, hp2941, hf2942⟩ | ⟨vs2943, pl2944, h2945, hv2946, hp2947, ho2948, ha2949, ha2950, hf2951⟩
  · skip
    rw [hv2940]
    rw [hf2942]
    exact Or.inl ⟨rfl, hp2941, ⟨B, B2, hB_, hg_a, hg_p, hg_b, hg_d, hg_s, hg_r, hg_c, hg_f, hg_w⟩, X_Fr.rf⟩
  · skip
    rw [hv2946]
    have hF : X_Fr (fun q => 527 ≤ q ∧ q ≤ 529) S S2938 := (X_Fr.rf).tr (X_Fr.mono ⟨hf2951.1, hf2951.2⟩ (fun q hq => (by omega)))
    exact Or.inr ⟨rfl, hp2947, ⟨B, B2, hB_, hg_a.fr hF (fun q h1 h2 => by omega), hg_p.fr hF (fun q h1 h2 => by omega), hg_b.fr hF (fun q h1 h2 => by omega), hg_d.fr hF (fun q h1 h2 => by omega), hg_s.fr hF (fun q h1 h2 => by omega), hg_r.fr hF (fun q h1 h2 => by omega), hg_c.fr hF (fun q h1 h2 => by omega), hg_f.fr hF (fun q h1 h2 => by omega), ⟨h2945, vs2943, pl2944, ho2948, ha2949, ha2950⟩⟩, (X_Fr.rf).tr (X_Fr.mono ⟨hf2951.1, hf2951.2⟩ (fun q hq => (by omega)))⟩
theorem k_sentence (sc : X_Sc) (S : X_S) (len : Int) (tb : Int → Int) (rc : Int) (G : X_G) (tn : Int) (nc : Int) (N : Int → Int → Int) (rs : Int) (re : Int) (hI : X_IC S len tb rc G tn nc N rs re) (hA : X_Ao len tb G tn nc N) : X_T sc 121 (0, [(0, .ref 1)], [], S) (fun v S' => (v = some (.int (iI (-1))) ∧ X_sn tb len len.toNat = none ∧ X_IC S' 0 tb rc G tn nc N rs re ∧ (X_Fr (fun q => 1 ≤ q ∧ q < 530) S S')) ∨ (∃ (n1 : Int) (z1 : Int) (t1 : Int → Int64) (ot1 : Int → Int64), v = some (.int (iI n1)) ∧ X_sn tb len len.toNat = some (n1, z1, t1) ∧ (0 ≤ n1 ∧ n1 ≤ 30) ∧ (∀ i, 0 ≤ i → i < n1 → ot1 i = t1 i) ∧ X_IC S' 0 tb rc (X_Gt G ot1) n1 0 N 0 (-1) ∧ (X_Fr (fun q => 1 ≤ q ∧ q < 530) S S'))) := by
  obtain ⟨B, B2, hB_, hg_a, hg_p, hg_b, hg_d, hg_s, hg_r, hg_c, hg_f, hg_w⟩ := hI
  obtain ⟨hl, htb, hG, hGs, htn, hR, h40⟩ := hA
  have hRn := hR.1
  have hh_a := hg_a
  obtain ⟨hc1, hc2, hc3⟩ := hh_a
  have hh_s := hg_s
  obtain ⟨dr, hc501, hc502, hc503⟩ := hh_s
  have hh_r := hg_r
  obtain ⟨nW, nF, nL, nP, nH, nC, hc504, hc505, hc506, hc507, hc508, hc509, hc510, hnd, hch⟩ := hh_r
  have hh_c := hg_c
  obtain ⟨fl, oK, oW, oA, oH, tl, hc511, hc512, hc513, hc514, hc515, hc516, hfl, hC⟩ := hh_c
  have hh_w := hg_w
  obtain ⟨hgt, vs, pl, hc527, hc528, hc529⟩ := hh_w
  refine X_QI (fun Q hQ => ?_)
  refine T_mono (c_sentence sc S (gt G) dr B B2 tn fl nc rs re hgt len tb hc1 hc2 hc501 hc511 hc504 hc527 hc502 hc503 hc3 (by omega)) (fun v2952 S2953 h2954 => hQ _ _ ?_)
  rcases h2954 with ⟨dr2955, hv2956, hp2957, ho2958, ha2959, hf2960⟩ | ⟨n2961, z2962, t2963, ot2964, dr2965, hv2966, hp2967, hp2968, hp2969, ho2970, ho2971, ho2972, ho2973, ho2974, ha2975, ha2976, hf2977⟩
  · skip
    rw [hv2956]
    have hF : X_Fr (fun q => q = 503 ∨ q = 2) S S2953 := (X_Fr.rf).tr (X_Fr.mono ⟨hf2960.1, hf2960.2⟩ (fun q hq => (by omega)))
    have h2978 := (hf2960.1 1 (by omega)).trans (hc1)
    have h2979 := (hf2960.1 3 (by omega)).trans (hc3)
    have h2980 := (hf2960.1 501 (by omega)).trans (hc501)
    have h2981 := (hf2960.1 502 (by omega)).trans (hc502)
    exact Or.inl ⟨rfl, hp2957, ⟨B, B2, hB_, ⟨h2978, ho2958, h2979⟩, hg_p.fr hF (fun q h1 h2 => by omega), hg_b.fr hF (fun q h1 h2 => by omega), hg_d.fr hF (fun q h1 h2 => by omega), ⟨dr2955, h2980, h2981, ha2959⟩, hg_r.fr hF (fun q h1 h2 => by omega), hg_c.fr hF (fun q h1 h2 => by omega), hg_f.fr hF (fun q h1 h2 => by omega), hg_w.fr hF (fun q h1 h2 => by omega)⟩, (X_Fr.rf).tr (X_Fr.mono ⟨hf2960.1, hf2960.2⟩ (fun q hq => (by omega)))⟩
  · skip
    rw [hv2966]
    have hF : X_Fr (fun q => q = 2 ∨ (501 ≤ q ∧ q ≤ 504) ∨ q = 511 ∨ q = 527) S S2953 := (X_Fr.rf).tr (X_Fr.mono ⟨hf2977.1, hf2977.2⟩ (fun q hq => (by omega)))
    have h2982 := (hf2977.1 1 (by omega)).trans (hc1)
    have h2983 := (hf2977.1 3 (by omega)).trans (hc3)
    have h2984 := (hf2977.1 505 (by omega)).trans (hc505)
    have h2985 := (hf2977.1 506 (by omega)).trans (hc506)
    have h2986 := (hf2977.1 507 (by omega)).trans (hc507)
    have h2987 := (hf2977.1 508 (by omega)).trans (hc508)
    have h2988 := (hf2977.1 509 (by omega)).trans (hc509)
    have h2989 := (hf2977.1 510 (by omega)).trans (hc510)
    have h2990 := (hf2977.1 512 (by omega)).trans (hc512)
    have h2991 := (hf2977.1 513 (by omega)).trans (hc513)
    have h2992 := (hf2977.1 514 (by omega)).trans (hc514)
    have h2993 := (hf2977.1 515 (by omega)).trans (hc515)
    have h2994 := (hf2977.1 516 (by omega)).trans (hc516)
    have h2995 := (hf2977.1 528 (by omega)).trans (hc528)
    have h2996 := (hf2977.1 529 (by omega)).trans (hc529)
    exact Or.inr ⟨n2961, z2962, t2963, ot2964, rfl, hp2967, hp2968, hp2969, ⟨B, B2, hB_, ⟨h2982, ho2970, h2983⟩, hg_p.fr hF (fun q h1 h2 => by omega), hg_b.fr hF (fun q h1 h2 => by omega), hg_d.fr hF (fun q h1 h2 => by omega), ⟨dr2965, ho2971, ha2975, ha2976⟩, ⟨nW, nF, nL, nP, nH, nC, ho2973, h2984, h2985, h2986, h2987, h2988, h2989, (fun n h1 h2 => absurd h2 (by omega)), (fun p h h1 h2 h3 h4 => absurd rfl h4)⟩, ⟨0, oK, oW, oA, oH, tl, ho2972, h2990, h2991, h2992, h2993, h2994, (by omega), (fun z => absurd z (by omega))⟩, hg_f.fr hF (fun q h1 h2 => by omega), ⟨hgt, vs, pl, ho2974, h2995, h2996⟩⟩, (X_Fr.rf).tr (X_Fr.mono ⟨hf2977.1, hf2977.2⟩ (fun q hq => (by omega)))⟩
theorem k_read (sc : X_Sc) (S : X_S) (len : Int) (tb : Int → Int) (rc : Int) (G : X_G) (tn : Int) (nc : Int) (N : Int → Int → Int) (rs : Int) (re : Int) (kk : Int) (hI : X_IC S len tb rc G tn nc N rs re) (hA : X_Ao len tb G tn nc N) (hkr : -9223372036854775808 ≤ kk ∧ kk ≤ 9223372036854775807) : X_T sc 124 (0, [(0, .ref 1), (1, .long (iL kk))], [], S) (fun v S' => (v = some (.int (iI (-1))) ∧ ¬ X_qRk G tn kk ∧ X_IC S' len tb rc G tn nc N rs re ∧ (X_Fr (fun q => 1 ≤ q ∧ q < 530) S S')) ∨ (∃ (r1 : Int) (St1 : Int → X_It) (nc1 : Int) (N1 : Int → Int → Int), v = some (.int (iI nc1)) ∧ X_qRk G tn kk ∧ X_rd G tn kk.toNat = (r1, St1, nc1, N1) ∧ X_IC S' len tb rc G tn nc1 N1 0 (-1) ∧ (X_Fr (fun q => 1 ≤ q ∧ q < 530) S S'))) := by
  obtain ⟨B, B2, hB_, hg_a, hg_p, hg_b, hg_d, hg_s, hg_r, hg_c, hg_f, hg_w⟩ := hI
  obtain ⟨hl, htb, hG, hGs, htn, hR, h40⟩ := hA
  have hRn := hR.1
  have hh_a := hg_a
  obtain ⟨hc1, hc2, hc3⟩ := hh_a
  have hh_b := hg_b
  obtain ⟨rn, kn, hb, hs⟩ := hh_b
  have hh_s := hg_s
  obtain ⟨dr, hc501, hc502, hc503⟩ := hh_s
  have hh_r := hg_r
  obtain ⟨nW, nF, nL, nP, nH, nC, hc504, hc505, hc506, hc507, hc508, hc509, hc510, hnd, hch⟩ := hh_r
  have hh_c := hg_c
  obtain ⟨fl, oK, oW, oA, oH, tl, hc511, hc512, hc513, hc514, hc515, hc516, hfl, hC⟩ := hh_c
  have hh_f := hg_f
  obtain ⟨wt, fF, fE, fP, fH, fW, fK, fN, hF, hE, hc517, hc518, hc519, hc520, hc521, hc522, hc523, hc524, hc525, hc526⟩ := hh_f
  have hh_w := hg_w
  obtain ⟨hgt, vs, pl, hc527, hc528, hc529⟩ := hh_w
  refine X_QI (fun Q hQ => ?_)
  refine T_mono (c_read sc S oK oW oA oH tl nW nF nL nP nH nC fF fE fP fH fW fK fN hF hE B rc rn kn G B2 tn fl wt nc rs re hgt kk hc1 hc501 hc511 hc517 hc504 hc527 hc512 hc513 hc514 hc515 hc516 hc505 hc506 hc507 hc508 hc509 hc510 hc518 hc519 hc520 hc521 hc522 hc523 hc524 hc525 hc526 (by omega) hb hs hG hc502 (by omega) hfl hC (by omega)) (fun v2997 S2998 h2999 => hQ _ _ ?_)
  rcases h2999 with ⟨oK3000, oW3001, oA3002, oH3003, tl3004, fl3005, hv3006, hp3007, hp3008, hp3009, ho3010, ha3011, ha3012, ha3013, ha3014, ha3015, hf3016⟩ | ⟨oK3017, oW3018, oA3019, oH3020, tl3021, fl3022, r3023, nc3024, St3025, N3026, nW3027, nF3028, nL3029, nP3030, nH3031, nC3032, fF3033, fE3034, fP3035, fH3036, fW3037, fK3038, fN3039, hF3040, hE3041, hv3042, hp3043, hp3044, hp3045, hp3046, hp3047, hp3048, ho3049, ho3050, ho3051, ho3052, ha3053, ha3054, ha3055, ha3056, ha3057, ha3058, ha3059, ha3060, ha3061, ha3062, ha3063, ha3064, ha3065, ha3066, ha3067, ha3068, ha3069, ha3070, ha3071, ha3072, hf3073⟩
  · skip
    rw [hv3006]
    have hF : X_Fr (fun q => 511 ≤ q ∧ q ≤ 516) S S2998 := (X_Fr.rf).tr (X_Fr.mono ⟨hf3016.1, hf3016.2⟩ (fun q hq => (by omega)))
    exact Or.inl ⟨rfl, hp3009, ⟨B, B2, hB_, hg_a.fr hF (fun q h1 h2 => by omega), hg_p.fr hF (fun q h1 h2 => by omega), hg_b.fr hF (fun q h1 h2 => by omega), hg_d.fr hF (fun q h1 h2 => by omega), hg_s.fr hF (fun q h1 h2 => by omega), hg_r.fr hF (fun q h1 h2 => by omega), ⟨fl3005, oK3000, oW3001, oA3002, oH3003, tl3004, ho3010, ha3011, ha3012, ha3013, ha3014, ha3015, hp3007, hp3008⟩, hg_f.fr hF (fun q h1 h2 => by omega), hg_w.fr hF (fun q h1 h2 => by omega)⟩, (X_Fr.rf).tr (X_Fr.mono ⟨hf3016.1, hf3016.2⟩ (fun q hq => (by omega)))⟩
  · skip
    rw [hv3042]
    have hF : X_Fr (fun q => 504 ≤ q ∧ q ≤ 527) S S2998 := (X_Fr.rf).tr (X_Fr.mono ⟨hf3073.1, hf3073.2⟩ (fun q hq => (by omega)))
    have h3074 := (hf3073.1 528 (by omega)).trans (hc528)
    have h3075 := (hf3073.1 529 (by omega)).trans (hc529)
    exact Or.inr ⟨r3023, St3025, nc3024, N3026, rfl, hp3045, hp3046, ⟨B, B2, hB_, hg_a.fr hF (fun q h1 h2 => by omega), hg_p.fr hF (fun q h1 h2 => by omega), hg_b.fr hF (fun q h1 h2 => by omega), hg_d.fr hF (fun q h1 h2 => by omega), hg_s.fr hF (fun q h1 h2 => by omega), ⟨nW3027, nF3028, nL3029, nP3030, nH3031, nC3032, ho3051, ha3058, ha3059, ha3060, ha3061, ha3062, ha3063, hp3047, hp3048⟩, ⟨fl3022, oK3017, oW3018, oA3019, oH3020, tl3021, ho3049, ha3053, ha3054, ha3055, ha3056, ha3057, hp3043, hp3044⟩, ⟨r3023, fF3033, fE3034, fP3035, fH3036, fW3037, fK3038, fN3039, hF3040, hE3041, ho3050, ha3064, ha3065, ha3066, ha3067, ha3068, ha3069, ha3070, ha3071, ha3072⟩, ⟨hgt, vs, pl, ho3052, h3074, h3075⟩⟩, (X_Fr.rf).tr (X_Fr.mono ⟨hf3073.1, hf3073.2⟩ (fun q hq => (by omega)))⟩
theorem k_book (sc : X_Sc) (S : X_S) (len : Int) (tb : Int → Int) (rc : Int) (G : X_G) (tn : Int) (nc : Int) (N : Int → Int → Int) (rs : Int) (re : Int) (hI : X_IC S len tb rc G tn nc N rs re) (hA : X_Ao len tb G tn nc N) : X_T sc 115 (0, [(0, .ref 1)], [], S) (fun v S' => (∃ (n : Int) (so : Int → Int) (pl : Int → Int) (ct : Int → Int64) (rc2 : Int) (kc2 : Int) (wc2 : Int) (rn2 : Int → Int64) (lo2 : Int → Int) (kn2 : Int → Int64) (ab2 : Int → Int) (D2 : Int → Nat → Int → Int) (W2 : Int → Int → Int64) (c1 : Int) (rc1 : Int) (kc1 : Int) (wc1 : Int) (rn1 : Int → Int64) (lo1 : Int → Int) (kn1 : Int → Int64) (ab1 : Int → Int) (D1 : Int → Nat → Int → Int) (W1 : Int → Int → Int64) (D3 : Int → Nat → Int → Int), v = some (.int (iI wc1)) ∧ X_Txt tb len n so pl ct ∧ sp_lines n so ct 2001 (0, 0, 1, 0, rn2, lo2, X_ug kn2 0 (Int64.ofNat 6384748), X_ug ab2 0 1, D2, W2) = some (c1, rc1, kc1, wc1, rn1, lo1, kn1, ab1, D1, W1) ∧ X_sD D1 D3 ∧ (∀ w, 0 ≤ w → w < wc1 → ∀ e, X_hl (D1 w) (W1 w) e → X_tkn lo1 ab1 kc1 wc1 D1 W1 w e (D3 w 11 (D1 w 8 e)) (D3 w 10 (D1 w 8 e))) ∧ X_IC S' 0 tb rc1 (kc1, wc1, lo1, ab1, D3, W1, gt G) 0 0 N 0 (-1) ∧ (X_Fr (fun q => 1 ≤ q ∧ q < 530) S S')) ∨ (∃ (n : Int) (so : Int → Int) (pl : Int → Int) (ct : Int → Int64) (rc2 : Int) (kc2 : Int) (wc2 : Int) (rn2 : Int → Int64) (lo2 : Int → Int) (kn2 : Int → Int64) (ab2 : Int → Int) (D2 : Int → Nat → Int → Int) (W2 : Int → Int → Int64), v = some (.int (iI (-1))) ∧ X_Txt tb len n so pl ct ∧ sp_lines n so ct 2001 (0, 0, 1, 0, rn2, lo2, X_ug kn2 0 (Int64.ofNat 6384748), X_ug ab2 0 1, D2, W2) = none ∧ X_IC S' 0 tb rc G tn nc N rs re ∧ (X_Fr (fun q => 1 ≤ q ∧ q < 530) S S'))) := by
  obtain ⟨B, B2, hB_, hg_a, hg_p, hg_b, hg_d, hg_s, hg_r, hg_c, hg_f, hg_w⟩ := hI
  obtain ⟨hl, htb, hG, hGs, htn, hR, h40⟩ := hA
  have hRn := hR.1
  have hh_a := hg_a
  obtain ⟨hc1, hc2, hc3⟩ := hh_a
  have hh_p := hg_p
  obtain ⟨B0, fl0, fp0, at0, n0, cur0, so0, pl0, ct0, hp0, hx0⟩ := hh_p
  have hh_d := hg_d
  obtain ⟨rc2, kc2, wc2, rn2, lo2, kn2, ab2, D2, W2, hb2, hs2⟩ := hh_d
  have hh_s := hg_s
  obtain ⟨dr, hc501, hc502, hc503⟩ := hh_s
  have hh_r := hg_r
  obtain ⟨nW, nF, nL, nP, nH, nC, hc504, hc505, hc506, hc507, hc508, hc509, hc510, hnd, hch⟩ := hh_r
  have hh_c := hg_c
  obtain ⟨fl, oK, oW, oA, oH, tl, hc511, hc512, hc513, hc514, hc515, hc516, hfl, hC⟩ := hh_c
  have hh_w := hg_w
  obtain ⟨hgt, vs, pl, hc527, hc528, hc529⟩ := hh_w
  refine X_QI (fun Q hQ => ?_)
  refine T_mono (c_book sc S B B2 B0 fl0 fp0 at0 n0 cur0 so0 pl0 ct0 rc2 kc2 wc2 rn2 lo2 kn2 ab2 D2 W2 tn fl nc rs re hgt len tb hc1 hc2 hc501 hc511 hc504 hc527 (by omega) hc3 (by omega) hp0 hx0 hb2 hs2) (fun v3076 S3077 h3078 => hQ _ _ ?_)
  rcases h3078 with ⟨n3079, so3080, pl3081, ct3082, c3083, rc3084, kc3085, wc3086, rn3087, lo3088, kn3089, ab3090, D3091, W3092, D3093, hv3094, hp3095, hp3096, hp3097, hp3098, hp3099, hp3100, hp3101, hp3102, ho3103, ho3104, ho3105, ho3106, ho3107, ho3108, hf3109⟩ | ⟨n3110, so3111, pl3112, ct3113, rcx3114, kcx3115, wcx3116, rnx3117, lox3118, knx3119, abx3120, Dx3121, Wx3122, hv3123, hp3124, hp3125, hp3126, hp3127, hp3128, ho3129, hf3130⟩
  · skip
    rw [hv3094]
    have hF : X_Fr (fun q => q = 1 ∨ q = 2 ∨ (496 ≤ q ∧ q ≤ 501) ∨ q = 504 ∨ q = 511 ∨ q = 527 ∨ (B2 ≤ q ∧ q < B2 + 246)) S S3077 := (X_Fr.rf).tr (X_Fr.mono ⟨hf3109.1, hf3109.2⟩ (fun q hq => (by omega)))
    obtain ⟨⟨fl9, fp9, hpa9⟩, at9, n9, cur9, so9, pl9, ct9, hlx9⟩ := hp3102
    have hgb9 := hg_b.fr hF (fun q h1 h2 => by omega)
    obtain ⟨rn9, kn9, hb9, hs9⟩ := hgb9
    have h3131 := (hf3109.1 3 (by omega)).trans (hc3)
    have h3132 := (hf3109.1 502 (by omega)).trans (hc502)
    have h3133 := (hf3109.1 503 (by omega)).trans (hc503)
    have h3134 := (hf3109.1 505 (by omega)).trans (hc505)
    have h3135 := (hf3109.1 506 (by omega)).trans (hc506)
    have h3136 := (hf3109.1 507 (by omega)).trans (hc507)
    have h3137 := (hf3109.1 508 (by omega)).trans (hc508)
    have h3138 := (hf3109.1 509 (by omega)).trans (hc509)
    have h3139 := (hf3109.1 510 (by omega)).trans (hc510)
    have h3140 := (hf3109.1 512 (by omega)).trans (hc512)
    have h3141 := (hf3109.1 513 (by omega)).trans (hc513)
    have h3142 := (hf3109.1 514 (by omega)).trans (hc514)
    have h3143 := (hf3109.1 515 (by omega)).trans (hc515)
    have h3144 := (hf3109.1 516 (by omega)).trans (hc516)
    have h3145 := (hf3109.1 528 (by omega)).trans (hc528)
    have h3146 := (hf3109.1 529 (by omega)).trans (hc529)
    exact Or.inl ⟨n3079, so3080, pl3081, ct3082, rc2, kc2, wc2, rn2, lo2, kn2, ab2, D2, W2, c3083, rc3084, kc3085, wc3086, rn3087, lo3088, kn3089, ab3090, D3091, W3092, D3093, rfl, hp3095, hp3096, hp3098, hp3099, ⟨B2, B, (by omega), ⟨ho3103, ho3104, h3131⟩, ⟨B2, fl9, fp9, at9, n9, cur9, so9, pl9, ct9, hpa9, hlx9⟩, ⟨rn3087, kn3089, hp3100, hp3101⟩, ⟨_, _, _, _, _, _, _, _, _, hb9, hs9⟩, ⟨dr, ho3105, h3132, h3133⟩, ⟨nW, nF, nL, nP, nH, nC, ho3107, h3134, h3135, h3136, h3137, h3138, h3139, (fun n h1 h2 => absurd h2 (by omega)), (fun p h h1 h2 h3 h4 => absurd rfl h4)⟩, ⟨0, oK, oW, oA, oH, tl, ho3106, h3140, h3141, h3142, h3143, h3144, (by omega), (fun z => absurd z (by omega))⟩, hg_f.fr hF (fun q h1 h2 => by omega), ⟨hgt, vs, pl, ho3108, h3145, h3146⟩⟩, (X_Fr.rf).tr (X_Fr.mono ⟨hf3109.1, hf3109.2⟩ (fun q hq => (by omega)))⟩
  · skip
    rw [hv3123]
    have hF : X_Fr (fun q => q = 2 ∨ (496 ≤ q ∧ q ≤ 500) ∨ (B2 ≤ q ∧ q < B2 + 246)) S S3077 := (X_Fr.rf).tr (X_Fr.mono ⟨hf3130.1, hf3130.2⟩ (fun q hq => (by omega)))
    obtain ⟨⟨fl9, fp9, hpa9⟩, at9, n9, cur9, so9, pl9, ct9, hlx9⟩ := hp3128
    have h3147 := (hf3130.1 1 (by omega)).trans (hc1)
    have h3148 := (hf3130.1 3 (by omega)).trans (hc3)
    exact Or.inr ⟨n3110, so3111, pl3112, ct3113, rc2, kc2, wc2, rn2, lo2, kn2, ab2, D2, W2, rfl, hp3124, hp3125, ⟨B, B2, hB_, ⟨h3147, ho3129, h3148⟩, ⟨B2, fl9, fp9, at9, n9, cur9, so9, pl9, ct9, hpa9, hlx9⟩, hg_b.fr hF (fun q h1 h2 => by omega), ⟨rcx3114, kcx3115, wcx3116, rnx3117, lox3118, knx3119, abx3120, Dx3121, Wx3122, hp3126, hp3127⟩, hg_s.fr hF (fun q h1 h2 => by omega), hg_r.fr hF (fun q h1 h2 => by omega), hg_c.fr hF (fun q h1 h2 => by omega), hg_f.fr hF (fun q h1 h2 => by omega), hg_w.fr hF (fun q h1 h2 => by omega)⟩, (X_Fr.rf).tr (X_Fr.mono ⟨hf3130.1, hf3130.2⟩ (fun q hq => (by omega)))⟩
