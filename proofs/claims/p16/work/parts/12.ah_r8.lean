section
theorem xr_157_155 : X_row 157 155 = some (155, (.aload_n 0, 1), (0, 0, 0)) := by decide +kernel
theorem xr_157_156 : X_row 157 156 = some (156, (.invokevirtual 100, 3), (140, 14, 0)) := by decide +kernel
theorem xr_157_159 : X_row 157 159 = some (159, (.ifCond .eq 46, 3), (0, 0, 0)) := by decide +kernel
theorem xr_157_162 : X_row 157 162 = some (162, (.aload_n 0, 1), (0, 0, 0)) := by decide +kernel
theorem xr_157_163 : X_row 157 163 = some (163, (.getfield 27, 3), (11, 9, 18)) := by decide +kernel
theorem xr_157_166 : X_row 157 166 = some (166, (.iconst 5, 1), (0, 0, 0)) := by decide +kernel
theorem xr_157_167 : X_row 157 167 = some (167, (.if_icmp .eq 12, 3), (0, 0, 0)) := by decide +kernel
theorem xr_157_170 : X_row 157 170 = some (170, (.aload_n 0, 1), (0, 0, 0)) := by decide +kernel
theorem xr_157_171 : X_row 157 171 = some (171, (.bipush 95, 2), (0, 0, 0)) := by decide +kernel
theorem xr_157_173 : X_row 157 173 = some (173, (.invokevirtual 75, 3), (145, 26, 0)) := by decide +kernel
theorem xr_157_176 : X_row 157 176 = some (176, (.ifCond .eq 29, 3), (0, 0, 0)) := by decide +kernel
theorem xr_157_179 : X_row 157 179 = some (179, (.iload_n 3, 1), (0, 0, 0)) := by decide +kernel
theorem xr_157_180 : X_row 157 180 = some (180, (.ifCond .ne 11, 3), (0, 0, 0)) := by decide +kernel
theorem xr_157_183 : X_row 157 183 = some (183, (.aload_n 0, 1), (0, 0, 0)) := by decide +kernel
theorem xr_157_184 : X_row 157 184 = some (184, (.getfield 27, 3), (11, 9, 18)) := by decide +kernel
theorem xr_157_187 : X_row 157 187 = some (187, (.iconst 5, 1), (0, 0, 0)) := by decide +kernel
theorem xr_157_188 : X_row 157 188 = some (188, (.if_icmp .ne 7, 3), (0, 0, 0)) := by decide +kernel
theorem xr_157_191 : X_row 157 191 = some (191, (.iconst 1, 1), (0, 0, 0)) := by decide +kernel
theorem xr_157_192 : X_row 157 192 = some (192, (.goto 4, 3), (0, 0, 0)) := by decide +kernel
theorem xr_157_195 : X_row 157 195 = some (195, (.iconst 0, 1), (0, 0, 0)) := by decide +kernel
theorem xr_157_196 : X_row 157 196 = some (196, (.istore_n 3, 1), (0, 0, 0)) := by decide +kernel
theorem xr_157_197 : X_row 157 197 = some (197, (.aload_n 0, 1), (0, 0, 0)) := by decide +kernel
theorem xr_157_198 : X_row 157 198 = some (198, (.iload_n 1, 1), (0, 0, 0)) := by decide +kernel
theorem xr_157_199 : X_row 157 199 = some (199, (.invokevirtual 159, 3), (158, 44, 0)) := by decide +kernel
theorem xr_157_202 : X_row 157 202 = some (202, (.goto (-47), 3), (0, 0, 0)) := by decide +kernel
theorem xr_157_205 : X_row 157 205 = some (205, (.aload_n 0, 1), (0, 0, 0)) := by decide +kernel
theorem xr_157_206 : X_row 157 206 = some (206, (.invokevirtual 100, 3), (140, 14, 0)) := by decide +kernel
theorem xr_157_209 : X_row 157 209 = some (209, (.ifCond .eq 38, 3), (0, 0, 0)) := by decide +kernel
theorem xr_157_212 : X_row 157 212 = some (212, (.aload_n 0, 1), (0, 0, 0)) := by decide +kernel
theorem xr_157_213 : X_row 157 213 = some (213, (.getfield 150, 3), (11, 20, 40)) := by decide +kernel
theorem xr_157_216 : X_row 157 216 = some (216, (.iload_n 1, 1), (0, 0, 0)) := by decide +kernel
theorem xr_157_217 : X_row 157 217 = some (217, (.iaload, 1), (0, 0, 0)) := by decide +kernel
theorem xr_157_218 : X_row 157 218 = some (218, (.ifCond .eq 25, 3), (0, 0, 0)) := by decide +kernel
theorem xr_157_221 : X_row 157 221 = some (221, (.iload_n 3, 1), (0, 0, 0)) := by decide +kernel
theorem xr_157_222 : X_row 157 222 = some (222, (.ifCond .eq 21, 3), (0, 0, 0)) := by decide +kernel
theorem xr_157_225 : X_row 157 225 = some (225, (.aload_n 0, 1), (0, 0, 0)) := by decide +kernel
theorem xr_157_226 : X_row 157 226 = some (226, (.bipush 61, 2), (0, 0, 0)) := by decide +kernel
theorem xr_157_228 : X_row 157 228 = some (228, (.invokevirtual 75, 3), (145, 26, 0)) := by decide +kernel
theorem xr_157_231 : X_row 157 231 = some (231, (.ifCond .ne 16, 3), (0, 0, 0)) := by decide +kernel
theorem xr_157_234 : X_row 157 234 = some (234, (.aload_n 0, 1), (0, 0, 0)) := by decide +kernel
theorem xr_157_235 : X_row 157 235 = some (235, (.bipush 59, 2), (0, 0, 0)) := by decide +kernel
theorem xr_157_237 : X_row 157 237 = some (237, (.invokevirtual 75, 3), (145, 26, 0)) := by decide +kernel
theorem xr_157_240 : X_row 157 240 = some (240, (.ifCond .ne 7, 3), (0, 0, 0)) := by decide +kernel
theorem xr_157_243 : X_row 157 243 = some (243, (.aload_n 0, 1), (0, 0, 0)) := by decide +kernel
theorem xr_157_244 : X_row 157 244 = some (244, (.invokevirtual 81, 3), (147, 16, 0)) := by decide +kernel
theorem xr_157_247 : X_row 157 247 = some (247, (.aload_n 0, 1), (0, 0, 0)) := by decide +kernel
theorem xr_157_248 : X_row 157 248 = some (248, (.invokevirtual 100, 3), (140, 14, 0)) := by decide +kernel
theorem xr_157_251 : X_row 157 251 = some (251, (.ifCond .eq 26, 3), (0, 0, 0)) := by decide +kernel
theorem xr_157_254 : X_row 157 254 = some (254, (.aload_n 0, 1), (0, 0, 0)) := by decide +kernel
theorem xr_157_255 : X_row 157 255 = some (255, (.getfield 144, 3), (11, 18, 36)) := by decide +kernel
theorem xr_157_258 : X_row 157 258 = some (258, (.iload_n 1, 1), (0, 0, 0)) := by decide +kernel
theorem xr_157_259 : X_row 157 259 = some (259, (.iaload, 1), (0, 0, 0)) := by decide +kernel
theorem xr_157_260 : X_row 157 260 = some (260, (.ifCond .le 17, 3), (0, 0, 0)) := by decide +kernel
theorem xr_157_263 : X_row 157 263 = some (263, (.aload_n 0, 1), (0, 0, 0)) := by decide +kernel
theorem xr_157_264 : X_row 157 264 = some (264, (.iload_n 1, 1), (0, 0, 0)) := by decide +kernel
theorem xr_157_265 : X_row 157 265 = some (265, (.invokevirtual 162, 3), (160, 46, 0)) := by decide +kernel
theorem xr_157_268 : X_row 157 268 = some (268, (.ifCond .ne 9, 3), (0, 0, 0)) := by decide +kernel
theorem xr_157_271 : X_row 157 271 = some (271, (.aload_n 0, 1), (0, 0, 0)) := by decide +kernel
theorem xr_157_272 : X_row 157 272 = some (272, (.iconst 2, 1), (0, 0, 0)) := by decide +kernel
theorem xr_157_273 : X_row 157 273 = some (273, (.iload_n 2, 1), (0, 0, 0)) := by decide +kernel
theorem xr_157_274 : X_row 157 274 = some (274, (.invokevirtual 72, 3), (139, 18, 0)) := by decide +kernel
theorem xr_157_277 : X_row 157 277 = some (277, (.aload_n 0, 1), (0, 0, 0)) := by decide +kernel
theorem xr_157_278 : X_row 157 278 = some (278, (.invokevirtual 100, 3), (140, 14, 0)) := by decide +kernel
theorem xr_157_281 : X_row 157 281 = some (281, (.ifCond .eq 21, 3), (0, 0, 0)) := by decide +kernel
theorem xr_157_284 : X_row 157 284 = some (284, (.aload_n 0, 1), (0, 0, 0)) := by decide +kernel
theorem xr_157_285 : X_row 157 285 = some (285, (.bipush 61, 2), (0, 0, 0)) := by decide +kernel
theorem xr_157_287 : X_row 157 287 = some (287, (.invokevirtual 75, 3), (145, 26, 0)) := by decide +kernel
theorem xr_157_290 : X_row 157 290 = some (290, (.ifCond .eq 12, 3), (0, 0, 0)) := by decide +kernel
theorem xr_157_293 : X_row 157 293 = some (293, (.aload_n 0, 1), (0, 0, 0)) := by decide +kernel
theorem xr_157_294 : X_row 157 294 = some (294, (.invokevirtual 78, 3), (141, 0, 0)) := by decide +kernel
theorem xr_157_297 : X_row 157 297 = some (297, (.aload_n 0, 1), (0, 0, 0)) := by decide +kernel
theorem xr_157_298 : X_row 157 298 = some (298, (.iload_n 1, 1), (0, 0, 0)) := by decide +kernel
theorem xr_157_299 : X_row 157 299 = some (299, (.invokevirtual 165, 3), (159, 48, 0)) := by decide +kernel
theorem xr_157_302 : X_row 157 302 = some (302, (.aload_n 0, 1), (0, 0, 0)) := by decide +kernel
theorem xr_157_303 : X_row 157 303 = some (303, (.dup, 1), (0, 0, 0)) := by decide +kernel
theorem xr_157_304 : X_row 157 304 = some (304, (.getfield 138, 3), (11, 30, 60)) := by decide +kernel
theorem xr_157_307 : X_row 157 307 = some (307, (.iconst 1, 1), (0, 0, 0)) := by decide +kernel
theorem xr_157_308 : X_row 157 308 = some (308, (.iadd, 1), (0, 0, 0)) := by decide +kernel
theorem xr_157_309 : X_row 157 309 = some (309, (.putfield 138, 3), (11, 30, 60)) := by decide +kernel
theorem xr_157_312 : X_row 157 312 = some (312, (.aload_n 0, 1), (0, 0, 0)) := by decide +kernel
theorem xr_157_313 : X_row 157 313 = some (313, (.invokevirtual 100, 3), (140, 14, 0)) := by decide +kernel
theorem xr_157_316 : X_row 157 316 = some (316, (.ifCond .eq 9, 3), (0, 0, 0)) := by decide +kernel
theorem xr_157_319 : X_row 157 319 = some (319, (.aload_n 0, 1), (0, 0, 0)) := by decide +kernel
theorem xr_157_320 : X_row 157 320 = some (320, (.bipush 59, 2), (0, 0, 0)) := by decide +kernel
theorem xr_157_322 : X_row 157 322 = some (322, (.invokevirtual 115, 3), (148, 24, 0)) := by decide +kernel
theorem xr_157_325 : X_row 157 325 = some (325, (.return_, 1), (0, 0, 0)) := by decide +kernel
theorem xn_157 : X_nL 157 = 4 := by decide +kernel
theorem xf_157 : X_na 157 = 0 ∧ X_ci 157 = 11 ∧ X_rt 157 = none := by decide +kernel
theorem sp_e1_ok {n : Int} {so : Int → Int} {ct : Int → Int64} {kn : Int → Int64} {kc c : Int} {d : Nat → Int → Int} {q : Int → Int64} {c2 : Int} {d2 : Nat → Int → Int} {q2 : Int → Int64} (hkc : 1 ≤ kc) (hcr : 0 ≤ c ∧ c < n) (hct : so c = 6 → ¬ ct c = 0) (h : sp_e1 n so ct kn kc c d q = some (c2, d2, q2)) (ho : X_eok kc d q) (h4 : d 4 0 ≤ 4) :
    X_eok kc d2 q2 ∧ (∀ f, f ≠ 3 → f ≠ 4 → f ≠ 8 → f ≠ 9 → d2 f = d f) ∧ d2 4 0 ≤ 4 ∧ d2 3 0 = d 3 0 + 1 ∧ d 3 0 < 8 ∧ (0 ≤ c2 ∧ c2 < n) ∧ ((so c = 6 ∧ d2 4 0 = d 4 0) ∨ (so c = 95 ∧ d2 4 0 = d 4 0 + 1)) := by
  have keyP : ∀ f, f ≠ 3 → X_aP d f = d f := fun f f1 => by unfold X_aP X_wu; rw [if_neg f1]
  have key : ∀ kk, (∀ f, f ≠ 3 → f ≠ 4 → f ≠ 8 → f ≠ 9 → X_aH d kk f = d f) := fun kk f f1 f2 f3 f4 => by
    unfold X_aH X_wu
    rw [if_neg f2, if_neg f1, if_neg f4, if_neg f3]
  unfold sp_e1 at h
  split at h
  · rename_i h6
    cases h
    exact ⟨X_eok_P ho h6.2 (hct h6.1), fun f f1 _ _ _ => keyP f f1, h4, rfl, h6.2, X_av_r hcr, Or.inl ⟨h6.1, rfl⟩⟩
  · split at h
    · rename_i h6
      split at h
      · split at h
        · cases h
        · have hr := X_ix_r (g := kn) (n := kc) (x := ct (X_av n c)) (by omega)
          cases h
          exact ⟨X_eok_H ho h6.2.1 (by omega), key _, (show d 4 0 + 1 ≤ 4 by have := h6.2.2.1; omega), rfl, h6.2.1, X_av_r (X_av_r hcr), Or.inr ⟨h6.1, rfl⟩⟩
      · cases h
        exact ⟨X_eok_H ho h6.2.1 (by omega), key _, (show d 4 0 + 1 ≤ 4 by have := h6.2.2.1; omega), rfl, h6.2.1, X_av_r hcr, Or.inr ⟨h6.1, rfl⟩⟩
    · cases h
theorem X_eok.le {kc : Int} {d : Nat → Int → Int} {q : Int → Int64} (h : X_eok kc d q) : 0 ≤ d 4 0 ∧ d 4 0 ≤ d 3 0 := by
  obtain ⟨⟨a1, a2⟩, a3, -, -⟩ := h
  rw [a3]
  exact X_hn_b a1
/-- a word of the reference -/
def R_w (x : Int) (d : Nat → Int → Int) (q : Int → Int64) (wR wL wK wM wH wS sO sN : Int → Int) (eP : Int → Int64) (eH hK : Int → Int) : Prop := wR x = d 0 0 ∧ wL x = d 1 0 ∧ wK x = d 2 0 ∧ R_e x d q wM wH eP eH hK ∧ R_s x d wS sO sN
theorem R_e.cg {x : Int} {d d' : Nat → Int → Int} {q : Int → Int64} {wM wH : Int → Int} {eP : Int → Int64} {eH hK : Int → Int} (h : R_e x d q wM wH eP eH hK) (h3 : d' 3 = d 3) (h4 : d' 4 = d 4) (h8 : d' 8 = d 8) (h9 : d' 9 = d 9) : R_e x d' q wM wH eP eH hK := by
  unfold R_e at h ⊢
  rw [h3, h4, h8, h9]
  exact h
theorem R_w.fr {x y : Int} {d : Nat → Int → Int} {q : Int → Int64} {wR wL wK wM wH wS sO sN wR' wL' wK' wM' wH' wS' sO' sN' : Int → Int} {eP eP' : Int → Int64} {eH hK eH' hK' : Int → Int} (hxy : ¬ x = y) (hd : d 3 0 ≤ 8 ∧ d 4 0 ≤ 4 ∧ d 5 0 ≤ 30)
    (h : R_w x d q wR wL wK wM wH wS sO sN eP eH hK) (o1 : R_ob 1 y wR wR') (o2 : R_ob 1 y wL wL') (o3 : R_ob 1 y wK wK') (o4 : R_ob 1 y wM wM') (o5 : R_ob 1 y wH wH') (o6 : R_ob 1 y wS wS') (o7 : R_ob 30 y sO sO') (o8 : R_ob 30 y sN sN') (o9 : R_ob 8 y eP eP') (o10 : R_ob 8 y eH eH') (o11 : R_ob 4 y hK hK') : R_w x d q wR' wL' wK' wM' wH' wS' sO' sN' eP' eH' hK' := by
  obtain ⟨a1, a2, a3, ⟨b1, b2, b3, b4⟩, ⟨c1, c2⟩⟩ := h
  have k1 : ∀ z : Int, z = x → ¬ (1 * y ≤ z ∧ z < 1 * y + 1) := fun z hz => by omega
  refine ⟨(o1 _ (k1 _ rfl)).trans a1, (o2 _ (k1 _ rfl)).trans a2, (o3 _ (k1 _ rfl)).trans a3, ⟨(o4 _ (k1 _ rfl)).trans b1, (o5 _ (k1 _ rfl)).trans b2, fun e g1 g2 => ?_, fun h g1 g2 => ?_⟩, ⟨(o6 _ (k1 _ rfl)).trans c1, fun k g1 g2 => ?_⟩⟩
  · rw [o9 _ (by omega), o10 _ (by omega)]; exact b3 e g1 g2
  · rw [o11 _ (by omega)]; exact b4 h g1 g2
  · rw [o7 _ (by omega), o8 _ (by omega)]; exact c2 k g1 g2
theorem sp_sl_steps {n : Int} {so : Int → Int} {ct : Int → Int64} {c : Int} {d : Nat → Int → Int} {r : Option (Int × (Nat → Int → Int) × Int)} (h : sp_sl n so ct 30 (X_av n c) (X_wu d 5 (fun _ => 0)) 0 = r) : sp_steps n so ct c d = r.bind fun r => if so r.1 = 59 then (if r.2.2 = 1 then some (X_av n r.1, r.2.1) else none) else none := by
  unfold sp_steps
  rw [h]

theorem R_ob.tr {α : Type} {m b : Int} {g g1 g2 : Int → α} (h1 : R_ob m b g g1) (h2 : R_ob m b g1 g2) : R_ob m b g g2 := fun i hi => (h2 i hi).trans (h1 i hi)
set_option maxHeartbeats 16000000 in
theorem r_rwC (sc : X_Sc) (S : X_S) (o : Nat → Int) (nm : Int64) (tx : Int → Int) (kN : Int → Int64) (wR : Int → Int) (wL : Int → Int) (wK : Int → Int) (wM : Int → Int) (wH : Int → Int) (wS : Int → Int) (sO : Int → Int) (sN : Int → Int) (eP : Int → Int64) (eH : Int → Int) (hK : Int → Int) (tb : Int → Int) (len : Int) (n : Int) (so : Int → Int) (pl : Int → Int) (ct : Int → Int64) (E : Int → Int) (c : Int) (kn : Int → Int64) (kc : Int) (wc : Int) (wi : Int) (d : Nat → Int → Int) (q : Int → Int64) (col : Int) (hM : M_o S o nm) (hA532 : S.1 532 = .inl (.byte, 2000, .inl fun k : Nat => iI (tx (k : Int)))) (hA534 : S.1 534 = .inl (.long, 22, .inr (.inl fun k : Nat => kN (k : Int)))) (hA537 : S.1 537 = .inl (.int, 60, .inl fun k : Nat => iI (wR (k : Int)))) (hA538 : S.1 538 = .inl (.int, 60, .inl fun k : Nat => iI (wL (k : Int)))) (hA539 : S.1 539 = .inl (.int, 60, .inl fun k : Nat => iI (wK (k : Int)))) (hA540 : S.1 540 = .inl (.int, 60, .inl fun k : Nat => iI (wM (k : Int)))) (hA541 : S.1 541 = .inl (.int, 60, .inl fun k : Nat => iI (wH (k : Int)))) (hA542 : S.1 542 = .inl (.int, 60, .inl fun k : Nat => iI (wS (k : Int)))) (hA543 : S.1 543 = .inl (.int, 1800, .inl fun k : Nat => iI (sO (k : Int)))) (hA544 : S.1 544 = .inl (.int, 1800, .inl fun k : Nat => iI (sN (k : Int)))) (hA545 : S.1 545 = .inl (.long, 480, .inr (.inl fun k : Nat => eP (k : Int)))) (hA546 : S.1 546 = .inl (.int, 480, .inl fun k : Nat => iI (eH (k : Int)))) (hA547 : S.1 547 = .inl (.int, 240, .inl fun k : Nat => iI (hK (k : Int)))) (hlen : o 3 = len) (hl : 0 ≤ len ∧ len ≤ 2000) (htx : ∀ k, 0 ≤ k → k < len → tx k = tb k) (hX : X_TxE tb len n so pl ct E) (hT : R_tk n so pl ct E c (o 7) (o 8) (o 9) (o 10) (o 11) nm) (h5 : o 5 = 0) (hkc : o 29 = kc) (hwc : o 30 = wc) (hcr : 1 ≤ kc ∧ kc ≤ 11) (hb : 0 ≤ o 4 ∧ o 4 ≤ 1) (hN : ∀ i, 0 ≤ i → i < kc → kN (11 * o 4 + i) = kn i) (hw : 0 ≤ wi ∧ wi < 60 ∧ 0 ≤ wc ∧ wc < 30) (hW : R_w wi d q wR wL wK wM wH wS sO sN eP eH hK) (hd3 : d 3 0 = 0 ∧ d 4 0 = 0 ∧ d 5 0 = -1) (hd1 : 0 ≤ d 1 0 ∧ d 1 0 ≤ 2) (hct : ∀ i, 0 ≤ i → i < n → so i = 6 → ¬ ct i = 0) : X_T sc 157 (155, [(3, .int (iI (bI (False)))), (2, .int (iI col)), (1, .int (iI wi)), (0, .ref 530)], [], S) (fun v S' => (∃ (at1 : Int) (en1 : Int) (tk1 : Int) (nu1 : Int) (dg1 : Int) (nm1 : Int64) (g1 : Int) (c2 : Int) (d2 : Nat → Int → Int) (q2 : Int → Int64) (wR1 : Int → Int) (wL1 : Int → Int) (wK1 : Int → Int) (wM1 : Int → Int) (wH1 : Int → Int) (wS1 : Int → Int) (sO1 : Int → Int) (sN1 : Int → Int) (eP1 : Int → Int64) (eH1 : Int → Int) (hK1 : Int → Int), v = none ∧ R_tk n so pl ct E c2 at1 en1 tk1 nu1 dg1 nm1 ∧ ((sp_el n so ct kn kc 9 c d q).bind fun r => sp_we n so ct r.1 r.2.1 r.2.2) = some (c2, d2, q2) ∧ R_w wi d2 q2 wR1 wL1 wK1 wM1 wH1 wS1 sO1 sN1 eP1 eH1 hK1 ∧ R_ob 1 wi wR wR1 ∧ R_ob 1 wi wL wL1 ∧ R_ob 1 wi wK wK1 ∧ R_ob 1 wi wM wM1 ∧ R_ob 1 wi wH wH1 ∧ R_ob 1 wi wS wS1 ∧ R_ob 30 wi sO sO1 ∧ R_ob 30 wi sN sN1 ∧ R_ob 8 wi eP eP1 ∧ R_ob 8 wi eH eH1 ∧ R_ob 4 wi hK hK1 ∧ M_o S' (X_ou (X_ou (X_ou (X_ou (X_ou (X_ou (X_ou o 7 at1) 8 en1) 9 tk1) 10 nu1) 11 dg1) 6 g1) 30 (wc + 1)) nm1 ∧ S'.1 537 = .inl (.int, 60, .inl fun k : Nat => iI (wR1 (k : Int))) ∧ S'.1 538 = .inl (.int, 60, .inl fun k : Nat => iI (wL1 (k : Int))) ∧ S'.1 539 = .inl (.int, 60, .inl fun k : Nat => iI (wK1 (k : Int))) ∧ S'.1 540 = .inl (.int, 60, .inl fun k : Nat => iI (wM1 (k : Int))) ∧ S'.1 541 = .inl (.int, 60, .inl fun k : Nat => iI (wH1 (k : Int))) ∧ S'.1 542 = .inl (.int, 60, .inl fun k : Nat => iI (wS1 (k : Int))) ∧ S'.1 543 = .inl (.int, 1800, .inl fun k : Nat => iI (sO1 (k : Int))) ∧ S'.1 544 = .inl (.int, 1800, .inl fun k : Nat => iI (sN1 (k : Int))) ∧ S'.1 545 = .inl (.long, 480, .inr (.inl fun k : Nat => eP1 (k : Int))) ∧ S'.1 546 = .inl (.int, 480, .inl fun k : Nat => iI (eH1 (k : Int))) ∧ S'.1 547 = .inl (.int, 240, .inl fun k : Nat => iI (hK1 (k : Int))) ∧ (X_Fr (fun q => q = 530 ∨ q = 537 ∨ q = 538 ∨ q = 539 ∨ q = 540 ∨ q = 541 ∨ q = 542 ∨ q = 543 ∨ q = 544 ∨ q = 545 ∨ q = 546 ∨ q = 547) S S')) ∨ (∃ (at1 : Int) (en1 : Int) (tk1 : Int) (nu1 : Int) (dg1 : Int) (nm1 : Int64) (wc1 : Int) (f1 : Int) (g1 : Int) (wR1 : Int → Int) (wL1 : Int → Int) (wK1 : Int → Int) (wM1 : Int → Int) (wH1 : Int → Int) (wS1 : Int → Int) (sO1 : Int → Int) (sN1 : Int → Int) (eP1 : Int → Int64) (eH1 : Int → Int) (hK1 : Int → Int), v = none ∧ (1 ≤ f1 ∧ f1 ≤ 5) ∧ ((sp_el n so ct kn kc 9 c d q).bind fun r => sp_we n so ct r.1 r.2.1 r.2.2) = none ∧ R_ob 1 wi wR wR1 ∧ R_ob 1 wi wL wL1 ∧ R_ob 1 wi wK wK1 ∧ R_ob 1 wi wM wM1 ∧ R_ob 1 wi wH wH1 ∧ R_ob 1 wi wS wS1 ∧ R_ob 30 wi sO sO1 ∧ R_ob 30 wi sN sN1 ∧ R_ob 8 wi eP eP1 ∧ R_ob 8 wi eH eH1 ∧ R_ob 4 wi hK hK1 ∧ M_o S' (X_ou (X_ou (X_ou (X_ou (X_ou (X_ou (X_ou (X_ou o 7 at1) 8 en1) 9 tk1) 10 nu1) 11 dg1) 5 f1) 6 g1) 30 wc1) nm1 ∧ S'.1 537 = .inl (.int, 60, .inl fun k : Nat => iI (wR1 (k : Int))) ∧ S'.1 538 = .inl (.int, 60, .inl fun k : Nat => iI (wL1 (k : Int))) ∧ S'.1 539 = .inl (.int, 60, .inl fun k : Nat => iI (wK1 (k : Int))) ∧ S'.1 540 = .inl (.int, 60, .inl fun k : Nat => iI (wM1 (k : Int))) ∧ S'.1 541 = .inl (.int, 60, .inl fun k : Nat => iI (wH1 (k : Int))) ∧ S'.1 542 = .inl (.int, 60, .inl fun k : Nat => iI (wS1 (k : Int))) ∧ S'.1 543 = .inl (.int, 1800, .inl fun k : Nat => iI (sO1 (k : Int))) ∧ S'.1 544 = .inl (.int, 1800, .inl fun k : Nat => iI (sN1 (k : Int))) ∧ S'.1 545 = .inl (.long, 480, .inr (.inl fun k : Nat => eP1 (k : Int))) ∧ S'.1 546 = .inl (.int, 480, .inl fun k : Nat => iI (eH1 (k : Int))) ∧ S'.1 547 = .inl (.int, 240, .inl fun k : Nat => iI (hK1 (k : Int))) ∧ (X_Fr (fun q => q = 530 ∨ q = 537 ∨ q = 538 ∨ q = 539 ∨ q = 540 ∨ q = 541 ∨ q = 542 ∨ q = 543 ∨ q = 544 ∨ q = 545 ∨ q = 546 ∨ q = 547) S S'))) := by
  obtain ⟨⟨hc0, hcn⟩, ⟨hs0, hs1⟩, hk0, ⟨ha0, ha1⟩, hk0e, ⟨_, _⟩, ⟨_, _⟩⟩ := R_tk_f hX hT
  have hn2 := hX.2.1
  refine X_QI (fun Q hQ => ?_)
  have L2665 : ∀ (m2667 : Nat) (S2670 : X_S) (part : Prop) (f1 : Int) (g1 : Int) (at1 : Int) (en1 : Int) (tk1 : Int) (nu1 : Int) (dg1 : Int) (nm1 : Int64) (c1 : Int) (d1 : Nat → Int → Int) (q1 : Int → Int64) (wM1 : Int → Int) (wH1 : Int → Int) (eP1 : Int → Int64) (eH1 : Int → Int) (hK1 : Int → Int) (hM1 : S2670.1 530 = .inr (11, [.ref 531, .int (iI (o 1)), .ref 532, .int (iI (o 3)), .int (iI (o 4)), .int (iI f1), .int (iI g1), .int (iI at1), .int (iI en1), .int (iI tk1), .int (iI nu1), .int (iI dg1), .long nm1, .ref 533, .ref 534, .ref 535, .ref 536, .ref 537, .ref 538, .ref 539, .ref 540, .ref 541, .ref 542, .ref 543, .ref 544, .ref 545, .ref 546, .ref 547, .int (iI (o 28)), .int (iI (o 29)), .int (iI (o 30)), .int (iI (o 31)), .int (iI (o 32)), .int (iI (o 33)), .ref 548, .ref 549, .ref 550, .ref 551, .int (iI (o 38)), .ref 552, .ref 553, .ref 554, .ref 555, .ref 556, .ref 557, .ref 558, .ref 559, .ref 560, .ref 561, .int (iI (o 49)), .ref 562, .ref 563, .ref 564, .ref 565, .ref 566, .ref 567, .ref 568, .ref 569, .int (iI (o 58)), .ref 570, .ref 571, .ref 572, .ref 573, .ref 574, .ref 575, .ref 576, .ref 577, .ref 578, .int (iI (o 68)), .int (iI (o 69)), .int (iI (o 70)), .ref 579])) (hA1 : S2670.1 540 = .inl (.int, 60, .inl fun k : Nat => iI (wM1 (k : Int)))) (hA2 : S2670.1 541 = .inl (.int, 60, .inl fun k : Nat => iI (wH1 (k : Int)))) (hA3 : S2670.1 545 = .inl (.long, 480, .inr (.inl fun k : Nat => eP1 (k : Int)))) (hA4 : S2670.1 546 = .inl (.int, 480, .inl fun k : Nat => iI (eH1 (k : Int)))) (hA5 : S2670.1 547 = .inl (.int, 240, .inl fun k : Nat => iI (hK1 (k : Int)))) (hF2669 : X_Fr (fun q => q = 530 ∨ q = 540 ∨ q = 541 ∨ q = 545 ∨ q = 546 ∨ q = 547) S S2670) (hf1 : 0 ≤ f1 ∧ f1 ≤ 5) (hgd : f1 = 0 → R_tk n so pl ct E c1 at1 en1 tk1 nu1 dg1 nm1 ∧ R_e wi d1 q1 wM1 wH1 eP1 eH1 hK1 ∧ sp_el n so ct kn kc (9 - d1 3 0).toNat c1 d1 q1 = sp_el n so ct kn kc 9 c d q ∧ X_eok kc d1 q1 ∧ d1 4 0 ≤ 4 ∧ (∀ f, f ≠ 3 → f ≠ 4 → f ≠ 8 → f ≠ 9 → d1 f = d f)) (hbd : ¬ f1 = 0 → sp_el n so ct kn kc 9 c d q = none) (hob4 : R_ob 1 wi wM wM1) (hob5 : R_ob 1 wi wH wH1) (hob9 : R_ob 8 wi eP eP1) (hob10 : R_ob 8 wi eH eH1) (hob11 : R_ob 4 wi hK hK1) (hpt : f1 = 0 → (part ↔ ¬ d1 4 0 = d1 3 0)) (hm2668 : (if f1 = 0 then ((10 - d1 3 0).toNat : Int) else 0) < m2667), X_T sc 157 (155, [(3, .int (iI (bI (part)))), (1, .int (iI wi)), (2, .int (iI col)), (0, .ref 530)], [], S2670) Q := by
    intro m2667
    induction m2667 with
    | zero =>
      intro S2670 part f1 g1 at1 en1 tk1 nu1 dg1 nm1 c1 d1 q1 wM1 wH1 eP1 eH1 hK1 hM1 hA1 hA2 hA3 hA4 hA5 hF2669 hf1 hgd hbd hob4 hob5 hob9 hob10 hob11 hpt hm2668
      exact (show False by omega).elim
    | succ m2667 ih2666 =>
      intro S2670 part f1 g1 at1 en1 tk1 nu1 dg1 nm1 c1 d1 q1 wM1 wH1 eP1 eH1 hK1 hM1 hA1 hA2 hA3 hA4 hA5 hF2669 hf1 hgd hbd hob4 hob5 hob9 hob10 hob11 hpt hm2668
      refine T_p xr_157_155 xn_157 (pc' := 156) (ls' := [(3, .int (iI (bI (part)))), (1, .int (iI wi)), (2, .int (iI col)), (0, .ref 530)]) (st' := [.ref 530]) rfl ?_
      refine T_cv (S := S2670) (q := 530) xr_157_156 xf_140.1 xf_140.2.1 xn_140 (as := []) (r := []) rfl hM1 (Nat.le_of_ble_eq_true rfl) (Nat.le_of_ble_eq_true rfl) (pc' := 159) rfl (ls' := [(0, .ref 530)]) rfl ?_
      refine T_mono (r_isGood sc S2670 (X_ou (X_ou (X_ou (X_ou (X_ou (X_ou (X_ou o 5 f1) 6 g1) 7 at1) 8 en1) 9 tk1) 10 nu1) 11 dg1) nm1 hM1 (show 0 ≤ f1 ∧ f1 ≤ 5 from by omega)) (fun v2671 S2672 h2673 => ?_)
      rcases h2673 with ⟨hv2674, hf2675⟩
      rw [hv2674]
      rw [hf2675]
      show X_T sc 157 (159, [(3, .int (iI (bI (part)))), (1, .int (iI wi)), (2, .int (iI col)), (0, .ref 530)], [.int (iI (bI (f1 = 0)))], S2670) _
      refine T_bif_eq xr_157_159 (t := 205) (pc' := 162) rfl rfl (fun c2676 => ?_) (fun c2676 => ?_)
      · skip
        have c2676 : ¬ (f1 = 0) := c2676
        refine T_p xr_157_205 xn_157 (pc' := 206) (ls' := [(3, .int (iI (bI (part)))), (1, .int (iI wi)), (2, .int (iI col)), (0, .ref 530)]) (st' := [.ref 530]) rfl ?_
        refine T_cv (S := S2670) (q := 530) xr_157_206 xf_140.1 xf_140.2.1 xn_140 (as := []) (r := []) rfl hM1 (Nat.le_of_ble_eq_true rfl) (Nat.le_of_ble_eq_true rfl) (pc' := 209) rfl (ls' := [(0, .ref 530)]) rfl ?_
        refine T_mono (r_isGood sc S2670 (X_ou (X_ou (X_ou (X_ou (X_ou (X_ou (X_ou o 5 f1) 6 g1) 7 at1) 8 en1) 9 tk1) 10 nu1) 11 dg1) nm1 hM1 (show 0 ≤ f1 ∧ f1 ≤ 5 from by omega)) (fun v2677 S2678 h2679 => ?_)
        rcases h2679 with ⟨hv2680, hf2681⟩
        rw [hv2680]
        rw [hf2681]
        show X_T sc 157 (209, [(3, .int (iI (bI (part)))), (1, .int (iI wi)), (2, .int (iI col)), (0, .ref 530)], [.int (iI (bI (f1 = 0)))], S2670) _
        refine T_bif_eq xr_157_209 (t := 247) (pc' := 212) rfl rfl (fun c2682 => ?_) (fun c2682 => ?_)
        · skip
          have c2682 : ¬ (f1 = 0) := c2682
          refine T_p xr_157_247 xn_157 (pc' := 248) (ls' := [(3, .int (iI (bI (part)))), (1, .int (iI wi)), (2, .int (iI col)), (0, .ref 530)]) (st' := [.ref 530]) rfl ?_
          refine T_cv (S := S2670) (q := 530) xr_157_248 xf_140.1 xf_140.2.1 xn_140 (as := []) (r := []) rfl hM1 (Nat.le_of_ble_eq_true rfl) (Nat.le_of_ble_eq_true rfl) (pc' := 251) rfl (ls' := [(0, .ref 530)]) rfl ?_
          refine T_mono (r_isGood sc S2670 (X_ou (X_ou (X_ou (X_ou (X_ou (X_ou (X_ou o 5 f1) 6 g1) 7 at1) 8 en1) 9 tk1) 10 nu1) 11 dg1) nm1 hM1 (show 0 ≤ f1 ∧ f1 ≤ 5 from by omega)) (fun v2683 S2684 h2685 => ?_)
          rcases h2685 with ⟨hv2686, hf2687⟩
          rw [hv2686]
          rw [hf2687]
          show X_T sc 157 (251, [(3, .int (iI (bI (part)))), (1, .int (iI wi)), (2, .int (iI col)), (0, .ref 530)], [.int (iI (bI (f1 = 0)))], S2670) _
          refine T_bif_eq xr_157_251 (t := 277) (pc' := 254) rfl rfl (fun c2688 => ?_) (fun c2688 => ?_)
          · skip
            have c2688 : ¬ (f1 = 0) := c2688
            refine T_p xr_157_277 xn_157 (pc' := 278) (ls' := [(3, .int (iI (bI (part)))), (1, .int (iI wi)), (2, .int (iI col)), (0, .ref 530)]) (st' := [.ref 530]) rfl ?_
            refine T_cv (S := S2670) (q := 530) xr_157_278 xf_140.1 xf_140.2.1 xn_140 (as := []) (r := []) rfl hM1 (Nat.le_of_ble_eq_true rfl) (Nat.le_of_ble_eq_true rfl) (pc' := 281) rfl (ls' := [(0, .ref 530)]) rfl ?_
            refine T_mono (r_isGood sc S2670 (X_ou (X_ou (X_ou (X_ou (X_ou (X_ou (X_ou o 5 f1) 6 g1) 7 at1) 8 en1) 9 tk1) 10 nu1) 11 dg1) nm1 hM1 (show 0 ≤ f1 ∧ f1 ≤ 5 from by omega)) (fun v2689 S2690 h2691 => ?_)
            rcases h2691 with ⟨hv2692, hf2693⟩
            rw [hv2692]
            rw [hf2693]
            show X_T sc 157 (281, [(3, .int (iI (bI (part)))), (1, .int (iI wi)), (2, .int (iI col)), (0, .ref 530)], [.int (iI (bI (f1 = 0)))], S2670) _
            refine T_bif_eq xr_157_281 (t := 302) (pc' := 284) rfl rfl (fun c2694 => ?_) (fun c2694 => ?_)
            · skip
              have c2694 : ¬ (f1 = 0) := c2694
              refine T_p xr_157_302 xn_157 (pc' := 303) (ls' := [(3, .int (iI (bI (part)))), (1, .int (iI wi)), (2, .int (iI col)), (0, .ref 530)]) (st' := [.ref 530]) rfl ?_
              refine T_p xr_157_303 xn_157 (pc' := 304) (ls' := [(3, .int (iI (bI (part)))), (1, .int (iI wi)), (2, .int (iI col)), (0, .ref 530)]) (st' := [.ref 530, .ref 530]) rfl ?_
              refine T_get xr_157_304 hM1 rfl (v := .int (iI (o 30))) rfl (pc' := 307) rfl ?_
              refine T_p xr_157_307 xn_157 (pc' := 308) (ls' := [(3, .int (iI (bI (part)))), (1, .int (iI wi)), (2, .int (iI col)), (0, .ref 530)]) (st' := [.int (iI 1), .int (iI (o 30)), .ref 530]) rfl ?_
              refine T_ziadd xr_157_308 (z := (o 30) + 1) rfl (pc' := 309) rfl ?_
              refine T_ie (y := iI (wc + 1)) (by rw [hwc]) ?_
              refine T_put xr_157_309 hM1 rfl (Nat.le_of_ble_eq_true rfl) rfl (fs' := [.ref 531, .int (iI (o 1)), .ref 532, .int (iI (o 3)), .int (iI (o 4)), .int (iI f1), .int (iI g1), .int (iI at1), .int (iI en1), .int (iI tk1), .int (iI nu1), .int (iI dg1), .long nm1, .ref 533, .ref 534, .ref 535, .ref 536, .ref 537, .ref 538, .ref 539, .ref 540, .ref 541, .ref 542, .ref 543, .ref 544, .ref 545, .ref 546, .ref 547, .int (iI (o 28)), .int (iI (o 29)), .int (iI (wc + 1)), .int (iI (o 31)), .int (iI (o 32)), .int (iI (o 33)), .ref 548, .ref 549, .ref 550, .ref 551, .int (iI (o 38)), .ref 552, .ref 553, .ref 554, .ref 555, .ref 556, .ref 557, .ref 558, .ref 559, .ref 560, .ref 561, .int (iI (o 49)), .ref 562, .ref 563, .ref 564, .ref 565, .ref 566, .ref 567, .ref 568, .ref 569, .int (iI (o 58)), .ref 570, .ref 571, .ref 572, .ref 573, .ref 574, .ref 575, .ref 576, .ref 577, .ref 578, .int (iI (o 68)), .int (iI (o 69)), .int (iI (o 70)), .ref 579]) rfl (pc' := 312) rfl (fun S2695 h2696 n2697 e2698 => ?_)
              refine T_p xr_157_312 xn_157 (pc' := 313) (ls' := [(3, .int (iI (bI (part)))), (1, .int (iI wi)), (2, .int (iI col)), (0, .ref 530)]) (st' := [.ref 530]) rfl ?_
              refine T_cv (S := S2695) (q := 530) xr_157_313 xf_140.1 xf_140.2.1 xn_140 (as := []) (r := []) rfl h2696 (Nat.le_of_ble_eq_true rfl) (Nat.le_of_ble_eq_true rfl) (pc' := 316) rfl (ls' := [(0, .ref 530)]) rfl ?_
              refine T_mono (r_isGood sc S2695 (X_ou (X_ou (X_ou (X_ou (X_ou (X_ou (X_ou (X_ou o 5 f1) 6 g1) 7 at1) 8 en1) 9 tk1) 10 nu1) 11 dg1) 30 (wc + 1)) nm1 h2696 (show 0 ≤ f1 ∧ f1 ≤ 5 from by omega)) (fun v2699 S2700 h2701 => ?_)
              rcases h2701 with ⟨hv2702, hf2703⟩
              rw [hv2702]
              rw [hf2703]
              show X_T sc 157 (316, [(3, .int (iI (bI (part)))), (1, .int (iI wi)), (2, .int (iI col)), (0, .ref 530)], [.int (iI (bI (f1 = 0)))], S2695) _
              refine T_bif_eq xr_157_316 (t := 325) (pc' := 319) rfl rfl (fun c2704 => ?_) (fun c2704 => ?_)
              · skip
                have c2704 : ¬ (f1 = 0) := c2704
                refine T_vret xr_157_325 xf_157.2.2 ?_
                refine hQ _ _ ?_
                have h2705 := (n2697 537 (by decide)).trans ((hF2669.1 537 (by first | decide | omega)).trans (hA537))
                have h2706 := (n2697 538 (by decide)).trans ((hF2669.1 538 (by first | decide | omega)).trans (hA538))
                have h2707 := (n2697 539 (by decide)).trans ((hF2669.1 539 (by first | decide | omega)).trans (hA539))
                have h2708 := (n2697 540 (by decide)).trans (hA1)
                have h2709 := (n2697 541 (by decide)).trans (hA2)
                have h2710 := (n2697 542 (by decide)).trans ((hF2669.1 542 (by first | decide | omega)).trans (hA542))
                have h2711 := (n2697 543 (by decide)).trans ((hF2669.1 543 (by first | decide | omega)).trans (hA543))
                have h2712 := (n2697 544 (by decide)).trans ((hF2669.1 544 (by first | decide | omega)).trans (hA544))
                have h2713 := (n2697 545 (by decide)).trans (hA3)
                have h2714 := (n2697 546 (by decide)).trans (hA4)
                have h2715 := (n2697 547 (by decide)).trans (hA5)
                refine Or.inr ⟨at1, en1, tk1, nu1, dg1, nm1, wc + 1, f1, g1, wR, wL, wK, wM1, wH1, wS, sO, sN, eP1, eH1, hK1, rfl, by omega, ?_, R_ob.rf, R_ob.rf, R_ob.rf, by exact hob4, by exact hob5, R_ob.rf, R_ob.rf, R_ob.rf, by exact hob9, by exact hob10, by exact hob11, h2696, h2705, h2706, h2707, h2708, h2709, h2710, h2711, h2712, h2713, h2714, h2715, ((X_Fr.rf).tr (X_Fr.mono ⟨hF2669.1, hF2669.2⟩ (fun q hq => by first | exact hq | (rcases hq with rfl <;> decide) | (rcases hq with rfl | rfl <;> decide) | (rcases hq with rfl | rfl | rfl <;> decide) | (rcases hq with rfl | rfl | rfl | rfl <;> decide) | (rcases hq with rfl | rfl | rfl | rfl | rfl <;> decide) | (rcases hq with rfl | rfl | rfl | rfl | rfl | rfl <;> decide) | (rcases hq with rfl | rfl | rfl | rfl | rfl | rfl | rfl <;> decide) | omega))).tr (X_Fr.of n2697 e2698 (by first | decide | exact ⟨Nat.le_add_right _ _, Nat.add_le_add_left (by decide) _⟩ | omega))⟩
                rw [hbd (by omega)]
                rfl
              · skip
                have c2704 : (f1 = 0) := c2704
                exact (show False by first | contradiction | omega).elim
            · skip
              have c2694 : (f1 = 0) := c2694
              exact (show False by first | contradiction | omega).elim
          · skip
            have c2688 : (f1 = 0) := c2688
            exact (show False by first | contradiction | omega).elim
        · skip
          have c2682 : (f1 = 0) := c2682
          exact (show False by first | contradiction | omega).elim
      · skip
        have c2676 : (f1 = 0) := c2676
        obtain rfl : f1 = 0 := by omega
        obtain ⟨hT1, hE1, hR, hok, hd14, hfd⟩ := hgd rfl
        obtain ⟨⟨_, _⟩, ⟨_, _⟩, hk1, ⟨_, _⟩, hk1e, ⟨_, _⟩, ⟨_, _⟩⟩ := R_tk_f hX hT1
        have hok3 := hok.1
        have hok4 := hok.le
        have hM2716 : S2670.1 530 = .inr (11, [.ref 531, .int (iI (o 1)), .ref 532, .int (iI (o 3)), .int (iI (o 4)), .int (iI (o 5)), .int (iI g1), .int (iI at1), .int (iI en1), .int (iI tk1), .int (iI nu1), .int (iI dg1), .long nm1, .ref 533, .ref 534, .ref 535, .ref 536, .ref 537, .ref 538, .ref 539, .ref 540, .ref 541, .ref 542, .ref 543, .ref 544, .ref 545, .ref 546, .ref 547, .int (iI (o 28)), .int (iI (o 29)), .int (iI (o 30)), .int (iI (o 31)), .int (iI (o 32)), .int (iI (o 33)), .ref 548, .ref 549, .ref 550, .ref 551, .int (iI (o 38)), .ref 552, .ref 553, .ref 554, .ref 555, .ref 556, .ref 557, .ref 558, .ref 559, .ref 560, .ref 561, .int (iI (o 49)), .ref 562, .ref 563, .ref 564, .ref 565, .ref 566, .ref 567, .ref 568, .ref 569, .int (iI (o 58)), .ref 570, .ref 571, .ref 572, .ref 573, .ref 574, .ref 575, .ref 576, .ref 577, .ref 578, .int (iI (o 68)), .int (iI (o 69)), .int (iI (o 70)), .ref 579]) := by rw [h5]; exact hM1
        refine T_p xr_157_162 xn_157 (pc' := 163) (ls' := [(3, .int (iI (bI (part)))), (1, .int (iI wi)), (2, .int (iI col)), (0, .ref 530)]) (st' := [.ref 530]) rfl ?_
        refine T_get xr_157_163 hM2716 rfl (v := .int (iI tk1)) rfl (pc' := 166) rfl ?_
        refine T_p xr_157_166 xn_157 (pc' := 167) (ls' := [(3, .int (iI (bI (part)))), (1, .int (iI wi)), (2, .int (iI col)), (0, .ref 530)]) (st' := [.int (iI 5), .int (iI tk1)]) rfl ?_
        refine T_zicmp_eq xr_157_167 (t := 179) (pc' := 170) rfl rfl (fun c2717 => ?_) (fun c2717 => ?_)
        · skip
          have c2717 : tk1 = 5 := c2717
          refine T_p xr_157_179 xn_157 (pc' := 180) (ls' := [(3, .int (iI (bI (part)))), (1, .int (iI wi)), (2, .int (iI col)), (0, .ref 530)]) (st' := [.int (iI (bI (part)))]) rfl ?_
          refine T_bif_ne xr_157_180 (t := 191) (pc' := 183) rfl rfl (fun c2718 => ?_) (fun c2718 => ?_)
          · skip
            have c2718 : (part) := c2718
            refine T_p xr_157_191 xn_157 (pc' := 192) (ls' := [(3, .int (iI (bI (part)))), (1, .int (iI wi)), (2, .int (iI col)), (0, .ref 530)]) (st' := [.int (iI 1)]) rfl ?_
            refine T_p xr_157_192 xn_157 (pc' := 196) (ls' := [(3, .int (iI (bI (part)))), (1, .int (iI wi)), (2, .int (iI col)), (0, .ref 530)]) (st' := [.int (iI 1)]) rfl ?_
            refine T_ie (y := iI (bI (True))) (by rw [bI_t trivial]) ?_
            have hpx : ¬ d1 4 0 = d1 3 0 := (hpt rfl).mp (by assumption)
            refine T_p xr_157_196 xn_157 (pc' := 197) (ls' := [(3, .int (iI (bI (True)))), (1, .int (iI wi)), (2, .int (iI col)), (0, .ref 530)]) (st' := []) rfl ?_
            refine T_p xr_157_197 xn_157 (pc' := 198) (ls' := [(3, .int (iI (bI (True)))), (1, .int (iI wi)), (2, .int (iI col)), (0, .ref 530)]) (st' := [.ref 530]) rfl ?_
            refine T_p xr_157_198 xn_157 (pc' := 199) (ls' := [(3, .int (iI (bI (True)))), (1, .int (iI wi)), (2, .int (iI col)), (0, .ref 530)]) (st' := [.int (iI wi), .ref 530]) rfl ?_
            refine T_cv (S := S2670) (q := 530) xr_157_199 xf_158.1 xf_158.2.1 xn_158 (as := [.int (iI wi)]) (r := []) rfl hM2716 (Nat.le_of_ble_eq_true rfl) (Nat.le_of_ble_eq_true rfl) (pc' := 202) rfl (ls' := [(0, .ref 530), (1, .int (iI wi))]) rfl ?_
            have h2719 := (hF2669.1 532 (by first | decide | omega)).trans (hA532)
            have h2720 := (hF2669.1 534 (by first | decide | omega)).trans (hA534)
            refine T_mono (r_readElement sc S2670 (X_ou (X_ou (X_ou (X_ou (X_ou (X_ou o 6 g1) 7 at1) 8 en1) 9 tk1) 10 nu1) 11 dg1) nm1 tx kN wM1 wH1 eP1 eH1 hK1 tb len n so pl ct E c1 kn kc wi d1 q1 hM2716 h2719 h2720 hA1 hA2 hA3 hA4 hA5 (show (o 3) = len from by first | assumption | omega) hl htx hX hT1 (show (o 5) = 0 from by omega) (show (o 29) = kc from by omega) (by omega) (show 0 ≤ (o 4) ∧ (o 4) ≤ 1 from by omega) hN (by omega) hE1 (by omega) (by omega) (hct _ (by omega) (by omega))) (fun v2721 S2722 h2723 => ?_)
            rcases h2723 with ⟨at2724, en2725, tk2726, nu2727, dg2728, nm2729, c2730, d2731, q2732, wM2733, wH2734, eP2735, eH2736, hK2737, hv2738, hp2739, hp2740, hp2741, hp2742, hp2743, hp2744, hp2745, hp2746, hM2747, ha2748, ha2749, ha2750, ha2751, ha2752, hf2753⟩ | ⟨at2754, en2755, tk2756, nu2757, dg2758, nm2759, f2760, g2761, wM2762, wH2763, eP2764, eH2765, hK2766, hv2767, hp2768, hp2769, hp2770, hp2771, hp2772, hp2773, hp2774, hM2775, ha2776, ha2777, ha2778, ha2779, ha2780, hf2781⟩
            · skip
              rw [hv2738]
              have h2782 : S2722.1 530 = .inr (11, [.ref 531, .int (iI (o 1)), .ref 532, .int (iI (o 3)), .int (iI (o 4)), .int (iI (o 5)), .int (iI g1), .int (iI at2724), .int (iI en2725), .int (iI tk2726), .int (iI nu2727), .int (iI dg2728), .long nm2729, .ref 533, .ref 534, .ref 535, .ref 536, .ref 537, .ref 538, .ref 539, .ref 540, .ref 541, .ref 542, .ref 543, .ref 544, .ref 545, .ref 546, .ref 547, .int (iI (o 28)), .int (iI (o 29)), .int (iI (o 30)), .int (iI (o 31)), .int (iI (o 32)), .int (iI (o 33)), .ref 548, .ref 549, .ref 550, .ref 551, .int (iI (o 38)), .ref 552, .ref 553, .ref 554, .ref 555, .ref 556, .ref 557, .ref 558, .ref 559, .ref 560, .ref 561, .int (iI (o 49)), .ref 562, .ref 563, .ref 564, .ref 565, .ref 566, .ref 567, .ref 568, .ref 569, .int (iI (o 58)), .ref 570, .ref 571, .ref 572, .ref 573, .ref 574, .ref 575, .ref 576, .ref 577, .ref 578, .int (iI (o 68)), .int (iI (o 69)), .int (iI (o 70)), .ref 579]) := hM2747
              obtain ⟨⟨_, _⟩, ⟨_, _⟩, hk2783, ⟨_, _⟩, hk2783e, ⟨_, _⟩, ⟨_, _⟩⟩ := R_tk_f hX hp2739
              have he1 := sp_e1_ok hcr.1 ⟨by omega, by omega⟩ (hct _ (by omega) (by omega)) hp2740 hok hd14
              obtain ⟨he1a, he1b, he1c, he1d, he1e, he1f, he1g⟩ := he1
              show X_T sc 157 (202, [(3, .int (iI (bI (True)))), (1, .int (iI wi)), (2, .int (iI col)), (0, .ref 530)], [], S2722) _
              refine T_p xr_157_202 xn_157 (pc' := 155) (ls' := [(3, .int (iI (bI (True)))), (1, .int (iI wi)), (2, .int (iI col)), (0, .ref 530)]) (st' := []) rfl ?_
              exact ih2666 S2722 True (o 5) g1 at2724 en2725 tk2726 nu2727 dg2728 nm2729 c2730 d2731 q2732 wM2733 wH2734 eP2735 eH2736 hK2737 h2782 ha2748 ha2749 ha2750 ha2751 ha2752 (hF2669.tr ((X_Fr.rf).tr (X_Fr.mono ⟨hf2753.1, hf2753.2⟩ (fun q hq => by first | exact hq | (rcases hq with rfl <;> decide) | (rcases hq with rfl | rfl <;> decide) | (rcases hq with rfl | rfl | rfl <;> decide) | (rcases hq with rfl | rfl | rfl | rfl <;> decide) | (rcases hq with rfl | rfl | rfl | rfl | rfl <;> decide) | (rcases hq with rfl | rfl | rfl | rfl | rfl | rfl <;> decide) | (rcases hq with rfl | rfl | rfl | rfl | rfl | rfl | rfl <;> decide) | omega)))) (by omega) (fun _ => ⟨hp2739, hp2741, (by
                    rw [← hR, show (9 - d1 3 0).toNat = (9 - (d1 3 0 + 1)).toNat + 1 by omega, sp_el_e1 _ (by omega) (by omega), hp2740, he1d]
                    rfl), he1a, he1c, fun f f1 f2 f3 f4 => (he1b f f1 f2 f3 f4).trans (hfd f f1 f2 f3 f4)⟩) (fun z => absurd h5 z) (hob4.tr hp2742) (hob5.tr hp2743) (hob9.tr hp2744) (hob10.tr hp2745) (hob11.tr hp2746) (fun _ => ⟨fun _ => by omega, fun _ => trivial⟩) (by omega)
            · skip
              rw [hv2767]
              have h2784 : S2722.1 530 = .inr (11, [.ref 531, .int (iI (o 1)), .ref 532, .int (iI (o 3)), .int (iI (o 4)), .int (iI f2760), .int (iI g2761), .int (iI at2754), .int (iI en2755), .int (iI tk2756), .int (iI nu2757), .int (iI dg2758), .long nm2759, .ref 533, .ref 534, .ref 535, .ref 536, .ref 537, .ref 538, .ref 539, .ref 540, .ref 541, .ref 542, .ref 543, .ref 544, .ref 545, .ref 546, .ref 547, .int (iI (o 28)), .int (iI (o 29)), .int (iI (o 30)), .int (iI (o 31)), .int (iI (o 32)), .int (iI (o 33)), .ref 548, .ref 549, .ref 550, .ref 551, .int (iI (o 38)), .ref 552, .ref 553, .ref 554, .ref 555, .ref 556, .ref 557, .ref 558, .ref 559, .ref 560, .ref 561, .int (iI (o 49)), .ref 562, .ref 563, .ref 564, .ref 565, .ref 566, .ref 567, .ref 568, .ref 569, .int (iI (o 58)), .ref 570, .ref 571, .ref 572, .ref 573, .ref 574, .ref 575, .ref 576, .ref 577, .ref 578, .int (iI (o 68)), .int (iI (o 69)), .int (iI (o 70)), .ref 579]) := hM2775
              show X_T sc 157 (202, [(3, .int (iI (bI (True)))), (1, .int (iI wi)), (2, .int (iI col)), (0, .ref 530)], [], S2722) _
              refine T_p xr_157_202 xn_157 (pc' := 155) (ls' := [(3, .int (iI (bI (True)))), (1, .int (iI wi)), (2, .int (iI col)), (0, .ref 530)]) (st' := []) rfl ?_
              exact ih2666 S2722 True f2760 g2761 at2754 en2755 tk2756 nu2757 dg2758 nm2759 c1 d1 q1 wM2762 wH2763 eP2764 eH2765 hK2766 h2784 ha2776 ha2777 ha2778 ha2779 ha2780 (hF2669.tr ((X_Fr.rf).tr (X_Fr.mono ⟨hf2781.1, hf2781.2⟩ (fun q hq => by first | exact hq | (rcases hq with rfl <;> decide) | (rcases hq with rfl | rfl <;> decide) | (rcases hq with rfl | rfl | rfl <;> decide) | (rcases hq with rfl | rfl | rfl | rfl <;> decide) | (rcases hq with rfl | rfl | rfl | rfl | rfl <;> decide) | (rcases hq with rfl | rfl | rfl | rfl | rfl | rfl <;> decide) | (rcases hq with rfl | rfl | rfl | rfl | rfl | rfl | rfl <;> decide) | omega)))) (by omega) (fun z => absurd z (by omega)) (fun _ => by
                    rw [← hR, show (9 - d1 3 0).toNat = (9 - (d1 3 0 + 1)).toNat + 1 by omega, sp_el_e1 _ (by omega) (by omega), hp2769]
                    rfl) (hob4.tr hp2770) (hob5.tr hp2771) (hob9.tr hp2772) (hob10.tr hp2773) (hob11.tr hp2774) (fun z => absurd z (by omega)) (by omega)
          · skip
            have c2718 : ¬ (part) := c2718
            refine T_p xr_157_183 xn_157 (pc' := 184) (ls' := [(3, .int (iI (bI (part)))), (1, .int (iI wi)), (2, .int (iI col)), (0, .ref 530)]) (st' := [.ref 530]) rfl ?_
            refine T_get xr_157_184 hM2716 rfl (v := .int (iI tk1)) rfl (pc' := 187) rfl ?_
            refine T_p xr_157_187 xn_157 (pc' := 188) (ls' := [(3, .int (iI (bI (part)))), (1, .int (iI wi)), (2, .int (iI col)), (0, .ref 530)]) (st' := [.int (iI 5), .int (iI tk1)]) rfl ?_
            refine T_zicmp_ne xr_157_188 (t := 195) (pc' := 191) rfl rfl (fun c2785 => ?_) (fun c2785 => ?_)
            · skip
              have c2785 : ¬ tk1 = 5 := c2785
              refine T_p xr_157_195 xn_157 (pc' := 196) (ls' := [(3, .int (iI (bI (part)))), (1, .int (iI wi)), (2, .int (iI col)), (0, .ref 530)]) (st' := [.int (iI 0)]) rfl ?_
              refine T_ie (y := iI (bI (False))) (by rw [bI_f (fun h => h)]) ?_
              have hpx : d1 4 0 = d1 3 0 := Classical.not_not.mp (fun z => absurd ((hpt rfl).mpr z) (by assumption))
              refine T_p xr_157_196 xn_157 (pc' := 197) (ls' := [(3, .int (iI (bI (False)))), (1, .int (iI wi)), (2, .int (iI col)), (0, .ref 530)]) (st' := []) rfl ?_
              refine T_p xr_157_197 xn_157 (pc' := 198) (ls' := [(3, .int (iI (bI (False)))), (1, .int (iI wi)), (2, .int (iI col)), (0, .ref 530)]) (st' := [.ref 530]) rfl ?_
              refine T_p xr_157_198 xn_157 (pc' := 199) (ls' := [(3, .int (iI (bI (False)))), (1, .int (iI wi)), (2, .int (iI col)), (0, .ref 530)]) (st' := [.int (iI wi), .ref 530]) rfl ?_
              refine T_cv (S := S2670) (q := 530) xr_157_199 xf_158.1 xf_158.2.1 xn_158 (as := [.int (iI wi)]) (r := []) rfl hM2716 (Nat.le_of_ble_eq_true rfl) (Nat.le_of_ble_eq_true rfl) (pc' := 202) rfl (ls' := [(0, .ref 530), (1, .int (iI wi))]) rfl ?_
              have h2786 := (hF2669.1 532 (by first | decide | omega)).trans (hA532)
              have h2787 := (hF2669.1 534 (by first | decide | omega)).trans (hA534)
              refine T_mono (r_readElement sc S2670 (X_ou (X_ou (X_ou (X_ou (X_ou (X_ou o 6 g1) 7 at1) 8 en1) 9 tk1) 10 nu1) 11 dg1) nm1 tx kN wM1 wH1 eP1 eH1 hK1 tb len n so pl ct E c1 kn kc wi d1 q1 hM2716 h2786 h2787 hA1 hA2 hA3 hA4 hA5 (show (o 3) = len from by first | assumption | omega) hl htx hX hT1 (show (o 5) = 0 from by omega) (show (o 29) = kc from by omega) (by omega) (show 0 ≤ (o 4) ∧ (o 4) ≤ 1 from by omega) hN (by omega) hE1 (by omega) (by omega) (hct _ (by omega) (by omega))) (fun v2788 S2789 h2790 => ?_)
              rcases h2790 with ⟨at2791, en2792, tk2793, nu2794, dg2795, nm2796, c2797, d2798, q2799, wM2800, wH2801, eP2802, eH2803, hK2804, hv2805, hp2806, hp2807, hp2808, hp2809, hp2810, hp2811, hp2812, hp2813, hM2814, ha2815, ha2816, ha2817, ha2818, ha2819, hf2820⟩ | ⟨at2821, en2822, tk2823, nu2824, dg2825, nm2826, f2827, g2828, wM2829, wH2830, eP2831, eH2832, hK2833, hv2834, hp2835, hp2836, hp2837, hp2838, hp2839, hp2840, hp2841, hM2842, ha2843, ha2844, ha2845, ha2846, ha2847, hf2848⟩
              · skip
                rw [hv2805]
                have h2849 : S2789.1 530 = .inr (11, [.ref 531, .int (iI (o 1)), .ref 532, .int (iI (o 3)), .int (iI (o 4)), .int (iI (o 5)), .int (iI g1), .int (iI at2791), .int (iI en2792), .int (iI tk2793), .int (iI nu2794), .int (iI dg2795), .long nm2796, .ref 533, .ref 534, .ref 535, .ref 536, .ref 537, .ref 538, .ref 539, .ref 540, .ref 541, .ref 542, .ref 543, .ref 544, .ref 545, .ref 546, .ref 547, .int (iI (o 28)), .int (iI (o 29)), .int (iI (o 30)), .int (iI (o 31)), .int (iI (o 32)), .int (iI (o 33)), .ref 548, .ref 549, .ref 550, .ref 551, .int (iI (o 38)), .ref 552, .ref 553, .ref 554, .ref 555, .ref 556, .ref 557, .ref 558, .ref 559, .ref 560, .ref 561, .int (iI (o 49)), .ref 562, .ref 563, .ref 564, .ref 565, .ref 566, .ref 567, .ref 568, .ref 569, .int (iI (o 58)), .ref 570, .ref 571, .ref 572, .ref 573, .ref 574, .ref 575, .ref 576, .ref 577, .ref 578, .int (iI (o 68)), .int (iI (o 69)), .int (iI (o 70)), .ref 579]) := hM2814
                obtain ⟨⟨_, _⟩, ⟨_, _⟩, hk2850, ⟨_, _⟩, hk2850e, ⟨_, _⟩, ⟨_, _⟩⟩ := R_tk_f hX hp2806
                have he1 := sp_e1_ok hcr.1 ⟨by omega, by omega⟩ (hct _ (by omega) (by omega)) hp2807 hok hd14
                obtain ⟨he1a, he1b, he1c, he1d, he1e, he1f, he1g⟩ := he1
                show X_T sc 157 (202, [(3, .int (iI (bI (False)))), (1, .int (iI wi)), (2, .int (iI col)), (0, .ref 530)], [], S2789) _
                refine T_p xr_157_202 xn_157 (pc' := 155) (ls' := [(3, .int (iI (bI (False)))), (1, .int (iI wi)), (2, .int (iI col)), (0, .ref 530)]) (st' := []) rfl ?_
                exact ih2666 S2789 False (o 5) g1 at2791 en2792 tk2793 nu2794 dg2795 nm2796 c2797 d2798 q2799 wM2800 wH2801 eP2802 eH2803 hK2804 h2849 ha2815 ha2816 ha2817 ha2818 ha2819 (hF2669.tr ((X_Fr.rf).tr (X_Fr.mono ⟨hf2820.1, hf2820.2⟩ (fun q hq => by first | exact hq | (rcases hq with rfl <;> decide) | (rcases hq with rfl | rfl <;> decide) | (rcases hq with rfl | rfl | rfl <;> decide) | (rcases hq with rfl | rfl | rfl | rfl <;> decide) | (rcases hq with rfl | rfl | rfl | rfl | rfl <;> decide) | (rcases hq with rfl | rfl | rfl | rfl | rfl | rfl <;> decide) | (rcases hq with rfl | rfl | rfl | rfl | rfl | rfl | rfl <;> decide) | omega)))) (by omega) (fun _ => ⟨hp2806, hp2808, (by
                      rw [← hR, show (9 - d1 3 0).toNat = (9 - (d1 3 0 + 1)).toNat + 1 by omega, sp_el_e1 _ (by omega) (by omega), hp2807, he1d]
                      rfl), he1a, he1c, fun f f1 f2 f3 f4 => (he1b f f1 f2 f3 f4).trans (hfd f f1 f2 f3 f4)⟩) (fun z => absurd h5 z) (hob4.tr hp2809) (hob5.tr hp2810) (hob9.tr hp2811) (hob10.tr hp2812) (hob11.tr hp2813) (fun _ => ⟨fun z => z.elim, fun z => absurd (by omega) z⟩) (by omega)
              · skip
                rw [hv2834]
                have h2851 : S2789.1 530 = .inr (11, [.ref 531, .int (iI (o 1)), .ref 532, .int (iI (o 3)), .int (iI (o 4)), .int (iI f2827), .int (iI g2828), .int (iI at2821), .int (iI en2822), .int (iI tk2823), .int (iI nu2824), .int (iI dg2825), .long nm2826, .ref 533, .ref 534, .ref 535, .ref 536, .ref 537, .ref 538, .ref 539, .ref 540, .ref 541, .ref 542, .ref 543, .ref 544, .ref 545, .ref 546, .ref 547, .int (iI (o 28)), .int (iI (o 29)), .int (iI (o 30)), .int (iI (o 31)), .int (iI (o 32)), .int (iI (o 33)), .ref 548, .ref 549, .ref 550, .ref 551, .int (iI (o 38)), .ref 552, .ref 553, .ref 554, .ref 555, .ref 556, .ref 557, .ref 558, .ref 559, .ref 560, .ref 561, .int (iI (o 49)), .ref 562, .ref 563, .ref 564, .ref 565, .ref 566, .ref 567, .ref 568, .ref 569, .int (iI (o 58)), .ref 570, .ref 571, .ref 572, .ref 573, .ref 574, .ref 575, .ref 576, .ref 577, .ref 578, .int (iI (o 68)), .int (iI (o 69)), .int (iI (o 70)), .ref 579]) := hM2842
                show X_T sc 157 (202, [(3, .int (iI (bI (False)))), (1, .int (iI wi)), (2, .int (iI col)), (0, .ref 530)], [], S2789) _
                refine T_p xr_157_202 xn_157 (pc' := 155) (ls' := [(3, .int (iI (bI (False)))), (1, .int (iI wi)), (2, .int (iI col)), (0, .ref 530)]) (st' := []) rfl ?_
                exact ih2666 S2789 False f2827 g2828 at2821 en2822 tk2823 nu2824 dg2825 nm2826 c1 d1 q1 wM2829 wH2830 eP2831 eH2832 hK2833 h2851 ha2843 ha2844 ha2845 ha2846 ha2847 (hF2669.tr ((X_Fr.rf).tr (X_Fr.mono ⟨hf2848.1, hf2848.2⟩ (fun q hq => by first | exact hq | (rcases hq with rfl <;> decide) | (rcases hq with rfl | rfl <;> decide) | (rcases hq with rfl | rfl | rfl <;> decide) | (rcases hq with rfl | rfl | rfl | rfl <;> decide) | (rcases hq with rfl | rfl | rfl | rfl | rfl <;> decide) | (rcases hq with rfl | rfl | rfl | rfl | rfl | rfl <;> decide) | (rcases hq with rfl | rfl | rfl | rfl | rfl | rfl | rfl <;> decide) | omega)))) (by omega) (fun z => absurd z (by omega)) (fun _ => by
                      rw [← hR, show (9 - d1 3 0).toNat = (9 - (d1 3 0 + 1)).toNat + 1 by omega, sp_el_e1 _ (by omega) (by omega), hp2836]
                      rfl) (hob4.tr hp2837) (hob5.tr hp2838) (hob9.tr hp2839) (hob10.tr hp2840) (hob11.tr hp2841) (fun z => absurd z (by omega)) (by omega)
            · skip
              have c2785 : ¬ (¬ tk1 = 5) := c2785
              refine T_p xr_157_191 xn_157 (pc' := 192) (ls' := [(3, .int (iI (bI (part)))), (1, .int (iI wi)), (2, .int (iI col)), (0, .ref 530)]) (st' := [.int (iI 1)]) rfl ?_
              refine T_p xr_157_192 xn_157 (pc' := 196) (ls' := [(3, .int (iI (bI (part)))), (1, .int (iI wi)), (2, .int (iI col)), (0, .ref 530)]) (st' := [.int (iI 1)]) rfl ?_
              refine T_ie (y := iI (bI (True))) (by rw [bI_t trivial]) ?_
              have hpx : d1 4 0 = d1 3 0 := Classical.not_not.mp (fun z => absurd ((hpt rfl).mpr z) (by assumption))
              refine T_p xr_157_196 xn_157 (pc' := 197) (ls' := [(3, .int (iI (bI (True)))), (1, .int (iI wi)), (2, .int (iI col)), (0, .ref 530)]) (st' := []) rfl ?_
              refine T_p xr_157_197 xn_157 (pc' := 198) (ls' := [(3, .int (iI (bI (True)))), (1, .int (iI wi)), (2, .int (iI col)), (0, .ref 530)]) (st' := [.ref 530]) rfl ?_
              refine T_p xr_157_198 xn_157 (pc' := 199) (ls' := [(3, .int (iI (bI (True)))), (1, .int (iI wi)), (2, .int (iI col)), (0, .ref 530)]) (st' := [.int (iI wi), .ref 530]) rfl ?_
              refine T_cv (S := S2670) (q := 530) xr_157_199 xf_158.1 xf_158.2.1 xn_158 (as := [.int (iI wi)]) (r := []) rfl hM2716 (Nat.le_of_ble_eq_true rfl) (Nat.le_of_ble_eq_true rfl) (pc' := 202) rfl (ls' := [(0, .ref 530), (1, .int (iI wi))]) rfl ?_
              have h2852 := (hF2669.1 532 (by first | decide | omega)).trans (hA532)
              have h2853 := (hF2669.1 534 (by first | decide | omega)).trans (hA534)
              refine T_mono (r_readElement sc S2670 (X_ou (X_ou (X_ou (X_ou (X_ou (X_ou o 6 g1) 7 at1) 8 en1) 9 tk1) 10 nu1) 11 dg1) nm1 tx kN wM1 wH1 eP1 eH1 hK1 tb len n so pl ct E c1 kn kc wi d1 q1 hM2716 h2852 h2853 hA1 hA2 hA3 hA4 hA5 (show (o 3) = len from by first | assumption | omega) hl htx hX hT1 (show (o 5) = 0 from by omega) (show (o 29) = kc from by omega) (by omega) (show 0 ≤ (o 4) ∧ (o 4) ≤ 1 from by omega) hN (by omega) hE1 (by omega) (by omega) (hct _ (by omega) (by omega))) (fun v2854 S2855 h2856 => ?_)
              rcases h2856 with ⟨at2857, en2858, tk2859, nu2860, dg2861, nm2862, c2863, d2864, q2865, wM2866, wH2867, eP2868, eH2869, hK2870, hv2871, hp2872, hp2873, hp2874, hp2875, hp2876, hp2877, hp2878, hp2879, hM2880, ha2881, ha2882, ha2883, ha2884, ha2885, hf2886⟩ | ⟨at2887, en2888, tk2889, nu2890, dg2891, nm2892, f2893, g2894, wM2895, wH2896, eP2897, eH2898, hK2899, hv2900, hp2901, hp2902, hp2903, hp2904, hp2905, hp2906, hp2907, hM2908, ha2909, ha2910, ha2911, ha2912, ha2913, hf2914⟩
              · skip
                rw [hv2871]
                have h2915 : S2855.1 530 = .inr (11, [.ref 531, .int (iI (o 1)), .ref 532, .int (iI (o 3)), .int (iI (o 4)), .int (iI (o 5)), .int (iI g1), .int (iI at2857), .int (iI en2858), .int (iI tk2859), .int (iI nu2860), .int (iI dg2861), .long nm2862, .ref 533, .ref 534, .ref 535, .ref 536, .ref 537, .ref 538, .ref 539, .ref 540, .ref 541, .ref 542, .ref 543, .ref 544, .ref 545, .ref 546, .ref 547, .int (iI (o 28)), .int (iI (o 29)), .int (iI (o 30)), .int (iI (o 31)), .int (iI (o 32)), .int (iI (o 33)), .ref 548, .ref 549, .ref 550, .ref 551, .int (iI (o 38)), .ref 552, .ref 553, .ref 554, .ref 555, .ref 556, .ref 557, .ref 558, .ref 559, .ref 560, .ref 561, .int (iI (o 49)), .ref 562, .ref 563, .ref 564, .ref 565, .ref 566, .ref 567, .ref 568, .ref 569, .int (iI (o 58)), .ref 570, .ref 571, .ref 572, .ref 573, .ref 574, .ref 575, .ref 576, .ref 577, .ref 578, .int (iI (o 68)), .int (iI (o 69)), .int (iI (o 70)), .ref 579]) := hM2880
                obtain ⟨⟨_, _⟩, ⟨_, _⟩, hk2916, ⟨_, _⟩, hk2916e, ⟨_, _⟩, ⟨_, _⟩⟩ := R_tk_f hX hp2872
                have he1 := sp_e1_ok hcr.1 ⟨by omega, by omega⟩ (hct _ (by omega) (by omega)) hp2873 hok hd14
                obtain ⟨he1a, he1b, he1c, he1d, he1e, he1f, he1g⟩ := he1
                show X_T sc 157 (202, [(3, .int (iI (bI (True)))), (1, .int (iI wi)), (2, .int (iI col)), (0, .ref 530)], [], S2855) _
                refine T_p xr_157_202 xn_157 (pc' := 155) (ls' := [(3, .int (iI (bI (True)))), (1, .int (iI wi)), (2, .int (iI col)), (0, .ref 530)]) (st' := []) rfl ?_
                exact ih2666 S2855 True (o 5) g1 at2857 en2858 tk2859 nu2860 dg2861 nm2862 c2863 d2864 q2865 wM2866 wH2867 eP2868 eH2869 hK2870 h2915 ha2881 ha2882 ha2883 ha2884 ha2885 (hF2669.tr ((X_Fr.rf).tr (X_Fr.mono ⟨hf2886.1, hf2886.2⟩ (fun q hq => by first | exact hq | (rcases hq with rfl <;> decide) | (rcases hq with rfl | rfl <;> decide) | (rcases hq with rfl | rfl | rfl <;> decide) | (rcases hq with rfl | rfl | rfl | rfl <;> decide) | (rcases hq with rfl | rfl | rfl | rfl | rfl <;> decide) | (rcases hq with rfl | rfl | rfl | rfl | rfl | rfl <;> decide) | (rcases hq with rfl | rfl | rfl | rfl | rfl | rfl | rfl <;> decide) | omega)))) (by omega) (fun _ => ⟨hp2872, hp2874, (by
                      rw [← hR, show (9 - d1 3 0).toNat = (9 - (d1 3 0 + 1)).toNat + 1 by omega, sp_el_e1 _ (by omega) (by omega), hp2873, he1d]
                      rfl), he1a, he1c, fun f f1 f2 f3 f4 => (he1b f f1 f2 f3 f4).trans (hfd f f1 f2 f3 f4)⟩) (fun z => absurd h5 z) (hob4.tr hp2875) (hob5.tr hp2876) (hob9.tr hp2877) (hob10.tr hp2878) (hob11.tr hp2879) (fun _ => ⟨fun _ => by omega, fun _ => trivial⟩) (by omega)
              · skip
                rw [hv2900]
                have h2917 : S2855.1 530 = .inr (11, [.ref 531, .int (iI (o 1)), .ref 532, .int (iI (o 3)), .int (iI (o 4)), .int (iI f2893), .int (iI g2894), .int (iI at2887), .int (iI en2888), .int (iI tk2889), .int (iI nu2890), .int (iI dg2891), .long nm2892, .ref 533, .ref 534, .ref 535, .ref 536, .ref 537, .ref 538, .ref 539, .ref 540, .ref 541, .ref 542, .ref 543, .ref 544, .ref 545, .ref 546, .ref 547, .int (iI (o 28)), .int (iI (o 29)), .int (iI (o 30)), .int (iI (o 31)), .int (iI (o 32)), .int (iI (o 33)), .ref 548, .ref 549, .ref 550, .ref 551, .int (iI (o 38)), .ref 552, .ref 553, .ref 554, .ref 555, .ref 556, .ref 557, .ref 558, .ref 559, .ref 560, .ref 561, .int (iI (o 49)), .ref 562, .ref 563, .ref 564, .ref 565, .ref 566, .ref 567, .ref 568, .ref 569, .int (iI (o 58)), .ref 570, .ref 571, .ref 572, .ref 573, .ref 574, .ref 575, .ref 576, .ref 577, .ref 578, .int (iI (o 68)), .int (iI (o 69)), .int (iI (o 70)), .ref 579]) := hM2908
                show X_T sc 157 (202, [(3, .int (iI (bI (True)))), (1, .int (iI wi)), (2, .int (iI col)), (0, .ref 530)], [], S2855) _
                refine T_p xr_157_202 xn_157 (pc' := 155) (ls' := [(3, .int (iI (bI (True)))), (1, .int (iI wi)), (2, .int (iI col)), (0, .ref 530)]) (st' := []) rfl ?_
                exact ih2666 S2855 True f2893 g2894 at2887 en2888 tk2889 nu2890 dg2891 nm2892 c1 d1 q1 wM2895 wH2896 eP2897 eH2898 hK2899 h2917 ha2909 ha2910 ha2911 ha2912 ha2913 (hF2669.tr ((X_Fr.rf).tr (X_Fr.mono ⟨hf2914.1, hf2914.2⟩ (fun q hq => by first | exact hq | (rcases hq with rfl <;> decide) | (rcases hq with rfl | rfl <;> decide) | (rcases hq with rfl | rfl | rfl <;> decide) | (rcases hq with rfl | rfl | rfl | rfl <;> decide) | (rcases hq with rfl | rfl | rfl | rfl | rfl <;> decide) | (rcases hq with rfl | rfl | rfl | rfl | rfl | rfl <;> decide) | (rcases hq with rfl | rfl | rfl | rfl | rfl | rfl | rfl <;> decide) | omega)))) (by omega) (fun z => absurd z (by omega)) (fun _ => by
                      rw [← hR, show (9 - d1 3 0).toNat = (9 - (d1 3 0 + 1)).toNat + 1 by omega, sp_el_e1 _ (by omega) (by omega), hp2902]
                      rfl) (hob4.tr hp2903) (hob5.tr hp2904) (hob9.tr hp2905) (hob10.tr hp2906) (hob11.tr hp2907) (fun z => absurd z (by omega)) (by omega)
        · skip
          have c2717 : ¬ (tk1 = 5) := c2717
          refine T_p xr_157_170 xn_157 (pc' := 171) (ls' := [(3, .int (iI (bI (part)))), (1, .int (iI wi)), (2, .int (iI col)), (0, .ref 530)]) (st' := [.ref 530]) rfl ?_
          refine T_p xr_157_171 xn_157 (pc' := 173) (ls' := [(3, .int (iI (bI (part)))), (1, .int (iI wi)), (2, .int (iI col)), (0, .ref 530)]) (st' := [.int (iI 95), .ref 530]) rfl ?_
          refine T_cv (S := S2670) (q := 530) xr_157_173 xf_145.1 xf_145.2.1 xn_145 (as := [.int (iI 95)]) (r := []) rfl hM2716 (Nat.le_of_ble_eq_true rfl) (Nat.le_of_ble_eq_true rfl) (pc' := 176) rfl (ls' := [(0, .ref 530), (1, .int (iI 95))]) rfl ?_
          have h2918 := (hF2669.1 532 (by first | decide | omega)).trans (hA532)
          refine T_mono (r_is sc S2670 (X_ou (X_ou (X_ou (X_ou (X_ou (X_ou o 6 g1) 7 at1) 8 en1) 9 tk1) 10 nu1) 11 dg1) nm1 tx tb len n so pl ct E c1 95 hM2716 h2918 (show (o 3) = len from by first | assumption | omega) hl htx hX hT1 (by omega)) (fun v2919 S2920 h2921 => ?_)
          rcases h2921 with ⟨hv2922, hf2923⟩
          rw [hv2922]
          rw [hf2923]
          show X_T sc 157 (176, [(3, .int (iI (bI (part)))), (1, .int (iI wi)), (2, .int (iI col)), (0, .ref 530)], [.int (iI (bI (so c1 = 95)))], S2670) _
          refine T_bif_eq xr_157_176 (t := 205) (pc' := 179) rfl rfl (fun c2924 => ?_) (fun c2924 => ?_)
          · skip
            have c2924 : ¬ (so c1 = 95) := c2924
            refine T_p xr_157_205 xn_157 (pc' := 206) (ls' := [(3, .int (iI (bI (part)))), (1, .int (iI wi)), (2, .int (iI col)), (0, .ref 530)]) (st' := [.ref 530]) rfl ?_
            refine T_cv (S := S2670) (q := 530) xr_157_206 xf_140.1 xf_140.2.1 xn_140 (as := []) (r := []) rfl hM2716 (Nat.le_of_ble_eq_true rfl) (Nat.le_of_ble_eq_true rfl) (pc' := 209) rfl (ls' := [(0, .ref 530)]) rfl ?_
            refine T_mono (r_isGood sc S2670 (X_ou (X_ou (X_ou (X_ou (X_ou (X_ou o 6 g1) 7 at1) 8 en1) 9 tk1) 10 nu1) 11 dg1) nm1 hM2716 (show 0 ≤ (o 5) ∧ (o 5) ≤ 5 from by omega)) (fun v2925 S2926 h2927 => ?_)
            rcases h2927 with ⟨hv2928, hf2929⟩
            rw [hv2928]
            rw [hf2929]
            show X_T sc 157 (209, [(3, .int (iI (bI (part)))), (1, .int (iI wi)), (2, .int (iI col)), (0, .ref 530)], [.int (iI (bI ((o 5) = 0)))], S2670) _
            refine T_bif_eq xr_157_209 (t := 247) (pc' := 212) rfl rfl (fun c2930 => ?_) (fun c2930 => ?_)
            · skip
              have c2930 : ¬ ((o 5) = 0) := c2930
              exact (show False by first | contradiction | omega).elim
            · skip
              have c2930 : ((o 5) = 0) := c2930
              have hE1w := hE1.1
              have hdl : d1 1 = d 1 := hfd 1 (by decide) (by decide) (by decide) (by decide)
              have hdl0 : d1 1 0 = d 1 0 := by rw [hdl]
              have hWl := hW.2.1
              refine T_p xr_157_212 xn_157 (pc' := 213) (ls' := [(3, .int (iI (bI (part)))), (1, .int (iI wi)), (2, .int (iI col)), (0, .ref 530)]) (st' := [.ref 530]) rfl ?_
              refine T_get xr_157_213 hM2716 rfl (v := .ref 540) rfl (pc' := 216) rfl ?_
              refine T_p xr_157_216 xn_157 (pc' := 217) (ls' := [(3, .int (iI (bI (part)))), (1, .int (iI wi)), (2, .int (iI col)), (0, .ref 530)]) (st' := [.int (iI wi), .ref 540]) rfl ?_
              refine T_ziald xr_157_217 hA1 (pc' := 218) rfl ?_
              refine T_zif_eq xr_157_218 (t := 243) (pc' := 221) rfl rfl (fun c2931 => ?_) (fun c2931 => ?_)
              · skip
                have c2931 : (wM1 wi) = 0 := c2931
                refine T_p xr_157_243 xn_157 (pc' := 244) (ls' := [(3, .int (iI (bI (part)))), (1, .int (iI wi)), (2, .int (iI col)), (0, .ref 530)]) (st' := [.ref 530]) rfl ?_
                refine T_cv (S := S2670) (q := 530) xr_157_244 xf_147.1 xf_147.2.1 xn_147 (as := []) (r := []) rfl hM2716 (Nat.le_of_ble_eq_true rfl) (Nat.le_of_ble_eq_true rfl) (pc' := 247) rfl (ls' := [(0, .ref 530)]) rfl ?_
                refine T_mono (r_wrong sc S2670 (X_ou (X_ou (X_ou (X_ou (X_ou (X_ou o 6 g1) 7 at1) 8 en1) 9 tk1) 10 nu1) 11 dg1) nm1 tx tb len n so pl ct E c1 hM2716 h2918 (show (o 3) = len from by first | assumption | omega) hl htx hX hT1 (show 0 ≤ (o 5) ∧ (o 5) ≤ 5 from by omega)) (fun v2932 S2933 h2934 => ?_)
                rcases h2934 with ⟨f2935, g2936, hv2937, hp2938, hM2939, hf2940⟩
                rw [hv2937]
                have h2941 : S2933.1 530 = .inr (11, [.ref 531, .int (iI (o 1)), .ref 532, .int (iI (o 3)), .int (iI (o 4)), .int (iI f2935), .int (iI g2936), .int (iI at1), .int (iI en1), .int (iI tk1), .int (iI nu1), .int (iI dg1), .long nm1, .ref 533, .ref 534, .ref 535, .ref 536, .ref 537, .ref 538, .ref 539, .ref 540, .ref 541, .ref 542, .ref 543, .ref 544, .ref 545, .ref 546, .ref 547, .int (iI (o 28)), .int (iI (o 29)), .int (iI (o 30)), .int (iI (o 31)), .int (iI (o 32)), .int (iI (o 33)), .ref 548, .ref 549, .ref 550, .ref 551, .int (iI (o 38)), .ref 552, .ref 553, .ref 554, .ref 555, .ref 556, .ref 557, .ref 558, .ref 559, .ref 560, .ref 561, .int (iI (o 49)), .ref 562, .ref 563, .ref 564, .ref 565, .ref 566, .ref 567, .ref 568, .ref 569, .int (iI (o 58)), .ref 570, .ref 571, .ref 572, .ref 573, .ref 574, .ref 575, .ref 576, .ref 577, .ref 578, .int (iI (o 68)), .int (iI (o 69)), .int (iI (o 70)), .ref 579]) := hM2939
                show X_T sc 157 (247, [(3, .int (iI (bI (part)))), (1, .int (iI wi)), (2, .int (iI col)), (0, .ref 530)], [], S2933) _
                refine T_p xr_157_247 xn_157 (pc' := 248) (ls' := [(3, .int (iI (bI (part)))), (1, .int (iI wi)), (2, .int (iI col)), (0, .ref 530)]) (st' := [.ref 530]) rfl ?_
                refine T_cv (S := S2933) (q := 530) xr_157_248 xf_140.1 xf_140.2.1 xn_140 (as := []) (r := []) rfl h2941 (Nat.le_of_ble_eq_true rfl) (Nat.le_of_ble_eq_true rfl) (pc' := 251) rfl (ls' := [(0, .ref 530)]) rfl ?_
                refine T_mono (r_isGood sc S2933 (X_ou (X_ou (X_ou (X_ou (X_ou (X_ou (X_ou o 5 f2935) 6 g2936) 7 at1) 8 en1) 9 tk1) 10 nu1) 11 dg1) nm1 h2941 (show 0 ≤ f2935 ∧ f2935 ≤ 5 from by omega)) (fun v2942 S2943 h2944 => ?_)
                rcases h2944 with ⟨hv2945, hf2946⟩
                rw [hv2945]
                rw [hf2946]
                show X_T sc 157 (251, [(3, .int (iI (bI (part)))), (1, .int (iI wi)), (2, .int (iI col)), (0, .ref 530)], [.int (iI (bI (f2935 = 0)))], S2933) _
                refine T_bif_eq xr_157_251 (t := 277) (pc' := 254) rfl rfl (fun c2947 => ?_) (fun c2947 => ?_)
                · skip
                  have c2947 : ¬ (f2935 = 0) := c2947
                  refine T_p xr_157_277 xn_157 (pc' := 278) (ls' := [(3, .int (iI (bI (part)))), (1, .int (iI wi)), (2, .int (iI col)), (0, .ref 530)]) (st' := [.ref 530]) rfl ?_
                  refine T_cv (S := S2933) (q := 530) xr_157_278 xf_140.1 xf_140.2.1 xn_140 (as := []) (r := []) rfl h2941 (Nat.le_of_ble_eq_true rfl) (Nat.le_of_ble_eq_true rfl) (pc' := 281) rfl (ls' := [(0, .ref 530)]) rfl ?_
                  refine T_mono (r_isGood sc S2933 (X_ou (X_ou (X_ou (X_ou (X_ou (X_ou (X_ou o 5 f2935) 6 g2936) 7 at1) 8 en1) 9 tk1) 10 nu1) 11 dg1) nm1 h2941 (show 0 ≤ f2935 ∧ f2935 ≤ 5 from by omega)) (fun v2948 S2949 h2950 => ?_)
                  rcases h2950 with ⟨hv2951, hf2952⟩
                  rw [hv2951]
                  rw [hf2952]
                  show X_T sc 157 (281, [(3, .int (iI (bI (part)))), (1, .int (iI wi)), (2, .int (iI col)), (0, .ref 530)], [.int (iI (bI (f2935 = 0)))], S2933) _
                  refine T_bif_eq xr_157_281 (t := 302) (pc' := 284) rfl rfl (fun c2953 => ?_) (fun c2953 => ?_)
                  · skip
                    have c2953 : ¬ (f2935 = 0) := c2953
                    refine T_p xr_157_302 xn_157 (pc' := 303) (ls' := [(3, .int (iI (bI (part)))), (1, .int (iI wi)), (2, .int (iI col)), (0, .ref 530)]) (st' := [.ref 530]) rfl ?_
                    refine T_p xr_157_303 xn_157 (pc' := 304) (ls' := [(3, .int (iI (bI (part)))), (1, .int (iI wi)), (2, .int (iI col)), (0, .ref 530)]) (st' := [.ref 530, .ref 530]) rfl ?_
                    refine T_get xr_157_304 h2941 rfl (v := .int (iI (o 30))) rfl (pc' := 307) rfl ?_
                    refine T_p xr_157_307 xn_157 (pc' := 308) (ls' := [(3, .int (iI (bI (part)))), (1, .int (iI wi)), (2, .int (iI col)), (0, .ref 530)]) (st' := [.int (iI 1), .int (iI (o 30)), .ref 530]) rfl ?_
                    refine T_ziadd xr_157_308 (z := (o 30) + 1) rfl (pc' := 309) rfl ?_
                    refine T_ie (y := iI (wc + 1)) (by rw [hwc]) ?_
                    refine T_put xr_157_309 h2941 rfl (Nat.le_of_ble_eq_true rfl) rfl (fs' := [.ref 531, .int (iI (o 1)), .ref 532, .int (iI (o 3)), .int (iI (o 4)), .int (iI f2935), .int (iI g2936), .int (iI at1), .int (iI en1), .int (iI tk1), .int (iI nu1), .int (iI dg1), .long nm1, .ref 533, .ref 534, .ref 535, .ref 536, .ref 537, .ref 538, .ref 539, .ref 540, .ref 541, .ref 542, .ref 543, .ref 544, .ref 545, .ref 546, .ref 547, .int (iI (o 28)), .int (iI (o 29)), .int (iI (wc + 1)), .int (iI (o 31)), .int (iI (o 32)), .int (iI (o 33)), .ref 548, .ref 549, .ref 550, .ref 551, .int (iI (o 38)), .ref 552, .ref 553, .ref 554, .ref 555, .ref 556, .ref 557, .ref 558, .ref 559, .ref 560, .ref 561, .int (iI (o 49)), .ref 562, .ref 563, .ref 564, .ref 565, .ref 566, .ref 567, .ref 568, .ref 569, .int (iI (o 58)), .ref 570, .ref 571, .ref 572, .ref 573, .ref 574, .ref 575, .ref 576, .ref 577, .ref 578, .int (iI (o 68)), .int (iI (o 69)), .int (iI (o 70)), .ref 579]) rfl (pc' := 312) rfl (fun S2954 h2955 n2956 e2957 => ?_)
                    refine T_p xr_157_312 xn_157 (pc' := 313) (ls' := [(3, .int (iI (bI (part)))), (1, .int (iI wi)), (2, .int (iI col)), (0, .ref 530)]) (st' := [.ref 530]) rfl ?_
                    refine T_cv (S := S2954) (q := 530) xr_157_313 xf_140.1 xf_140.2.1 xn_140 (as := []) (r := []) rfl h2955 (Nat.le_of_ble_eq_true rfl) (Nat.le_of_ble_eq_true rfl) (pc' := 316) rfl (ls' := [(0, .ref 530)]) rfl ?_
                    refine T_mono (r_isGood sc S2954 (X_ou (X_ou (X_ou (X_ou (X_ou (X_ou (X_ou (X_ou o 5 f2935) 6 g2936) 7 at1) 8 en1) 9 tk1) 10 nu1) 11 dg1) 30 (wc + 1)) nm1 h2955 (show 0 ≤ f2935 ∧ f2935 ≤ 5 from by omega)) (fun v2958 S2959 h2960 => ?_)
                    rcases h2960 with ⟨hv2961, hf2962⟩
                    rw [hv2961]
                    rw [hf2962]
                    show X_T sc 157 (316, [(3, .int (iI (bI (part)))), (1, .int (iI wi)), (2, .int (iI col)), (0, .ref 530)], [.int (iI (bI (f2935 = 0)))], S2954) _
                    refine T_bif_eq xr_157_316 (t := 325) (pc' := 319) rfl rfl (fun c2963 => ?_) (fun c2963 => ?_)
                    · skip
                      have c2963 : ¬ (f2935 = 0) := c2963
                      refine T_vret xr_157_325 xf_157.2.2 ?_
                      refine hQ _ _ ?_
                      have h2964 := (n2956 537 (by decide)).trans ((hf2940.1 537 (by first | decide | omega)).trans ((hF2669.1 537 (by first | decide | omega)).trans (hA537)))
                      have h2965 := (n2956 538 (by decide)).trans ((hf2940.1 538 (by first | decide | omega)).trans ((hF2669.1 538 (by first | decide | omega)).trans (hA538)))
                      have h2966 := (n2956 539 (by decide)).trans ((hf2940.1 539 (by first | decide | omega)).trans ((hF2669.1 539 (by first | decide | omega)).trans (hA539)))
                      have h2967 := (n2956 540 (by decide)).trans ((hf2940.1 540 (by first | decide | omega)).trans (hA1))
                      have h2968 := (n2956 541 (by decide)).trans ((hf2940.1 541 (by first | decide | omega)).trans (hA2))
                      have h2969 := (n2956 542 (by decide)).trans ((hf2940.1 542 (by first | decide | omega)).trans ((hF2669.1 542 (by first | decide | omega)).trans (hA542)))
                      have h2970 := (n2956 543 (by decide)).trans ((hf2940.1 543 (by first | decide | omega)).trans ((hF2669.1 543 (by first | decide | omega)).trans (hA543)))
                      have h2971 := (n2956 544 (by decide)).trans ((hf2940.1 544 (by first | decide | omega)).trans ((hF2669.1 544 (by first | decide | omega)).trans (hA544)))
                      have h2972 := (n2956 545 (by decide)).trans ((hf2940.1 545 (by first | decide | omega)).trans (hA3))
                      have h2973 := (n2956 546 (by decide)).trans ((hf2940.1 546 (by first | decide | omega)).trans (hA4))
                      have h2974 := (n2956 547 (by decide)).trans ((hf2940.1 547 (by first | decide | omega)).trans (hA5))
                      refine Or.inr ⟨at1, en1, tk1, nu1, dg1, nm1, wc + 1, f2935, g2936, wR, wL, wK, wM1, wH1, wS, sO, sN, eP1, eH1, hK1, rfl, by omega, ?_, R_ob.rf, R_ob.rf, R_ob.rf, by exact hob4, by exact hob5, R_ob.rf, R_ob.rf, R_ob.rf, by exact hob9, by exact hob10, by exact hob11, h2955, h2964, h2965, h2966, h2967, h2968, h2969, h2970, h2971, h2972, h2973, h2974, (((X_Fr.rf).tr (X_Fr.mono ⟨hF2669.1, hF2669.2⟩ (fun q hq => by first | exact hq | (rcases hq with rfl <;> decide) | (rcases hq with rfl | rfl <;> decide) | (rcases hq with rfl | rfl | rfl <;> decide) | (rcases hq with rfl | rfl | rfl | rfl <;> decide) | (rcases hq with rfl | rfl | rfl | rfl | rfl <;> decide) | (rcases hq with rfl | rfl | rfl | rfl | rfl | rfl <;> decide) | (rcases hq with rfl | rfl | rfl | rfl | rfl | rfl | rfl <;> decide) | omega))).tr (X_Fr.mono ⟨hf2940.1, hf2940.2⟩ (fun q hq => by first | exact hq | (rcases hq with rfl <;> decide) | (rcases hq with rfl | rfl <;> decide) | (rcases hq with rfl | rfl | rfl <;> decide) | (rcases hq with rfl | rfl | rfl | rfl <;> decide) | (rcases hq with rfl | rfl | rfl | rfl | rfl <;> decide) | (rcases hq with rfl | rfl | rfl | rfl | rfl | rfl <;> decide) | (rcases hq with rfl | rfl | rfl | rfl | rfl | rfl | rfl <;> decide) | omega))).tr (X_Fr.of n2956 e2957 (by first | decide | exact ⟨Nat.le_add_right _ _, Nat.add_le_add_left (by decide) _⟩ | omega))⟩
                      by_cases h61 : so c1 = 61 ∨ so c1 = 59
                      · have hel : sp_el n so ct kn kc 9 c d q = some (c1, d1, q1) := by
                          rw [← hR, show (9 - d1 3 0).toNat = (9 - (d1 3 0 + 1)).toNat + 1 by omega]
                          show (if so c1 = 61 then _ else if so c1 = 59 then _ else _) = _
                          first | rw [if_pos (by omega)] | rw [if_neg (by omega), if_pos (by omega)] | (by_cases hz : so c1 = 61; (rw [if_pos hz]); (rw [if_neg hz, if_pos (by omega)]))
                        rw [hel, Option.bind_some]
                        dsimp only
                        unfold sp_we
                        (repeat (first | rw [if_pos (by assumption)] | rw [if_neg (by assumption)] | rw [if_neg (by omega)] | rw [if_pos (by omega)]))
                        all_goals first | rfl | ((repeat' split) <;> first | rfl | (exfalso; omega) | contradiction)
                      · have hel : sp_el n so ct kn kc 9 c d q = none := by
                          rw [← hR, show (9 - d1 3 0).toNat = (9 - (d1 3 0 + 1)).toNat + 1 by omega, sp_el_e1 _ (by omega) (by omega)]
                          unfold sp_e1
                          rw [if_neg (by omega), if_neg (by omega)]
                          rfl
                        rw [hel]
                        rfl
                    · skip
                      have c2963 : (f2935 = 0) := c2963
                      exact (show False by first | contradiction | omega).elim
                  · skip
                    have c2953 : (f2935 = 0) := c2953
                    exact (show False by first | contradiction | omega).elim
                · skip
                  have c2947 : (f2935 = 0) := c2947
                  exact (show False by first | contradiction | omega).elim
              · skip
                have c2931 : ¬ ((wM1 wi) = 0) := c2931
                refine T_p xr_157_221 xn_157 (pc' := 222) (ls' := [(3, .int (iI (bI (part)))), (1, .int (iI wi)), (2, .int (iI col)), (0, .ref 530)]) (st' := [.int (iI (bI (part)))]) rfl ?_
                refine T_bif_eq xr_157_222 (t := 243) (pc' := 225) rfl rfl (fun c2975 => ?_) (fun c2975 => ?_)
                · skip
                  have c2975 : ¬ (part) := c2975
                  have hpx : d1 4 0 = d1 3 0 := Classical.not_not.mp (fun z => absurd ((hpt rfl).mpr z) (by assumption))
                  refine T_p xr_157_243 xn_157 (pc' := 244) (ls' := [(3, .int (iI (bI (part)))), (1, .int (iI wi)), (2, .int (iI col)), (0, .ref 530)]) (st' := [.ref 530]) rfl ?_
                  refine T_cv (S := S2670) (q := 530) xr_157_244 xf_147.1 xf_147.2.1 xn_147 (as := []) (r := []) rfl hM2716 (Nat.le_of_ble_eq_true rfl) (Nat.le_of_ble_eq_true rfl) (pc' := 247) rfl (ls' := [(0, .ref 530)]) rfl ?_
                  refine T_mono (r_wrong sc S2670 (X_ou (X_ou (X_ou (X_ou (X_ou (X_ou o 6 g1) 7 at1) 8 en1) 9 tk1) 10 nu1) 11 dg1) nm1 tx tb len n so pl ct E c1 hM2716 h2918 (show (o 3) = len from by first | assumption | omega) hl htx hX hT1 (show 0 ≤ (o 5) ∧ (o 5) ≤ 5 from by omega)) (fun v2976 S2977 h2978 => ?_)
                  rcases h2978 with ⟨f2979, g2980, hv2981, hp2982, hM2983, hf2984⟩
                  rw [hv2981]
                  have h2985 : S2977.1 530 = .inr (11, [.ref 531, .int (iI (o 1)), .ref 532, .int (iI (o 3)), .int (iI (o 4)), .int (iI f2979), .int (iI g2980), .int (iI at1), .int (iI en1), .int (iI tk1), .int (iI nu1), .int (iI dg1), .long nm1, .ref 533, .ref 534, .ref 535, .ref 536, .ref 537, .ref 538, .ref 539, .ref 540, .ref 541, .ref 542, .ref 543, .ref 544, .ref 545, .ref 546, .ref 547, .int (iI (o 28)), .int (iI (o 29)), .int (iI (o 30)), .int (iI (o 31)), .int (iI (o 32)), .int (iI (o 33)), .ref 548, .ref 549, .ref 550, .ref 551, .int (iI (o 38)), .ref 552, .ref 553, .ref 554, .ref 555, .ref 556, .ref 557, .ref 558, .ref 559, .ref 560, .ref 561, .int (iI (o 49)), .ref 562, .ref 563, .ref 564, .ref 565, .ref 566, .ref 567, .ref 568, .ref 569, .int (iI (o 58)), .ref 570, .ref 571, .ref 572, .ref 573, .ref 574, .ref 575, .ref 576, .ref 577, .ref 578, .int (iI (o 68)), .int (iI (o 69)), .int (iI (o 70)), .ref 579]) := hM2983
                  show X_T sc 157 (247, [(3, .int (iI (bI (part)))), (1, .int (iI wi)), (2, .int (iI col)), (0, .ref 530)], [], S2977) _
                  refine T_p xr_157_247 xn_157 (pc' := 248) (ls' := [(3, .int (iI (bI (part)))), (1, .int (iI wi)), (2, .int (iI col)), (0, .ref 530)]) (st' := [.ref 530]) rfl ?_
                  refine T_cv (S := S2977) (q := 530) xr_157_248 xf_140.1 xf_140.2.1 xn_140 (as := []) (r := []) rfl h2985 (Nat.le_of_ble_eq_true rfl) (Nat.le_of_ble_eq_true rfl) (pc' := 251) rfl (ls' := [(0, .ref 530)]) rfl ?_
                  refine T_mono (r_isGood sc S2977 (X_ou (X_ou (X_ou (X_ou (X_ou (X_ou (X_ou o 5 f2979) 6 g2980) 7 at1) 8 en1) 9 tk1) 10 nu1) 11 dg1) nm1 h2985 (show 0 ≤ f2979 ∧ f2979 ≤ 5 from by omega)) (fun v2986 S2987 h2988 => ?_)
                  rcases h2988 with ⟨hv2989, hf2990⟩
                  rw [hv2989]
                  rw [hf2990]
                  show X_T sc 157 (251, [(3, .int (iI (bI (part)))), (1, .int (iI wi)), (2, .int (iI col)), (0, .ref 530)], [.int (iI (bI (f2979 = 0)))], S2977) _
                  refine T_bif_eq xr_157_251 (t := 277) (pc' := 254) rfl rfl (fun c2991 => ?_) (fun c2991 => ?_)
                  · skip
                    have c2991 : ¬ (f2979 = 0) := c2991
                    refine T_p xr_157_277 xn_157 (pc' := 278) (ls' := [(3, .int (iI (bI (part)))), (1, .int (iI wi)), (2, .int (iI col)), (0, .ref 530)]) (st' := [.ref 530]) rfl ?_
                    refine T_cv (S := S2977) (q := 530) xr_157_278 xf_140.1 xf_140.2.1 xn_140 (as := []) (r := []) rfl h2985 (Nat.le_of_ble_eq_true rfl) (Nat.le_of_ble_eq_true rfl) (pc' := 281) rfl (ls' := [(0, .ref 530)]) rfl ?_
                    refine T_mono (r_isGood sc S2977 (X_ou (X_ou (X_ou (X_ou (X_ou (X_ou (X_ou o 5 f2979) 6 g2980) 7 at1) 8 en1) 9 tk1) 10 nu1) 11 dg1) nm1 h2985 (show 0 ≤ f2979 ∧ f2979 ≤ 5 from by omega)) (fun v2992 S2993 h2994 => ?_)
                    rcases h2994 with ⟨hv2995, hf2996⟩
                    rw [hv2995]
                    rw [hf2996]
                    show X_T sc 157 (281, [(3, .int (iI (bI (part)))), (1, .int (iI wi)), (2, .int (iI col)), (0, .ref 530)], [.int (iI (bI (f2979 = 0)))], S2977) _
                    refine T_bif_eq xr_157_281 (t := 302) (pc' := 284) rfl rfl (fun c2997 => ?_) (fun c2997 => ?_)
                    · skip
                      have c2997 : ¬ (f2979 = 0) := c2997
                      refine T_p xr_157_302 xn_157 (pc' := 303) (ls' := [(3, .int (iI (bI (part)))), (1, .int (iI wi)), (2, .int (iI col)), (0, .ref 530)]) (st' := [.ref 530]) rfl ?_
                      refine T_p xr_157_303 xn_157 (pc' := 304) (ls' := [(3, .int (iI (bI (part)))), (1, .int (iI wi)), (2, .int (iI col)), (0, .ref 530)]) (st' := [.ref 530, .ref 530]) rfl ?_
                      refine T_get xr_157_304 h2985 rfl (v := .int (iI (o 30))) rfl (pc' := 307) rfl ?_
                      refine T_p xr_157_307 xn_157 (pc' := 308) (ls' := [(3, .int (iI (bI (part)))), (1, .int (iI wi)), (2, .int (iI col)), (0, .ref 530)]) (st' := [.int (iI 1), .int (iI (o 30)), .ref 530]) rfl ?_
                      refine T_ziadd xr_157_308 (z := (o 30) + 1) rfl (pc' := 309) rfl ?_
                      refine T_ie (y := iI (wc + 1)) (by rw [hwc]) ?_
                      refine T_put xr_157_309 h2985 rfl (Nat.le_of_ble_eq_true rfl) rfl (fs' := [.ref 531, .int (iI (o 1)), .ref 532, .int (iI (o 3)), .int (iI (o 4)), .int (iI f2979), .int (iI g2980), .int (iI at1), .int (iI en1), .int (iI tk1), .int (iI nu1), .int (iI dg1), .long nm1, .ref 533, .ref 534, .ref 535, .ref 536, .ref 537, .ref 538, .ref 539, .ref 540, .ref 541, .ref 542, .ref 543, .ref 544, .ref 545, .ref 546, .ref 547, .int (iI (o 28)), .int (iI (o 29)), .int (iI (wc + 1)), .int (iI (o 31)), .int (iI (o 32)), .int (iI (o 33)), .ref 548, .ref 549, .ref 550, .ref 551, .int (iI (o 38)), .ref 552, .ref 553, .ref 554, .ref 555, .ref 556, .ref 557, .ref 558, .ref 559, .ref 560, .ref 561, .int (iI (o 49)), .ref 562, .ref 563, .ref 564, .ref 565, .ref 566, .ref 567, .ref 568, .ref 569, .int (iI (o 58)), .ref 570, .ref 571, .ref 572, .ref 573, .ref 574, .ref 575, .ref 576, .ref 577, .ref 578, .int (iI (o 68)), .int (iI (o 69)), .int (iI (o 70)), .ref 579]) rfl (pc' := 312) rfl (fun S2998 h2999 n3000 e3001 => ?_)
                      refine T_p xr_157_312 xn_157 (pc' := 313) (ls' := [(3, .int (iI (bI (part)))), (1, .int (iI wi)), (2, .int (iI col)), (0, .ref 530)]) (st' := [.ref 530]) rfl ?_
                      refine T_cv (S := S2998) (q := 530) xr_157_313 xf_140.1 xf_140.2.1 xn_140 (as := []) (r := []) rfl h2999 (Nat.le_of_ble_eq_true rfl) (Nat.le_of_ble_eq_true rfl) (pc' := 316) rfl (ls' := [(0, .ref 530)]) rfl ?_
                      refine T_mono (r_isGood sc S2998 (X_ou (X_ou (X_ou (X_ou (X_ou (X_ou (X_ou (X_ou o 5 f2979) 6 g2980) 7 at1) 8 en1) 9 tk1) 10 nu1) 11 dg1) 30 (wc + 1)) nm1 h2999 (show 0 ≤ f2979 ∧ f2979 ≤ 5 from by omega)) (fun v3002 S3003 h3004 => ?_)
                      rcases h3004 with ⟨hv3005, hf3006⟩
                      rw [hv3005]
                      rw [hf3006]
                      show X_T sc 157 (316, [(3, .int (iI (bI (part)))), (1, .int (iI wi)), (2, .int (iI col)), (0, .ref 530)], [.int (iI (bI (f2979 = 0)))], S2998) _
                      refine T_bif_eq xr_157_316 (t := 325) (pc' := 319) rfl rfl (fun c3007 => ?_) (fun c3007 => ?_)
                      · skip
                        have c3007 : ¬ (f2979 = 0) := c3007
                        refine T_vret xr_157_325 xf_157.2.2 ?_
                        refine hQ _ _ ?_
                        have h3008 := (n3000 537 (by decide)).trans ((hf2984.1 537 (by first | decide | omega)).trans ((hF2669.1 537 (by first | decide | omega)).trans (hA537)))
                        have h3009 := (n3000 538 (by decide)).trans ((hf2984.1 538 (by first | decide | omega)).trans ((hF2669.1 538 (by first | decide | omega)).trans (hA538)))
                        have h3010 := (n3000 539 (by decide)).trans ((hf2984.1 539 (by first | decide | omega)).trans ((hF2669.1 539 (by first | decide | omega)).trans (hA539)))
                        have h3011 := (n3000 540 (by decide)).trans ((hf2984.1 540 (by first | decide | omega)).trans (hA1))
                        have h3012 := (n3000 541 (by decide)).trans ((hf2984.1 541 (by first | decide | omega)).trans (hA2))
                        have h3013 := (n3000 542 (by decide)).trans ((hf2984.1 542 (by first | decide | omega)).trans ((hF2669.1 542 (by first | decide | omega)).trans (hA542)))
                        have h3014 := (n3000 543 (by decide)).trans ((hf2984.1 543 (by first | decide | omega)).trans ((hF2669.1 543 (by first | decide | omega)).trans (hA543)))
                        have h3015 := (n3000 544 (by decide)).trans ((hf2984.1 544 (by first | decide | omega)).trans ((hF2669.1 544 (by first | decide | omega)).trans (hA544)))
                        have h3016 := (n3000 545 (by decide)).trans ((hf2984.1 545 (by first | decide | omega)).trans (hA3))
                        have h3017 := (n3000 546 (by decide)).trans ((hf2984.1 546 (by first | decide | omega)).trans (hA4))
                        have h3018 := (n3000 547 (by decide)).trans ((hf2984.1 547 (by first | decide | omega)).trans (hA5))
                        refine Or.inr ⟨at1, en1, tk1, nu1, dg1, nm1, wc + 1, f2979, g2980, wR, wL, wK, wM1, wH1, wS, sO, sN, eP1, eH1, hK1, rfl, by omega, ?_, R_ob.rf, R_ob.rf, R_ob.rf, by exact hob4, by exact hob5, R_ob.rf, R_ob.rf, R_ob.rf, by exact hob9, by exact hob10, by exact hob11, h2999, h3008, h3009, h3010, h3011, h3012, h3013, h3014, h3015, h3016, h3017, h3018, (((X_Fr.rf).tr (X_Fr.mono ⟨hF2669.1, hF2669.2⟩ (fun q hq => by first | exact hq | (rcases hq with rfl <;> decide) | (rcases hq with rfl | rfl <;> decide) | (rcases hq with rfl | rfl | rfl <;> decide) | (rcases hq with rfl | rfl | rfl | rfl <;> decide) | (rcases hq with rfl | rfl | rfl | rfl | rfl <;> decide) | (rcases hq with rfl | rfl | rfl | rfl | rfl | rfl <;> decide) | (rcases hq with rfl | rfl | rfl | rfl | rfl | rfl | rfl <;> decide) | omega))).tr (X_Fr.mono ⟨hf2984.1, hf2984.2⟩ (fun q hq => by first | exact hq | (rcases hq with rfl <;> decide) | (rcases hq with rfl | rfl <;> decide) | (rcases hq with rfl | rfl | rfl <;> decide) | (rcases hq with rfl | rfl | rfl | rfl <;> decide) | (rcases hq with rfl | rfl | rfl | rfl | rfl <;> decide) | (rcases hq with rfl | rfl | rfl | rfl | rfl | rfl <;> decide) | (rcases hq with rfl | rfl | rfl | rfl | rfl | rfl | rfl <;> decide) | omega))).tr (X_Fr.of n3000 e3001 (by first | decide | exact ⟨Nat.le_add_right _ _, Nat.add_le_add_left (by decide) _⟩ | omega))⟩
                        by_cases h61 : so c1 = 61 ∨ so c1 = 59
                        · have hel : sp_el n so ct kn kc 9 c d q = some (c1, d1, q1) := by
                            rw [← hR, show (9 - d1 3 0).toNat = (9 - (d1 3 0 + 1)).toNat + 1 by omega]
                            show (if so c1 = 61 then _ else if so c1 = 59 then _ else _) = _
                            first | rw [if_pos (by omega)] | rw [if_neg (by omega), if_pos (by omega)] | (by_cases hz : so c1 = 61; (rw [if_pos hz]); (rw [if_neg hz, if_pos (by omega)]))
                          rw [hel, Option.bind_some]
                          dsimp only
                          unfold sp_we
                          (repeat (first | rw [if_pos (by assumption)] | rw [if_neg (by assumption)] | rw [if_neg (by omega)] | rw [if_pos (by omega)]))
                          all_goals first | rfl | ((repeat' split) <;> first | rfl | (exfalso; omega) | contradiction)
                        · have hel : sp_el n so ct kn kc 9 c d q = none := by
                            rw [← hR, show (9 - d1 3 0).toNat = (9 - (d1 3 0 + 1)).toNat + 1 by omega, sp_el_e1 _ (by omega) (by omega)]
                            unfold sp_e1
                            rw [if_neg (by omega), if_neg (by omega)]
                            rfl
                          rw [hel]
                          rfl
                      · skip
                        have c3007 : (f2979 = 0) := c3007
                        exact (show False by first | contradiction | omega).elim
                    · skip
                      have c2997 : (f2979 = 0) := c2997
                      exact (show False by first | contradiction | omega).elim
                  · skip
                    have c2991 : (f2979 = 0) := c2991
                    exact (show False by first | contradiction | omega).elim
                · skip
                  have c2975 : (part) := c2975
                  have hpx : ¬ d1 4 0 = d1 3 0 := (hpt rfl).mp (by assumption)
                  refine T_p xr_157_225 xn_157 (pc' := 226) (ls' := [(3, .int (iI (bI (part)))), (1, .int (iI wi)), (2, .int (iI col)), (0, .ref 530)]) (st' := [.ref 530]) rfl ?_
                  refine T_p xr_157_226 xn_157 (pc' := 228) (ls' := [(3, .int (iI (bI (part)))), (1, .int (iI wi)), (2, .int (iI col)), (0, .ref 530)]) (st' := [.int (iI 61), .ref 530]) rfl ?_
                  refine T_cv (S := S2670) (q := 530) xr_157_228 xf_145.1 xf_145.2.1 xn_145 (as := [.int (iI 61)]) (r := []) rfl hM2716 (Nat.le_of_ble_eq_true rfl) (Nat.le_of_ble_eq_true rfl) (pc' := 231) rfl (ls' := [(0, .ref 530), (1, .int (iI 61))]) rfl ?_
                  refine T_mono (r_is sc S2670 (X_ou (X_ou (X_ou (X_ou (X_ou (X_ou o 6 g1) 7 at1) 8 en1) 9 tk1) 10 nu1) 11 dg1) nm1 tx tb len n so pl ct E c1 61 hM2716 h2918 (show (o 3) = len from by first | assumption | omega) hl htx hX hT1 (by omega)) (fun v3019 S3020 h3021 => ?_)
                  rcases h3021 with ⟨hv3022, hf3023⟩
                  rw [hv3022]
                  rw [hf3023]
                  show X_T sc 157 (231, [(3, .int (iI (bI (part)))), (1, .int (iI wi)), (2, .int (iI col)), (0, .ref 530)], [.int (iI (bI (so c1 = 61)))], S2670) _
                  refine T_bif_ne xr_157_231 (t := 247) (pc' := 234) rfl rfl (fun c3024 => ?_) (fun c3024 => ?_)
                  · skip
                    have c3024 : (so c1 = 61) := c3024
                    refine T_p xr_157_247 xn_157 (pc' := 248) (ls' := [(3, .int (iI (bI (part)))), (1, .int (iI wi)), (2, .int (iI col)), (0, .ref 530)]) (st' := [.ref 530]) rfl ?_
                    refine T_cv (S := S2670) (q := 530) xr_157_248 xf_140.1 xf_140.2.1 xn_140 (as := []) (r := []) rfl hM2716 (Nat.le_of_ble_eq_true rfl) (Nat.le_of_ble_eq_true rfl) (pc' := 251) rfl (ls' := [(0, .ref 530)]) rfl ?_
                    refine T_mono (r_isGood sc S2670 (X_ou (X_ou (X_ou (X_ou (X_ou (X_ou o 6 g1) 7 at1) 8 en1) 9 tk1) 10 nu1) 11 dg1) nm1 hM2716 (show 0 ≤ (o 5) ∧ (o 5) ≤ 5 from by omega)) (fun v3025 S3026 h3027 => ?_)
                    rcases h3027 with ⟨hv3028, hf3029⟩
                    rw [hv3028]
                    rw [hf3029]
                    show X_T sc 157 (251, [(3, .int (iI (bI (part)))), (1, .int (iI wi)), (2, .int (iI col)), (0, .ref 530)], [.int (iI (bI ((o 5) = 0)))], S2670) _
                    refine T_bif_eq xr_157_251 (t := 277) (pc' := 254) rfl rfl (fun c3030 => ?_) (fun c3030 => ?_)
                    · skip
                      have c3030 : ¬ ((o 5) = 0) := c3030
                      exact (show False by first | contradiction | omega).elim
                    · skip
                      have c3030 : ((o 5) = 0) := c3030
                      refine T_p xr_157_254 xn_157 (pc' := 255) (ls' := [(3, .int (iI (bI (part)))), (1, .int (iI wi)), (2, .int (iI col)), (0, .ref 530)]) (st' := [.ref 530]) rfl ?_
                      refine T_get xr_157_255 hM2716 rfl (v := .ref 538) rfl (pc' := 258) rfl ?_
                      refine T_p xr_157_258 xn_157 (pc' := 259) (ls' := [(3, .int (iI (bI (part)))), (1, .int (iI wi)), (2, .int (iI col)), (0, .ref 530)]) (st' := [.int (iI wi), .ref 538]) rfl ?_
                      have h3031 := (hF2669.1 538 (by first | decide | omega)).trans (hA538)
                      refine T_ziald xr_157_259 h3031 (pc' := 260) rfl ?_
                      refine T_zif_le xr_157_260 (t := 277) (pc' := 263) rfl rfl (fun c3032 => ?_) (fun c3032 => ?_)
                      · skip
                        have c3032 : (wL wi) ≤ 0 := c3032
                        refine T_p xr_157_277 xn_157 (pc' := 278) (ls' := [(3, .int (iI (bI (part)))), (1, .int (iI wi)), (2, .int (iI col)), (0, .ref 530)]) (st' := [.ref 530]) rfl ?_
                        refine T_cv (S := S2670) (q := 530) xr_157_278 xf_140.1 xf_140.2.1 xn_140 (as := []) (r := []) rfl hM2716 (Nat.le_of_ble_eq_true rfl) (Nat.le_of_ble_eq_true rfl) (pc' := 281) rfl (ls' := [(0, .ref 530)]) rfl ?_
                        refine T_mono (r_isGood sc S2670 (X_ou (X_ou (X_ou (X_ou (X_ou (X_ou o 6 g1) 7 at1) 8 en1) 9 tk1) 10 nu1) 11 dg1) nm1 hM2716 (show 0 ≤ (o 5) ∧ (o 5) ≤ 5 from by omega)) (fun v3033 S3034 h3035 => ?_)
                        rcases h3035 with ⟨hv3036, hf3037⟩
                        rw [hv3036]
                        rw [hf3037]
                        show X_T sc 157 (281, [(3, .int (iI (bI (part)))), (1, .int (iI wi)), (2, .int (iI col)), (0, .ref 530)], [.int (iI (bI ((o 5) = 0)))], S2670) _
                        refine T_bif_eq xr_157_281 (t := 302) (pc' := 284) rfl rfl (fun c3038 => ?_) (fun c3038 => ?_)
                        · skip
                          have c3038 : ¬ ((o 5) = 0) := c3038
                          exact (show False by first | contradiction | omega).elim
                        · skip
                          have c3038 : ((o 5) = 0) := c3038
                          refine T_p xr_157_284 xn_157 (pc' := 285) (ls' := [(3, .int (iI (bI (part)))), (1, .int (iI wi)), (2, .int (iI col)), (0, .ref 530)]) (st' := [.ref 530]) rfl ?_
                          refine T_p xr_157_285 xn_157 (pc' := 287) (ls' := [(3, .int (iI (bI (part)))), (1, .int (iI wi)), (2, .int (iI col)), (0, .ref 530)]) (st' := [.int (iI 61), .ref 530]) rfl ?_
                          refine T_cv (S := S2670) (q := 530) xr_157_287 xf_145.1 xf_145.2.1 xn_145 (as := [.int (iI 61)]) (r := []) rfl hM2716 (Nat.le_of_ble_eq_true rfl) (Nat.le_of_ble_eq_true rfl) (pc' := 290) rfl (ls' := [(0, .ref 530), (1, .int (iI 61))]) rfl ?_
                          refine T_mono (r_is sc S2670 (X_ou (X_ou (X_ou (X_ou (X_ou (X_ou o 6 g1) 7 at1) 8 en1) 9 tk1) 10 nu1) 11 dg1) nm1 tx tb len n so pl ct E c1 61 hM2716 h2918 (show (o 3) = len from by first | assumption | omega) hl htx hX hT1 (by omega)) (fun v3039 S3040 h3041 => ?_)
                          rcases h3041 with ⟨hv3042, hf3043⟩
                          rw [hv3042]
                          rw [hf3043]
                          show X_T sc 157 (290, [(3, .int (iI (bI (part)))), (1, .int (iI wi)), (2, .int (iI col)), (0, .ref 530)], [.int (iI (bI (so c1 = 61)))], S2670) _
                          refine T_bif_eq xr_157_290 (t := 302) (pc' := 293) rfl rfl (fun c3044 => ?_) (fun c3044 => ?_)
                          · skip
                            have c3044 : ¬ (so c1 = 61) := c3044
                            exact (show False by first | contradiction | omega).elim
                          · skip
                            have c3044 : (so c1 = 61) := c3044
                            refine T_p xr_157_293 xn_157 (pc' := 294) (ls' := [(3, .int (iI (bI (part)))), (1, .int (iI wi)), (2, .int (iI col)), (0, .ref 530)]) (st' := [.ref 530]) rfl ?_
                            refine T_cv (S := S2670) (q := 530) xr_157_294 xf_141.1 xf_141.2.1 xn_141 (as := []) (r := []) rfl hM2716 (Nat.le_of_ble_eq_true rfl) (Nat.le_of_ble_eq_true rfl) (pc' := 297) rfl (ls' := [(0, .ref 530)]) rfl ?_
                            refine T_mono (r_nx sc S2670 (X_ou (X_ou (X_ou (X_ou (X_ou (X_ou o 6 g1) 7 at1) 8 en1) 9 tk1) 10 nu1) 11 dg1) nm1 tx tb len n so pl ct E c1 hM2716 h2918 (show (o 3) = len from by first | assumption | omega) hl htx hX hT1 (by omega)) (fun v3045 S3046 h3047 => ?_)
                            rcases h3047 with ⟨at3048, en3049, tk3050, nu3051, dg3052, nm3053, hv3054, hp3055, hM3056, hf3057⟩
                            rw [hv3054]
                            have h3058 : S3046.1 530 = .inr (11, [.ref 531, .int (iI (o 1)), .ref 532, .int (iI (o 3)), .int (iI (o 4)), .int (iI (o 5)), .int (iI g1), .int (iI at3048), .int (iI en3049), .int (iI tk3050), .int (iI nu3051), .int (iI dg3052), .long nm3053, .ref 533, .ref 534, .ref 535, .ref 536, .ref 537, .ref 538, .ref 539, .ref 540, .ref 541, .ref 542, .ref 543, .ref 544, .ref 545, .ref 546, .ref 547, .int (iI (o 28)), .int (iI (o 29)), .int (iI (o 30)), .int (iI (o 31)), .int (iI (o 32)), .int (iI (o 33)), .ref 548, .ref 549, .ref 550, .ref 551, .int (iI (o 38)), .ref 552, .ref 553, .ref 554, .ref 555, .ref 556, .ref 557, .ref 558, .ref 559, .ref 560, .ref 561, .int (iI (o 49)), .ref 562, .ref 563, .ref 564, .ref 565, .ref 566, .ref 567, .ref 568, .ref 569, .int (iI (o 58)), .ref 570, .ref 571, .ref 572, .ref 573, .ref 574, .ref 575, .ref 576, .ref 577, .ref 578, .int (iI (o 68)), .int (iI (o 69)), .int (iI (o 70)), .ref 579]) := hM3056
                            obtain ⟨⟨_, _⟩, ⟨_, _⟩, hk3059, ⟨_, _⟩, hk3059e, ⟨_, _⟩, ⟨_, _⟩⟩ := R_tk_f hX hp3055
                            show X_T sc 157 (297, [(3, .int (iI (bI (part)))), (1, .int (iI wi)), (2, .int (iI col)), (0, .ref 530)], [], S3046) _
                            refine T_p xr_157_297 xn_157 (pc' := 298) (ls' := [(3, .int (iI (bI (part)))), (1, .int (iI wi)), (2, .int (iI col)), (0, .ref 530)]) (st' := [.ref 530]) rfl ?_
                            refine T_p xr_157_298 xn_157 (pc' := 299) (ls' := [(3, .int (iI (bI (part)))), (1, .int (iI wi)), (2, .int (iI col)), (0, .ref 530)]) (st' := [.int (iI wi), .ref 530]) rfl ?_
                            refine T_cv (S := S3046) (q := 530) xr_157_299 xf_159.1 xf_159.2.1 xn_159 (as := [.int (iI wi)]) (r := []) rfl h3058 (Nat.le_of_ble_eq_true rfl) (Nat.le_of_ble_eq_true rfl) (pc' := 302) rfl (ls' := [(0, .ref 530), (1, .int (iI wi))]) rfl ?_
                            have h3060 := (hf3057.1 532 (by first | decide | omega)).trans (h2918)
                            have h3061 := (hf3057.1 541 (by first | decide | omega)).trans (hA2)
                            have h3062 := (hf3057.1 542 (by first | decide | omega)).trans ((hF2669.1 542 (by first | decide | omega)).trans (hA542))
                            have h3063 := (hf3057.1 543 (by first | decide | omega)).trans ((hF2669.1 543 (by first | decide | omega)).trans (hA543))
                            have h3064 := (hf3057.1 544 (by first | decide | omega)).trans ((hF2669.1 544 (by first | decide | omega)).trans (hA544))
                            refine T_mono (r_readSteps sc S3046 (X_ou (X_ou (X_ou (X_ou (X_ou (X_ou o 6 g1) 7 at3048) 8 en3049) 9 tk3050) 10 nu3051) 11 dg3052) nm3053 tx wH1 wS sO sN tb len n so pl ct E (X_av n c1) wi d1 h3058 h3060 h3061 h3062 h3063 h3064 (show (o 3) = len from by first | assumption | omega) hl htx hX hp3055 (show (o 5) = 0 from by omega) (by omega) hE1.2.1 (by omega)) (fun v3065 S3066 h3067 => ?_)
                            rcases h3067 with ⟨at3068, en3069, tk3070, nu3071, dg3072, nm3073, g3074, c3075, d3076, wS3077, sO3078, sN3079, hv3080, hp3081, hp3082, hp3083, hp3084, hp3085, hp3086, hp3087, hM3088, ha3089, ha3090, ha3091, hf3092⟩ | ⟨at3093, en3094, tk3095, nu3096, dg3097, nm3098, f3099, g3100, wS3101, sO3102, sN3103, hv3104, hp3105, hp3106, hp3107, hp3108, hp3109, hM3110, ha3111, ha3112, ha3113, hf3114⟩
                            · skip
                              rw [hv3080]
                              have h3115 : S3066.1 530 = .inr (11, [.ref 531, .int (iI (o 1)), .ref 532, .int (iI (o 3)), .int (iI (o 4)), .int (iI (o 5)), .int (iI g3074), .int (iI at3068), .int (iI en3069), .int (iI tk3070), .int (iI nu3071), .int (iI dg3072), .long nm3073, .ref 533, .ref 534, .ref 535, .ref 536, .ref 537, .ref 538, .ref 539, .ref 540, .ref 541, .ref 542, .ref 543, .ref 544, .ref 545, .ref 546, .ref 547, .int (iI (o 28)), .int (iI (o 29)), .int (iI (o 30)), .int (iI (o 31)), .int (iI (o 32)), .int (iI (o 33)), .ref 548, .ref 549, .ref 550, .ref 551, .int (iI (o 38)), .ref 552, .ref 553, .ref 554, .ref 555, .ref 556, .ref 557, .ref 558, .ref 559, .ref 560, .ref 561, .int (iI (o 49)), .ref 562, .ref 563, .ref 564, .ref 565, .ref 566, .ref 567, .ref 568, .ref 569, .int (iI (o 58)), .ref 570, .ref 571, .ref 572, .ref 573, .ref 574, .ref 575, .ref 576, .ref 577, .ref 578, .int (iI (o 68)), .int (iI (o 69)), .int (iI (o 70)), .ref 579]) := hM3088
                              obtain ⟨⟨_, _⟩, ⟨_, _⟩, hk3116, ⟨_, _⟩, hk3116e, ⟨_, _⟩, ⟨_, _⟩⟩ := R_tk_f hX hp3081
                              show X_T sc 157 (302, [(3, .int (iI (bI (part)))), (1, .int (iI wi)), (2, .int (iI col)), (0, .ref 530)], [], S3066) _
                              refine T_p xr_157_302 xn_157 (pc' := 303) (ls' := [(3, .int (iI (bI (part)))), (1, .int (iI wi)), (2, .int (iI col)), (0, .ref 530)]) (st' := [.ref 530]) rfl ?_
                              refine T_p xr_157_303 xn_157 (pc' := 304) (ls' := [(3, .int (iI (bI (part)))), (1, .int (iI wi)), (2, .int (iI col)), (0, .ref 530)]) (st' := [.ref 530, .ref 530]) rfl ?_
                              refine T_get xr_157_304 h3115 rfl (v := .int (iI (o 30))) rfl (pc' := 307) rfl ?_
                              refine T_p xr_157_307 xn_157 (pc' := 308) (ls' := [(3, .int (iI (bI (part)))), (1, .int (iI wi)), (2, .int (iI col)), (0, .ref 530)]) (st' := [.int (iI 1), .int (iI (o 30)), .ref 530]) rfl ?_
                              refine T_ziadd xr_157_308 (z := (o 30) + 1) rfl (pc' := 309) rfl ?_
                              refine T_ie (y := iI (wc + 1)) (by rw [hwc]) ?_
                              refine T_put xr_157_309 h3115 rfl (Nat.le_of_ble_eq_true rfl) rfl (fs' := [.ref 531, .int (iI (o 1)), .ref 532, .int (iI (o 3)), .int (iI (o 4)), .int (iI (o 5)), .int (iI g3074), .int (iI at3068), .int (iI en3069), .int (iI tk3070), .int (iI nu3071), .int (iI dg3072), .long nm3073, .ref 533, .ref 534, .ref 535, .ref 536, .ref 537, .ref 538, .ref 539, .ref 540, .ref 541, .ref 542, .ref 543, .ref 544, .ref 545, .ref 546, .ref 547, .int (iI (o 28)), .int (iI (o 29)), .int (iI (wc + 1)), .int (iI (o 31)), .int (iI (o 32)), .int (iI (o 33)), .ref 548, .ref 549, .ref 550, .ref 551, .int (iI (o 38)), .ref 552, .ref 553, .ref 554, .ref 555, .ref 556, .ref 557, .ref 558, .ref 559, .ref 560, .ref 561, .int (iI (o 49)), .ref 562, .ref 563, .ref 564, .ref 565, .ref 566, .ref 567, .ref 568, .ref 569, .int (iI (o 58)), .ref 570, .ref 571, .ref 572, .ref 573, .ref 574, .ref 575, .ref 576, .ref 577, .ref 578, .int (iI (o 68)), .int (iI (o 69)), .int (iI (o 70)), .ref 579]) rfl (pc' := 312) rfl (fun S3118 h3119 n3120 e3121 => ?_)
                              refine T_p xr_157_312 xn_157 (pc' := 313) (ls' := [(3, .int (iI (bI (part)))), (1, .int (iI wi)), (2, .int (iI col)), (0, .ref 530)]) (st' := [.ref 530]) rfl ?_
                              refine T_cv (S := S3118) (q := 530) xr_157_313 xf_140.1 xf_140.2.1 xn_140 (as := []) (r := []) rfl h3119 (Nat.le_of_ble_eq_true rfl) (Nat.le_of_ble_eq_true rfl) (pc' := 316) rfl (ls' := [(0, .ref 530)]) rfl ?_
                              refine T_mono (r_isGood sc S3118 (X_ou (X_ou (X_ou (X_ou (X_ou (X_ou (X_ou o 6 g3074) 7 at3068) 8 en3069) 9 tk3070) 10 nu3071) 11 dg3072) 30 (wc + 1)) nm3073 h3119 (show 0 ≤ (o 5) ∧ (o 5) ≤ 5 from by omega)) (fun v3122 S3123 h3124 => ?_)
                              rcases h3124 with ⟨hv3125, hf3126⟩
                              rw [hv3125]
                              rw [hf3126]
                              show X_T sc 157 (316, [(3, .int (iI (bI (part)))), (1, .int (iI wi)), (2, .int (iI col)), (0, .ref 530)], [.int (iI (bI ((o 5) = 0)))], S3118) _
                              refine T_bif_eq xr_157_316 (t := 325) (pc' := 319) rfl rfl (fun c3127 => ?_) (fun c3127 => ?_)
                              · skip
                                have c3127 : ¬ ((o 5) = 0) := c3127
                                exact (show False by first | contradiction | omega).elim
                              · skip
                                have c3127 : ((o 5) = 0) := c3127
                                refine T_p xr_157_319 xn_157 (pc' := 320) (ls' := [(3, .int (iI (bI (part)))), (1, .int (iI wi)), (2, .int (iI col)), (0, .ref 530)]) (st' := [.ref 530]) rfl ?_
                                refine T_p xr_157_320 xn_157 (pc' := 322) (ls' := [(3, .int (iI (bI (part)))), (1, .int (iI wi)), (2, .int (iI col)), (0, .ref 530)]) (st' := [.int (iI 59), .ref 530]) rfl ?_
                                refine T_cv (S := S3118) (q := 530) xr_157_322 xf_148.1 xf_148.2.1 xn_148 (as := [.int (iI 59)]) (r := []) rfl h3119 (Nat.le_of_ble_eq_true rfl) (Nat.le_of_ble_eq_true rfl) (pc' := 325) rfl (ls' := [(0, .ref 530), (1, .int (iI 59))]) rfl ?_
                                have h3128 := (n3120 532 (by decide)).trans ((hf3092.1 532 (by first | decide | omega)).trans (h3060))
                                refine T_mono (r_must sc S3118 (X_ou (X_ou (X_ou (X_ou (X_ou (X_ou (X_ou o 6 g3074) 7 at3068) 8 en3069) 9 tk3070) 10 nu3071) 11 dg3072) 30 (wc + 1)) nm3073 tx tb len n so pl ct E c3075 59 h3119 h3128 (show (o 3) = len from by first | assumption | omega) hl htx hX hp3081 (show (o 5) = 0 from by omega) (by omega)) (fun v3129 S3130 h3131 => ?_)
                                rcases h3131 with ⟨at3132, en3133, tk3134, nu3135, dg3136, nm3137, hv3138, hp3139, hp3140, hM3141, hf3142⟩ | ⟨f3143, g3144, hv3145, hp3146, hp3147, hM3148, hf3149⟩
                                · skip
                                  rw [hv3138]
                                  have h3150 : S3130.1 530 = .inr (11, [.ref 531, .int (iI (o 1)), .ref 532, .int (iI (o 3)), .int (iI (o 4)), .int (iI (o 5)), .int (iI g3074), .int (iI at3132), .int (iI en3133), .int (iI tk3134), .int (iI nu3135), .int (iI dg3136), .long nm3137, .ref 533, .ref 534, .ref 535, .ref 536, .ref 537, .ref 538, .ref 539, .ref 540, .ref 541, .ref 542, .ref 543, .ref 544, .ref 545, .ref 546, .ref 547, .int (iI (o 28)), .int (iI (o 29)), .int (iI (wc + 1)), .int (iI (o 31)), .int (iI (o 32)), .int (iI (o 33)), .ref 548, .ref 549, .ref 550, .ref 551, .int (iI (o 38)), .ref 552, .ref 553, .ref 554, .ref 555, .ref 556, .ref 557, .ref 558, .ref 559, .ref 560, .ref 561, .int (iI (o 49)), .ref 562, .ref 563, .ref 564, .ref 565, .ref 566, .ref 567, .ref 568, .ref 569, .int (iI (o 58)), .ref 570, .ref 571, .ref 572, .ref 573, .ref 574, .ref 575, .ref 576, .ref 577, .ref 578, .int (iI (o 68)), .int (iI (o 69)), .int (iI (o 70)), .ref 579]) := hM3141
                                  obtain ⟨⟨_, _⟩, ⟨_, _⟩, hk3151, ⟨_, _⟩, hk3151e, ⟨_, _⟩, ⟨_, _⟩⟩ := R_tk_f hX hp3139
                                  show X_T sc 157 (325, [(3, .int (iI (bI (part)))), (1, .int (iI wi)), (2, .int (iI col)), (0, .ref 530)], [], S3130) _
                                  refine T_vret xr_157_325 xf_157.2.2 ?_
                                  refine hQ _ _ ?_
                                  have h3153 := (hf3142.1 537 (by first | decide | omega)).trans ((n3120 537 (by decide)).trans ((hf3092.1 537 (by first | decide | omega)).trans ((hf3057.1 537 (by first | decide | omega)).trans ((hF2669.1 537 (by first | decide | omega)).trans (hA537)))))
                                  have h3154 := (hf3142.1 538 (by first | decide | omega)).trans ((n3120 538 (by decide)).trans ((hf3092.1 538 (by first | decide | omega)).trans ((hf3057.1 538 (by first | decide | omega)).trans (h3031))))
                                  have h3155 := (hf3142.1 539 (by first | decide | omega)).trans ((n3120 539 (by decide)).trans ((hf3092.1 539 (by first | decide | omega)).trans ((hf3057.1 539 (by first | decide | omega)).trans ((hF2669.1 539 (by first | decide | omega)).trans (hA539)))))
                                  have h3156 := (hf3142.1 540 (by first | decide | omega)).trans ((n3120 540 (by decide)).trans ((hf3092.1 540 (by first | decide | omega)).trans ((hf3057.1 540 (by first | decide | omega)).trans (hA1))))
                                  have h3157 := (hf3142.1 541 (by first | decide | omega)).trans ((n3120 541 (by decide)).trans ((hf3092.1 541 (by first | decide | omega)).trans (h3061)))
                                  have h3158 := (hf3142.1 542 (by first | decide | omega)).trans ((n3120 542 (by decide)).trans (ha3089))
                                  have h3159 := (hf3142.1 543 (by first | decide | omega)).trans ((n3120 543 (by decide)).trans (ha3090))
                                  have h3160 := (hf3142.1 544 (by first | decide | omega)).trans ((n3120 544 (by decide)).trans (ha3091))
                                  have h3161 := (hf3142.1 545 (by first | decide | omega)).trans ((n3120 545 (by decide)).trans ((hf3092.1 545 (by first | decide | omega)).trans ((hf3057.1 545 (by first | decide | omega)).trans (hA3))))
                                  have h3162 := (hf3142.1 546 (by first | decide | omega)).trans ((n3120 546 (by decide)).trans ((hf3092.1 546 (by first | decide | omega)).trans ((hf3057.1 546 (by first | decide | omega)).trans (hA4))))
                                  have h3163 := (hf3142.1 547 (by first | decide | omega)).trans ((n3120 547 (by decide)).trans ((hf3092.1 547 (by first | decide | omega)).trans ((hf3057.1 547 (by first | decide | omega)).trans (hA5))))
                                  have hst := sp_sl_ok _ _ _ _ _ (X_av_r ⟨by omega, by omega⟩) hp3082 ⟨(show (0 : Int) ≤ 0 by omega), ⟨(show (0 : Int) ≤ 0 by omega), (show (0 : Int) ≤ 16 by omega)⟩, fun k h1 h2 => absurd (show k < 0 from h2) (by omega)⟩ rfl
                                  obtain ⟨-, -, hst3, -, -⟩ := hst
                                  have hst4 : ∀ f, f ≠ 5 → f ≠ 12 → f ≠ 13 → d3076 f = d1 f := fun f f1 f2 f3 => (hst3 f f1 f2 f3).trans (by unfold X_wu; rw [if_neg f1])
                                  refine Or.inl ⟨at3132, en3133, tk3134, nu3135, dg3136, nm3137, g3074, X_av n c3075, d3076, q1, wR, wL, wK, wM1, wH1, wS3077, sO3078, sN3079, eP1, eH1, hK1, rfl, hp3139, ?_, ⟨by rw [hst4 0 (by decide) (by decide) (by decide), hfd 0 (by decide) (by decide) (by decide) (by decide)]; exact hW.1, by rw [hst4 1 (by decide) (by decide) (by decide), hfd 1 (by decide) (by decide) (by decide) (by decide)]; exact hW.2.1, by rw [hst4 2 (by decide) (by decide) (by decide), hfd 2 (by decide) (by decide) (by decide) (by decide)]; exact hW.2.2.1, hE1.cg (hst4 3 (by decide) (by decide) (by decide)) (hst4 4 (by decide) (by decide) (by decide)) (hst4 8 (by decide) (by decide) (by decide)) (hst4 9 (by decide) (by decide) (by decide)), hp3084⟩, R_ob.rf, R_ob.rf, R_ob.rf, by exact hob4, by exact hob5, hp3085, hp3086, hp3087, by exact hob9, by exact hob10, by exact hob11, h3150, h3153, h3154, h3155, h3156, h3157, h3158, h3159, h3160, h3161, h3162, h3163, (((((X_Fr.rf).tr (X_Fr.mono ⟨hF2669.1, hF2669.2⟩ (fun q hq => by first | exact hq | (rcases hq with rfl <;> decide) | (rcases hq with rfl | rfl <;> decide) | (rcases hq with rfl | rfl | rfl <;> decide) | (rcases hq with rfl | rfl | rfl | rfl <;> decide) | (rcases hq with rfl | rfl | rfl | rfl | rfl <;> decide) | (rcases hq with rfl | rfl | rfl | rfl | rfl | rfl <;> decide) | (rcases hq with rfl | rfl | rfl | rfl | rfl | rfl | rfl <;> decide) | omega))).tr (X_Fr.mono ⟨hf3057.1, hf3057.2⟩ (fun q hq => by first | exact hq | (rcases hq with rfl <;> decide) | (rcases hq with rfl | rfl <;> decide) | (rcases hq with rfl | rfl | rfl <;> decide) | (rcases hq with rfl | rfl | rfl | rfl <;> decide) | (rcases hq with rfl | rfl | rfl | rfl | rfl <;> decide) | (rcases hq with rfl | rfl | rfl | rfl | rfl | rfl <;> decide) | (rcases hq with rfl | rfl | rfl | rfl | rfl | rfl | rfl <;> decide) | omega))).tr (X_Fr.mono ⟨hf3092.1, hf3092.2⟩ (fun q hq => by first | exact hq | (rcases hq with rfl <;> decide) | (rcases hq with rfl | rfl <;> decide) | (rcases hq with rfl | rfl | rfl <;> decide) | (rcases hq with rfl | rfl | rfl | rfl <;> decide) | (rcases hq with rfl | rfl | rfl | rfl | rfl <;> decide) | (rcases hq with rfl | rfl | rfl | rfl | rfl | rfl <;> decide) | (rcases hq with rfl | rfl | rfl | rfl | rfl | rfl | rfl <;> decide) | omega))).tr (X_Fr.of n3120 e3121 (by first | decide | exact ⟨Nat.le_add_right _ _, Nat.add_le_add_left (by decide) _⟩ | omega))).tr (X_Fr.mono ⟨hf3142.1, hf3142.2⟩ (fun q hq => by first | exact hq | (rcases hq with rfl <;> decide) | (rcases hq with rfl | rfl <;> decide) | (rcases hq with rfl | rfl | rfl <;> decide) | (rcases hq with rfl | rfl | rfl | rfl <;> decide) | (rcases hq with rfl | rfl | rfl | rfl | rfl <;> decide) | (rcases hq with rfl | rfl | rfl | rfl | rfl | rfl <;> decide) | (rcases hq with rfl | rfl | rfl | rfl | rfl | rfl | rfl <;> decide) | omega))⟩
                                  have hel : sp_el n so ct kn kc 9 c d q = some (c1, d1, q1) := by
                                    rw [← hR, show (9 - d1 3 0).toNat = (9 - (d1 3 0 + 1)).toNat + 1 by omega]
                                    show (if so c1 = 61 then _ else if so c1 = 59 then _ else _) = _
                                    first | rw [if_pos (by omega)] | rw [if_neg (by omega), if_pos (by omega)] | (by_cases hz : so c1 = 61; (rw [if_pos hz]); (rw [if_neg hz, if_pos (by omega)]))
                                  rw [hel, Option.bind_some]
                                  dsimp only
                                  unfold sp_we
                                  (repeat (first | rw [if_pos (by assumption)] | rw [if_neg (by assumption)] | rw [if_neg (by omega)] | rw [if_pos (by omega)]))
                                  all_goals (rw [sp_sl_steps hp3082, Option.bind_some]; dsimp only; rw [if_pos (by omega), if_pos rfl]; rfl)
                                · skip
                                  rw [hv3145]
                                  have h3152 : S3130.1 530 = .inr (11, [.ref 531, .int (iI (o 1)), .ref 532, .int (iI (o 3)), .int (iI (o 4)), .int (iI f3143), .int (iI g3144), .int (iI at3068), .int (iI en3069), .int (iI tk3070), .int (iI nu3071), .int (iI dg3072), .long nm3073, .ref 533, .ref 534, .ref 535, .ref 536, .ref 537, .ref 538, .ref 539, .ref 540, .ref 541, .ref 542, .ref 543, .ref 544, .ref 545, .ref 546, .ref 547, .int (iI (o 28)), .int (iI (o 29)), .int (iI (wc + 1)), .int (iI (o 31)), .int (iI (o 32)), .int (iI (o 33)), .ref 548, .ref 549, .ref 550, .ref 551, .int (iI (o 38)), .ref 552, .ref 553, .ref 554, .ref 555, .ref 556, .ref 557, .ref 558, .ref 559, .ref 560, .ref 561, .int (iI (o 49)), .ref 562, .ref 563, .ref 564, .ref 565, .ref 566, .ref 567, .ref 568, .ref 569, .int (iI (o 58)), .ref 570, .ref 571, .ref 572, .ref 573, .ref 574, .ref 575, .ref 576, .ref 577, .ref 578, .int (iI (o 68)), .int (iI (o 69)), .int (iI (o 70)), .ref 579]) := hM3148
                                  show X_T sc 157 (325, [(3, .int (iI (bI (part)))), (1, .int (iI wi)), (2, .int (iI col)), (0, .ref 530)], [], S3130) _
                                  refine T_vret xr_157_325 xf_157.2.2 ?_
                                  refine hQ _ _ ?_
                                  have h3164 := (hf3149.1 537 (by first | decide | omega)).trans ((n3120 537 (by decide)).trans ((hf3092.1 537 (by first | decide | omega)).trans ((hf3057.1 537 (by first | decide | omega)).trans ((hF2669.1 537 (by first | decide | omega)).trans (hA537)))))
                                  have h3165 := (hf3149.1 538 (by first | decide | omega)).trans ((n3120 538 (by decide)).trans ((hf3092.1 538 (by first | decide | omega)).trans ((hf3057.1 538 (by first | decide | omega)).trans (h3031))))
                                  have h3166 := (hf3149.1 539 (by first | decide | omega)).trans ((n3120 539 (by decide)).trans ((hf3092.1 539 (by first | decide | omega)).trans ((hf3057.1 539 (by first | decide | omega)).trans ((hF2669.1 539 (by first | decide | omega)).trans (hA539)))))
                                  have h3167 := (hf3149.1 540 (by first | decide | omega)).trans ((n3120 540 (by decide)).trans ((hf3092.1 540 (by first | decide | omega)).trans ((hf3057.1 540 (by first | decide | omega)).trans (hA1))))
                                  have h3168 := (hf3149.1 541 (by first | decide | omega)).trans ((n3120 541 (by decide)).trans ((hf3092.1 541 (by first | decide | omega)).trans (h3061)))
                                  have h3169 := (hf3149.1 542 (by first | decide | omega)).trans ((n3120 542 (by decide)).trans (ha3089))
                                  have h3170 := (hf3149.1 543 (by first | decide | omega)).trans ((n3120 543 (by decide)).trans (ha3090))
                                  have h3171 := (hf3149.1 544 (by first | decide | omega)).trans ((n3120 544 (by decide)).trans (ha3091))
                                  have h3172 := (hf3149.1 545 (by first | decide | omega)).trans ((n3120 545 (by decide)).trans ((hf3092.1 545 (by first | decide | omega)).trans ((hf3057.1 545 (by first | decide | omega)).trans (hA3))))
                                  have h3173 := (hf3149.1 546 (by first | decide | omega)).trans ((n3120 546 (by decide)).trans ((hf3092.1 546 (by first | decide | omega)).trans ((hf3057.1 546 (by first | decide | omega)).trans (hA4))))
                                  have h3174 := (hf3149.1 547 (by first | decide | omega)).trans ((n3120 547 (by decide)).trans ((hf3092.1 547 (by first | decide | omega)).trans ((hf3057.1 547 (by first | decide | omega)).trans (hA5))))
                                  refine Or.inr ⟨at3068, en3069, tk3070, nu3071, dg3072, nm3073, wc + 1, f3143, g3144, wR, wL, wK, wM1, wH1, wS3077, sO3078, sN3079, eP1, eH1, hK1, rfl, by omega, ?_, R_ob.rf, R_ob.rf, R_ob.rf, by exact hob4, by exact hob5, hp3085, hp3086, hp3087, by exact hob9, by exact hob10, by exact hob11, h3152, h3164, h3165, h3166, h3167, h3168, h3169, h3170, h3171, h3172, h3173, h3174, (((((X_Fr.rf).tr (X_Fr.mono ⟨hF2669.1, hF2669.2⟩ (fun q hq => by first | exact hq | (rcases hq with rfl <;> decide) | (rcases hq with rfl | rfl <;> decide) | (rcases hq with rfl | rfl | rfl <;> decide) | (rcases hq with rfl | rfl | rfl | rfl <;> decide) | (rcases hq with rfl | rfl | rfl | rfl | rfl <;> decide) | (rcases hq with rfl | rfl | rfl | rfl | rfl | rfl <;> decide) | (rcases hq with rfl | rfl | rfl | rfl | rfl | rfl | rfl <;> decide) | omega))).tr (X_Fr.mono ⟨hf3057.1, hf3057.2⟩ (fun q hq => by first | exact hq | (rcases hq with rfl <;> decide) | (rcases hq with rfl | rfl <;> decide) | (rcases hq with rfl | rfl | rfl <;> decide) | (rcases hq with rfl | rfl | rfl | rfl <;> decide) | (rcases hq with rfl | rfl | rfl | rfl | rfl <;> decide) | (rcases hq with rfl | rfl | rfl | rfl | rfl | rfl <;> decide) | (rcases hq with rfl | rfl | rfl | rfl | rfl | rfl | rfl <;> decide) | omega))).tr (X_Fr.mono ⟨hf3092.1, hf3092.2⟩ (fun q hq => by first | exact hq | (rcases hq with rfl <;> decide) | (rcases hq with rfl | rfl <;> decide) | (rcases hq with rfl | rfl | rfl <;> decide) | (rcases hq with rfl | rfl | rfl | rfl <;> decide) | (rcases hq with rfl | rfl | rfl | rfl | rfl <;> decide) | (rcases hq with rfl | rfl | rfl | rfl | rfl | rfl <;> decide) | (rcases hq with rfl | rfl | rfl | rfl | rfl | rfl | rfl <;> decide) | omega))).tr (X_Fr.of n3120 e3121 (by first | decide | exact ⟨Nat.le_add_right _ _, Nat.add_le_add_left (by decide) _⟩ | omega))).tr (X_Fr.mono ⟨hf3149.1, hf3149.2⟩ (fun q hq => by first | exact hq | (rcases hq with rfl <;> decide) | (rcases hq with rfl | rfl <;> decide) | (rcases hq with rfl | rfl | rfl <;> decide) | (rcases hq with rfl | rfl | rfl | rfl <;> decide) | (rcases hq with rfl | rfl | rfl | rfl | rfl <;> decide) | (rcases hq with rfl | rfl | rfl | rfl | rfl | rfl <;> decide) | (rcases hq with rfl | rfl | rfl | rfl | rfl | rfl | rfl <;> decide) | omega))⟩
                                  by_cases h61 : so c1 = 61 ∨ so c1 = 59
                                  · have hel : sp_el n so ct kn kc 9 c d q = some (c1, d1, q1) := by
                                      rw [← hR, show (9 - d1 3 0).toNat = (9 - (d1 3 0 + 1)).toNat + 1 by omega]
                                      show (if so c1 = 61 then _ else if so c1 = 59 then _ else _) = _
                                      first | rw [if_pos (by omega)] | rw [if_neg (by omega), if_pos (by omega)] | (by_cases hz : so c1 = 61; (rw [if_pos hz]); (rw [if_neg hz, if_pos (by omega)]))
                                    rw [hel, Option.bind_some]
                                    dsimp only
                                    unfold sp_we
                                    (repeat (first | rw [if_pos (by assumption)] | rw [if_neg (by assumption)] | rw [if_neg (by omega)] | rw [if_pos (by omega)]))
                                    all_goals first | rfl | ((repeat' split) <;> first | rfl | (exfalso; omega) | contradiction)
                                  · have hel : sp_el n so ct kn kc 9 c d q = none := by
                                      rw [← hR, show (9 - d1 3 0).toNat = (9 - (d1 3 0 + 1)).toNat + 1 by omega, sp_el_e1 _ (by omega) (by omega)]
                                      unfold sp_e1
                                      rw [if_neg (by omega), if_neg (by omega)]
                                      rfl
                                    rw [hel]
                                    rfl
                            · skip
                              rw [hv3104]
                              have h3117 : S3066.1 530 = .inr (11, [.ref 531, .int (iI (o 1)), .ref 532, .int (iI (o 3)), .int (iI (o 4)), .int (iI f3099), .int (iI g3100), .int (iI at3093), .int (iI en3094), .int (iI tk3095), .int (iI nu3096), .int (iI dg3097), .long nm3098, .ref 533, .ref 534, .ref 535, .ref 536, .ref 537, .ref 538, .ref 539, .ref 540, .ref 541, .ref 542, .ref 543, .ref 544, .ref 545, .ref 546, .ref 547, .int (iI (o 28)), .int (iI (o 29)), .int (iI (o 30)), .int (iI (o 31)), .int (iI (o 32)), .int (iI (o 33)), .ref 548, .ref 549, .ref 550, .ref 551, .int (iI (o 38)), .ref 552, .ref 553, .ref 554, .ref 555, .ref 556, .ref 557, .ref 558, .ref 559, .ref 560, .ref 561, .int (iI (o 49)), .ref 562, .ref 563, .ref 564, .ref 565, .ref 566, .ref 567, .ref 568, .ref 569, .int (iI (o 58)), .ref 570, .ref 571, .ref 572, .ref 573, .ref 574, .ref 575, .ref 576, .ref 577, .ref 578, .int (iI (o 68)), .int (iI (o 69)), .int (iI (o 70)), .ref 579]) := hM3110
                              show X_T sc 157 (302, [(3, .int (iI (bI (part)))), (1, .int (iI wi)), (2, .int (iI col)), (0, .ref 530)], [], S3066) _
                              refine T_p xr_157_302 xn_157 (pc' := 303) (ls' := [(3, .int (iI (bI (part)))), (1, .int (iI wi)), (2, .int (iI col)), (0, .ref 530)]) (st' := [.ref 530]) rfl ?_
                              refine T_p xr_157_303 xn_157 (pc' := 304) (ls' := [(3, .int (iI (bI (part)))), (1, .int (iI wi)), (2, .int (iI col)), (0, .ref 530)]) (st' := [.ref 530, .ref 530]) rfl ?_
                              refine T_get xr_157_304 h3117 rfl (v := .int (iI (o 30))) rfl (pc' := 307) rfl ?_
                              refine T_p xr_157_307 xn_157 (pc' := 308) (ls' := [(3, .int (iI (bI (part)))), (1, .int (iI wi)), (2, .int (iI col)), (0, .ref 530)]) (st' := [.int (iI 1), .int (iI (o 30)), .ref 530]) rfl ?_
                              refine T_ziadd xr_157_308 (z := (o 30) + 1) rfl (pc' := 309) rfl ?_
                              refine T_ie (y := iI (wc + 1)) (by rw [hwc]) ?_
                              refine T_put xr_157_309 h3117 rfl (Nat.le_of_ble_eq_true rfl) rfl (fs' := [.ref 531, .int (iI (o 1)), .ref 532, .int (iI (o 3)), .int (iI (o 4)), .int (iI f3099), .int (iI g3100), .int (iI at3093), .int (iI en3094), .int (iI tk3095), .int (iI nu3096), .int (iI dg3097), .long nm3098, .ref 533, .ref 534, .ref 535, .ref 536, .ref 537, .ref 538, .ref 539, .ref 540, .ref 541, .ref 542, .ref 543, .ref 544, .ref 545, .ref 546, .ref 547, .int (iI (o 28)), .int (iI (o 29)), .int (iI (wc + 1)), .int (iI (o 31)), .int (iI (o 32)), .int (iI (o 33)), .ref 548, .ref 549, .ref 550, .ref 551, .int (iI (o 38)), .ref 552, .ref 553, .ref 554, .ref 555, .ref 556, .ref 557, .ref 558, .ref 559, .ref 560, .ref 561, .int (iI (o 49)), .ref 562, .ref 563, .ref 564, .ref 565, .ref 566, .ref 567, .ref 568, .ref 569, .int (iI (o 58)), .ref 570, .ref 571, .ref 572, .ref 573, .ref 574, .ref 575, .ref 576, .ref 577, .ref 578, .int (iI (o 68)), .int (iI (o 69)), .int (iI (o 70)), .ref 579]) rfl (pc' := 312) rfl (fun S3175 h3176 n3177 e3178 => ?_)
                              refine T_p xr_157_312 xn_157 (pc' := 313) (ls' := [(3, .int (iI (bI (part)))), (1, .int (iI wi)), (2, .int (iI col)), (0, .ref 530)]) (st' := [.ref 530]) rfl ?_
                              refine T_cv (S := S3175) (q := 530) xr_157_313 xf_140.1 xf_140.2.1 xn_140 (as := []) (r := []) rfl h3176 (Nat.le_of_ble_eq_true rfl) (Nat.le_of_ble_eq_true rfl) (pc' := 316) rfl (ls' := [(0, .ref 530)]) rfl ?_
                              refine T_mono (r_isGood sc S3175 (X_ou (X_ou (X_ou (X_ou (X_ou (X_ou (X_ou (X_ou o 5 f3099) 6 g3100) 7 at3093) 8 en3094) 9 tk3095) 10 nu3096) 11 dg3097) 30 (wc + 1)) nm3098 h3176 (show 0 ≤ f3099 ∧ f3099 ≤ 5 from by omega)) (fun v3179 S3180 h3181 => ?_)
                              rcases h3181 with ⟨hv3182, hf3183⟩
                              rw [hv3182]
                              rw [hf3183]
                              show X_T sc 157 (316, [(3, .int (iI (bI (part)))), (1, .int (iI wi)), (2, .int (iI col)), (0, .ref 530)], [.int (iI (bI (f3099 = 0)))], S3175) _
                              refine T_bif_eq xr_157_316 (t := 325) (pc' := 319) rfl rfl (fun c3184 => ?_) (fun c3184 => ?_)
                              · skip
                                have c3184 : ¬ (f3099 = 0) := c3184
                                refine T_vret xr_157_325 xf_157.2.2 ?_
                                refine hQ _ _ ?_
                                have h3185 := (n3177 537 (by decide)).trans ((hf3114.1 537 (by first | decide | omega)).trans ((hf3057.1 537 (by first | decide | omega)).trans ((hF2669.1 537 (by first | decide | omega)).trans (hA537))))
                                have h3186 := (n3177 538 (by decide)).trans ((hf3114.1 538 (by first | decide | omega)).trans ((hf3057.1 538 (by first | decide | omega)).trans (h3031)))
                                have h3187 := (n3177 539 (by decide)).trans ((hf3114.1 539 (by first | decide | omega)).trans ((hf3057.1 539 (by first | decide | omega)).trans ((hF2669.1 539 (by first | decide | omega)).trans (hA539))))
                                have h3188 := (n3177 540 (by decide)).trans ((hf3114.1 540 (by first | decide | omega)).trans ((hf3057.1 540 (by first | decide | omega)).trans (hA1)))
                                have h3189 := (n3177 541 (by decide)).trans ((hf3114.1 541 (by first | decide | omega)).trans (h3061))
                                have h3190 := (n3177 542 (by decide)).trans (ha3111)
                                have h3191 := (n3177 543 (by decide)).trans (ha3112)
                                have h3192 := (n3177 544 (by decide)).trans (ha3113)
                                have h3193 := (n3177 545 (by decide)).trans ((hf3114.1 545 (by first | decide | omega)).trans ((hf3057.1 545 (by first | decide | omega)).trans (hA3)))
                                have h3194 := (n3177 546 (by decide)).trans ((hf3114.1 546 (by first | decide | omega)).trans ((hf3057.1 546 (by first | decide | omega)).trans (hA4)))
                                have h3195 := (n3177 547 (by decide)).trans ((hf3114.1 547 (by first | decide | omega)).trans ((hf3057.1 547 (by first | decide | omega)).trans (hA5)))
                                refine Or.inr ⟨at3093, en3094, tk3095, nu3096, dg3097, nm3098, wc + 1, f3099, g3100, wR, wL, wK, wM1, wH1, wS3101, sO3102, sN3103, eP1, eH1, hK1, rfl, by omega, ?_, R_ob.rf, R_ob.rf, R_ob.rf, by exact hob4, by exact hob5, hp3107, hp3108, hp3109, by exact hob9, by exact hob10, by exact hob11, h3176, h3185, h3186, h3187, h3188, h3189, h3190, h3191, h3192, h3193, h3194, h3195, ((((X_Fr.rf).tr (X_Fr.mono ⟨hF2669.1, hF2669.2⟩ (fun q hq => by first | exact hq | (rcases hq with rfl <;> decide) | (rcases hq with rfl | rfl <;> decide) | (rcases hq with rfl | rfl | rfl <;> decide) | (rcases hq with rfl | rfl | rfl | rfl <;> decide) | (rcases hq with rfl | rfl | rfl | rfl | rfl <;> decide) | (rcases hq with rfl | rfl | rfl | rfl | rfl | rfl <;> decide) | (rcases hq with rfl | rfl | rfl | rfl | rfl | rfl | rfl <;> decide) | omega))).tr (X_Fr.mono ⟨hf3057.1, hf3057.2⟩ (fun q hq => by first | exact hq | (rcases hq with rfl <;> decide) | (rcases hq with rfl | rfl <;> decide) | (rcases hq with rfl | rfl | rfl <;> decide) | (rcases hq with rfl | rfl | rfl | rfl <;> decide) | (rcases hq with rfl | rfl | rfl | rfl | rfl <;> decide) | (rcases hq with rfl | rfl | rfl | rfl | rfl | rfl <;> decide) | (rcases hq with rfl | rfl | rfl | rfl | rfl | rfl | rfl <;> decide) | omega))).tr (X_Fr.mono ⟨hf3114.1, hf3114.2⟩ (fun q hq => by first | exact hq | (rcases hq with rfl <;> decide) | (rcases hq with rfl | rfl <;> decide) | (rcases hq with rfl | rfl | rfl <;> decide) | (rcases hq with rfl | rfl | rfl | rfl <;> decide) | (rcases hq with rfl | rfl | rfl | rfl | rfl <;> decide) | (rcases hq with rfl | rfl | rfl | rfl | rfl | rfl <;> decide) | (rcases hq with rfl | rfl | rfl | rfl | rfl | rfl | rfl <;> decide) | omega))).tr (X_Fr.of n3177 e3178 (by first | decide | exact ⟨Nat.le_add_right _ _, Nat.add_le_add_left (by decide) _⟩ | omega))⟩
                                have hel : sp_el n so ct kn kc 9 c d q = some (c1, d1, q1) := by
                                  rw [← hR, show (9 - d1 3 0).toNat = (9 - (d1 3 0 + 1)).toNat + 1 by omega]
                                  show (if so c1 = 61 then _ else if so c1 = 59 then _ else _) = _
                                  first | rw [if_pos (by omega)] | rw [if_neg (by omega), if_pos (by omega)] | (by_cases hz : so c1 = 61; (rw [if_pos hz]); (rw [if_neg hz, if_pos (by omega)]))
                                rw [hel, Option.bind_some]
                                dsimp only
                                unfold sp_we
                                rcases hp3106 with hs | ⟨e1, e2, e3, hs, hs2⟩
                                · (repeat (first | rw [if_pos (by assumption)] | rw [if_neg (by assumption)] | rw [if_neg (by omega)] | rw [if_pos (by omega)]))
                                  all_goals (rw [sp_sl_steps hs]; rfl)
                                · (repeat (first | rw [if_pos (by assumption)] | rw [if_neg (by assumption)] | rw [if_neg (by omega)] | rw [if_pos (by omega)]))
                                  all_goals (rw [sp_sl_steps hs, Option.bind_some]; dsimp only; (rcases hs2 with hs2 | hs2); (rw [if_neg hs2]; rfl); (by_cases hq9 : so e1 = 59; (rw [if_pos hq9, if_neg hs2]; rfl); (rw [if_neg hq9]; rfl)))
                              · skip
                                have c3184 : (f3099 = 0) := c3184
                                exact (show False by first | contradiction | omega).elim
                      · skip
                        have c3032 : ¬ ((wL wi) ≤ 0) := c3032
                        refine T_p xr_157_263 xn_157 (pc' := 264) (ls' := [(3, .int (iI (bI (part)))), (1, .int (iI wi)), (2, .int (iI col)), (0, .ref 530)]) (st' := [.ref 530]) rfl ?_
                        refine T_p xr_157_264 xn_157 (pc' := 265) (ls' := [(3, .int (iI (bI (part)))), (1, .int (iI wi)), (2, .int (iI col)), (0, .ref 530)]) (st' := [.int (iI wi), .ref 530]) rfl ?_
                        refine T_cv (S := S2670) (q := 530) xr_157_265 xf_160.1 xf_160.2.1 xn_160 (as := [.int (iI wi)]) (r := []) rfl hM2716 (Nat.le_of_ble_eq_true rfl) (Nat.le_of_ble_eq_true rfl) (pc' := 268) rfl (ls' := [(0, .ref 530), (1, .int (iI wi))]) rfl ?_
                        refine T_mono (r_ends sc S2670 (X_ou (X_ou (X_ou (X_ou (X_ou (X_ou o 6 g1) 7 at1) 8 en1) 9 tk1) 10 nu1) 11 dg1) nm1 wM1 eP1 wi d1 q1 hM2716 hA1 hA3 (by omega) hE1.1 (by omega) (fun e h1 h2 => (hE1.2.2.1 e h1 h2).1)) (fun v3196 S3197 h3198 => ?_)
                        rcases h3198 with ⟨hv3199, hf3200⟩
                        rw [hv3199]
                        rw [hf3200]
                        have hen3201 := X_en_r d1 q1
                        show X_T sc 157 (268, [(3, .int (iI (bI (part)))), (1, .int (iI wi)), (2, .int (iI col)), (0, .ref 530)], [.int (iI (X_en d1 q1))], S2670) _
                        refine T_zif_ne xr_157_268 (t := 277) (pc' := 271) rfl rfl (fun c3202 => ?_) (fun c3202 => ?_)
                        · skip
                          have c3202 : ¬ (X_en d1 q1) = 0 := c3202
                          refine T_p xr_157_277 xn_157 (pc' := 278) (ls' := [(3, .int (iI (bI (part)))), (1, .int (iI wi)), (2, .int (iI col)), (0, .ref 530)]) (st' := [.ref 530]) rfl ?_
                          refine T_cv (S := S2670) (q := 530) xr_157_278 xf_140.1 xf_140.2.1 xn_140 (as := []) (r := []) rfl hM2716 (Nat.le_of_ble_eq_true rfl) (Nat.le_of_ble_eq_true rfl) (pc' := 281) rfl (ls' := [(0, .ref 530)]) rfl ?_
                          refine T_mono (r_isGood sc S2670 (X_ou (X_ou (X_ou (X_ou (X_ou (X_ou o 6 g1) 7 at1) 8 en1) 9 tk1) 10 nu1) 11 dg1) nm1 hM2716 (show 0 ≤ (o 5) ∧ (o 5) ≤ 5 from by omega)) (fun v3203 S3204 h3205 => ?_)
                          rcases h3205 with ⟨hv3206, hf3207⟩
                          rw [hv3206]
                          rw [hf3207]
                          show X_T sc 157 (281, [(3, .int (iI (bI (part)))), (1, .int (iI wi)), (2, .int (iI col)), (0, .ref 530)], [.int (iI (bI ((o 5) = 0)))], S2670) _
                          refine T_bif_eq xr_157_281 (t := 302) (pc' := 284) rfl rfl (fun c3208 => ?_) (fun c3208 => ?_)
                          · skip
                            have c3208 : ¬ ((o 5) = 0) := c3208
                            exact (show False by first | contradiction | omega).elim
                          · skip
                            have c3208 : ((o 5) = 0) := c3208
                            refine T_p xr_157_284 xn_157 (pc' := 285) (ls' := [(3, .int (iI (bI (part)))), (1, .int (iI wi)), (2, .int (iI col)), (0, .ref 530)]) (st' := [.ref 530]) rfl ?_
                            refine T_p xr_157_285 xn_157 (pc' := 287) (ls' := [(3, .int (iI (bI (part)))), (1, .int (iI wi)), (2, .int (iI col)), (0, .ref 530)]) (st' := [.int (iI 61), .ref 530]) rfl ?_
                            refine T_cv (S := S2670) (q := 530) xr_157_287 xf_145.1 xf_145.2.1 xn_145 (as := [.int (iI 61)]) (r := []) rfl hM2716 (Nat.le_of_ble_eq_true rfl) (Nat.le_of_ble_eq_true rfl) (pc' := 290) rfl (ls' := [(0, .ref 530), (1, .int (iI 61))]) rfl ?_
                            refine T_mono (r_is sc S2670 (X_ou (X_ou (X_ou (X_ou (X_ou (X_ou o 6 g1) 7 at1) 8 en1) 9 tk1) 10 nu1) 11 dg1) nm1 tx tb len n so pl ct E c1 61 hM2716 h2918 (show (o 3) = len from by first | assumption | omega) hl htx hX hT1 (by omega)) (fun v3209 S3210 h3211 => ?_)
                            rcases h3211 with ⟨hv3212, hf3213⟩
                            rw [hv3212]
                            rw [hf3213]
                            show X_T sc 157 (290, [(3, .int (iI (bI (part)))), (1, .int (iI wi)), (2, .int (iI col)), (0, .ref 530)], [.int (iI (bI (so c1 = 61)))], S2670) _
                            refine T_bif_eq xr_157_290 (t := 302) (pc' := 293) rfl rfl (fun c3214 => ?_) (fun c3214 => ?_)
                            · skip
                              have c3214 : ¬ (so c1 = 61) := c3214
                              exact (show False by first | contradiction | omega).elim
                            · skip
                              have c3214 : (so c1 = 61) := c3214
                              refine T_p xr_157_293 xn_157 (pc' := 294) (ls' := [(3, .int (iI (bI (part)))), (1, .int (iI wi)), (2, .int (iI col)), (0, .ref 530)]) (st' := [.ref 530]) rfl ?_
                              refine T_cv (S := S2670) (q := 530) xr_157_294 xf_141.1 xf_141.2.1 xn_141 (as := []) (r := []) rfl hM2716 (Nat.le_of_ble_eq_true rfl) (Nat.le_of_ble_eq_true rfl) (pc' := 297) rfl (ls' := [(0, .ref 530)]) rfl ?_
                              refine T_mono (r_nx sc S2670 (X_ou (X_ou (X_ou (X_ou (X_ou (X_ou o 6 g1) 7 at1) 8 en1) 9 tk1) 10 nu1) 11 dg1) nm1 tx tb len n so pl ct E c1 hM2716 h2918 (show (o 3) = len from by first | assumption | omega) hl htx hX hT1 (by omega)) (fun v3215 S3216 h3217 => ?_)
                              rcases h3217 with ⟨at3218, en3219, tk3220, nu3221, dg3222, nm3223, hv3224, hp3225, hM3226, hf3227⟩
                              rw [hv3224]
                              have h3228 : S3216.1 530 = .inr (11, [.ref 531, .int (iI (o 1)), .ref 532, .int (iI (o 3)), .int (iI (o 4)), .int (iI (o 5)), .int (iI g1), .int (iI at3218), .int (iI en3219), .int (iI tk3220), .int (iI nu3221), .int (iI dg3222), .long nm3223, .ref 533, .ref 534, .ref 535, .ref 536, .ref 537, .ref 538, .ref 539, .ref 540, .ref 541, .ref 542, .ref 543, .ref 544, .ref 545, .ref 546, .ref 547, .int (iI (o 28)), .int (iI (o 29)), .int (iI (o 30)), .int (iI (o 31)), .int (iI (o 32)), .int (iI (o 33)), .ref 548, .ref 549, .ref 550, .ref 551, .int (iI (o 38)), .ref 552, .ref 553, .ref 554, .ref 555, .ref 556, .ref 557, .ref 558, .ref 559, .ref 560, .ref 561, .int (iI (o 49)), .ref 562, .ref 563, .ref 564, .ref 565, .ref 566, .ref 567, .ref 568, .ref 569, .int (iI (o 58)), .ref 570, .ref 571, .ref 572, .ref 573, .ref 574, .ref 575, .ref 576, .ref 577, .ref 578, .int (iI (o 68)), .int (iI (o 69)), .int (iI (o 70)), .ref 579]) := hM3226
                              obtain ⟨⟨_, _⟩, ⟨_, _⟩, hk3229, ⟨_, _⟩, hk3229e, ⟨_, _⟩, ⟨_, _⟩⟩ := R_tk_f hX hp3225
                              show X_T sc 157 (297, [(3, .int (iI (bI (part)))), (1, .int (iI wi)), (2, .int (iI col)), (0, .ref 530)], [], S3216) _
                              refine T_p xr_157_297 xn_157 (pc' := 298) (ls' := [(3, .int (iI (bI (part)))), (1, .int (iI wi)), (2, .int (iI col)), (0, .ref 530)]) (st' := [.ref 530]) rfl ?_
                              refine T_p xr_157_298 xn_157 (pc' := 299) (ls' := [(3, .int (iI (bI (part)))), (1, .int (iI wi)), (2, .int (iI col)), (0, .ref 530)]) (st' := [.int (iI wi), .ref 530]) rfl ?_
                              refine T_cv (S := S3216) (q := 530) xr_157_299 xf_159.1 xf_159.2.1 xn_159 (as := [.int (iI wi)]) (r := []) rfl h3228 (Nat.le_of_ble_eq_true rfl) (Nat.le_of_ble_eq_true rfl) (pc' := 302) rfl (ls' := [(0, .ref 530), (1, .int (iI wi))]) rfl ?_
                              have h3230 := (hf3227.1 532 (by first | decide | omega)).trans (h2918)
                              have h3231 := (hf3227.1 541 (by first | decide | omega)).trans (hA2)
                              have h3232 := (hf3227.1 542 (by first | decide | omega)).trans ((hF2669.1 542 (by first | decide | omega)).trans (hA542))
                              have h3233 := (hf3227.1 543 (by first | decide | omega)).trans ((hF2669.1 543 (by first | decide | omega)).trans (hA543))
                              have h3234 := (hf3227.1 544 (by first | decide | omega)).trans ((hF2669.1 544 (by first | decide | omega)).trans (hA544))
                              refine T_mono (r_readSteps sc S3216 (X_ou (X_ou (X_ou (X_ou (X_ou (X_ou o 6 g1) 7 at3218) 8 en3219) 9 tk3220) 10 nu3221) 11 dg3222) nm3223 tx wH1 wS sO sN tb len n so pl ct E (X_av n c1) wi d1 h3228 h3230 h3231 h3232 h3233 h3234 (show (o 3) = len from by first | assumption | omega) hl htx hX hp3225 (show (o 5) = 0 from by omega) (by omega) hE1.2.1 (by omega)) (fun v3235 S3236 h3237 => ?_)
                              rcases h3237 with ⟨at3238, en3239, tk3240, nu3241, dg3242, nm3243, g3244, c3245, d3246, wS3247, sO3248, sN3249, hv3250, hp3251, hp3252, hp3253, hp3254, hp3255, hp3256, hp3257, hM3258, ha3259, ha3260, ha3261, hf3262⟩ | ⟨at3263, en3264, tk3265, nu3266, dg3267, nm3268, f3269, g3270, wS3271, sO3272, sN3273, hv3274, hp3275, hp3276, hp3277, hp3278, hp3279, hM3280, ha3281, ha3282, ha3283, hf3284⟩
                              · skip
                                rw [hv3250]
                                have h3285 : S3236.1 530 = .inr (11, [.ref 531, .int (iI (o 1)), .ref 532, .int (iI (o 3)), .int (iI (o 4)), .int (iI (o 5)), .int (iI g3244), .int (iI at3238), .int (iI en3239), .int (iI tk3240), .int (iI nu3241), .int (iI dg3242), .long nm3243, .ref 533, .ref 534, .ref 535, .ref 536, .ref 537, .ref 538, .ref 539, .ref 540, .ref 541, .ref 542, .ref 543, .ref 544, .ref 545, .ref 546, .ref 547, .int (iI (o 28)), .int (iI (o 29)), .int (iI (o 30)), .int (iI (o 31)), .int (iI (o 32)), .int (iI (o 33)), .ref 548, .ref 549, .ref 550, .ref 551, .int (iI (o 38)), .ref 552, .ref 553, .ref 554, .ref 555, .ref 556, .ref 557, .ref 558, .ref 559, .ref 560, .ref 561, .int (iI (o 49)), .ref 562, .ref 563, .ref 564, .ref 565, .ref 566, .ref 567, .ref 568, .ref 569, .int (iI (o 58)), .ref 570, .ref 571, .ref 572, .ref 573, .ref 574, .ref 575, .ref 576, .ref 577, .ref 578, .int (iI (o 68)), .int (iI (o 69)), .int (iI (o 70)), .ref 579]) := hM3258
                                obtain ⟨⟨_, _⟩, ⟨_, _⟩, hk3286, ⟨_, _⟩, hk3286e, ⟨_, _⟩, ⟨_, _⟩⟩ := R_tk_f hX hp3251
                                show X_T sc 157 (302, [(3, .int (iI (bI (part)))), (1, .int (iI wi)), (2, .int (iI col)), (0, .ref 530)], [], S3236) _
                                refine T_p xr_157_302 xn_157 (pc' := 303) (ls' := [(3, .int (iI (bI (part)))), (1, .int (iI wi)), (2, .int (iI col)), (0, .ref 530)]) (st' := [.ref 530]) rfl ?_
                                refine T_p xr_157_303 xn_157 (pc' := 304) (ls' := [(3, .int (iI (bI (part)))), (1, .int (iI wi)), (2, .int (iI col)), (0, .ref 530)]) (st' := [.ref 530, .ref 530]) rfl ?_
                                refine T_get xr_157_304 h3285 rfl (v := .int (iI (o 30))) rfl (pc' := 307) rfl ?_
                                refine T_p xr_157_307 xn_157 (pc' := 308) (ls' := [(3, .int (iI (bI (part)))), (1, .int (iI wi)), (2, .int (iI col)), (0, .ref 530)]) (st' := [.int (iI 1), .int (iI (o 30)), .ref 530]) rfl ?_
                                refine T_ziadd xr_157_308 (z := (o 30) + 1) rfl (pc' := 309) rfl ?_
                                refine T_ie (y := iI (wc + 1)) (by rw [hwc]) ?_
                                refine T_put xr_157_309 h3285 rfl (Nat.le_of_ble_eq_true rfl) rfl (fs' := [.ref 531, .int (iI (o 1)), .ref 532, .int (iI (o 3)), .int (iI (o 4)), .int (iI (o 5)), .int (iI g3244), .int (iI at3238), .int (iI en3239), .int (iI tk3240), .int (iI nu3241), .int (iI dg3242), .long nm3243, .ref 533, .ref 534, .ref 535, .ref 536, .ref 537, .ref 538, .ref 539, .ref 540, .ref 541, .ref 542, .ref 543, .ref 544, .ref 545, .ref 546, .ref 547, .int (iI (o 28)), .int (iI (o 29)), .int (iI (wc + 1)), .int (iI (o 31)), .int (iI (o 32)), .int (iI (o 33)), .ref 548, .ref 549, .ref 550, .ref 551, .int (iI (o 38)), .ref 552, .ref 553, .ref 554, .ref 555, .ref 556, .ref 557, .ref 558, .ref 559, .ref 560, .ref 561, .int (iI (o 49)), .ref 562, .ref 563, .ref 564, .ref 565, .ref 566, .ref 567, .ref 568, .ref 569, .int (iI (o 58)), .ref 570, .ref 571, .ref 572, .ref 573, .ref 574, .ref 575, .ref 576, .ref 577, .ref 578, .int (iI (o 68)), .int (iI (o 69)), .int (iI (o 70)), .ref 579]) rfl (pc' := 312) rfl (fun S3288 h3289 n3290 e3291 => ?_)
                                refine T_p xr_157_312 xn_157 (pc' := 313) (ls' := [(3, .int (iI (bI (part)))), (1, .int (iI wi)), (2, .int (iI col)), (0, .ref 530)]) (st' := [.ref 530]) rfl ?_
                                refine T_cv (S := S3288) (q := 530) xr_157_313 xf_140.1 xf_140.2.1 xn_140 (as := []) (r := []) rfl h3289 (Nat.le_of_ble_eq_true rfl) (Nat.le_of_ble_eq_true rfl) (pc' := 316) rfl (ls' := [(0, .ref 530)]) rfl ?_
                                refine T_mono (r_isGood sc S3288 (X_ou (X_ou (X_ou (X_ou (X_ou (X_ou (X_ou o 6 g3244) 7 at3238) 8 en3239) 9 tk3240) 10 nu3241) 11 dg3242) 30 (wc + 1)) nm3243 h3289 (show 0 ≤ (o 5) ∧ (o 5) ≤ 5 from by omega)) (fun v3292 S3293 h3294 => ?_)
                                rcases h3294 with ⟨hv3295, hf3296⟩
                                rw [hv3295]
                                rw [hf3296]
                                show X_T sc 157 (316, [(3, .int (iI (bI (part)))), (1, .int (iI wi)), (2, .int (iI col)), (0, .ref 530)], [.int (iI (bI ((o 5) = 0)))], S3288) _
                                refine T_bif_eq xr_157_316 (t := 325) (pc' := 319) rfl rfl (fun c3297 => ?_) (fun c3297 => ?_)
                                · skip
                                  have c3297 : ¬ ((o 5) = 0) := c3297
                                  exact (show False by first | contradiction | omega).elim
                                · skip
                                  have c3297 : ((o 5) = 0) := c3297
                                  refine T_p xr_157_319 xn_157 (pc' := 320) (ls' := [(3, .int (iI (bI (part)))), (1, .int (iI wi)), (2, .int (iI col)), (0, .ref 530)]) (st' := [.ref 530]) rfl ?_
                                  refine T_p xr_157_320 xn_157 (pc' := 322) (ls' := [(3, .int (iI (bI (part)))), (1, .int (iI wi)), (2, .int (iI col)), (0, .ref 530)]) (st' := [.int (iI 59), .ref 530]) rfl ?_
                                  refine T_cv (S := S3288) (q := 530) xr_157_322 xf_148.1 xf_148.2.1 xn_148 (as := [.int (iI 59)]) (r := []) rfl h3289 (Nat.le_of_ble_eq_true rfl) (Nat.le_of_ble_eq_true rfl) (pc' := 325) rfl (ls' := [(0, .ref 530), (1, .int (iI 59))]) rfl ?_
                                  have h3298 := (n3290 532 (by decide)).trans ((hf3262.1 532 (by first | decide | omega)).trans (h3230))
                                  refine T_mono (r_must sc S3288 (X_ou (X_ou (X_ou (X_ou (X_ou (X_ou (X_ou o 6 g3244) 7 at3238) 8 en3239) 9 tk3240) 10 nu3241) 11 dg3242) 30 (wc + 1)) nm3243 tx tb len n so pl ct E c3245 59 h3289 h3298 (show (o 3) = len from by first | assumption | omega) hl htx hX hp3251 (show (o 5) = 0 from by omega) (by omega)) (fun v3299 S3300 h3301 => ?_)
                                  rcases h3301 with ⟨at3302, en3303, tk3304, nu3305, dg3306, nm3307, hv3308, hp3309, hp3310, hM3311, hf3312⟩ | ⟨f3313, g3314, hv3315, hp3316, hp3317, hM3318, hf3319⟩
                                  · skip
                                    rw [hv3308]
                                    have h3320 : S3300.1 530 = .inr (11, [.ref 531, .int (iI (o 1)), .ref 532, .int (iI (o 3)), .int (iI (o 4)), .int (iI (o 5)), .int (iI g3244), .int (iI at3302), .int (iI en3303), .int (iI tk3304), .int (iI nu3305), .int (iI dg3306), .long nm3307, .ref 533, .ref 534, .ref 535, .ref 536, .ref 537, .ref 538, .ref 539, .ref 540, .ref 541, .ref 542, .ref 543, .ref 544, .ref 545, .ref 546, .ref 547, .int (iI (o 28)), .int (iI (o 29)), .int (iI (wc + 1)), .int (iI (o 31)), .int (iI (o 32)), .int (iI (o 33)), .ref 548, .ref 549, .ref 550, .ref 551, .int (iI (o 38)), .ref 552, .ref 553, .ref 554, .ref 555, .ref 556, .ref 557, .ref 558, .ref 559, .ref 560, .ref 561, .int (iI (o 49)), .ref 562, .ref 563, .ref 564, .ref 565, .ref 566, .ref 567, .ref 568, .ref 569, .int (iI (o 58)), .ref 570, .ref 571, .ref 572, .ref 573, .ref 574, .ref 575, .ref 576, .ref 577, .ref 578, .int (iI (o 68)), .int (iI (o 69)), .int (iI (o 70)), .ref 579]) := hM3311
                                    obtain ⟨⟨_, _⟩, ⟨_, _⟩, hk3321, ⟨_, _⟩, hk3321e, ⟨_, _⟩, ⟨_, _⟩⟩ := R_tk_f hX hp3309
                                    show X_T sc 157 (325, [(3, .int (iI (bI (part)))), (1, .int (iI wi)), (2, .int (iI col)), (0, .ref 530)], [], S3300) _
                                    refine T_vret xr_157_325 xf_157.2.2 ?_
                                    refine hQ _ _ ?_
                                    have h3323 := (hf3312.1 537 (by first | decide | omega)).trans ((n3290 537 (by decide)).trans ((hf3262.1 537 (by first | decide | omega)).trans ((hf3227.1 537 (by first | decide | omega)).trans ((hF2669.1 537 (by first | decide | omega)).trans (hA537)))))
                                    have h3324 := (hf3312.1 538 (by first | decide | omega)).trans ((n3290 538 (by decide)).trans ((hf3262.1 538 (by first | decide | omega)).trans ((hf3227.1 538 (by first | decide | omega)).trans (h3031))))
                                    have h3325 := (hf3312.1 539 (by first | decide | omega)).trans ((n3290 539 (by decide)).trans ((hf3262.1 539 (by first | decide | omega)).trans ((hf3227.1 539 (by first | decide | omega)).trans ((hF2669.1 539 (by first | decide | omega)).trans (hA539)))))
                                    have h3326 := (hf3312.1 540 (by first | decide | omega)).trans ((n3290 540 (by decide)).trans ((hf3262.1 540 (by first | decide | omega)).trans ((hf3227.1 540 (by first | decide | omega)).trans (hA1))))
                                    have h3327 := (hf3312.1 541 (by first | decide | omega)).trans ((n3290 541 (by decide)).trans ((hf3262.1 541 (by first | decide | omega)).trans (h3231)))
                                    have h3328 := (hf3312.1 542 (by first | decide | omega)).trans ((n3290 542 (by decide)).trans (ha3259))
                                    have h3329 := (hf3312.1 543 (by first | decide | omega)).trans ((n3290 543 (by decide)).trans (ha3260))
                                    have h3330 := (hf3312.1 544 (by first | decide | omega)).trans ((n3290 544 (by decide)).trans (ha3261))
                                    have h3331 := (hf3312.1 545 (by first | decide | omega)).trans ((n3290 545 (by decide)).trans ((hf3262.1 545 (by first | decide | omega)).trans ((hf3227.1 545 (by first | decide | omega)).trans (hA3))))
                                    have h3332 := (hf3312.1 546 (by first | decide | omega)).trans ((n3290 546 (by decide)).trans ((hf3262.1 546 (by first | decide | omega)).trans ((hf3227.1 546 (by first | decide | omega)).trans (hA4))))
                                    have h3333 := (hf3312.1 547 (by first | decide | omega)).trans ((n3290 547 (by decide)).trans ((hf3262.1 547 (by first | decide | omega)).trans ((hf3227.1 547 (by first | decide | omega)).trans (hA5))))
                                    have hst := sp_sl_ok _ _ _ _ _ (X_av_r ⟨by omega, by omega⟩) hp3252 ⟨(show (0 : Int) ≤ 0 by omega), ⟨(show (0 : Int) ≤ 0 by omega), (show (0 : Int) ≤ 16 by omega)⟩, fun k h1 h2 => absurd (show k < 0 from h2) (by omega)⟩ rfl
                                    obtain ⟨-, -, hst3, -, -⟩ := hst
                                    have hst4 : ∀ f, f ≠ 5 → f ≠ 12 → f ≠ 13 → d3246 f = d1 f := fun f f1 f2 f3 => (hst3 f f1 f2 f3).trans (by unfold X_wu; rw [if_neg f1])
                                    refine Or.inl ⟨at3302, en3303, tk3304, nu3305, dg3306, nm3307, g3244, X_av n c3245, d3246, q1, wR, wL, wK, wM1, wH1, wS3247, sO3248, sN3249, eP1, eH1, hK1, rfl, hp3309, ?_, ⟨by rw [hst4 0 (by decide) (by decide) (by decide), hfd 0 (by decide) (by decide) (by decide) (by decide)]; exact hW.1, by rw [hst4 1 (by decide) (by decide) (by decide), hfd 1 (by decide) (by decide) (by decide) (by decide)]; exact hW.2.1, by rw [hst4 2 (by decide) (by decide) (by decide), hfd 2 (by decide) (by decide) (by decide) (by decide)]; exact hW.2.2.1, hE1.cg (hst4 3 (by decide) (by decide) (by decide)) (hst4 4 (by decide) (by decide) (by decide)) (hst4 8 (by decide) (by decide) (by decide)) (hst4 9 (by decide) (by decide) (by decide)), hp3254⟩, R_ob.rf, R_ob.rf, R_ob.rf, by exact hob4, by exact hob5, hp3255, hp3256, hp3257, by exact hob9, by exact hob10, by exact hob11, h3320, h3323, h3324, h3325, h3326, h3327, h3328, h3329, h3330, h3331, h3332, h3333, (((((X_Fr.rf).tr (X_Fr.mono ⟨hF2669.1, hF2669.2⟩ (fun q hq => by first | exact hq | (rcases hq with rfl <;> decide) | (rcases hq with rfl | rfl <;> decide) | (rcases hq with rfl | rfl | rfl <;> decide) | (rcases hq with rfl | rfl | rfl | rfl <;> decide) | (rcases hq with rfl | rfl | rfl | rfl | rfl <;> decide) | (rcases hq with rfl | rfl | rfl | rfl | rfl | rfl <;> decide) | (rcases hq with rfl | rfl | rfl | rfl | rfl | rfl | rfl <;> decide) | omega))).tr (X_Fr.mono ⟨hf3227.1, hf3227.2⟩ (fun q hq => by first | exact hq | (rcases hq with rfl <;> decide) | (rcases hq with rfl | rfl <;> decide) | (rcases hq with rfl | rfl | rfl <;> decide) | (rcases hq with rfl | rfl | rfl | rfl <;> decide) | (rcases hq with rfl | rfl | rfl | rfl | rfl <;> decide) | (rcases hq with rfl | rfl | rfl | rfl | rfl | rfl <;> decide) | (rcases hq with rfl | rfl | rfl | rfl | rfl | rfl | rfl <;> decide) | omega))).tr (X_Fr.mono ⟨hf3262.1, hf3262.2⟩ (fun q hq => by first | exact hq | (rcases hq with rfl <;> decide) | (rcases hq with rfl | rfl <;> decide) | (rcases hq with rfl | rfl | rfl <;> decide) | (rcases hq with rfl | rfl | rfl | rfl <;> decide) | (rcases hq with rfl | rfl | rfl | rfl | rfl <;> decide) | (rcases hq with rfl | rfl | rfl | rfl | rfl | rfl <;> decide) | (rcases hq with rfl | rfl | rfl | rfl | rfl | rfl | rfl <;> decide) | omega))).tr (X_Fr.of n3290 e3291 (by first | decide | exact ⟨Nat.le_add_right _ _, Nat.add_le_add_left (by decide) _⟩ | omega))).tr (X_Fr.mono ⟨hf3312.1, hf3312.2⟩ (fun q hq => by first | exact hq | (rcases hq with rfl <;> decide) | (rcases hq with rfl | rfl <;> decide) | (rcases hq with rfl | rfl | rfl <;> decide) | (rcases hq with rfl | rfl | rfl | rfl <;> decide) | (rcases hq with rfl | rfl | rfl | rfl | rfl <;> decide) | (rcases hq with rfl | rfl | rfl | rfl | rfl | rfl <;> decide) | (rcases hq with rfl | rfl | rfl | rfl | rfl | rfl | rfl <;> decide) | omega))⟩
                                    have hel : sp_el n so ct kn kc 9 c d q = some (c1, d1, q1) := by
                                      rw [← hR, show (9 - d1 3 0).toNat = (9 - (d1 3 0 + 1)).toNat + 1 by omega]
                                      show (if so c1 = 61 then _ else if so c1 = 59 then _ else _) = _
                                      first | rw [if_pos (by omega)] | rw [if_neg (by omega), if_pos (by omega)] | (by_cases hz : so c1 = 61; (rw [if_pos hz]); (rw [if_neg hz, if_pos (by omega)]))
                                    rw [hel, Option.bind_some]
                                    dsimp only
                                    unfold sp_we
                                    (repeat (first | rw [if_pos (by assumption)] | rw [if_neg (by assumption)] | rw [if_neg (by omega)] | rw [if_pos (by omega)]))
                                    all_goals (rw [sp_sl_steps hp3252, Option.bind_some]; dsimp only; rw [if_pos (by omega), if_pos rfl]; rfl)
                                  · skip
                                    rw [hv3315]
                                    have h3322 : S3300.1 530 = .inr (11, [.ref 531, .int (iI (o 1)), .ref 532, .int (iI (o 3)), .int (iI (o 4)), .int (iI f3313), .int (iI g3314), .int (iI at3238), .int (iI en3239), .int (iI tk3240), .int (iI nu3241), .int (iI dg3242), .long nm3243, .ref 533, .ref 534, .ref 535, .ref 536, .ref 537, .ref 538, .ref 539, .ref 540, .ref 541, .ref 542, .ref 543, .ref 544, .ref 545, .ref 546, .ref 547, .int (iI (o 28)), .int (iI (o 29)), .int (iI (wc + 1)), .int (iI (o 31)), .int (iI (o 32)), .int (iI (o 33)), .ref 548, .ref 549, .ref 550, .ref 551, .int (iI (o 38)), .ref 552, .ref 553, .ref 554, .ref 555, .ref 556, .ref 557, .ref 558, .ref 559, .ref 560, .ref 561, .int (iI (o 49)), .ref 562, .ref 563, .ref 564, .ref 565, .ref 566, .ref 567, .ref 568, .ref 569, .int (iI (o 58)), .ref 570, .ref 571, .ref 572, .ref 573, .ref 574, .ref 575, .ref 576, .ref 577, .ref 578, .int (iI (o 68)), .int (iI (o 69)), .int (iI (o 70)), .ref 579]) := hM3318
                                    show X_T sc 157 (325, [(3, .int (iI (bI (part)))), (1, .int (iI wi)), (2, .int (iI col)), (0, .ref 530)], [], S3300) _
                                    refine T_vret xr_157_325 xf_157.2.2 ?_
                                    refine hQ _ _ ?_
                                    have h3334 := (hf3319.1 537 (by first | decide | omega)).trans ((n3290 537 (by decide)).trans ((hf3262.1 537 (by first | decide | omega)).trans ((hf3227.1 537 (by first | decide | omega)).trans ((hF2669.1 537 (by first | decide | omega)).trans (hA537)))))
                                    have h3335 := (hf3319.1 538 (by first | decide | omega)).trans ((n3290 538 (by decide)).trans ((hf3262.1 538 (by first | decide | omega)).trans ((hf3227.1 538 (by first | decide | omega)).trans (h3031))))
                                    have h3336 := (hf3319.1 539 (by first | decide | omega)).trans ((n3290 539 (by decide)).trans ((hf3262.1 539 (by first | decide | omega)).trans ((hf3227.1 539 (by first | decide | omega)).trans ((hF2669.1 539 (by first | decide | omega)).trans (hA539)))))
                                    have h3337 := (hf3319.1 540 (by first | decide | omega)).trans ((n3290 540 (by decide)).trans ((hf3262.1 540 (by first | decide | omega)).trans ((hf3227.1 540 (by first | decide | omega)).trans (hA1))))
                                    have h3338 := (hf3319.1 541 (by first | decide | omega)).trans ((n3290 541 (by decide)).trans ((hf3262.1 541 (by first | decide | omega)).trans (h3231)))
                                    have h3339 := (hf3319.1 542 (by first | decide | omega)).trans ((n3290 542 (by decide)).trans (ha3259))
                                    have h3340 := (hf3319.1 543 (by first | decide | omega)).trans ((n3290 543 (by decide)).trans (ha3260))
                                    have h3341 := (hf3319.1 544 (by first | decide | omega)).trans ((n3290 544 (by decide)).trans (ha3261))
                                    have h3342 := (hf3319.1 545 (by first | decide | omega)).trans ((n3290 545 (by decide)).trans ((hf3262.1 545 (by first | decide | omega)).trans ((hf3227.1 545 (by first | decide | omega)).trans (hA3))))
                                    have h3343 := (hf3319.1 546 (by first | decide | omega)).trans ((n3290 546 (by decide)).trans ((hf3262.1 546 (by first | decide | omega)).trans ((hf3227.1 546 (by first | decide | omega)).trans (hA4))))
                                    have h3344 := (hf3319.1 547 (by first | decide | omega)).trans ((n3290 547 (by decide)).trans ((hf3262.1 547 (by first | decide | omega)).trans ((hf3227.1 547 (by first | decide | omega)).trans (hA5))))
                                    refine Or.inr ⟨at3238, en3239, tk3240, nu3241, dg3242, nm3243, wc + 1, f3313, g3314, wR, wL, wK, wM1, wH1, wS3247, sO3248, sN3249, eP1, eH1, hK1, rfl, by omega, ?_, R_ob.rf, R_ob.rf, R_ob.rf, by exact hob4, by exact hob5, hp3255, hp3256, hp3257, by exact hob9, by exact hob10, by exact hob11, h3322, h3334, h3335, h3336, h3337, h3338, h3339, h3340, h3341, h3342, h3343, h3344, (((((X_Fr.rf).tr (X_Fr.mono ⟨hF2669.1, hF2669.2⟩ (fun q hq => by first | exact hq | (rcases hq with rfl <;> decide) | (rcases hq with rfl | rfl <;> decide) | (rcases hq with rfl | rfl | rfl <;> decide) | (rcases hq with rfl | rfl | rfl | rfl <;> decide) | (rcases hq with rfl | rfl | rfl | rfl | rfl <;> decide) | (rcases hq with rfl | rfl | rfl | rfl | rfl | rfl <;> decide) | (rcases hq with rfl | rfl | rfl | rfl | rfl | rfl | rfl <;> decide) | omega))).tr (X_Fr.mono ⟨hf3227.1, hf3227.2⟩ (fun q hq => by first | exact hq | (rcases hq with rfl <;> decide) | (rcases hq with rfl | rfl <;> decide) | (rcases hq with rfl | rfl | rfl <;> decide) | (rcases hq with rfl | rfl | rfl | rfl <;> decide) | (rcases hq with rfl | rfl | rfl | rfl | rfl <;> decide) | (rcases hq with rfl | rfl | rfl | rfl | rfl | rfl <;> decide) | (rcases hq with rfl | rfl | rfl | rfl | rfl | rfl | rfl <;> decide) | omega))).tr (X_Fr.mono ⟨hf3262.1, hf3262.2⟩ (fun q hq => by first | exact hq | (rcases hq with rfl <;> decide) | (rcases hq with rfl | rfl <;> decide) | (rcases hq with rfl | rfl | rfl <;> decide) | (rcases hq with rfl | rfl | rfl | rfl <;> decide) | (rcases hq with rfl | rfl | rfl | rfl | rfl <;> decide) | (rcases hq with rfl | rfl | rfl | rfl | rfl | rfl <;> decide) | (rcases hq with rfl | rfl | rfl | rfl | rfl | rfl | rfl <;> decide) | omega))).tr (X_Fr.of n3290 e3291 (by first | decide | exact ⟨Nat.le_add_right _ _, Nat.add_le_add_left (by decide) _⟩ | omega))).tr (X_Fr.mono ⟨hf3319.1, hf3319.2⟩ (fun q hq => by first | exact hq | (rcases hq with rfl <;> decide) | (rcases hq with rfl | rfl <;> decide) | (rcases hq with rfl | rfl | rfl <;> decide) | (rcases hq with rfl | rfl | rfl | rfl <;> decide) | (rcases hq with rfl | rfl | rfl | rfl | rfl <;> decide) | (rcases hq with rfl | rfl | rfl | rfl | rfl | rfl <;> decide) | (rcases hq with rfl | rfl | rfl | rfl | rfl | rfl | rfl <;> decide) | omega))⟩
                                    by_cases h61 : so c1 = 61 ∨ so c1 = 59
                                    · have hel : sp_el n so ct kn kc 9 c d q = some (c1, d1, q1) := by
                                        rw [← hR, show (9 - d1 3 0).toNat = (9 - (d1 3 0 + 1)).toNat + 1 by omega]
                                        show (if so c1 = 61 then _ else if so c1 = 59 then _ else _) = _
                                        first | rw [if_pos (by omega)] | rw [if_neg (by omega), if_pos (by omega)] | (by_cases hz : so c1 = 61; (rw [if_pos hz]); (rw [if_neg hz, if_pos (by omega)]))
                                      rw [hel, Option.bind_some]
                                      dsimp only
                                      unfold sp_we
                                      (repeat (first | rw [if_pos (by assumption)] | rw [if_neg (by assumption)] | rw [if_neg (by omega)] | rw [if_pos (by omega)]))
                                      all_goals first | rfl | ((repeat' split) <;> first | rfl | (exfalso; omega) | contradiction)
                                    · have hel : sp_el n so ct kn kc 9 c d q = none := by
                                        rw [← hR, show (9 - d1 3 0).toNat = (9 - (d1 3 0 + 1)).toNat + 1 by omega, sp_el_e1 _ (by omega) (by omega)]
                                        unfold sp_e1
                                        rw [if_neg (by omega), if_neg (by omega)]
                                        rfl
                                      rw [hel]
                                      rfl
                              · skip
                                rw [hv3274]
                                have h3287 : S3236.1 530 = .inr (11, [.ref 531, .int (iI (o 1)), .ref 532, .int (iI (o 3)), .int (iI (o 4)), .int (iI f3269), .int (iI g3270), .int (iI at3263), .int (iI en3264), .int (iI tk3265), .int (iI nu3266), .int (iI dg3267), .long nm3268, .ref 533, .ref 534, .ref 535, .ref 536, .ref 537, .ref 538, .ref 539, .ref 540, .ref 541, .ref 542, .ref 543, .ref 544, .ref 545, .ref 546, .ref 547, .int (iI (o 28)), .int (iI (o 29)), .int (iI (o 30)), .int (iI (o 31)), .int (iI (o 32)), .int (iI (o 33)), .ref 548, .ref 549, .ref 550, .ref 551, .int (iI (o 38)), .ref 552, .ref 553, .ref 554, .ref 555, .ref 556, .ref 557, .ref 558, .ref 559, .ref 560, .ref 561, .int (iI (o 49)), .ref 562, .ref 563, .ref 564, .ref 565, .ref 566, .ref 567, .ref 568, .ref 569, .int (iI (o 58)), .ref 570, .ref 571, .ref 572, .ref 573, .ref 574, .ref 575, .ref 576, .ref 577, .ref 578, .int (iI (o 68)), .int (iI (o 69)), .int (iI (o 70)), .ref 579]) := hM3280
                                show X_T sc 157 (302, [(3, .int (iI (bI (part)))), (1, .int (iI wi)), (2, .int (iI col)), (0, .ref 530)], [], S3236) _
                                refine T_p xr_157_302 xn_157 (pc' := 303) (ls' := [(3, .int (iI (bI (part)))), (1, .int (iI wi)), (2, .int (iI col)), (0, .ref 530)]) (st' := [.ref 530]) rfl ?_
                                refine T_p xr_157_303 xn_157 (pc' := 304) (ls' := [(3, .int (iI (bI (part)))), (1, .int (iI wi)), (2, .int (iI col)), (0, .ref 530)]) (st' := [.ref 530, .ref 530]) rfl ?_
                                refine T_get xr_157_304 h3287 rfl (v := .int (iI (o 30))) rfl (pc' := 307) rfl ?_
                                refine T_p xr_157_307 xn_157 (pc' := 308) (ls' := [(3, .int (iI (bI (part)))), (1, .int (iI wi)), (2, .int (iI col)), (0, .ref 530)]) (st' := [.int (iI 1), .int (iI (o 30)), .ref 530]) rfl ?_
                                refine T_ziadd xr_157_308 (z := (o 30) + 1) rfl (pc' := 309) rfl ?_
                                refine T_ie (y := iI (wc + 1)) (by rw [hwc]) ?_
                                refine T_put xr_157_309 h3287 rfl (Nat.le_of_ble_eq_true rfl) rfl (fs' := [.ref 531, .int (iI (o 1)), .ref 532, .int (iI (o 3)), .int (iI (o 4)), .int (iI f3269), .int (iI g3270), .int (iI at3263), .int (iI en3264), .int (iI tk3265), .int (iI nu3266), .int (iI dg3267), .long nm3268, .ref 533, .ref 534, .ref 535, .ref 536, .ref 537, .ref 538, .ref 539, .ref 540, .ref 541, .ref 542, .ref 543, .ref 544, .ref 545, .ref 546, .ref 547, .int (iI (o 28)), .int (iI (o 29)), .int (iI (wc + 1)), .int (iI (o 31)), .int (iI (o 32)), .int (iI (o 33)), .ref 548, .ref 549, .ref 550, .ref 551, .int (iI (o 38)), .ref 552, .ref 553, .ref 554, .ref 555, .ref 556, .ref 557, .ref 558, .ref 559, .ref 560, .ref 561, .int (iI (o 49)), .ref 562, .ref 563, .ref 564, .ref 565, .ref 566, .ref 567, .ref 568, .ref 569, .int (iI (o 58)), .ref 570, .ref 571, .ref 572, .ref 573, .ref 574, .ref 575, .ref 576, .ref 577, .ref 578, .int (iI (o 68)), .int (iI (o 69)), .int (iI (o 70)), .ref 579]) rfl (pc' := 312) rfl (fun S3345 h3346 n3347 e3348 => ?_)
                                refine T_p xr_157_312 xn_157 (pc' := 313) (ls' := [(3, .int (iI (bI (part)))), (1, .int (iI wi)), (2, .int (iI col)), (0, .ref 530)]) (st' := [.ref 530]) rfl ?_
                                refine T_cv (S := S3345) (q := 530) xr_157_313 xf_140.1 xf_140.2.1 xn_140 (as := []) (r := []) rfl h3346 (Nat.le_of_ble_eq_true rfl) (Nat.le_of_ble_eq_true rfl) (pc' := 316) rfl (ls' := [(0, .ref 530)]) rfl ?_
                                refine T_mono (r_isGood sc S3345 (X_ou (X_ou (X_ou (X_ou (X_ou (X_ou (X_ou (X_ou o 5 f3269) 6 g3270) 7 at3263) 8 en3264) 9 tk3265) 10 nu3266) 11 dg3267) 30 (wc + 1)) nm3268 h3346 (show 0 ≤ f3269 ∧ f3269 ≤ 5 from by omega)) (fun v3349 S3350 h3351 => ?_)
                                rcases h3351 with ⟨hv3352, hf3353⟩
                                rw [hv3352]
                                rw [hf3353]
                                show X_T sc 157 (316, [(3, .int (iI (bI (part)))), (1, .int (iI wi)), (2, .int (iI col)), (0, .ref 530)], [.int (iI (bI (f3269 = 0)))], S3345) _
                                refine T_bif_eq xr_157_316 (t := 325) (pc' := 319) rfl rfl (fun c3354 => ?_) (fun c3354 => ?_)
                                · skip
                                  have c3354 : ¬ (f3269 = 0) := c3354
                                  refine T_vret xr_157_325 xf_157.2.2 ?_
                                  refine hQ _ _ ?_
                                  have h3355 := (n3347 537 (by decide)).trans ((hf3284.1 537 (by first | decide | omega)).trans ((hf3227.1 537 (by first | decide | omega)).trans ((hF2669.1 537 (by first | decide | omega)).trans (hA537))))
                                  have h3356 := (n3347 538 (by decide)).trans ((hf3284.1 538 (by first | decide | omega)).trans ((hf3227.1 538 (by first | decide | omega)).trans (h3031)))
                                  have h3357 := (n3347 539 (by decide)).trans ((hf3284.1 539 (by first | decide | omega)).trans ((hf3227.1 539 (by first | decide | omega)).trans ((hF2669.1 539 (by first | decide | omega)).trans (hA539))))
                                  have h3358 := (n3347 540 (by decide)).trans ((hf3284.1 540 (by first | decide | omega)).trans ((hf3227.1 540 (by first | decide | omega)).trans (hA1)))
                                  have h3359 := (n3347 541 (by decide)).trans ((hf3284.1 541 (by first | decide | omega)).trans (h3231))
                                  have h3360 := (n3347 542 (by decide)).trans (ha3281)
                                  have h3361 := (n3347 543 (by decide)).trans (ha3282)
                                  have h3362 := (n3347 544 (by decide)).trans (ha3283)
                                  have h3363 := (n3347 545 (by decide)).trans ((hf3284.1 545 (by first | decide | omega)).trans ((hf3227.1 545 (by first | decide | omega)).trans (hA3)))
                                  have h3364 := (n3347 546 (by decide)).trans ((hf3284.1 546 (by first | decide | omega)).trans ((hf3227.1 546 (by first | decide | omega)).trans (hA4)))
                                  have h3365 := (n3347 547 (by decide)).trans ((hf3284.1 547 (by first | decide | omega)).trans ((hf3227.1 547 (by first | decide | omega)).trans (hA5)))
                                  refine Or.inr ⟨at3263, en3264, tk3265, nu3266, dg3267, nm3268, wc + 1, f3269, g3270, wR, wL, wK, wM1, wH1, wS3271, sO3272, sN3273, eP1, eH1, hK1, rfl, by omega, ?_, R_ob.rf, R_ob.rf, R_ob.rf, by exact hob4, by exact hob5, hp3277, hp3278, hp3279, by exact hob9, by exact hob10, by exact hob11, h3346, h3355, h3356, h3357, h3358, h3359, h3360, h3361, h3362, h3363, h3364, h3365, ((((X_Fr.rf).tr (X_Fr.mono ⟨hF2669.1, hF2669.2⟩ (fun q hq => by first | exact hq | (rcases hq with rfl <;> decide) | (rcases hq with rfl | rfl <;> decide) | (rcases hq with rfl | rfl | rfl <;> decide) | (rcases hq with rfl | rfl | rfl | rfl <;> decide) | (rcases hq with rfl | rfl | rfl | rfl | rfl <;> decide) | (rcases hq with rfl | rfl | rfl | rfl | rfl | rfl <;> decide) | (rcases hq with rfl | rfl | rfl | rfl | rfl | rfl | rfl <;> decide) | omega))).tr (X_Fr.mono ⟨hf3227.1, hf3227.2⟩ (fun q hq => by first | exact hq | (rcases hq with rfl <;> decide) | (rcases hq with rfl | rfl <;> decide) | (rcases hq with rfl | rfl | rfl <;> decide) | (rcases hq with rfl | rfl | rfl | rfl <;> decide) | (rcases hq with rfl | rfl | rfl | rfl | rfl <;> decide) | (rcases hq with rfl | rfl | rfl | rfl | rfl | rfl <;> decide) | (rcases hq with rfl | rfl | rfl | rfl | rfl | rfl | rfl <;> decide) | omega))).tr (X_Fr.mono ⟨hf3284.1, hf3284.2⟩ (fun q hq => by first | exact hq | (rcases hq with rfl <;> decide) | (rcases hq with rfl | rfl <;> decide) | (rcases hq with rfl | rfl | rfl <;> decide) | (rcases hq with rfl | rfl | rfl | rfl <;> decide) | (rcases hq with rfl | rfl | rfl | rfl | rfl <;> decide) | (rcases hq with rfl | rfl | rfl | rfl | rfl | rfl <;> decide) | (rcases hq with rfl | rfl | rfl | rfl | rfl | rfl | rfl <;> decide) | omega))).tr (X_Fr.of n3347 e3348 (by first | decide | exact ⟨Nat.le_add_right _ _, Nat.add_le_add_left (by decide) _⟩ | omega))⟩
                                  have hel : sp_el n so ct kn kc 9 c d q = some (c1, d1, q1) := by
                                    rw [← hR, show (9 - d1 3 0).toNat = (9 - (d1 3 0 + 1)).toNat + 1 by omega]
                                    show (if so c1 = 61 then _ else if so c1 = 59 then _ else _) = _
                                    first | rw [if_pos (by omega)] | rw [if_neg (by omega), if_pos (by omega)] | (by_cases hz : so c1 = 61; (rw [if_pos hz]); (rw [if_neg hz, if_pos (by omega)]))
                                  rw [hel, Option.bind_some]
                                  dsimp only
                                  unfold sp_we
                                  rcases hp3276 with hs | ⟨e1, e2, e3, hs, hs2⟩
                                  · (repeat (first | rw [if_pos (by assumption)] | rw [if_neg (by assumption)] | rw [if_neg (by omega)] | rw [if_pos (by omega)]))
                                    all_goals (rw [sp_sl_steps hs]; rfl)
                                  · (repeat (first | rw [if_pos (by assumption)] | rw [if_neg (by assumption)] | rw [if_neg (by omega)] | rw [if_pos (by omega)]))
                                    all_goals (rw [sp_sl_steps hs, Option.bind_some]; dsimp only; (rcases hs2 with hs2 | hs2); (rw [if_neg hs2]; rfl); (by_cases hq9 : so e1 = 59; (rw [if_pos hq9, if_neg hs2]; rfl); (rw [if_neg hq9]; rfl)))
                                · skip
                                  have c3354 : (f3269 = 0) := c3354
                                  exact (show False by first | contradiction | omega).elim
                        · skip
                          have c3202 : ¬ (¬ (X_en d1 q1) = 0) := c3202
                          refine T_p xr_157_271 xn_157 (pc' := 272) (ls' := [(3, .int (iI (bI (part)))), (1, .int (iI wi)), (2, .int (iI col)), (0, .ref 530)]) (st' := [.ref 530]) rfl ?_
                          refine T_p xr_157_272 xn_157 (pc' := 273) (ls' := [(3, .int (iI (bI (part)))), (1, .int (iI wi)), (2, .int (iI col)), (0, .ref 530)]) (st' := [.int (iI 2), .ref 530]) rfl ?_
                          refine T_p xr_157_273 xn_157 (pc' := 274) (ls' := [(3, .int (iI (bI (part)))), (1, .int (iI wi)), (2, .int (iI col)), (0, .ref 530)]) (st' := [.int (iI col), .int (iI 2), .ref 530]) rfl ?_
                          refine T_cv (S := S2670) (q := 530) xr_157_274 xf_139.1 xf_139.2.1 xn_139 (as := [.int (iI 2), .int (iI col)]) (r := []) rfl hM2716 (Nat.le_of_ble_eq_true rfl) (Nat.le_of_ble_eq_true rfl) (pc' := 277) rfl (ls' := [(0, .ref 530), (1, .int (iI 2)), (2, .int (iI col))]) rfl ?_
                          refine T_mono (r_fails sc S2670 (X_ou (X_ou (X_ou (X_ou (X_ou (X_ou o 6 g1) 7 at1) 8 en1) 9 tk1) 10 nu1) 11 dg1) nm1 2 col hM2716 (show 0 ≤ (o 5) ∧ (o 5) ≤ 5 from by omega) (by omega)) (fun v3366 S3367 h3368 => ?_)
                          rcases h3368 with ⟨f3369, g3370, hv3371, hp3372, hM3373, hf3374⟩
                          rw [hv3371]
                          have h3375 : S3367.1 530 = .inr (11, [.ref 531, .int (iI (o 1)), .ref 532, .int (iI (o 3)), .int (iI (o 4)), .int (iI f3369), .int (iI g3370), .int (iI at1), .int (iI en1), .int (iI tk1), .int (iI nu1), .int (iI dg1), .long nm1, .ref 533, .ref 534, .ref 535, .ref 536, .ref 537, .ref 538, .ref 539, .ref 540, .ref 541, .ref 542, .ref 543, .ref 544, .ref 545, .ref 546, .ref 547, .int (iI (o 28)), .int (iI (o 29)), .int (iI (o 30)), .int (iI (o 31)), .int (iI (o 32)), .int (iI (o 33)), .ref 548, .ref 549, .ref 550, .ref 551, .int (iI (o 38)), .ref 552, .ref 553, .ref 554, .ref 555, .ref 556, .ref 557, .ref 558, .ref 559, .ref 560, .ref 561, .int (iI (o 49)), .ref 562, .ref 563, .ref 564, .ref 565, .ref 566, .ref 567, .ref 568, .ref 569, .int (iI (o 58)), .ref 570, .ref 571, .ref 572, .ref 573, .ref 574, .ref 575, .ref 576, .ref 577, .ref 578, .int (iI (o 68)), .int (iI (o 69)), .int (iI (o 70)), .ref 579]) := hM3373
                          have hp3372 : ((o 5) = 0 → f3369 = 2) ∧ (¬ (o 5) = 0 → f3369 = (o 5)) := hp3372
                          have hf3376 : f3369 = 2 := hp3372.1 h5
                          show X_T sc 157 (277, [(3, .int (iI (bI (part)))), (1, .int (iI wi)), (2, .int (iI col)), (0, .ref 530)], [], S3367) _
                          refine T_p xr_157_277 xn_157 (pc' := 278) (ls' := [(3, .int (iI (bI (part)))), (1, .int (iI wi)), (2, .int (iI col)), (0, .ref 530)]) (st' := [.ref 530]) rfl ?_
                          refine T_cv (S := S3367) (q := 530) xr_157_278 xf_140.1 xf_140.2.1 xn_140 (as := []) (r := []) rfl h3375 (Nat.le_of_ble_eq_true rfl) (Nat.le_of_ble_eq_true rfl) (pc' := 281) rfl (ls' := [(0, .ref 530)]) rfl ?_
                          refine T_mono (r_isGood sc S3367 (X_ou (X_ou (X_ou (X_ou (X_ou (X_ou (X_ou o 5 f3369) 6 g3370) 7 at1) 8 en1) 9 tk1) 10 nu1) 11 dg1) nm1 h3375 (show 0 ≤ f3369 ∧ f3369 ≤ 5 from by omega)) (fun v3377 S3378 h3379 => ?_)
                          rcases h3379 with ⟨hv3380, hf3381⟩
                          rw [hv3380]
                          rw [hf3381]
                          show X_T sc 157 (281, [(3, .int (iI (bI (part)))), (1, .int (iI wi)), (2, .int (iI col)), (0, .ref 530)], [.int (iI (bI (f3369 = 0)))], S3367) _
                          refine T_bif_eq xr_157_281 (t := 302) (pc' := 284) rfl rfl (fun c3382 => ?_) (fun c3382 => ?_)
                          · skip
                            have c3382 : ¬ (f3369 = 0) := c3382
                            refine T_p xr_157_302 xn_157 (pc' := 303) (ls' := [(3, .int (iI (bI (part)))), (1, .int (iI wi)), (2, .int (iI col)), (0, .ref 530)]) (st' := [.ref 530]) rfl ?_
                            refine T_p xr_157_303 xn_157 (pc' := 304) (ls' := [(3, .int (iI (bI (part)))), (1, .int (iI wi)), (2, .int (iI col)), (0, .ref 530)]) (st' := [.ref 530, .ref 530]) rfl ?_
                            refine T_get xr_157_304 h3375 rfl (v := .int (iI (o 30))) rfl (pc' := 307) rfl ?_
                            refine T_p xr_157_307 xn_157 (pc' := 308) (ls' := [(3, .int (iI (bI (part)))), (1, .int (iI wi)), (2, .int (iI col)), (0, .ref 530)]) (st' := [.int (iI 1), .int (iI (o 30)), .ref 530]) rfl ?_
                            refine T_ziadd xr_157_308 (z := (o 30) + 1) rfl (pc' := 309) rfl ?_
                            refine T_ie (y := iI (wc + 1)) (by rw [hwc]) ?_
                            refine T_put xr_157_309 h3375 rfl (Nat.le_of_ble_eq_true rfl) rfl (fs' := [.ref 531, .int (iI (o 1)), .ref 532, .int (iI (o 3)), .int (iI (o 4)), .int (iI f3369), .int (iI g3370), .int (iI at1), .int (iI en1), .int (iI tk1), .int (iI nu1), .int (iI dg1), .long nm1, .ref 533, .ref 534, .ref 535, .ref 536, .ref 537, .ref 538, .ref 539, .ref 540, .ref 541, .ref 542, .ref 543, .ref 544, .ref 545, .ref 546, .ref 547, .int (iI (o 28)), .int (iI (o 29)), .int (iI (wc + 1)), .int (iI (o 31)), .int (iI (o 32)), .int (iI (o 33)), .ref 548, .ref 549, .ref 550, .ref 551, .int (iI (o 38)), .ref 552, .ref 553, .ref 554, .ref 555, .ref 556, .ref 557, .ref 558, .ref 559, .ref 560, .ref 561, .int (iI (o 49)), .ref 562, .ref 563, .ref 564, .ref 565, .ref 566, .ref 567, .ref 568, .ref 569, .int (iI (o 58)), .ref 570, .ref 571, .ref 572, .ref 573, .ref 574, .ref 575, .ref 576, .ref 577, .ref 578, .int (iI (o 68)), .int (iI (o 69)), .int (iI (o 70)), .ref 579]) rfl (pc' := 312) rfl (fun S3383 h3384 n3385 e3386 => ?_)
                            refine T_p xr_157_312 xn_157 (pc' := 313) (ls' := [(3, .int (iI (bI (part)))), (1, .int (iI wi)), (2, .int (iI col)), (0, .ref 530)]) (st' := [.ref 530]) rfl ?_
                            refine T_cv (S := S3383) (q := 530) xr_157_313 xf_140.1 xf_140.2.1 xn_140 (as := []) (r := []) rfl h3384 (Nat.le_of_ble_eq_true rfl) (Nat.le_of_ble_eq_true rfl) (pc' := 316) rfl (ls' := [(0, .ref 530)]) rfl ?_
                            refine T_mono (r_isGood sc S3383 (X_ou (X_ou (X_ou (X_ou (X_ou (X_ou (X_ou (X_ou o 5 f3369) 6 g3370) 7 at1) 8 en1) 9 tk1) 10 nu1) 11 dg1) 30 (wc + 1)) nm1 h3384 (show 0 ≤ f3369 ∧ f3369 ≤ 5 from by omega)) (fun v3387 S3388 h3389 => ?_)
                            rcases h3389 with ⟨hv3390, hf3391⟩
                            rw [hv3390]
                            rw [hf3391]
                            show X_T sc 157 (316, [(3, .int (iI (bI (part)))), (1, .int (iI wi)), (2, .int (iI col)), (0, .ref 530)], [.int (iI (bI (f3369 = 0)))], S3383) _
                            refine T_bif_eq xr_157_316 (t := 325) (pc' := 319) rfl rfl (fun c3392 => ?_) (fun c3392 => ?_)
                            · skip
                              have c3392 : ¬ (f3369 = 0) := c3392
                              refine T_vret xr_157_325 xf_157.2.2 ?_
                              refine hQ _ _ ?_
                              have h3393 := (n3385 537 (by decide)).trans ((hf3374.1 537 (by first | decide | omega)).trans ((hF2669.1 537 (by first | decide | omega)).trans (hA537)))
                              have h3394 := (n3385 538 (by decide)).trans ((hf3374.1 538 (by first | decide | omega)).trans (h3031))
                              have h3395 := (n3385 539 (by decide)).trans ((hf3374.1 539 (by first | decide | omega)).trans ((hF2669.1 539 (by first | decide | omega)).trans (hA539)))
                              have h3396 := (n3385 540 (by decide)).trans ((hf3374.1 540 (by first | decide | omega)).trans (hA1))
                              have h3397 := (n3385 541 (by decide)).trans ((hf3374.1 541 (by first | decide | omega)).trans (hA2))
                              have h3398 := (n3385 542 (by decide)).trans ((hf3374.1 542 (by first | decide | omega)).trans ((hF2669.1 542 (by first | decide | omega)).trans (hA542)))
                              have h3399 := (n3385 543 (by decide)).trans ((hf3374.1 543 (by first | decide | omega)).trans ((hF2669.1 543 (by first | decide | omega)).trans (hA543)))
                              have h3400 := (n3385 544 (by decide)).trans ((hf3374.1 544 (by first | decide | omega)).trans ((hF2669.1 544 (by first | decide | omega)).trans (hA544)))
                              have h3401 := (n3385 545 (by decide)).trans ((hf3374.1 545 (by first | decide | omega)).trans (hA3))
                              have h3402 := (n3385 546 (by decide)).trans ((hf3374.1 546 (by first | decide | omega)).trans (hA4))
                              have h3403 := (n3385 547 (by decide)).trans ((hf3374.1 547 (by first | decide | omega)).trans (hA5))
                              refine Or.inr ⟨at1, en1, tk1, nu1, dg1, nm1, wc + 1, f3369, g3370, wR, wL, wK, wM1, wH1, wS, sO, sN, eP1, eH1, hK1, rfl, by omega, ?_, R_ob.rf, R_ob.rf, R_ob.rf, by exact hob4, by exact hob5, R_ob.rf, R_ob.rf, R_ob.rf, by exact hob9, by exact hob10, by exact hob11, h3384, h3393, h3394, h3395, h3396, h3397, h3398, h3399, h3400, h3401, h3402, h3403, (((X_Fr.rf).tr (X_Fr.mono ⟨hF2669.1, hF2669.2⟩ (fun q hq => by first | exact hq | (rcases hq with rfl <;> decide) | (rcases hq with rfl | rfl <;> decide) | (rcases hq with rfl | rfl | rfl <;> decide) | (rcases hq with rfl | rfl | rfl | rfl <;> decide) | (rcases hq with rfl | rfl | rfl | rfl | rfl <;> decide) | (rcases hq with rfl | rfl | rfl | rfl | rfl | rfl <;> decide) | (rcases hq with rfl | rfl | rfl | rfl | rfl | rfl | rfl <;> decide) | omega))).tr (X_Fr.mono ⟨hf3374.1, hf3374.2⟩ (fun q hq => by first | exact hq | (rcases hq with rfl <;> decide) | (rcases hq with rfl | rfl <;> decide) | (rcases hq with rfl | rfl | rfl <;> decide) | (rcases hq with rfl | rfl | rfl | rfl <;> decide) | (rcases hq with rfl | rfl | rfl | rfl | rfl <;> decide) | (rcases hq with rfl | rfl | rfl | rfl | rfl | rfl <;> decide) | (rcases hq with rfl | rfl | rfl | rfl | rfl | rfl | rfl <;> decide) | omega))).tr (X_Fr.of n3385 e3386 (by first | decide | exact ⟨Nat.le_add_right _ _, Nat.add_le_add_left (by decide) _⟩ | omega))⟩
                              by_cases h61 : so c1 = 61 ∨ so c1 = 59
                              · have hel : sp_el n so ct kn kc 9 c d q = some (c1, d1, q1) := by
                                  rw [← hR, show (9 - d1 3 0).toNat = (9 - (d1 3 0 + 1)).toNat + 1 by omega]
                                  show (if so c1 = 61 then _ else if so c1 = 59 then _ else _) = _
                                  first | rw [if_pos (by omega)] | rw [if_neg (by omega), if_pos (by omega)] | (by_cases hz : so c1 = 61; (rw [if_pos hz]); (rw [if_neg hz, if_pos (by omega)]))
                                rw [hel, Option.bind_some]
                                dsimp only
                                unfold sp_we
                                (repeat (first | rw [if_pos (by assumption)] | rw [if_neg (by assumption)] | rw [if_neg (by omega)] | rw [if_pos (by omega)]))
                                all_goals first | rfl | ((repeat' split) <;> first | rfl | (exfalso; omega) | contradiction)
                              · have hel : sp_el n so ct kn kc 9 c d q = none := by
                                  rw [← hR, show (9 - d1 3 0).toNat = (9 - (d1 3 0 + 1)).toNat + 1 by omega, sp_el_e1 _ (by omega) (by omega)]
                                  unfold sp_e1
                                  rw [if_neg (by omega), if_neg (by omega)]
                                  rfl
                                rw [hel]
                                rfl
                            · skip
                              have c3392 : (f3369 = 0) := c3392
                              exact (show False by first | contradiction | omega).elim
                          · skip
                            have c3382 : (f3369 = 0) := c3382
                            exact (show False by first | contradiction | omega).elim
                  · skip
                    have c3024 : ¬ (so c1 = 61) := c3024
                    refine T_p xr_157_234 xn_157 (pc' := 235) (ls' := [(3, .int (iI (bI (part)))), (1, .int (iI wi)), (2, .int (iI col)), (0, .ref 530)]) (st' := [.ref 530]) rfl ?_
                    refine T_p xr_157_235 xn_157 (pc' := 237) (ls' := [(3, .int (iI (bI (part)))), (1, .int (iI wi)), (2, .int (iI col)), (0, .ref 530)]) (st' := [.int (iI 59), .ref 530]) rfl ?_
                    refine T_cv (S := S2670) (q := 530) xr_157_237 xf_145.1 xf_145.2.1 xn_145 (as := [.int (iI 59)]) (r := []) rfl hM2716 (Nat.le_of_ble_eq_true rfl) (Nat.le_of_ble_eq_true rfl) (pc' := 240) rfl (ls' := [(0, .ref 530), (1, .int (iI 59))]) rfl ?_
                    refine T_mono (r_is sc S2670 (X_ou (X_ou (X_ou (X_ou (X_ou (X_ou o 6 g1) 7 at1) 8 en1) 9 tk1) 10 nu1) 11 dg1) nm1 tx tb len n so pl ct E c1 59 hM2716 h2918 (show (o 3) = len from by first | assumption | omega) hl htx hX hT1 (by omega)) (fun v3404 S3405 h3406 => ?_)
                    rcases h3406 with ⟨hv3407, hf3408⟩
                    rw [hv3407]
                    rw [hf3408]
                    show X_T sc 157 (240, [(3, .int (iI (bI (part)))), (1, .int (iI wi)), (2, .int (iI col)), (0, .ref 530)], [.int (iI (bI (so c1 = 59)))], S2670) _
                    refine T_bif_ne xr_157_240 (t := 247) (pc' := 243) rfl rfl (fun c3409 => ?_) (fun c3409 => ?_)
                    · skip
                      have c3409 : (so c1 = 59) := c3409
                      refine T_p xr_157_247 xn_157 (pc' := 248) (ls' := [(3, .int (iI (bI (part)))), (1, .int (iI wi)), (2, .int (iI col)), (0, .ref 530)]) (st' := [.ref 530]) rfl ?_
                      refine T_cv (S := S2670) (q := 530) xr_157_248 xf_140.1 xf_140.2.1 xn_140 (as := []) (r := []) rfl hM2716 (Nat.le_of_ble_eq_true rfl) (Nat.le_of_ble_eq_true rfl) (pc' := 251) rfl (ls' := [(0, .ref 530)]) rfl ?_
                      refine T_mono (r_isGood sc S2670 (X_ou (X_ou (X_ou (X_ou (X_ou (X_ou o 6 g1) 7 at1) 8 en1) 9 tk1) 10 nu1) 11 dg1) nm1 hM2716 (show 0 ≤ (o 5) ∧ (o 5) ≤ 5 from by omega)) (fun v3410 S3411 h3412 => ?_)
                      rcases h3412 with ⟨hv3413, hf3414⟩
                      rw [hv3413]
                      rw [hf3414]
                      show X_T sc 157 (251, [(3, .int (iI (bI (part)))), (1, .int (iI wi)), (2, .int (iI col)), (0, .ref 530)], [.int (iI (bI ((o 5) = 0)))], S2670) _
                      refine T_bif_eq xr_157_251 (t := 277) (pc' := 254) rfl rfl (fun c3415 => ?_) (fun c3415 => ?_)
                      · skip
                        have c3415 : ¬ ((o 5) = 0) := c3415
                        exact (show False by first | contradiction | omega).elim
                      · skip
                        have c3415 : ((o 5) = 0) := c3415
                        refine T_p xr_157_254 xn_157 (pc' := 255) (ls' := [(3, .int (iI (bI (part)))), (1, .int (iI wi)), (2, .int (iI col)), (0, .ref 530)]) (st' := [.ref 530]) rfl ?_
                        refine T_get xr_157_255 hM2716 rfl (v := .ref 538) rfl (pc' := 258) rfl ?_
                        refine T_p xr_157_258 xn_157 (pc' := 259) (ls' := [(3, .int (iI (bI (part)))), (1, .int (iI wi)), (2, .int (iI col)), (0, .ref 530)]) (st' := [.int (iI wi), .ref 538]) rfl ?_
                        have h3416 := (hF2669.1 538 (by first | decide | omega)).trans (hA538)
                        refine T_ziald xr_157_259 h3416 (pc' := 260) rfl ?_
                        refine T_zif_le xr_157_260 (t := 277) (pc' := 263) rfl rfl (fun c3417 => ?_) (fun c3417 => ?_)
                        · skip
                          have c3417 : (wL wi) ≤ 0 := c3417
                          refine T_p xr_157_277 xn_157 (pc' := 278) (ls' := [(3, .int (iI (bI (part)))), (1, .int (iI wi)), (2, .int (iI col)), (0, .ref 530)]) (st' := [.ref 530]) rfl ?_
                          refine T_cv (S := S2670) (q := 530) xr_157_278 xf_140.1 xf_140.2.1 xn_140 (as := []) (r := []) rfl hM2716 (Nat.le_of_ble_eq_true rfl) (Nat.le_of_ble_eq_true rfl) (pc' := 281) rfl (ls' := [(0, .ref 530)]) rfl ?_
                          refine T_mono (r_isGood sc S2670 (X_ou (X_ou (X_ou (X_ou (X_ou (X_ou o 6 g1) 7 at1) 8 en1) 9 tk1) 10 nu1) 11 dg1) nm1 hM2716 (show 0 ≤ (o 5) ∧ (o 5) ≤ 5 from by omega)) (fun v3418 S3419 h3420 => ?_)
                          rcases h3420 with ⟨hv3421, hf3422⟩
                          rw [hv3421]
                          rw [hf3422]
                          show X_T sc 157 (281, [(3, .int (iI (bI (part)))), (1, .int (iI wi)), (2, .int (iI col)), (0, .ref 530)], [.int (iI (bI ((o 5) = 0)))], S2670) _
                          refine T_bif_eq xr_157_281 (t := 302) (pc' := 284) rfl rfl (fun c3423 => ?_) (fun c3423 => ?_)
                          · skip
                            have c3423 : ¬ ((o 5) = 0) := c3423
                            exact (show False by first | contradiction | omega).elim
                          · skip
                            have c3423 : ((o 5) = 0) := c3423
                            refine T_p xr_157_284 xn_157 (pc' := 285) (ls' := [(3, .int (iI (bI (part)))), (1, .int (iI wi)), (2, .int (iI col)), (0, .ref 530)]) (st' := [.ref 530]) rfl ?_
                            refine T_p xr_157_285 xn_157 (pc' := 287) (ls' := [(3, .int (iI (bI (part)))), (1, .int (iI wi)), (2, .int (iI col)), (0, .ref 530)]) (st' := [.int (iI 61), .ref 530]) rfl ?_
                            refine T_cv (S := S2670) (q := 530) xr_157_287 xf_145.1 xf_145.2.1 xn_145 (as := [.int (iI 61)]) (r := []) rfl hM2716 (Nat.le_of_ble_eq_true rfl) (Nat.le_of_ble_eq_true rfl) (pc' := 290) rfl (ls' := [(0, .ref 530), (1, .int (iI 61))]) rfl ?_
                            refine T_mono (r_is sc S2670 (X_ou (X_ou (X_ou (X_ou (X_ou (X_ou o 6 g1) 7 at1) 8 en1) 9 tk1) 10 nu1) 11 dg1) nm1 tx tb len n so pl ct E c1 61 hM2716 h2918 (show (o 3) = len from by first | assumption | omega) hl htx hX hT1 (by omega)) (fun v3424 S3425 h3426 => ?_)
                            rcases h3426 with ⟨hv3427, hf3428⟩
                            rw [hv3427]
                            rw [hf3428]
                            show X_T sc 157 (290, [(3, .int (iI (bI (part)))), (1, .int (iI wi)), (2, .int (iI col)), (0, .ref 530)], [.int (iI (bI (so c1 = 61)))], S2670) _
                            refine T_bif_eq xr_157_290 (t := 302) (pc' := 293) rfl rfl (fun c3429 => ?_) (fun c3429 => ?_)
                            · skip
                              have c3429 : ¬ (so c1 = 61) := c3429
                              refine T_p xr_157_302 xn_157 (pc' := 303) (ls' := [(3, .int (iI (bI (part)))), (1, .int (iI wi)), (2, .int (iI col)), (0, .ref 530)]) (st' := [.ref 530]) rfl ?_
                              refine T_p xr_157_303 xn_157 (pc' := 304) (ls' := [(3, .int (iI (bI (part)))), (1, .int (iI wi)), (2, .int (iI col)), (0, .ref 530)]) (st' := [.ref 530, .ref 530]) rfl ?_
                              refine T_get xr_157_304 hM2716 rfl (v := .int (iI (o 30))) rfl (pc' := 307) rfl ?_
                              refine T_p xr_157_307 xn_157 (pc' := 308) (ls' := [(3, .int (iI (bI (part)))), (1, .int (iI wi)), (2, .int (iI col)), (0, .ref 530)]) (st' := [.int (iI 1), .int (iI (o 30)), .ref 530]) rfl ?_
                              refine T_ziadd xr_157_308 (z := (o 30) + 1) rfl (pc' := 309) rfl ?_
                              refine T_ie (y := iI (wc + 1)) (by rw [hwc]) ?_
                              refine T_put xr_157_309 hM2716 rfl (Nat.le_of_ble_eq_true rfl) rfl (fs' := [.ref 531, .int (iI (o 1)), .ref 532, .int (iI (o 3)), .int (iI (o 4)), .int (iI (o 5)), .int (iI g1), .int (iI at1), .int (iI en1), .int (iI tk1), .int (iI nu1), .int (iI dg1), .long nm1, .ref 533, .ref 534, .ref 535, .ref 536, .ref 537, .ref 538, .ref 539, .ref 540, .ref 541, .ref 542, .ref 543, .ref 544, .ref 545, .ref 546, .ref 547, .int (iI (o 28)), .int (iI (o 29)), .int (iI (wc + 1)), .int (iI (o 31)), .int (iI (o 32)), .int (iI (o 33)), .ref 548, .ref 549, .ref 550, .ref 551, .int (iI (o 38)), .ref 552, .ref 553, .ref 554, .ref 555, .ref 556, .ref 557, .ref 558, .ref 559, .ref 560, .ref 561, .int (iI (o 49)), .ref 562, .ref 563, .ref 564, .ref 565, .ref 566, .ref 567, .ref 568, .ref 569, .int (iI (o 58)), .ref 570, .ref 571, .ref 572, .ref 573, .ref 574, .ref 575, .ref 576, .ref 577, .ref 578, .int (iI (o 68)), .int (iI (o 69)), .int (iI (o 70)), .ref 579]) rfl (pc' := 312) rfl (fun S3430 h3431 n3432 e3433 => ?_)
                              refine T_p xr_157_312 xn_157 (pc' := 313) (ls' := [(3, .int (iI (bI (part)))), (1, .int (iI wi)), (2, .int (iI col)), (0, .ref 530)]) (st' := [.ref 530]) rfl ?_
                              refine T_cv (S := S3430) (q := 530) xr_157_313 xf_140.1 xf_140.2.1 xn_140 (as := []) (r := []) rfl h3431 (Nat.le_of_ble_eq_true rfl) (Nat.le_of_ble_eq_true rfl) (pc' := 316) rfl (ls' := [(0, .ref 530)]) rfl ?_
                              refine T_mono (r_isGood sc S3430 (X_ou (X_ou (X_ou (X_ou (X_ou (X_ou (X_ou o 6 g1) 7 at1) 8 en1) 9 tk1) 10 nu1) 11 dg1) 30 (wc + 1)) nm1 h3431 (show 0 ≤ (o 5) ∧ (o 5) ≤ 5 from by omega)) (fun v3434 S3435 h3436 => ?_)
                              rcases h3436 with ⟨hv3437, hf3438⟩
                              rw [hv3437]
                              rw [hf3438]
                              show X_T sc 157 (316, [(3, .int (iI (bI (part)))), (1, .int (iI wi)), (2, .int (iI col)), (0, .ref 530)], [.int (iI (bI ((o 5) = 0)))], S3430) _
                              refine T_bif_eq xr_157_316 (t := 325) (pc' := 319) rfl rfl (fun c3439 => ?_) (fun c3439 => ?_)
                              · skip
                                have c3439 : ¬ ((o 5) = 0) := c3439
                                exact (show False by first | contradiction | omega).elim
                              · skip
                                have c3439 : ((o 5) = 0) := c3439
                                refine T_p xr_157_319 xn_157 (pc' := 320) (ls' := [(3, .int (iI (bI (part)))), (1, .int (iI wi)), (2, .int (iI col)), (0, .ref 530)]) (st' := [.ref 530]) rfl ?_
                                refine T_p xr_157_320 xn_157 (pc' := 322) (ls' := [(3, .int (iI (bI (part)))), (1, .int (iI wi)), (2, .int (iI col)), (0, .ref 530)]) (st' := [.int (iI 59), .ref 530]) rfl ?_
                                refine T_cv (S := S3430) (q := 530) xr_157_322 xf_148.1 xf_148.2.1 xn_148 (as := [.int (iI 59)]) (r := []) rfl h3431 (Nat.le_of_ble_eq_true rfl) (Nat.le_of_ble_eq_true rfl) (pc' := 325) rfl (ls' := [(0, .ref 530), (1, .int (iI 59))]) rfl ?_
                                have h3440 := (n3432 532 (by decide)).trans (h2918)
                                refine T_mono (r_must sc S3430 (X_ou (X_ou (X_ou (X_ou (X_ou (X_ou (X_ou o 6 g1) 7 at1) 8 en1) 9 tk1) 10 nu1) 11 dg1) 30 (wc + 1)) nm1 tx tb len n so pl ct E c1 59 h3431 h3440 (show (o 3) = len from by first | assumption | omega) hl htx hX hT1 (show (o 5) = 0 from by omega) (by omega)) (fun v3441 S3442 h3443 => ?_)
                                rcases h3443 with ⟨at3444, en3445, tk3446, nu3447, dg3448, nm3449, hv3450, hp3451, hp3452, hM3453, hf3454⟩ | ⟨f3455, g3456, hv3457, hp3458, hp3459, hM3460, hf3461⟩
                                · skip
                                  rw [hv3450]
                                  have h3462 : S3442.1 530 = .inr (11, [.ref 531, .int (iI (o 1)), .ref 532, .int (iI (o 3)), .int (iI (o 4)), .int (iI (o 5)), .int (iI g1), .int (iI at3444), .int (iI en3445), .int (iI tk3446), .int (iI nu3447), .int (iI dg3448), .long nm3449, .ref 533, .ref 534, .ref 535, .ref 536, .ref 537, .ref 538, .ref 539, .ref 540, .ref 541, .ref 542, .ref 543, .ref 544, .ref 545, .ref 546, .ref 547, .int (iI (o 28)), .int (iI (o 29)), .int (iI (wc + 1)), .int (iI (o 31)), .int (iI (o 32)), .int (iI (o 33)), .ref 548, .ref 549, .ref 550, .ref 551, .int (iI (o 38)), .ref 552, .ref 553, .ref 554, .ref 555, .ref 556, .ref 557, .ref 558, .ref 559, .ref 560, .ref 561, .int (iI (o 49)), .ref 562, .ref 563, .ref 564, .ref 565, .ref 566, .ref 567, .ref 568, .ref 569, .int (iI (o 58)), .ref 570, .ref 571, .ref 572, .ref 573, .ref 574, .ref 575, .ref 576, .ref 577, .ref 578, .int (iI (o 68)), .int (iI (o 69)), .int (iI (o 70)), .ref 579]) := hM3453
                                  obtain ⟨⟨_, _⟩, ⟨_, _⟩, hk3463, ⟨_, _⟩, hk3463e, ⟨_, _⟩, ⟨_, _⟩⟩ := R_tk_f hX hp3451
                                  show X_T sc 157 (325, [(3, .int (iI (bI (part)))), (1, .int (iI wi)), (2, .int (iI col)), (0, .ref 530)], [], S3442) _
                                  refine T_vret xr_157_325 xf_157.2.2 ?_
                                  refine hQ _ _ ?_
                                  have h3465 := (hf3454.1 537 (by first | decide | omega)).trans ((n3432 537 (by decide)).trans ((hF2669.1 537 (by first | decide | omega)).trans (hA537)))
                                  have h3466 := (hf3454.1 538 (by first | decide | omega)).trans ((n3432 538 (by decide)).trans (h3416))
                                  have h3467 := (hf3454.1 539 (by first | decide | omega)).trans ((n3432 539 (by decide)).trans ((hF2669.1 539 (by first | decide | omega)).trans (hA539)))
                                  have h3468 := (hf3454.1 540 (by first | decide | omega)).trans ((n3432 540 (by decide)).trans (hA1))
                                  have h3469 := (hf3454.1 541 (by first | decide | omega)).trans ((n3432 541 (by decide)).trans (hA2))
                                  have h3470 := (hf3454.1 542 (by first | decide | omega)).trans ((n3432 542 (by decide)).trans ((hF2669.1 542 (by first | decide | omega)).trans (hA542)))
                                  have h3471 := (hf3454.1 543 (by first | decide | omega)).trans ((n3432 543 (by decide)).trans ((hF2669.1 543 (by first | decide | omega)).trans (hA543)))
                                  have h3472 := (hf3454.1 544 (by first | decide | omega)).trans ((n3432 544 (by decide)).trans ((hF2669.1 544 (by first | decide | omega)).trans (hA544)))
                                  have h3473 := (hf3454.1 545 (by first | decide | omega)).trans ((n3432 545 (by decide)).trans (hA3))
                                  have h3474 := (hf3454.1 546 (by first | decide | omega)).trans ((n3432 546 (by decide)).trans (hA4))
                                  have h3475 := (hf3454.1 547 (by first | decide | omega)).trans ((n3432 547 (by decide)).trans (hA5))
                                  refine Or.inl ⟨at3444, en3445, tk3446, nu3447, dg3448, nm3449, g1, X_av n c1, d1, q1, wR, wL, wK, wM1, wH1, wS, sO, sN, eP1, eH1, hK1, rfl, hp3451, ?_, ⟨by rw [hfd 0 (by decide) (by decide) (by decide) (by decide)]; exact hW.1, by rw [hfd 1 (by decide) (by decide) (by decide) (by decide)]; exact hW.2.1, by rw [hfd 2 (by decide) (by decide) (by decide) (by decide)]; exact hW.2.2.1, hE1, ⟨by rw [hfd 5 (by decide) (by decide) (by decide) (by decide)]; exact hW.2.2.2.2.1, fun k k1 k2 => by rw [hfd 5 (by decide) (by decide) (by decide) (by decide)] at k2; omega⟩⟩, R_ob.rf, R_ob.rf, R_ob.rf, by exact hob4, by exact hob5, R_ob.rf, R_ob.rf, R_ob.rf, by exact hob9, by exact hob10, by exact hob11, h3462, h3465, h3466, h3467, h3468, h3469, h3470, h3471, h3472, h3473, h3474, h3475, (((X_Fr.rf).tr (X_Fr.mono ⟨hF2669.1, hF2669.2⟩ (fun q hq => by first | exact hq | (rcases hq with rfl <;> decide) | (rcases hq with rfl | rfl <;> decide) | (rcases hq with rfl | rfl | rfl <;> decide) | (rcases hq with rfl | rfl | rfl | rfl <;> decide) | (rcases hq with rfl | rfl | rfl | rfl | rfl <;> decide) | (rcases hq with rfl | rfl | rfl | rfl | rfl | rfl <;> decide) | (rcases hq with rfl | rfl | rfl | rfl | rfl | rfl | rfl <;> decide) | omega))).tr (X_Fr.of n3432 e3433 (by first | decide | exact ⟨Nat.le_add_right _ _, Nat.add_le_add_left (by decide) _⟩ | omega))).tr (X_Fr.mono ⟨hf3454.1, hf3454.2⟩ (fun q hq => by first | exact hq | (rcases hq with rfl <;> decide) | (rcases hq with rfl | rfl <;> decide) | (rcases hq with rfl | rfl | rfl <;> decide) | (rcases hq with rfl | rfl | rfl | rfl <;> decide) | (rcases hq with rfl | rfl | rfl | rfl | rfl <;> decide) | (rcases hq with rfl | rfl | rfl | rfl | rfl | rfl <;> decide) | (rcases hq with rfl | rfl | rfl | rfl | rfl | rfl | rfl <;> decide) | omega))⟩
                                  have hel : sp_el n so ct kn kc 9 c d q = some (c1, d1, q1) := by
                                    rw [← hR, show (9 - d1 3 0).toNat = (9 - (d1 3 0 + 1)).toNat + 1 by omega]
                                    show (if so c1 = 61 then _ else if so c1 = 59 then _ else _) = _
                                    first | rw [if_pos (by omega)] | rw [if_neg (by omega), if_pos (by omega)] | (by_cases hz : so c1 = 61; (rw [if_pos hz]); (rw [if_neg hz, if_pos (by omega)]))
                                  rw [hel, Option.bind_some]
                                  dsimp only
                                  unfold sp_we
                                  (repeat (first | rw [if_pos (by assumption)] | rw [if_neg (by assumption)] | rw [if_neg (by omega)] | rw [if_pos (by omega)]))
                                  all_goals rfl
                                · skip
                                  rw [hv3457]
                                  have h3464 : S3442.1 530 = .inr (11, [.ref 531, .int (iI (o 1)), .ref 532, .int (iI (o 3)), .int (iI (o 4)), .int (iI f3455), .int (iI g3456), .int (iI at1), .int (iI en1), .int (iI tk1), .int (iI nu1), .int (iI dg1), .long nm1, .ref 533, .ref 534, .ref 535, .ref 536, .ref 537, .ref 538, .ref 539, .ref 540, .ref 541, .ref 542, .ref 543, .ref 544, .ref 545, .ref 546, .ref 547, .int (iI (o 28)), .int (iI (o 29)), .int (iI (wc + 1)), .int (iI (o 31)), .int (iI (o 32)), .int (iI (o 33)), .ref 548, .ref 549, .ref 550, .ref 551, .int (iI (o 38)), .ref 552, .ref 553, .ref 554, .ref 555, .ref 556, .ref 557, .ref 558, .ref 559, .ref 560, .ref 561, .int (iI (o 49)), .ref 562, .ref 563, .ref 564, .ref 565, .ref 566, .ref 567, .ref 568, .ref 569, .int (iI (o 58)), .ref 570, .ref 571, .ref 572, .ref 573, .ref 574, .ref 575, .ref 576, .ref 577, .ref 578, .int (iI (o 68)), .int (iI (o 69)), .int (iI (o 70)), .ref 579]) := hM3460
                                  show X_T sc 157 (325, [(3, .int (iI (bI (part)))), (1, .int (iI wi)), (2, .int (iI col)), (0, .ref 530)], [], S3442) _
                                  refine T_vret xr_157_325 xf_157.2.2 ?_
                                  refine hQ _ _ ?_
                                  have h3476 := (hf3461.1 537 (by first | decide | omega)).trans ((n3432 537 (by decide)).trans ((hF2669.1 537 (by first | decide | omega)).trans (hA537)))
                                  have h3477 := (hf3461.1 538 (by first | decide | omega)).trans ((n3432 538 (by decide)).trans (h3416))
                                  have h3478 := (hf3461.1 539 (by first | decide | omega)).trans ((n3432 539 (by decide)).trans ((hF2669.1 539 (by first | decide | omega)).trans (hA539)))
                                  have h3479 := (hf3461.1 540 (by first | decide | omega)).trans ((n3432 540 (by decide)).trans (hA1))
                                  have h3480 := (hf3461.1 541 (by first | decide | omega)).trans ((n3432 541 (by decide)).trans (hA2))
                                  have h3481 := (hf3461.1 542 (by first | decide | omega)).trans ((n3432 542 (by decide)).trans ((hF2669.1 542 (by first | decide | omega)).trans (hA542)))
                                  have h3482 := (hf3461.1 543 (by first | decide | omega)).trans ((n3432 543 (by decide)).trans ((hF2669.1 543 (by first | decide | omega)).trans (hA543)))
                                  have h3483 := (hf3461.1 544 (by first | decide | omega)).trans ((n3432 544 (by decide)).trans ((hF2669.1 544 (by first | decide | omega)).trans (hA544)))
                                  have h3484 := (hf3461.1 545 (by first | decide | omega)).trans ((n3432 545 (by decide)).trans (hA3))
                                  have h3485 := (hf3461.1 546 (by first | decide | omega)).trans ((n3432 546 (by decide)).trans (hA4))
                                  have h3486 := (hf3461.1 547 (by first | decide | omega)).trans ((n3432 547 (by decide)).trans (hA5))
                                  refine Or.inr ⟨at1, en1, tk1, nu1, dg1, nm1, wc + 1, f3455, g3456, wR, wL, wK, wM1, wH1, wS, sO, sN, eP1, eH1, hK1, rfl, by omega, ?_, R_ob.rf, R_ob.rf, R_ob.rf, by exact hob4, by exact hob5, R_ob.rf, R_ob.rf, R_ob.rf, by exact hob9, by exact hob10, by exact hob11, h3464, h3476, h3477, h3478, h3479, h3480, h3481, h3482, h3483, h3484, h3485, h3486, (((X_Fr.rf).tr (X_Fr.mono ⟨hF2669.1, hF2669.2⟩ (fun q hq => by first | exact hq | (rcases hq with rfl <;> decide) | (rcases hq with rfl | rfl <;> decide) | (rcases hq with rfl | rfl | rfl <;> decide) | (rcases hq with rfl | rfl | rfl | rfl <;> decide) | (rcases hq with rfl | rfl | rfl | rfl | rfl <;> decide) | (rcases hq with rfl | rfl | rfl | rfl | rfl | rfl <;> decide) | (rcases hq with rfl | rfl | rfl | rfl | rfl | rfl | rfl <;> decide) | omega))).tr (X_Fr.of n3432 e3433 (by first | decide | exact ⟨Nat.le_add_right _ _, Nat.add_le_add_left (by decide) _⟩ | omega))).tr (X_Fr.mono ⟨hf3461.1, hf3461.2⟩ (fun q hq => by first | exact hq | (rcases hq with rfl <;> decide) | (rcases hq with rfl | rfl <;> decide) | (rcases hq with rfl | rfl | rfl <;> decide) | (rcases hq with rfl | rfl | rfl | rfl <;> decide) | (rcases hq with rfl | rfl | rfl | rfl | rfl <;> decide) | (rcases hq with rfl | rfl | rfl | rfl | rfl | rfl <;> decide) | (rcases hq with rfl | rfl | rfl | rfl | rfl | rfl | rfl <;> decide) | omega))⟩
                                  by_cases h61 : so c1 = 61 ∨ so c1 = 59
                                  · have hel : sp_el n so ct kn kc 9 c d q = some (c1, d1, q1) := by
                                      rw [← hR, show (9 - d1 3 0).toNat = (9 - (d1 3 0 + 1)).toNat + 1 by omega]
                                      show (if so c1 = 61 then _ else if so c1 = 59 then _ else _) = _
                                      first | rw [if_pos (by omega)] | rw [if_neg (by omega), if_pos (by omega)] | (by_cases hz : so c1 = 61; (rw [if_pos hz]); (rw [if_neg hz, if_pos (by omega)]))
                                    rw [hel, Option.bind_some]
                                    dsimp only
                                    unfold sp_we
                                    (repeat (first | rw [if_pos (by assumption)] | rw [if_neg (by assumption)] | rw [if_neg (by omega)] | rw [if_pos (by omega)]))
                                    all_goals first | rfl | ((repeat' split) <;> first | rfl | (exfalso; omega) | contradiction)
                                  · have hel : sp_el n so ct kn kc 9 c d q = none := by
                                      rw [← hR, show (9 - d1 3 0).toNat = (9 - (d1 3 0 + 1)).toNat + 1 by omega, sp_el_e1 _ (by omega) (by omega)]
                                      unfold sp_e1
                                      rw [if_neg (by omega), if_neg (by omega)]
                                      rfl
                                    rw [hel]
                                    rfl
                            · skip
                              have c3429 : (so c1 = 61) := c3429
                              exact (show False by first | contradiction | omega).elim
                        · skip
                          have c3417 : ¬ ((wL wi) ≤ 0) := c3417
                          refine T_p xr_157_263 xn_157 (pc' := 264) (ls' := [(3, .int (iI (bI (part)))), (1, .int (iI wi)), (2, .int (iI col)), (0, .ref 530)]) (st' := [.ref 530]) rfl ?_
                          refine T_p xr_157_264 xn_157 (pc' := 265) (ls' := [(3, .int (iI (bI (part)))), (1, .int (iI wi)), (2, .int (iI col)), (0, .ref 530)]) (st' := [.int (iI wi), .ref 530]) rfl ?_
                          refine T_cv (S := S2670) (q := 530) xr_157_265 xf_160.1 xf_160.2.1 xn_160 (as := [.int (iI wi)]) (r := []) rfl hM2716 (Nat.le_of_ble_eq_true rfl) (Nat.le_of_ble_eq_true rfl) (pc' := 268) rfl (ls' := [(0, .ref 530), (1, .int (iI wi))]) rfl ?_
                          refine T_mono (r_ends sc S2670 (X_ou (X_ou (X_ou (X_ou (X_ou (X_ou o 6 g1) 7 at1) 8 en1) 9 tk1) 10 nu1) 11 dg1) nm1 wM1 eP1 wi d1 q1 hM2716 hA1 hA3 (by omega) hE1.1 (by omega) (fun e h1 h2 => (hE1.2.2.1 e h1 h2).1)) (fun v3487 S3488 h3489 => ?_)
                          rcases h3489 with ⟨hv3490, hf3491⟩
                          rw [hv3490]
                          rw [hf3491]
                          have hen3492 := X_en_r d1 q1
                          show X_T sc 157 (268, [(3, .int (iI (bI (part)))), (1, .int (iI wi)), (2, .int (iI col)), (0, .ref 530)], [.int (iI (X_en d1 q1))], S2670) _
                          refine T_zif_ne xr_157_268 (t := 277) (pc' := 271) rfl rfl (fun c3493 => ?_) (fun c3493 => ?_)
                          · skip
                            have c3493 : ¬ (X_en d1 q1) = 0 := c3493
                            refine T_p xr_157_277 xn_157 (pc' := 278) (ls' := [(3, .int (iI (bI (part)))), (1, .int (iI wi)), (2, .int (iI col)), (0, .ref 530)]) (st' := [.ref 530]) rfl ?_
                            refine T_cv (S := S2670) (q := 530) xr_157_278 xf_140.1 xf_140.2.1 xn_140 (as := []) (r := []) rfl hM2716 (Nat.le_of_ble_eq_true rfl) (Nat.le_of_ble_eq_true rfl) (pc' := 281) rfl (ls' := [(0, .ref 530)]) rfl ?_
                            refine T_mono (r_isGood sc S2670 (X_ou (X_ou (X_ou (X_ou (X_ou (X_ou o 6 g1) 7 at1) 8 en1) 9 tk1) 10 nu1) 11 dg1) nm1 hM2716 (show 0 ≤ (o 5) ∧ (o 5) ≤ 5 from by omega)) (fun v3494 S3495 h3496 => ?_)
                            rcases h3496 with ⟨hv3497, hf3498⟩
                            rw [hv3497]
                            rw [hf3498]
                            show X_T sc 157 (281, [(3, .int (iI (bI (part)))), (1, .int (iI wi)), (2, .int (iI col)), (0, .ref 530)], [.int (iI (bI ((o 5) = 0)))], S2670) _
                            refine T_bif_eq xr_157_281 (t := 302) (pc' := 284) rfl rfl (fun c3499 => ?_) (fun c3499 => ?_)
                            · skip
                              have c3499 : ¬ ((o 5) = 0) := c3499
                              exact (show False by first | contradiction | omega).elim
                            · skip
                              have c3499 : ((o 5) = 0) := c3499
                              refine T_p xr_157_284 xn_157 (pc' := 285) (ls' := [(3, .int (iI (bI (part)))), (1, .int (iI wi)), (2, .int (iI col)), (0, .ref 530)]) (st' := [.ref 530]) rfl ?_
                              refine T_p xr_157_285 xn_157 (pc' := 287) (ls' := [(3, .int (iI (bI (part)))), (1, .int (iI wi)), (2, .int (iI col)), (0, .ref 530)]) (st' := [.int (iI 61), .ref 530]) rfl ?_
                              refine T_cv (S := S2670) (q := 530) xr_157_287 xf_145.1 xf_145.2.1 xn_145 (as := [.int (iI 61)]) (r := []) rfl hM2716 (Nat.le_of_ble_eq_true rfl) (Nat.le_of_ble_eq_true rfl) (pc' := 290) rfl (ls' := [(0, .ref 530), (1, .int (iI 61))]) rfl ?_
                              refine T_mono (r_is sc S2670 (X_ou (X_ou (X_ou (X_ou (X_ou (X_ou o 6 g1) 7 at1) 8 en1) 9 tk1) 10 nu1) 11 dg1) nm1 tx tb len n so pl ct E c1 61 hM2716 h2918 (show (o 3) = len from by first | assumption | omega) hl htx hX hT1 (by omega)) (fun v3500 S3501 h3502 => ?_)
                              rcases h3502 with ⟨hv3503, hf3504⟩
                              rw [hv3503]
                              rw [hf3504]
                              show X_T sc 157 (290, [(3, .int (iI (bI (part)))), (1, .int (iI wi)), (2, .int (iI col)), (0, .ref 530)], [.int (iI (bI (so c1 = 61)))], S2670) _
                              refine T_bif_eq xr_157_290 (t := 302) (pc' := 293) rfl rfl (fun c3505 => ?_) (fun c3505 => ?_)
                              · skip
                                have c3505 : ¬ (so c1 = 61) := c3505
                                refine T_p xr_157_302 xn_157 (pc' := 303) (ls' := [(3, .int (iI (bI (part)))), (1, .int (iI wi)), (2, .int (iI col)), (0, .ref 530)]) (st' := [.ref 530]) rfl ?_
                                refine T_p xr_157_303 xn_157 (pc' := 304) (ls' := [(3, .int (iI (bI (part)))), (1, .int (iI wi)), (2, .int (iI col)), (0, .ref 530)]) (st' := [.ref 530, .ref 530]) rfl ?_
                                refine T_get xr_157_304 hM2716 rfl (v := .int (iI (o 30))) rfl (pc' := 307) rfl ?_
                                refine T_p xr_157_307 xn_157 (pc' := 308) (ls' := [(3, .int (iI (bI (part)))), (1, .int (iI wi)), (2, .int (iI col)), (0, .ref 530)]) (st' := [.int (iI 1), .int (iI (o 30)), .ref 530]) rfl ?_
                                refine T_ziadd xr_157_308 (z := (o 30) + 1) rfl (pc' := 309) rfl ?_
                                refine T_ie (y := iI (wc + 1)) (by rw [hwc]) ?_
                                refine T_put xr_157_309 hM2716 rfl (Nat.le_of_ble_eq_true rfl) rfl (fs' := [.ref 531, .int (iI (o 1)), .ref 532, .int (iI (o 3)), .int (iI (o 4)), .int (iI (o 5)), .int (iI g1), .int (iI at1), .int (iI en1), .int (iI tk1), .int (iI nu1), .int (iI dg1), .long nm1, .ref 533, .ref 534, .ref 535, .ref 536, .ref 537, .ref 538, .ref 539, .ref 540, .ref 541, .ref 542, .ref 543, .ref 544, .ref 545, .ref 546, .ref 547, .int (iI (o 28)), .int (iI (o 29)), .int (iI (wc + 1)), .int (iI (o 31)), .int (iI (o 32)), .int (iI (o 33)), .ref 548, .ref 549, .ref 550, .ref 551, .int (iI (o 38)), .ref 552, .ref 553, .ref 554, .ref 555, .ref 556, .ref 557, .ref 558, .ref 559, .ref 560, .ref 561, .int (iI (o 49)), .ref 562, .ref 563, .ref 564, .ref 565, .ref 566, .ref 567, .ref 568, .ref 569, .int (iI (o 58)), .ref 570, .ref 571, .ref 572, .ref 573, .ref 574, .ref 575, .ref 576, .ref 577, .ref 578, .int (iI (o 68)), .int (iI (o 69)), .int (iI (o 70)), .ref 579]) rfl (pc' := 312) rfl (fun S3506 h3507 n3508 e3509 => ?_)
                                refine T_p xr_157_312 xn_157 (pc' := 313) (ls' := [(3, .int (iI (bI (part)))), (1, .int (iI wi)), (2, .int (iI col)), (0, .ref 530)]) (st' := [.ref 530]) rfl ?_
                                refine T_cv (S := S3506) (q := 530) xr_157_313 xf_140.1 xf_140.2.1 xn_140 (as := []) (r := []) rfl h3507 (Nat.le_of_ble_eq_true rfl) (Nat.le_of_ble_eq_true rfl) (pc' := 316) rfl (ls' := [(0, .ref 530)]) rfl ?_
                                refine T_mono (r_isGood sc S3506 (X_ou (X_ou (X_ou (X_ou (X_ou (X_ou (X_ou o 6 g1) 7 at1) 8 en1) 9 tk1) 10 nu1) 11 dg1) 30 (wc + 1)) nm1 h3507 (show 0 ≤ (o 5) ∧ (o 5) ≤ 5 from by omega)) (fun v3510 S3511 h3512 => ?_)
                                rcases h3512 with ⟨hv3513, hf3514⟩
                                rw [hv3513]
                                rw [hf3514]
                                show X_T sc 157 (316, [(3, .int (iI (bI (part)))), (1, .int (iI wi)), (2, .int (iI col)), (0, .ref 530)], [.int (iI (bI ((o 5) = 0)))], S3506) _
                                refine T_bif_eq xr_157_316 (t := 325) (pc' := 319) rfl rfl (fun c3515 => ?_) (fun c3515 => ?_)
                                · skip
                                  have c3515 : ¬ ((o 5) = 0) := c3515
                                  exact (show False by first | contradiction | omega).elim
                                · skip
                                  have c3515 : ((o 5) = 0) := c3515
                                  refine T_p xr_157_319 xn_157 (pc' := 320) (ls' := [(3, .int (iI (bI (part)))), (1, .int (iI wi)), (2, .int (iI col)), (0, .ref 530)]) (st' := [.ref 530]) rfl ?_
                                  refine T_p xr_157_320 xn_157 (pc' := 322) (ls' := [(3, .int (iI (bI (part)))), (1, .int (iI wi)), (2, .int (iI col)), (0, .ref 530)]) (st' := [.int (iI 59), .ref 530]) rfl ?_
                                  refine T_cv (S := S3506) (q := 530) xr_157_322 xf_148.1 xf_148.2.1 xn_148 (as := [.int (iI 59)]) (r := []) rfl h3507 (Nat.le_of_ble_eq_true rfl) (Nat.le_of_ble_eq_true rfl) (pc' := 325) rfl (ls' := [(0, .ref 530), (1, .int (iI 59))]) rfl ?_
                                  have h3516 := (n3508 532 (by decide)).trans (h2918)
                                  refine T_mono (r_must sc S3506 (X_ou (X_ou (X_ou (X_ou (X_ou (X_ou (X_ou o 6 g1) 7 at1) 8 en1) 9 tk1) 10 nu1) 11 dg1) 30 (wc + 1)) nm1 tx tb len n so pl ct E c1 59 h3507 h3516 (show (o 3) = len from by first | assumption | omega) hl htx hX hT1 (show (o 5) = 0 from by omega) (by omega)) (fun v3517 S3518 h3519 => ?_)
                                  rcases h3519 with ⟨at3520, en3521, tk3522, nu3523, dg3524, nm3525, hv3526, hp3527, hp3528, hM3529, hf3530⟩ | ⟨f3531, g3532, hv3533, hp3534, hp3535, hM3536, hf3537⟩
                                  · skip
                                    rw [hv3526]
                                    have h3538 : S3518.1 530 = .inr (11, [.ref 531, .int (iI (o 1)), .ref 532, .int (iI (o 3)), .int (iI (o 4)), .int (iI (o 5)), .int (iI g1), .int (iI at3520), .int (iI en3521), .int (iI tk3522), .int (iI nu3523), .int (iI dg3524), .long nm3525, .ref 533, .ref 534, .ref 535, .ref 536, .ref 537, .ref 538, .ref 539, .ref 540, .ref 541, .ref 542, .ref 543, .ref 544, .ref 545, .ref 546, .ref 547, .int (iI (o 28)), .int (iI (o 29)), .int (iI (wc + 1)), .int (iI (o 31)), .int (iI (o 32)), .int (iI (o 33)), .ref 548, .ref 549, .ref 550, .ref 551, .int (iI (o 38)), .ref 552, .ref 553, .ref 554, .ref 555, .ref 556, .ref 557, .ref 558, .ref 559, .ref 560, .ref 561, .int (iI (o 49)), .ref 562, .ref 563, .ref 564, .ref 565, .ref 566, .ref 567, .ref 568, .ref 569, .int (iI (o 58)), .ref 570, .ref 571, .ref 572, .ref 573, .ref 574, .ref 575, .ref 576, .ref 577, .ref 578, .int (iI (o 68)), .int (iI (o 69)), .int (iI (o 70)), .ref 579]) := hM3529
                                    obtain ⟨⟨_, _⟩, ⟨_, _⟩, hk3539, ⟨_, _⟩, hk3539e, ⟨_, _⟩, ⟨_, _⟩⟩ := R_tk_f hX hp3527
                                    show X_T sc 157 (325, [(3, .int (iI (bI (part)))), (1, .int (iI wi)), (2, .int (iI col)), (0, .ref 530)], [], S3518) _
                                    refine T_vret xr_157_325 xf_157.2.2 ?_
                                    refine hQ _ _ ?_
                                    have h3541 := (hf3530.1 537 (by first | decide | omega)).trans ((n3508 537 (by decide)).trans ((hF2669.1 537 (by first | decide | omega)).trans (hA537)))
                                    have h3542 := (hf3530.1 538 (by first | decide | omega)).trans ((n3508 538 (by decide)).trans (h3416))
                                    have h3543 := (hf3530.1 539 (by first | decide | omega)).trans ((n3508 539 (by decide)).trans ((hF2669.1 539 (by first | decide | omega)).trans (hA539)))
                                    have h3544 := (hf3530.1 540 (by first | decide | omega)).trans ((n3508 540 (by decide)).trans (hA1))
                                    have h3545 := (hf3530.1 541 (by first | decide | omega)).trans ((n3508 541 (by decide)).trans (hA2))
                                    have h3546 := (hf3530.1 542 (by first | decide | omega)).trans ((n3508 542 (by decide)).trans ((hF2669.1 542 (by first | decide | omega)).trans (hA542)))
                                    have h3547 := (hf3530.1 543 (by first | decide | omega)).trans ((n3508 543 (by decide)).trans ((hF2669.1 543 (by first | decide | omega)).trans (hA543)))
                                    have h3548 := (hf3530.1 544 (by first | decide | omega)).trans ((n3508 544 (by decide)).trans ((hF2669.1 544 (by first | decide | omega)).trans (hA544)))
                                    have h3549 := (hf3530.1 545 (by first | decide | omega)).trans ((n3508 545 (by decide)).trans (hA3))
                                    have h3550 := (hf3530.1 546 (by first | decide | omega)).trans ((n3508 546 (by decide)).trans (hA4))
                                    have h3551 := (hf3530.1 547 (by first | decide | omega)).trans ((n3508 547 (by decide)).trans (hA5))
                                    refine Or.inl ⟨at3520, en3521, tk3522, nu3523, dg3524, nm3525, g1, X_av n c1, d1, q1, wR, wL, wK, wM1, wH1, wS, sO, sN, eP1, eH1, hK1, rfl, hp3527, ?_, ⟨by rw [hfd 0 (by decide) (by decide) (by decide) (by decide)]; exact hW.1, by rw [hfd 1 (by decide) (by decide) (by decide) (by decide)]; exact hW.2.1, by rw [hfd 2 (by decide) (by decide) (by decide) (by decide)]; exact hW.2.2.1, hE1, ⟨by rw [hfd 5 (by decide) (by decide) (by decide) (by decide)]; exact hW.2.2.2.2.1, fun k k1 k2 => by rw [hfd 5 (by decide) (by decide) (by decide) (by decide)] at k2; omega⟩⟩, R_ob.rf, R_ob.rf, R_ob.rf, by exact hob4, by exact hob5, R_ob.rf, R_ob.rf, R_ob.rf, by exact hob9, by exact hob10, by exact hob11, h3538, h3541, h3542, h3543, h3544, h3545, h3546, h3547, h3548, h3549, h3550, h3551, (((X_Fr.rf).tr (X_Fr.mono ⟨hF2669.1, hF2669.2⟩ (fun q hq => by first | exact hq | (rcases hq with rfl <;> decide) | (rcases hq with rfl | rfl <;> decide) | (rcases hq with rfl | rfl | rfl <;> decide) | (rcases hq with rfl | rfl | rfl | rfl <;> decide) | (rcases hq with rfl | rfl | rfl | rfl | rfl <;> decide) | (rcases hq with rfl | rfl | rfl | rfl | rfl | rfl <;> decide) | (rcases hq with rfl | rfl | rfl | rfl | rfl | rfl | rfl <;> decide) | omega))).tr (X_Fr.of n3508 e3509 (by first | decide | exact ⟨Nat.le_add_right _ _, Nat.add_le_add_left (by decide) _⟩ | omega))).tr (X_Fr.mono ⟨hf3530.1, hf3530.2⟩ (fun q hq => by first | exact hq | (rcases hq with rfl <;> decide) | (rcases hq with rfl | rfl <;> decide) | (rcases hq with rfl | rfl | rfl <;> decide) | (rcases hq with rfl | rfl | rfl | rfl <;> decide) | (rcases hq with rfl | rfl | rfl | rfl | rfl <;> decide) | (rcases hq with rfl | rfl | rfl | rfl | rfl | rfl <;> decide) | (rcases hq with rfl | rfl | rfl | rfl | rfl | rfl | rfl <;> decide) | omega))⟩
                                    have hel : sp_el n so ct kn kc 9 c d q = some (c1, d1, q1) := by
                                      rw [← hR, show (9 - d1 3 0).toNat = (9 - (d1 3 0 + 1)).toNat + 1 by omega]
                                      show (if so c1 = 61 then _ else if so c1 = 59 then _ else _) = _
                                      first | rw [if_pos (by omega)] | rw [if_neg (by omega), if_pos (by omega)] | (by_cases hz : so c1 = 61; (rw [if_pos hz]); (rw [if_neg hz, if_pos (by omega)]))
                                    rw [hel, Option.bind_some]
                                    dsimp only
                                    unfold sp_we
                                    (repeat (first | rw [if_pos (by assumption)] | rw [if_neg (by assumption)] | rw [if_neg (by omega)] | rw [if_pos (by omega)]))
                                    all_goals rfl
                                  · skip
                                    rw [hv3533]
                                    have h3540 : S3518.1 530 = .inr (11, [.ref 531, .int (iI (o 1)), .ref 532, .int (iI (o 3)), .int (iI (o 4)), .int (iI f3531), .int (iI g3532), .int (iI at1), .int (iI en1), .int (iI tk1), .int (iI nu1), .int (iI dg1), .long nm1, .ref 533, .ref 534, .ref 535, .ref 536, .ref 537, .ref 538, .ref 539, .ref 540, .ref 541, .ref 542, .ref 543, .ref 544, .ref 545, .ref 546, .ref 547, .int (iI (o 28)), .int (iI (o 29)), .int (iI (wc + 1)), .int (iI (o 31)), .int (iI (o 32)), .int (iI (o 33)), .ref 548, .ref 549, .ref 550, .ref 551, .int (iI (o 38)), .ref 552, .ref 553, .ref 554, .ref 555, .ref 556, .ref 557, .ref 558, .ref 559, .ref 560, .ref 561, .int (iI (o 49)), .ref 562, .ref 563, .ref 564, .ref 565, .ref 566, .ref 567, .ref 568, .ref 569, .int (iI (o 58)), .ref 570, .ref 571, .ref 572, .ref 573, .ref 574, .ref 575, .ref 576, .ref 577, .ref 578, .int (iI (o 68)), .int (iI (o 69)), .int (iI (o 70)), .ref 579]) := hM3536
                                    show X_T sc 157 (325, [(3, .int (iI (bI (part)))), (1, .int (iI wi)), (2, .int (iI col)), (0, .ref 530)], [], S3518) _
                                    refine T_vret xr_157_325 xf_157.2.2 ?_
                                    refine hQ _ _ ?_
                                    have h3552 := (hf3537.1 537 (by first | decide | omega)).trans ((n3508 537 (by decide)).trans ((hF2669.1 537 (by first | decide | omega)).trans (hA537)))
                                    have h3553 := (hf3537.1 538 (by first | decide | omega)).trans ((n3508 538 (by decide)).trans (h3416))
                                    have h3554 := (hf3537.1 539 (by first | decide | omega)).trans ((n3508 539 (by decide)).trans ((hF2669.1 539 (by first | decide | omega)).trans (hA539)))
                                    have h3555 := (hf3537.1 540 (by first | decide | omega)).trans ((n3508 540 (by decide)).trans (hA1))
                                    have h3556 := (hf3537.1 541 (by first | decide | omega)).trans ((n3508 541 (by decide)).trans (hA2))
                                    have h3557 := (hf3537.1 542 (by first | decide | omega)).trans ((n3508 542 (by decide)).trans ((hF2669.1 542 (by first | decide | omega)).trans (hA542)))
                                    have h3558 := (hf3537.1 543 (by first | decide | omega)).trans ((n3508 543 (by decide)).trans ((hF2669.1 543 (by first | decide | omega)).trans (hA543)))
                                    have h3559 := (hf3537.1 544 (by first | decide | omega)).trans ((n3508 544 (by decide)).trans ((hF2669.1 544 (by first | decide | omega)).trans (hA544)))
                                    have h3560 := (hf3537.1 545 (by first | decide | omega)).trans ((n3508 545 (by decide)).trans (hA3))
                                    have h3561 := (hf3537.1 546 (by first | decide | omega)).trans ((n3508 546 (by decide)).trans (hA4))
                                    have h3562 := (hf3537.1 547 (by first | decide | omega)).trans ((n3508 547 (by decide)).trans (hA5))
                                    refine Or.inr ⟨at1, en1, tk1, nu1, dg1, nm1, wc + 1, f3531, g3532, wR, wL, wK, wM1, wH1, wS, sO, sN, eP1, eH1, hK1, rfl, by omega, ?_, R_ob.rf, R_ob.rf, R_ob.rf, by exact hob4, by exact hob5, R_ob.rf, R_ob.rf, R_ob.rf, by exact hob9, by exact hob10, by exact hob11, h3540, h3552, h3553, h3554, h3555, h3556, h3557, h3558, h3559, h3560, h3561, h3562, (((X_Fr.rf).tr (X_Fr.mono ⟨hF2669.1, hF2669.2⟩ (fun q hq => by first | exact hq | (rcases hq with rfl <;> decide) | (rcases hq with rfl | rfl <;> decide) | (rcases hq with rfl | rfl | rfl <;> decide) | (rcases hq with rfl | rfl | rfl | rfl <;> decide) | (rcases hq with rfl | rfl | rfl | rfl | rfl <;> decide) | (rcases hq with rfl | rfl | rfl | rfl | rfl | rfl <;> decide) | (rcases hq with rfl | rfl | rfl | rfl | rfl | rfl | rfl <;> decide) | omega))).tr (X_Fr.of n3508 e3509 (by first | decide | exact ⟨Nat.le_add_right _ _, Nat.add_le_add_left (by decide) _⟩ | omega))).tr (X_Fr.mono ⟨hf3537.1, hf3537.2⟩ (fun q hq => by first | exact hq | (rcases hq with rfl <;> decide) | (rcases hq with rfl | rfl <;> decide) | (rcases hq with rfl | rfl | rfl <;> decide) | (rcases hq with rfl | rfl | rfl | rfl <;> decide) | (rcases hq with rfl | rfl | rfl | rfl | rfl <;> decide) | (rcases hq with rfl | rfl | rfl | rfl | rfl | rfl <;> decide) | (rcases hq with rfl | rfl | rfl | rfl | rfl | rfl | rfl <;> decide) | omega))⟩
                                    by_cases h61 : so c1 = 61 ∨ so c1 = 59
                                    · have hel : sp_el n so ct kn kc 9 c d q = some (c1, d1, q1) := by
                                        rw [← hR, show (9 - d1 3 0).toNat = (9 - (d1 3 0 + 1)).toNat + 1 by omega]
                                        show (if so c1 = 61 then _ else if so c1 = 59 then _ else _) = _
                                        first | rw [if_pos (by omega)] | rw [if_neg (by omega), if_pos (by omega)] | (by_cases hz : so c1 = 61; (rw [if_pos hz]); (rw [if_neg hz, if_pos (by omega)]))
                                      rw [hel, Option.bind_some]
                                      dsimp only
                                      unfold sp_we
                                      (repeat (first | rw [if_pos (by assumption)] | rw [if_neg (by assumption)] | rw [if_neg (by omega)] | rw [if_pos (by omega)]))
                                      all_goals first | rfl | ((repeat' split) <;> first | rfl | (exfalso; omega) | contradiction)
                                    · have hel : sp_el n so ct kn kc 9 c d q = none := by
                                        rw [← hR, show (9 - d1 3 0).toNat = (9 - (d1 3 0 + 1)).toNat + 1 by omega, sp_el_e1 _ (by omega) (by omega)]
                                        unfold sp_e1
                                        rw [if_neg (by omega), if_neg (by omega)]
                                        rfl
                                      rw [hel]
                                      rfl
                              · skip
                                have c3505 : (so c1 = 61) := c3505
                                exact (show False by first | contradiction | omega).elim
                          · skip
                            have c3493 : ¬ (¬ (X_en d1 q1) = 0) := c3493
                            refine T_p xr_157_271 xn_157 (pc' := 272) (ls' := [(3, .int (iI (bI (part)))), (1, .int (iI wi)), (2, .int (iI col)), (0, .ref 530)]) (st' := [.ref 530]) rfl ?_
                            refine T_p xr_157_272 xn_157 (pc' := 273) (ls' := [(3, .int (iI (bI (part)))), (1, .int (iI wi)), (2, .int (iI col)), (0, .ref 530)]) (st' := [.int (iI 2), .ref 530]) rfl ?_
                            refine T_p xr_157_273 xn_157 (pc' := 274) (ls' := [(3, .int (iI (bI (part)))), (1, .int (iI wi)), (2, .int (iI col)), (0, .ref 530)]) (st' := [.int (iI col), .int (iI 2), .ref 530]) rfl ?_
                            refine T_cv (S := S2670) (q := 530) xr_157_274 xf_139.1 xf_139.2.1 xn_139 (as := [.int (iI 2), .int (iI col)]) (r := []) rfl hM2716 (Nat.le_of_ble_eq_true rfl) (Nat.le_of_ble_eq_true rfl) (pc' := 277) rfl (ls' := [(0, .ref 530), (1, .int (iI 2)), (2, .int (iI col))]) rfl ?_
                            refine T_mono (r_fails sc S2670 (X_ou (X_ou (X_ou (X_ou (X_ou (X_ou o 6 g1) 7 at1) 8 en1) 9 tk1) 10 nu1) 11 dg1) nm1 2 col hM2716 (show 0 ≤ (o 5) ∧ (o 5) ≤ 5 from by omega) (by omega)) (fun v3563 S3564 h3565 => ?_)
                            rcases h3565 with ⟨f3566, g3567, hv3568, hp3569, hM3570, hf3571⟩
                            rw [hv3568]
                            have h3572 : S3564.1 530 = .inr (11, [.ref 531, .int (iI (o 1)), .ref 532, .int (iI (o 3)), .int (iI (o 4)), .int (iI f3566), .int (iI g3567), .int (iI at1), .int (iI en1), .int (iI tk1), .int (iI nu1), .int (iI dg1), .long nm1, .ref 533, .ref 534, .ref 535, .ref 536, .ref 537, .ref 538, .ref 539, .ref 540, .ref 541, .ref 542, .ref 543, .ref 544, .ref 545, .ref 546, .ref 547, .int (iI (o 28)), .int (iI (o 29)), .int (iI (o 30)), .int (iI (o 31)), .int (iI (o 32)), .int (iI (o 33)), .ref 548, .ref 549, .ref 550, .ref 551, .int (iI (o 38)), .ref 552, .ref 553, .ref 554, .ref 555, .ref 556, .ref 557, .ref 558, .ref 559, .ref 560, .ref 561, .int (iI (o 49)), .ref 562, .ref 563, .ref 564, .ref 565, .ref 566, .ref 567, .ref 568, .ref 569, .int (iI (o 58)), .ref 570, .ref 571, .ref 572, .ref 573, .ref 574, .ref 575, .ref 576, .ref 577, .ref 578, .int (iI (o 68)), .int (iI (o 69)), .int (iI (o 70)), .ref 579]) := hM3570
                            have hp3569 : ((o 5) = 0 → f3566 = 2) ∧ (¬ (o 5) = 0 → f3566 = (o 5)) := hp3569
                            have hf3573 : f3566 = 2 := hp3569.1 h5
                            show X_T sc 157 (277, [(3, .int (iI (bI (part)))), (1, .int (iI wi)), (2, .int (iI col)), (0, .ref 530)], [], S3564) _
                            refine T_p xr_157_277 xn_157 (pc' := 278) (ls' := [(3, .int (iI (bI (part)))), (1, .int (iI wi)), (2, .int (iI col)), (0, .ref 530)]) (st' := [.ref 530]) rfl ?_
                            refine T_cv (S := S3564) (q := 530) xr_157_278 xf_140.1 xf_140.2.1 xn_140 (as := []) (r := []) rfl h3572 (Nat.le_of_ble_eq_true rfl) (Nat.le_of_ble_eq_true rfl) (pc' := 281) rfl (ls' := [(0, .ref 530)]) rfl ?_
                            refine T_mono (r_isGood sc S3564 (X_ou (X_ou (X_ou (X_ou (X_ou (X_ou (X_ou o 5 f3566) 6 g3567) 7 at1) 8 en1) 9 tk1) 10 nu1) 11 dg1) nm1 h3572 (show 0 ≤ f3566 ∧ f3566 ≤ 5 from by omega)) (fun v3574 S3575 h3576 => ?_)
                            rcases h3576 with ⟨hv3577, hf3578⟩
                            rw [hv3577]
                            rw [hf3578]
                            show X_T sc 157 (281, [(3, .int (iI (bI (part)))), (1, .int (iI wi)), (2, .int (iI col)), (0, .ref 530)], [.int (iI (bI (f3566 = 0)))], S3564) _
                            refine T_bif_eq xr_157_281 (t := 302) (pc' := 284) rfl rfl (fun c3579 => ?_) (fun c3579 => ?_)
                            · skip
                              have c3579 : ¬ (f3566 = 0) := c3579
                              refine T_p xr_157_302 xn_157 (pc' := 303) (ls' := [(3, .int (iI (bI (part)))), (1, .int (iI wi)), (2, .int (iI col)), (0, .ref 530)]) (st' := [.ref 530]) rfl ?_
                              refine T_p xr_157_303 xn_157 (pc' := 304) (ls' := [(3, .int (iI (bI (part)))), (1, .int (iI wi)), (2, .int (iI col)), (0, .ref 530)]) (st' := [.ref 530, .ref 530]) rfl ?_
                              refine T_get xr_157_304 h3572 rfl (v := .int (iI (o 30))) rfl (pc' := 307) rfl ?_
                              refine T_p xr_157_307 xn_157 (pc' := 308) (ls' := [(3, .int (iI (bI (part)))), (1, .int (iI wi)), (2, .int (iI col)), (0, .ref 530)]) (st' := [.int (iI 1), .int (iI (o 30)), .ref 530]) rfl ?_
                              refine T_ziadd xr_157_308 (z := (o 30) + 1) rfl (pc' := 309) rfl ?_
                              refine T_ie (y := iI (wc + 1)) (by rw [hwc]) ?_
                              refine T_put xr_157_309 h3572 rfl (Nat.le_of_ble_eq_true rfl) rfl (fs' := [.ref 531, .int (iI (o 1)), .ref 532, .int (iI (o 3)), .int (iI (o 4)), .int (iI f3566), .int (iI g3567), .int (iI at1), .int (iI en1), .int (iI tk1), .int (iI nu1), .int (iI dg1), .long nm1, .ref 533, .ref 534, .ref 535, .ref 536, .ref 537, .ref 538, .ref 539, .ref 540, .ref 541, .ref 542, .ref 543, .ref 544, .ref 545, .ref 546, .ref 547, .int (iI (o 28)), .int (iI (o 29)), .int (iI (wc + 1)), .int (iI (o 31)), .int (iI (o 32)), .int (iI (o 33)), .ref 548, .ref 549, .ref 550, .ref 551, .int (iI (o 38)), .ref 552, .ref 553, .ref 554, .ref 555, .ref 556, .ref 557, .ref 558, .ref 559, .ref 560, .ref 561, .int (iI (o 49)), .ref 562, .ref 563, .ref 564, .ref 565, .ref 566, .ref 567, .ref 568, .ref 569, .int (iI (o 58)), .ref 570, .ref 571, .ref 572, .ref 573, .ref 574, .ref 575, .ref 576, .ref 577, .ref 578, .int (iI (o 68)), .int (iI (o 69)), .int (iI (o 70)), .ref 579]) rfl (pc' := 312) rfl (fun S3580 h3581 n3582 e3583 => ?_)
                              refine T_p xr_157_312 xn_157 (pc' := 313) (ls' := [(3, .int (iI (bI (part)))), (1, .int (iI wi)), (2, .int (iI col)), (0, .ref 530)]) (st' := [.ref 530]) rfl ?_
                              refine T_cv (S := S3580) (q := 530) xr_157_313 xf_140.1 xf_140.2.1 xn_140 (as := []) (r := []) rfl h3581 (Nat.le_of_ble_eq_true rfl) (Nat.le_of_ble_eq_true rfl) (pc' := 316) rfl (ls' := [(0, .ref 530)]) rfl ?_
                              refine T_mono (r_isGood sc S3580 (X_ou (X_ou (X_ou (X_ou (X_ou (X_ou (X_ou (X_ou o 5 f3566) 6 g3567) 7 at1) 8 en1) 9 tk1) 10 nu1) 11 dg1) 30 (wc + 1)) nm1 h3581 (show 0 ≤ f3566 ∧ f3566 ≤ 5 from by omega)) (fun v3584 S3585 h3586 => ?_)
                              rcases h3586 with ⟨hv3587, hf3588⟩
                              rw [hv3587]
                              rw [hf3588]
                              show X_T sc 157 (316, [(3, .int (iI (bI (part)))), (1, .int (iI wi)), (2, .int (iI col)), (0, .ref 530)], [.int (iI (bI (f3566 = 0)))], S3580) _
                              refine T_bif_eq xr_157_316 (t := 325) (pc' := 319) rfl rfl (fun c3589 => ?_) (fun c3589 => ?_)
                              · skip
                                have c3589 : ¬ (f3566 = 0) := c3589
                                refine T_vret xr_157_325 xf_157.2.2 ?_
                                refine hQ _ _ ?_
                                have h3590 := (n3582 537 (by decide)).trans ((hf3571.1 537 (by first | decide | omega)).trans ((hF2669.1 537 (by first | decide | omega)).trans (hA537)))
                                have h3591 := (n3582 538 (by decide)).trans ((hf3571.1 538 (by first | decide | omega)).trans (h3416))
                                have h3592 := (n3582 539 (by decide)).trans ((hf3571.1 539 (by first | decide | omega)).trans ((hF2669.1 539 (by first | decide | omega)).trans (hA539)))
                                have h3593 := (n3582 540 (by decide)).trans ((hf3571.1 540 (by first | decide | omega)).trans (hA1))
                                have h3594 := (n3582 541 (by decide)).trans ((hf3571.1 541 (by first | decide | omega)).trans (hA2))
                                have h3595 := (n3582 542 (by decide)).trans ((hf3571.1 542 (by first | decide | omega)).trans ((hF2669.1 542 (by first | decide | omega)).trans (hA542)))
                                have h3596 := (n3582 543 (by decide)).trans ((hf3571.1 543 (by first | decide | omega)).trans ((hF2669.1 543 (by first | decide | omega)).trans (hA543)))
                                have h3597 := (n3582 544 (by decide)).trans ((hf3571.1 544 (by first | decide | omega)).trans ((hF2669.1 544 (by first | decide | omega)).trans (hA544)))
                                have h3598 := (n3582 545 (by decide)).trans ((hf3571.1 545 (by first | decide | omega)).trans (hA3))
                                have h3599 := (n3582 546 (by decide)).trans ((hf3571.1 546 (by first | decide | omega)).trans (hA4))
                                have h3600 := (n3582 547 (by decide)).trans ((hf3571.1 547 (by first | decide | omega)).trans (hA5))
                                refine Or.inr ⟨at1, en1, tk1, nu1, dg1, nm1, wc + 1, f3566, g3567, wR, wL, wK, wM1, wH1, wS, sO, sN, eP1, eH1, hK1, rfl, by omega, ?_, R_ob.rf, R_ob.rf, R_ob.rf, by exact hob4, by exact hob5, R_ob.rf, R_ob.rf, R_ob.rf, by exact hob9, by exact hob10, by exact hob11, h3581, h3590, h3591, h3592, h3593, h3594, h3595, h3596, h3597, h3598, h3599, h3600, (((X_Fr.rf).tr (X_Fr.mono ⟨hF2669.1, hF2669.2⟩ (fun q hq => by first | exact hq | (rcases hq with rfl <;> decide) | (rcases hq with rfl | rfl <;> decide) | (rcases hq with rfl | rfl | rfl <;> decide) | (rcases hq with rfl | rfl | rfl | rfl <;> decide) | (rcases hq with rfl | rfl | rfl | rfl | rfl <;> decide) | (rcases hq with rfl | rfl | rfl | rfl | rfl | rfl <;> decide) | (rcases hq with rfl | rfl | rfl | rfl | rfl | rfl | rfl <;> decide) | omega))).tr (X_Fr.mono ⟨hf3571.1, hf3571.2⟩ (fun q hq => by first | exact hq | (rcases hq with rfl <;> decide) | (rcases hq with rfl | rfl <;> decide) | (rcases hq with rfl | rfl | rfl <;> decide) | (rcases hq with rfl | rfl | rfl | rfl <;> decide) | (rcases hq with rfl | rfl | rfl | rfl | rfl <;> decide) | (rcases hq with rfl | rfl | rfl | rfl | rfl | rfl <;> decide) | (rcases hq with rfl | rfl | rfl | rfl | rfl | rfl | rfl <;> decide) | omega))).tr (X_Fr.of n3582 e3583 (by first | decide | exact ⟨Nat.le_add_right _ _, Nat.add_le_add_left (by decide) _⟩ | omega))⟩
                                by_cases h61 : so c1 = 61 ∨ so c1 = 59
                                · have hel : sp_el n so ct kn kc 9 c d q = some (c1, d1, q1) := by
                                    rw [← hR, show (9 - d1 3 0).toNat = (9 - (d1 3 0 + 1)).toNat + 1 by omega]
                                    show (if so c1 = 61 then _ else if so c1 = 59 then _ else _) = _
                                    first | rw [if_pos (by omega)] | rw [if_neg (by omega), if_pos (by omega)] | (by_cases hz : so c1 = 61; (rw [if_pos hz]); (rw [if_neg hz, if_pos (by omega)]))
                                  rw [hel, Option.bind_some]
                                  dsimp only
                                  unfold sp_we
                                  (repeat (first | rw [if_pos (by assumption)] | rw [if_neg (by assumption)] | rw [if_neg (by omega)] | rw [if_pos (by omega)]))
                                  all_goals first | rfl | ((repeat' split) <;> first | rfl | (exfalso; omega) | contradiction)
                                · have hel : sp_el n so ct kn kc 9 c d q = none := by
                                    rw [← hR, show (9 - d1 3 0).toNat = (9 - (d1 3 0 + 1)).toNat + 1 by omega, sp_el_e1 _ (by omega) (by omega)]
                                    unfold sp_e1
                                    rw [if_neg (by omega), if_neg (by omega)]
                                    rfl
                                  rw [hel]
                                  rfl
                              · skip
                                have c3589 : (f3566 = 0) := c3589
                                exact (show False by first | contradiction | omega).elim
                            · skip
                              have c3579 : (f3566 = 0) := c3579
                              exact (show False by first | contradiction | omega).elim
                    · skip
                      have c3409 : ¬ (so c1 = 59) := c3409
                      refine T_p xr_157_243 xn_157 (pc' := 244) (ls' := [(3, .int (iI (bI (part)))), (1, .int (iI wi)), (2, .int (iI col)), (0, .ref 530)]) (st' := [.ref 530]) rfl ?_
                      refine T_cv (S := S2670) (q := 530) xr_157_244 xf_147.1 xf_147.2.1 xn_147 (as := []) (r := []) rfl hM2716 (Nat.le_of_ble_eq_true rfl) (Nat.le_of_ble_eq_true rfl) (pc' := 247) rfl (ls' := [(0, .ref 530)]) rfl ?_
                      refine T_mono (r_wrong sc S2670 (X_ou (X_ou (X_ou (X_ou (X_ou (X_ou o 6 g1) 7 at1) 8 en1) 9 tk1) 10 nu1) 11 dg1) nm1 tx tb len n so pl ct E c1 hM2716 h2918 (show (o 3) = len from by first | assumption | omega) hl htx hX hT1 (show 0 ≤ (o 5) ∧ (o 5) ≤ 5 from by omega)) (fun v3601 S3602 h3603 => ?_)
                      rcases h3603 with ⟨f3604, g3605, hv3606, hp3607, hM3608, hf3609⟩
                      rw [hv3606]
                      have h3610 : S3602.1 530 = .inr (11, [.ref 531, .int (iI (o 1)), .ref 532, .int (iI (o 3)), .int (iI (o 4)), .int (iI f3604), .int (iI g3605), .int (iI at1), .int (iI en1), .int (iI tk1), .int (iI nu1), .int (iI dg1), .long nm1, .ref 533, .ref 534, .ref 535, .ref 536, .ref 537, .ref 538, .ref 539, .ref 540, .ref 541, .ref 542, .ref 543, .ref 544, .ref 545, .ref 546, .ref 547, .int (iI (o 28)), .int (iI (o 29)), .int (iI (o 30)), .int (iI (o 31)), .int (iI (o 32)), .int (iI (o 33)), .ref 548, .ref 549, .ref 550, .ref 551, .int (iI (o 38)), .ref 552, .ref 553, .ref 554, .ref 555, .ref 556, .ref 557, .ref 558, .ref 559, .ref 560, .ref 561, .int (iI (o 49)), .ref 562, .ref 563, .ref 564, .ref 565, .ref 566, .ref 567, .ref 568, .ref 569, .int (iI (o 58)), .ref 570, .ref 571, .ref 572, .ref 573, .ref 574, .ref 575, .ref 576, .ref 577, .ref 578, .int (iI (o 68)), .int (iI (o 69)), .int (iI (o 70)), .ref 579]) := hM3608
                      show X_T sc 157 (247, [(3, .int (iI (bI (part)))), (1, .int (iI wi)), (2, .int (iI col)), (0, .ref 530)], [], S3602) _
                      refine T_p xr_157_247 xn_157 (pc' := 248) (ls' := [(3, .int (iI (bI (part)))), (1, .int (iI wi)), (2, .int (iI col)), (0, .ref 530)]) (st' := [.ref 530]) rfl ?_
                      refine T_cv (S := S3602) (q := 530) xr_157_248 xf_140.1 xf_140.2.1 xn_140 (as := []) (r := []) rfl h3610 (Nat.le_of_ble_eq_true rfl) (Nat.le_of_ble_eq_true rfl) (pc' := 251) rfl (ls' := [(0, .ref 530)]) rfl ?_
                      refine T_mono (r_isGood sc S3602 (X_ou (X_ou (X_ou (X_ou (X_ou (X_ou (X_ou o 5 f3604) 6 g3605) 7 at1) 8 en1) 9 tk1) 10 nu1) 11 dg1) nm1 h3610 (show 0 ≤ f3604 ∧ f3604 ≤ 5 from by omega)) (fun v3611 S3612 h3613 => ?_)
                      rcases h3613 with ⟨hv3614, hf3615⟩
                      rw [hv3614]
                      rw [hf3615]
                      show X_T sc 157 (251, [(3, .int (iI (bI (part)))), (1, .int (iI wi)), (2, .int (iI col)), (0, .ref 530)], [.int (iI (bI (f3604 = 0)))], S3602) _
                      refine T_bif_eq xr_157_251 (t := 277) (pc' := 254) rfl rfl (fun c3616 => ?_) (fun c3616 => ?_)
                      · skip
                        have c3616 : ¬ (f3604 = 0) := c3616
                        refine T_p xr_157_277 xn_157 (pc' := 278) (ls' := [(3, .int (iI (bI (part)))), (1, .int (iI wi)), (2, .int (iI col)), (0, .ref 530)]) (st' := [.ref 530]) rfl ?_
                        refine T_cv (S := S3602) (q := 530) xr_157_278 xf_140.1 xf_140.2.1 xn_140 (as := []) (r := []) rfl h3610 (Nat.le_of_ble_eq_true rfl) (Nat.le_of_ble_eq_true rfl) (pc' := 281) rfl (ls' := [(0, .ref 530)]) rfl ?_
                        refine T_mono (r_isGood sc S3602 (X_ou (X_ou (X_ou (X_ou (X_ou (X_ou (X_ou o 5 f3604) 6 g3605) 7 at1) 8 en1) 9 tk1) 10 nu1) 11 dg1) nm1 h3610 (show 0 ≤ f3604 ∧ f3604 ≤ 5 from by omega)) (fun v3617 S3618 h3619 => ?_)
                        rcases h3619 with ⟨hv3620, hf3621⟩
                        rw [hv3620]
                        rw [hf3621]
                        show X_T sc 157 (281, [(3, .int (iI (bI (part)))), (1, .int (iI wi)), (2, .int (iI col)), (0, .ref 530)], [.int (iI (bI (f3604 = 0)))], S3602) _
                        refine T_bif_eq xr_157_281 (t := 302) (pc' := 284) rfl rfl (fun c3622 => ?_) (fun c3622 => ?_)
                        · skip
                          have c3622 : ¬ (f3604 = 0) := c3622
                          refine T_p xr_157_302 xn_157 (pc' := 303) (ls' := [(3, .int (iI (bI (part)))), (1, .int (iI wi)), (2, .int (iI col)), (0, .ref 530)]) (st' := [.ref 530]) rfl ?_
                          refine T_p xr_157_303 xn_157 (pc' := 304) (ls' := [(3, .int (iI (bI (part)))), (1, .int (iI wi)), (2, .int (iI col)), (0, .ref 530)]) (st' := [.ref 530, .ref 530]) rfl ?_
                          refine T_get xr_157_304 h3610 rfl (v := .int (iI (o 30))) rfl (pc' := 307) rfl ?_
                          refine T_p xr_157_307 xn_157 (pc' := 308) (ls' := [(3, .int (iI (bI (part)))), (1, .int (iI wi)), (2, .int (iI col)), (0, .ref 530)]) (st' := [.int (iI 1), .int (iI (o 30)), .ref 530]) rfl ?_
                          refine T_ziadd xr_157_308 (z := (o 30) + 1) rfl (pc' := 309) rfl ?_
                          refine T_ie (y := iI (wc + 1)) (by rw [hwc]) ?_
                          refine T_put xr_157_309 h3610 rfl (Nat.le_of_ble_eq_true rfl) rfl (fs' := [.ref 531, .int (iI (o 1)), .ref 532, .int (iI (o 3)), .int (iI (o 4)), .int (iI f3604), .int (iI g3605), .int (iI at1), .int (iI en1), .int (iI tk1), .int (iI nu1), .int (iI dg1), .long nm1, .ref 533, .ref 534, .ref 535, .ref 536, .ref 537, .ref 538, .ref 539, .ref 540, .ref 541, .ref 542, .ref 543, .ref 544, .ref 545, .ref 546, .ref 547, .int (iI (o 28)), .int (iI (o 29)), .int (iI (wc + 1)), .int (iI (o 31)), .int (iI (o 32)), .int (iI (o 33)), .ref 548, .ref 549, .ref 550, .ref 551, .int (iI (o 38)), .ref 552, .ref 553, .ref 554, .ref 555, .ref 556, .ref 557, .ref 558, .ref 559, .ref 560, .ref 561, .int (iI (o 49)), .ref 562, .ref 563, .ref 564, .ref 565, .ref 566, .ref 567, .ref 568, .ref 569, .int (iI (o 58)), .ref 570, .ref 571, .ref 572, .ref 573, .ref 574, .ref 575, .ref 576, .ref 577, .ref 578, .int (iI (o 68)), .int (iI (o 69)), .int (iI (o 70)), .ref 579]) rfl (pc' := 312) rfl (fun S3623 h3624 n3625 e3626 => ?_)
                          refine T_p xr_157_312 xn_157 (pc' := 313) (ls' := [(3, .int (iI (bI (part)))), (1, .int (iI wi)), (2, .int (iI col)), (0, .ref 530)]) (st' := [.ref 530]) rfl ?_
                          refine T_cv (S := S3623) (q := 530) xr_157_313 xf_140.1 xf_140.2.1 xn_140 (as := []) (r := []) rfl h3624 (Nat.le_of_ble_eq_true rfl) (Nat.le_of_ble_eq_true rfl) (pc' := 316) rfl (ls' := [(0, .ref 530)]) rfl ?_
                          refine T_mono (r_isGood sc S3623 (X_ou (X_ou (X_ou (X_ou (X_ou (X_ou (X_ou (X_ou o 5 f3604) 6 g3605) 7 at1) 8 en1) 9 tk1) 10 nu1) 11 dg1) 30 (wc + 1)) nm1 h3624 (show 0 ≤ f3604 ∧ f3604 ≤ 5 from by omega)) (fun v3627 S3628 h3629 => ?_)
                          rcases h3629 with ⟨hv3630, hf3631⟩
                          rw [hv3630]
                          rw [hf3631]
                          show X_T sc 157 (316, [(3, .int (iI (bI (part)))), (1, .int (iI wi)), (2, .int (iI col)), (0, .ref 530)], [.int (iI (bI (f3604 = 0)))], S3623) _
                          refine T_bif_eq xr_157_316 (t := 325) (pc' := 319) rfl rfl (fun c3632 => ?_) (fun c3632 => ?_)
                          · skip
                            have c3632 : ¬ (f3604 = 0) := c3632
                            refine T_vret xr_157_325 xf_157.2.2 ?_
                            refine hQ _ _ ?_
                            have h3633 := (n3625 537 (by decide)).trans ((hf3609.1 537 (by first | decide | omega)).trans ((hF2669.1 537 (by first | decide | omega)).trans (hA537)))
                            have h3634 := (n3625 538 (by decide)).trans ((hf3609.1 538 (by first | decide | omega)).trans ((hF2669.1 538 (by first | decide | omega)).trans (hA538)))
                            have h3635 := (n3625 539 (by decide)).trans ((hf3609.1 539 (by first | decide | omega)).trans ((hF2669.1 539 (by first | decide | omega)).trans (hA539)))
                            have h3636 := (n3625 540 (by decide)).trans ((hf3609.1 540 (by first | decide | omega)).trans (hA1))
                            have h3637 := (n3625 541 (by decide)).trans ((hf3609.1 541 (by first | decide | omega)).trans (hA2))
                            have h3638 := (n3625 542 (by decide)).trans ((hf3609.1 542 (by first | decide | omega)).trans ((hF2669.1 542 (by first | decide | omega)).trans (hA542)))
                            have h3639 := (n3625 543 (by decide)).trans ((hf3609.1 543 (by first | decide | omega)).trans ((hF2669.1 543 (by first | decide | omega)).trans (hA543)))
                            have h3640 := (n3625 544 (by decide)).trans ((hf3609.1 544 (by first | decide | omega)).trans ((hF2669.1 544 (by first | decide | omega)).trans (hA544)))
                            have h3641 := (n3625 545 (by decide)).trans ((hf3609.1 545 (by first | decide | omega)).trans (hA3))
                            have h3642 := (n3625 546 (by decide)).trans ((hf3609.1 546 (by first | decide | omega)).trans (hA4))
                            have h3643 := (n3625 547 (by decide)).trans ((hf3609.1 547 (by first | decide | omega)).trans (hA5))
                            refine Or.inr ⟨at1, en1, tk1, nu1, dg1, nm1, wc + 1, f3604, g3605, wR, wL, wK, wM1, wH1, wS, sO, sN, eP1, eH1, hK1, rfl, by omega, ?_, R_ob.rf, R_ob.rf, R_ob.rf, by exact hob4, by exact hob5, R_ob.rf, R_ob.rf, R_ob.rf, by exact hob9, by exact hob10, by exact hob11, h3624, h3633, h3634, h3635, h3636, h3637, h3638, h3639, h3640, h3641, h3642, h3643, (((X_Fr.rf).tr (X_Fr.mono ⟨hF2669.1, hF2669.2⟩ (fun q hq => by first | exact hq | (rcases hq with rfl <;> decide) | (rcases hq with rfl | rfl <;> decide) | (rcases hq with rfl | rfl | rfl <;> decide) | (rcases hq with rfl | rfl | rfl | rfl <;> decide) | (rcases hq with rfl | rfl | rfl | rfl | rfl <;> decide) | (rcases hq with rfl | rfl | rfl | rfl | rfl | rfl <;> decide) | (rcases hq with rfl | rfl | rfl | rfl | rfl | rfl | rfl <;> decide) | omega))).tr (X_Fr.mono ⟨hf3609.1, hf3609.2⟩ (fun q hq => by first | exact hq | (rcases hq with rfl <;> decide) | (rcases hq with rfl | rfl <;> decide) | (rcases hq with rfl | rfl | rfl <;> decide) | (rcases hq with rfl | rfl | rfl | rfl <;> decide) | (rcases hq with rfl | rfl | rfl | rfl | rfl <;> decide) | (rcases hq with rfl | rfl | rfl | rfl | rfl | rfl <;> decide) | (rcases hq with rfl | rfl | rfl | rfl | rfl | rfl | rfl <;> decide) | omega))).tr (X_Fr.of n3625 e3626 (by first | decide | exact ⟨Nat.le_add_right _ _, Nat.add_le_add_left (by decide) _⟩ | omega))⟩
                            by_cases h61 : so c1 = 61 ∨ so c1 = 59
                            · have hel : sp_el n so ct kn kc 9 c d q = some (c1, d1, q1) := by
                                rw [← hR, show (9 - d1 3 0).toNat = (9 - (d1 3 0 + 1)).toNat + 1 by omega]
                                show (if so c1 = 61 then _ else if so c1 = 59 then _ else _) = _
                                first | rw [if_pos (by omega)] | rw [if_neg (by omega), if_pos (by omega)] | (by_cases hz : so c1 = 61; (rw [if_pos hz]); (rw [if_neg hz, if_pos (by omega)]))
                              rw [hel, Option.bind_some]
                              dsimp only
                              unfold sp_we
                              (repeat (first | rw [if_pos (by assumption)] | rw [if_neg (by assumption)] | rw [if_neg (by omega)] | rw [if_pos (by omega)]))
                              all_goals first | rfl | ((repeat' split) <;> first | rfl | (exfalso; omega) | contradiction)
                            · have hel : sp_el n so ct kn kc 9 c d q = none := by
                                rw [← hR, show (9 - d1 3 0).toNat = (9 - (d1 3 0 + 1)).toNat + 1 by omega, sp_el_e1 _ (by omega) (by omega)]
                                unfold sp_e1
                                rw [if_neg (by omega), if_neg (by omega)]
                                rfl
                              rw [hel]
                              rfl
                          · skip
                            have c3632 : (f3604 = 0) := c3632
                            exact (show False by first | contradiction | omega).elim
                        · skip
                          have c3622 : (f3604 = 0) := c3622
                          exact (show False by first | contradiction | omega).elim
                      · skip
                        have c3616 : (f3604 = 0) := c3616
                        exact (show False by first | contradiction | omega).elim
          · skip
            have c2924 : (so c1 = 95) := c2924
            refine T_p xr_157_179 xn_157 (pc' := 180) (ls' := [(3, .int (iI (bI (part)))), (1, .int (iI wi)), (2, .int (iI col)), (0, .ref 530)]) (st' := [.int (iI (bI (part)))]) rfl ?_
            refine T_bif_ne xr_157_180 (t := 191) (pc' := 183) rfl rfl (fun c3644 => ?_) (fun c3644 => ?_)
            · skip
              have c3644 : (part) := c3644
              refine T_p xr_157_191 xn_157 (pc' := 192) (ls' := [(3, .int (iI (bI (part)))), (1, .int (iI wi)), (2, .int (iI col)), (0, .ref 530)]) (st' := [.int (iI 1)]) rfl ?_
              refine T_p xr_157_192 xn_157 (pc' := 196) (ls' := [(3, .int (iI (bI (part)))), (1, .int (iI wi)), (2, .int (iI col)), (0, .ref 530)]) (st' := [.int (iI 1)]) rfl ?_
              refine T_ie (y := iI (bI (True))) (by rw [bI_t trivial]) ?_
              have hpx : ¬ d1 4 0 = d1 3 0 := (hpt rfl).mp (by assumption)
              refine T_p xr_157_196 xn_157 (pc' := 197) (ls' := [(3, .int (iI (bI (True)))), (1, .int (iI wi)), (2, .int (iI col)), (0, .ref 530)]) (st' := []) rfl ?_
              refine T_p xr_157_197 xn_157 (pc' := 198) (ls' := [(3, .int (iI (bI (True)))), (1, .int (iI wi)), (2, .int (iI col)), (0, .ref 530)]) (st' := [.ref 530]) rfl ?_
              refine T_p xr_157_198 xn_157 (pc' := 199) (ls' := [(3, .int (iI (bI (True)))), (1, .int (iI wi)), (2, .int (iI col)), (0, .ref 530)]) (st' := [.int (iI wi), .ref 530]) rfl ?_
              refine T_cv (S := S2670) (q := 530) xr_157_199 xf_158.1 xf_158.2.1 xn_158 (as := [.int (iI wi)]) (r := []) rfl hM2716 (Nat.le_of_ble_eq_true rfl) (Nat.le_of_ble_eq_true rfl) (pc' := 202) rfl (ls' := [(0, .ref 530), (1, .int (iI wi))]) rfl ?_
              have h3645 := (hF2669.1 534 (by first | decide | omega)).trans (hA534)
              refine T_mono (r_readElement sc S2670 (X_ou (X_ou (X_ou (X_ou (X_ou (X_ou o 6 g1) 7 at1) 8 en1) 9 tk1) 10 nu1) 11 dg1) nm1 tx kN wM1 wH1 eP1 eH1 hK1 tb len n so pl ct E c1 kn kc wi d1 q1 hM2716 h2918 h3645 hA1 hA2 hA3 hA4 hA5 (show (o 3) = len from by first | assumption | omega) hl htx hX hT1 (show (o 5) = 0 from by omega) (show (o 29) = kc from by omega) (by omega) (show 0 ≤ (o 4) ∧ (o 4) ≤ 1 from by omega) hN (by omega) hE1 (by omega) (by omega) (hct _ (by omega) (by omega))) (fun v3646 S3647 h3648 => ?_)
              rcases h3648 with ⟨at3649, en3650, tk3651, nu3652, dg3653, nm3654, c3655, d3656, q3657, wM3658, wH3659, eP3660, eH3661, hK3662, hv3663, hp3664, hp3665, hp3666, hp3667, hp3668, hp3669, hp3670, hp3671, hM3672, ha3673, ha3674, ha3675, ha3676, ha3677, hf3678⟩ | ⟨at3679, en3680, tk3681, nu3682, dg3683, nm3684, f3685, g3686, wM3687, wH3688, eP3689, eH3690, hK3691, hv3692, hp3693, hp3694, hp3695, hp3696, hp3697, hp3698, hp3699, hM3700, ha3701, ha3702, ha3703, ha3704, ha3705, hf3706⟩
              · skip
                rw [hv3663]
                have h3707 : S3647.1 530 = .inr (11, [.ref 531, .int (iI (o 1)), .ref 532, .int (iI (o 3)), .int (iI (o 4)), .int (iI (o 5)), .int (iI g1), .int (iI at3649), .int (iI en3650), .int (iI tk3651), .int (iI nu3652), .int (iI dg3653), .long nm3654, .ref 533, .ref 534, .ref 535, .ref 536, .ref 537, .ref 538, .ref 539, .ref 540, .ref 541, .ref 542, .ref 543, .ref 544, .ref 545, .ref 546, .ref 547, .int (iI (o 28)), .int (iI (o 29)), .int (iI (o 30)), .int (iI (o 31)), .int (iI (o 32)), .int (iI (o 33)), .ref 548, .ref 549, .ref 550, .ref 551, .int (iI (o 38)), .ref 552, .ref 553, .ref 554, .ref 555, .ref 556, .ref 557, .ref 558, .ref 559, .ref 560, .ref 561, .int (iI (o 49)), .ref 562, .ref 563, .ref 564, .ref 565, .ref 566, .ref 567, .ref 568, .ref 569, .int (iI (o 58)), .ref 570, .ref 571, .ref 572, .ref 573, .ref 574, .ref 575, .ref 576, .ref 577, .ref 578, .int (iI (o 68)), .int (iI (o 69)), .int (iI (o 70)), .ref 579]) := hM3672
                obtain ⟨⟨_, _⟩, ⟨_, _⟩, hk3708, ⟨_, _⟩, hk3708e, ⟨_, _⟩, ⟨_, _⟩⟩ := R_tk_f hX hp3664
                have he1 := sp_e1_ok hcr.1 ⟨by omega, by omega⟩ (hct _ (by omega) (by omega)) hp3665 hok hd14
                obtain ⟨he1a, he1b, he1c, he1d, he1e, he1f, he1g⟩ := he1
                show X_T sc 157 (202, [(3, .int (iI (bI (True)))), (1, .int (iI wi)), (2, .int (iI col)), (0, .ref 530)], [], S3647) _
                refine T_p xr_157_202 xn_157 (pc' := 155) (ls' := [(3, .int (iI (bI (True)))), (1, .int (iI wi)), (2, .int (iI col)), (0, .ref 530)]) (st' := []) rfl ?_
                exact ih2666 S3647 True (o 5) g1 at3649 en3650 tk3651 nu3652 dg3653 nm3654 c3655 d3656 q3657 wM3658 wH3659 eP3660 eH3661 hK3662 h3707 ha3673 ha3674 ha3675 ha3676 ha3677 (hF2669.tr ((X_Fr.rf).tr (X_Fr.mono ⟨hf3678.1, hf3678.2⟩ (fun q hq => by first | exact hq | (rcases hq with rfl <;> decide) | (rcases hq with rfl | rfl <;> decide) | (rcases hq with rfl | rfl | rfl <;> decide) | (rcases hq with rfl | rfl | rfl | rfl <;> decide) | (rcases hq with rfl | rfl | rfl | rfl | rfl <;> decide) | (rcases hq with rfl | rfl | rfl | rfl | rfl | rfl <;> decide) | (rcases hq with rfl | rfl | rfl | rfl | rfl | rfl | rfl <;> decide) | omega)))) (by omega) (fun _ => ⟨hp3664, hp3666, (by
                      rw [← hR, show (9 - d1 3 0).toNat = (9 - (d1 3 0 + 1)).toNat + 1 by omega, sp_el_e1 _ (by omega) (by omega), hp3665, he1d]
                      rfl), he1a, he1c, fun f f1 f2 f3 f4 => (he1b f f1 f2 f3 f4).trans (hfd f f1 f2 f3 f4)⟩) (fun z => absurd h5 z) (hob4.tr hp3667) (hob5.tr hp3668) (hob9.tr hp3669) (hob10.tr hp3670) (hob11.tr hp3671) (fun _ => ⟨fun _ => by omega, fun _ => trivial⟩) (by omega)
              · skip
                rw [hv3692]
                have h3709 : S3647.1 530 = .inr (11, [.ref 531, .int (iI (o 1)), .ref 532, .int (iI (o 3)), .int (iI (o 4)), .int (iI f3685), .int (iI g3686), .int (iI at3679), .int (iI en3680), .int (iI tk3681), .int (iI nu3682), .int (iI dg3683), .long nm3684, .ref 533, .ref 534, .ref 535, .ref 536, .ref 537, .ref 538, .ref 539, .ref 540, .ref 541, .ref 542, .ref 543, .ref 544, .ref 545, .ref 546, .ref 547, .int (iI (o 28)), .int (iI (o 29)), .int (iI (o 30)), .int (iI (o 31)), .int (iI (o 32)), .int (iI (o 33)), .ref 548, .ref 549, .ref 550, .ref 551, .int (iI (o 38)), .ref 552, .ref 553, .ref 554, .ref 555, .ref 556, .ref 557, .ref 558, .ref 559, .ref 560, .ref 561, .int (iI (o 49)), .ref 562, .ref 563, .ref 564, .ref 565, .ref 566, .ref 567, .ref 568, .ref 569, .int (iI (o 58)), .ref 570, .ref 571, .ref 572, .ref 573, .ref 574, .ref 575, .ref 576, .ref 577, .ref 578, .int (iI (o 68)), .int (iI (o 69)), .int (iI (o 70)), .ref 579]) := hM3700
                show X_T sc 157 (202, [(3, .int (iI (bI (True)))), (1, .int (iI wi)), (2, .int (iI col)), (0, .ref 530)], [], S3647) _
                refine T_p xr_157_202 xn_157 (pc' := 155) (ls' := [(3, .int (iI (bI (True)))), (1, .int (iI wi)), (2, .int (iI col)), (0, .ref 530)]) (st' := []) rfl ?_
                exact ih2666 S3647 True f3685 g3686 at3679 en3680 tk3681 nu3682 dg3683 nm3684 c1 d1 q1 wM3687 wH3688 eP3689 eH3690 hK3691 h3709 ha3701 ha3702 ha3703 ha3704 ha3705 (hF2669.tr ((X_Fr.rf).tr (X_Fr.mono ⟨hf3706.1, hf3706.2⟩ (fun q hq => by first | exact hq | (rcases hq with rfl <;> decide) | (rcases hq with rfl | rfl <;> decide) | (rcases hq with rfl | rfl | rfl <;> decide) | (rcases hq with rfl | rfl | rfl | rfl <;> decide) | (rcases hq with rfl | rfl | rfl | rfl | rfl <;> decide) | (rcases hq with rfl | rfl | rfl | rfl | rfl | rfl <;> decide) | (rcases hq with rfl | rfl | rfl | rfl | rfl | rfl | rfl <;> decide) | omega)))) (by omega) (fun z => absurd z (by omega)) (fun _ => by
                      rw [← hR, show (9 - d1 3 0).toNat = (9 - (d1 3 0 + 1)).toNat + 1 by omega, sp_el_e1 _ (by omega) (by omega), hp3694]
                      rfl) (hob4.tr hp3695) (hob5.tr hp3696) (hob9.tr hp3697) (hob10.tr hp3698) (hob11.tr hp3699) (fun z => absurd z (by omega)) (by omega)
            · skip
              have c3644 : ¬ (part) := c3644
              refine T_p xr_157_183 xn_157 (pc' := 184) (ls' := [(3, .int (iI (bI (part)))), (1, .int (iI wi)), (2, .int (iI col)), (0, .ref 530)]) (st' := [.ref 530]) rfl ?_
              refine T_get xr_157_184 hM2716 rfl (v := .int (iI tk1)) rfl (pc' := 187) rfl ?_
              refine T_p xr_157_187 xn_157 (pc' := 188) (ls' := [(3, .int (iI (bI (part)))), (1, .int (iI wi)), (2, .int (iI col)), (0, .ref 530)]) (st' := [.int (iI 5), .int (iI tk1)]) rfl ?_
              refine T_zicmp_ne xr_157_188 (t := 195) (pc' := 191) rfl rfl (fun c3710 => ?_) (fun c3710 => ?_)
              · skip
                have c3710 : ¬ tk1 = 5 := c3710
                refine T_p xr_157_195 xn_157 (pc' := 196) (ls' := [(3, .int (iI (bI (part)))), (1, .int (iI wi)), (2, .int (iI col)), (0, .ref 530)]) (st' := [.int (iI 0)]) rfl ?_
                refine T_ie (y := iI (bI (False))) (by rw [bI_f (fun h => h)]) ?_
                have hpx : d1 4 0 = d1 3 0 := Classical.not_not.mp (fun z => absurd ((hpt rfl).mpr z) (by assumption))
                refine T_p xr_157_196 xn_157 (pc' := 197) (ls' := [(3, .int (iI (bI (False)))), (1, .int (iI wi)), (2, .int (iI col)), (0, .ref 530)]) (st' := []) rfl ?_
                refine T_p xr_157_197 xn_157 (pc' := 198) (ls' := [(3, .int (iI (bI (False)))), (1, .int (iI wi)), (2, .int (iI col)), (0, .ref 530)]) (st' := [.ref 530]) rfl ?_
                refine T_p xr_157_198 xn_157 (pc' := 199) (ls' := [(3, .int (iI (bI (False)))), (1, .int (iI wi)), (2, .int (iI col)), (0, .ref 530)]) (st' := [.int (iI wi), .ref 530]) rfl ?_
                refine T_cv (S := S2670) (q := 530) xr_157_199 xf_158.1 xf_158.2.1 xn_158 (as := [.int (iI wi)]) (r := []) rfl hM2716 (Nat.le_of_ble_eq_true rfl) (Nat.le_of_ble_eq_true rfl) (pc' := 202) rfl (ls' := [(0, .ref 530), (1, .int (iI wi))]) rfl ?_
                have h3711 := (hF2669.1 534 (by first | decide | omega)).trans (hA534)
                refine T_mono (r_readElement sc S2670 (X_ou (X_ou (X_ou (X_ou (X_ou (X_ou o 6 g1) 7 at1) 8 en1) 9 tk1) 10 nu1) 11 dg1) nm1 tx kN wM1 wH1 eP1 eH1 hK1 tb len n so pl ct E c1 kn kc wi d1 q1 hM2716 h2918 h3711 hA1 hA2 hA3 hA4 hA5 (show (o 3) = len from by first | assumption | omega) hl htx hX hT1 (show (o 5) = 0 from by omega) (show (o 29) = kc from by omega) (by omega) (show 0 ≤ (o 4) ∧ (o 4) ≤ 1 from by omega) hN (by omega) hE1 (by omega) (by omega) (hct _ (by omega) (by omega))) (fun v3712 S3713 h3714 => ?_)
                rcases h3714 with ⟨at3715, en3716, tk3717, nu3718, dg3719, nm3720, c3721, d3722, q3723, wM3724, wH3725, eP3726, eH3727, hK3728, hv3729, hp3730, hp3731, hp3732, hp3733, hp3734, hp3735, hp3736, hp3737, hM3738, ha3739, ha3740, ha3741, ha3742, ha3743, hf3744⟩ | ⟨at3745, en3746, tk3747, nu3748, dg3749, nm3750, f3751, g3752, wM3753, wH3754, eP3755, eH3756, hK3757, hv3758, hp3759, hp3760, hp3761, hp3762, hp3763, hp3764, hp3765, hM3766, ha3767, ha3768, ha3769, ha3770, ha3771, hf3772⟩
                · skip
                  rw [hv3729]
                  have h3773 : S3713.1 530 = .inr (11, [.ref 531, .int (iI (o 1)), .ref 532, .int (iI (o 3)), .int (iI (o 4)), .int (iI (o 5)), .int (iI g1), .int (iI at3715), .int (iI en3716), .int (iI tk3717), .int (iI nu3718), .int (iI dg3719), .long nm3720, .ref 533, .ref 534, .ref 535, .ref 536, .ref 537, .ref 538, .ref 539, .ref 540, .ref 541, .ref 542, .ref 543, .ref 544, .ref 545, .ref 546, .ref 547, .int (iI (o 28)), .int (iI (o 29)), .int (iI (o 30)), .int (iI (o 31)), .int (iI (o 32)), .int (iI (o 33)), .ref 548, .ref 549, .ref 550, .ref 551, .int (iI (o 38)), .ref 552, .ref 553, .ref 554, .ref 555, .ref 556, .ref 557, .ref 558, .ref 559, .ref 560, .ref 561, .int (iI (o 49)), .ref 562, .ref 563, .ref 564, .ref 565, .ref 566, .ref 567, .ref 568, .ref 569, .int (iI (o 58)), .ref 570, .ref 571, .ref 572, .ref 573, .ref 574, .ref 575, .ref 576, .ref 577, .ref 578, .int (iI (o 68)), .int (iI (o 69)), .int (iI (o 70)), .ref 579]) := hM3738
                  obtain ⟨⟨_, _⟩, ⟨_, _⟩, hk3774, ⟨_, _⟩, hk3774e, ⟨_, _⟩, ⟨_, _⟩⟩ := R_tk_f hX hp3730
                  have he1 := sp_e1_ok hcr.1 ⟨by omega, by omega⟩ (hct _ (by omega) (by omega)) hp3731 hok hd14
                  obtain ⟨he1a, he1b, he1c, he1d, he1e, he1f, he1g⟩ := he1
                  show X_T sc 157 (202, [(3, .int (iI (bI (False)))), (1, .int (iI wi)), (2, .int (iI col)), (0, .ref 530)], [], S3713) _
                  refine T_p xr_157_202 xn_157 (pc' := 155) (ls' := [(3, .int (iI (bI (False)))), (1, .int (iI wi)), (2, .int (iI col)), (0, .ref 530)]) (st' := []) rfl ?_
                  exact ih2666 S3713 False (o 5) g1 at3715 en3716 tk3717 nu3718 dg3719 nm3720 c3721 d3722 q3723 wM3724 wH3725 eP3726 eH3727 hK3728 h3773 ha3739 ha3740 ha3741 ha3742 ha3743 (hF2669.tr ((X_Fr.rf).tr (X_Fr.mono ⟨hf3744.1, hf3744.2⟩ (fun q hq => by first | exact hq | (rcases hq with rfl <;> decide) | (rcases hq with rfl | rfl <;> decide) | (rcases hq with rfl | rfl | rfl <;> decide) | (rcases hq with rfl | rfl | rfl | rfl <;> decide) | (rcases hq with rfl | rfl | rfl | rfl | rfl <;> decide) | (rcases hq with rfl | rfl | rfl | rfl | rfl | rfl <;> decide) | (rcases hq with rfl | rfl | rfl | rfl | rfl | rfl | rfl <;> decide) | omega)))) (by omega) (fun _ => ⟨hp3730, hp3732, (by
                        rw [← hR, show (9 - d1 3 0).toNat = (9 - (d1 3 0 + 1)).toNat + 1 by omega, sp_el_e1 _ (by omega) (by omega), hp3731, he1d]
                        rfl), he1a, he1c, fun f f1 f2 f3 f4 => (he1b f f1 f2 f3 f4).trans (hfd f f1 f2 f3 f4)⟩) (fun z => absurd h5 z) (hob4.tr hp3733) (hob5.tr hp3734) (hob9.tr hp3735) (hob10.tr hp3736) (hob11.tr hp3737) (fun _ => ⟨fun z => z.elim, fun z => absurd (by omega) z⟩) (by omega)
                · skip
                  rw [hv3758]
                  have h3775 : S3713.1 530 = .inr (11, [.ref 531, .int (iI (o 1)), .ref 532, .int (iI (o 3)), .int (iI (o 4)), .int (iI f3751), .int (iI g3752), .int (iI at3745), .int (iI en3746), .int (iI tk3747), .int (iI nu3748), .int (iI dg3749), .long nm3750, .ref 533, .ref 534, .ref 535, .ref 536, .ref 537, .ref 538, .ref 539, .ref 540, .ref 541, .ref 542, .ref 543, .ref 544, .ref 545, .ref 546, .ref 547, .int (iI (o 28)), .int (iI (o 29)), .int (iI (o 30)), .int (iI (o 31)), .int (iI (o 32)), .int (iI (o 33)), .ref 548, .ref 549, .ref 550, .ref 551, .int (iI (o 38)), .ref 552, .ref 553, .ref 554, .ref 555, .ref 556, .ref 557, .ref 558, .ref 559, .ref 560, .ref 561, .int (iI (o 49)), .ref 562, .ref 563, .ref 564, .ref 565, .ref 566, .ref 567, .ref 568, .ref 569, .int (iI (o 58)), .ref 570, .ref 571, .ref 572, .ref 573, .ref 574, .ref 575, .ref 576, .ref 577, .ref 578, .int (iI (o 68)), .int (iI (o 69)), .int (iI (o 70)), .ref 579]) := hM3766
                  show X_T sc 157 (202, [(3, .int (iI (bI (False)))), (1, .int (iI wi)), (2, .int (iI col)), (0, .ref 530)], [], S3713) _
                  refine T_p xr_157_202 xn_157 (pc' := 155) (ls' := [(3, .int (iI (bI (False)))), (1, .int (iI wi)), (2, .int (iI col)), (0, .ref 530)]) (st' := []) rfl ?_
                  exact ih2666 S3713 False f3751 g3752 at3745 en3746 tk3747 nu3748 dg3749 nm3750 c1 d1 q1 wM3753 wH3754 eP3755 eH3756 hK3757 h3775 ha3767 ha3768 ha3769 ha3770 ha3771 (hF2669.tr ((X_Fr.rf).tr (X_Fr.mono ⟨hf3772.1, hf3772.2⟩ (fun q hq => by first | exact hq | (rcases hq with rfl <;> decide) | (rcases hq with rfl | rfl <;> decide) | (rcases hq with rfl | rfl | rfl <;> decide) | (rcases hq with rfl | rfl | rfl | rfl <;> decide) | (rcases hq with rfl | rfl | rfl | rfl | rfl <;> decide) | (rcases hq with rfl | rfl | rfl | rfl | rfl | rfl <;> decide) | (rcases hq with rfl | rfl | rfl | rfl | rfl | rfl | rfl <;> decide) | omega)))) (by omega) (fun z => absurd z (by omega)) (fun _ => by
                        rw [← hR, show (9 - d1 3 0).toNat = (9 - (d1 3 0 + 1)).toNat + 1 by omega, sp_el_e1 _ (by omega) (by omega), hp3760]
                        rfl) (hob4.tr hp3761) (hob5.tr hp3762) (hob9.tr hp3763) (hob10.tr hp3764) (hob11.tr hp3765) (fun z => absurd z (by omega)) (by omega)
              · skip
                have c3710 : ¬ (¬ tk1 = 5) := c3710
                refine T_p xr_157_191 xn_157 (pc' := 192) (ls' := [(3, .int (iI (bI (part)))), (1, .int (iI wi)), (2, .int (iI col)), (0, .ref 530)]) (st' := [.int (iI 1)]) rfl ?_
                refine T_p xr_157_192 xn_157 (pc' := 196) (ls' := [(3, .int (iI (bI (part)))), (1, .int (iI wi)), (2, .int (iI col)), (0, .ref 530)]) (st' := [.int (iI 1)]) rfl ?_
                refine T_ie (y := iI (bI (True))) (by rw [bI_t trivial]) ?_
                have hpx : d1 4 0 = d1 3 0 := Classical.not_not.mp (fun z => absurd ((hpt rfl).mpr z) (by assumption))
                refine T_p xr_157_196 xn_157 (pc' := 197) (ls' := [(3, .int (iI (bI (True)))), (1, .int (iI wi)), (2, .int (iI col)), (0, .ref 530)]) (st' := []) rfl ?_
                refine T_p xr_157_197 xn_157 (pc' := 198) (ls' := [(3, .int (iI (bI (True)))), (1, .int (iI wi)), (2, .int (iI col)), (0, .ref 530)]) (st' := [.ref 530]) rfl ?_
                refine T_p xr_157_198 xn_157 (pc' := 199) (ls' := [(3, .int (iI (bI (True)))), (1, .int (iI wi)), (2, .int (iI col)), (0, .ref 530)]) (st' := [.int (iI wi), .ref 530]) rfl ?_
                refine T_cv (S := S2670) (q := 530) xr_157_199 xf_158.1 xf_158.2.1 xn_158 (as := [.int (iI wi)]) (r := []) rfl hM2716 (Nat.le_of_ble_eq_true rfl) (Nat.le_of_ble_eq_true rfl) (pc' := 202) rfl (ls' := [(0, .ref 530), (1, .int (iI wi))]) rfl ?_
                have h3776 := (hF2669.1 534 (by first | decide | omega)).trans (hA534)
                refine T_mono (r_readElement sc S2670 (X_ou (X_ou (X_ou (X_ou (X_ou (X_ou o 6 g1) 7 at1) 8 en1) 9 tk1) 10 nu1) 11 dg1) nm1 tx kN wM1 wH1 eP1 eH1 hK1 tb len n so pl ct E c1 kn kc wi d1 q1 hM2716 h2918 h3776 hA1 hA2 hA3 hA4 hA5 (show (o 3) = len from by first | assumption | omega) hl htx hX hT1 (show (o 5) = 0 from by omega) (show (o 29) = kc from by omega) (by omega) (show 0 ≤ (o 4) ∧ (o 4) ≤ 1 from by omega) hN (by omega) hE1 (by omega) (by omega) (hct _ (by omega) (by omega))) (fun v3777 S3778 h3779 => ?_)
                rcases h3779 with ⟨at3780, en3781, tk3782, nu3783, dg3784, nm3785, c3786, d3787, q3788, wM3789, wH3790, eP3791, eH3792, hK3793, hv3794, hp3795, hp3796, hp3797, hp3798, hp3799, hp3800, hp3801, hp3802, hM3803, ha3804, ha3805, ha3806, ha3807, ha3808, hf3809⟩ | ⟨at3810, en3811, tk3812, nu3813, dg3814, nm3815, f3816, g3817, wM3818, wH3819, eP3820, eH3821, hK3822, hv3823, hp3824, hp3825, hp3826, hp3827, hp3828, hp3829, hp3830, hM3831, ha3832, ha3833, ha3834, ha3835, ha3836, hf3837⟩
                · skip
                  rw [hv3794]
                  have h3838 : S3778.1 530 = .inr (11, [.ref 531, .int (iI (o 1)), .ref 532, .int (iI (o 3)), .int (iI (o 4)), .int (iI (o 5)), .int (iI g1), .int (iI at3780), .int (iI en3781), .int (iI tk3782), .int (iI nu3783), .int (iI dg3784), .long nm3785, .ref 533, .ref 534, .ref 535, .ref 536, .ref 537, .ref 538, .ref 539, .ref 540, .ref 541, .ref 542, .ref 543, .ref 544, .ref 545, .ref 546, .ref 547, .int (iI (o 28)), .int (iI (o 29)), .int (iI (o 30)), .int (iI (o 31)), .int (iI (o 32)), .int (iI (o 33)), .ref 548, .ref 549, .ref 550, .ref 551, .int (iI (o 38)), .ref 552, .ref 553, .ref 554, .ref 555, .ref 556, .ref 557, .ref 558, .ref 559, .ref 560, .ref 561, .int (iI (o 49)), .ref 562, .ref 563, .ref 564, .ref 565, .ref 566, .ref 567, .ref 568, .ref 569, .int (iI (o 58)), .ref 570, .ref 571, .ref 572, .ref 573, .ref 574, .ref 575, .ref 576, .ref 577, .ref 578, .int (iI (o 68)), .int (iI (o 69)), .int (iI (o 70)), .ref 579]) := hM3803
                  obtain ⟨⟨_, _⟩, ⟨_, _⟩, hk3839, ⟨_, _⟩, hk3839e, ⟨_, _⟩, ⟨_, _⟩⟩ := R_tk_f hX hp3795
                  have he1 := sp_e1_ok hcr.1 ⟨by omega, by omega⟩ (hct _ (by omega) (by omega)) hp3796 hok hd14
                  obtain ⟨he1a, he1b, he1c, he1d, he1e, he1f, he1g⟩ := he1
                  show X_T sc 157 (202, [(3, .int (iI (bI (True)))), (1, .int (iI wi)), (2, .int (iI col)), (0, .ref 530)], [], S3778) _
                  refine T_p xr_157_202 xn_157 (pc' := 155) (ls' := [(3, .int (iI (bI (True)))), (1, .int (iI wi)), (2, .int (iI col)), (0, .ref 530)]) (st' := []) rfl ?_
                  exact ih2666 S3778 True (o 5) g1 at3780 en3781 tk3782 nu3783 dg3784 nm3785 c3786 d3787 q3788 wM3789 wH3790 eP3791 eH3792 hK3793 h3838 ha3804 ha3805 ha3806 ha3807 ha3808 (hF2669.tr ((X_Fr.rf).tr (X_Fr.mono ⟨hf3809.1, hf3809.2⟩ (fun q hq => by first | exact hq | (rcases hq with rfl <;> decide) | (rcases hq with rfl | rfl <;> decide) | (rcases hq with rfl | rfl | rfl <;> decide) | (rcases hq with rfl | rfl | rfl | rfl <;> decide) | (rcases hq with rfl | rfl | rfl | rfl | rfl <;> decide) | (rcases hq with rfl | rfl | rfl | rfl | rfl | rfl <;> decide) | (rcases hq with rfl | rfl | rfl | rfl | rfl | rfl | rfl <;> decide) | omega)))) (by omega) (fun _ => ⟨hp3795, hp3797, (by
                        rw [← hR, show (9 - d1 3 0).toNat = (9 - (d1 3 0 + 1)).toNat + 1 by omega, sp_el_e1 _ (by omega) (by omega), hp3796, he1d]
                        rfl), he1a, he1c, fun f f1 f2 f3 f4 => (he1b f f1 f2 f3 f4).trans (hfd f f1 f2 f3 f4)⟩) (fun z => absurd h5 z) (hob4.tr hp3798) (hob5.tr hp3799) (hob9.tr hp3800) (hob10.tr hp3801) (hob11.tr hp3802) (fun _ => ⟨fun _ => by omega, fun _ => trivial⟩) (by omega)
                · skip
                  rw [hv3823]
                  have h3840 : S3778.1 530 = .inr (11, [.ref 531, .int (iI (o 1)), .ref 532, .int (iI (o 3)), .int (iI (o 4)), .int (iI f3816), .int (iI g3817), .int (iI at3810), .int (iI en3811), .int (iI tk3812), .int (iI nu3813), .int (iI dg3814), .long nm3815, .ref 533, .ref 534, .ref 535, .ref 536, .ref 537, .ref 538, .ref 539, .ref 540, .ref 541, .ref 542, .ref 543, .ref 544, .ref 545, .ref 546, .ref 547, .int (iI (o 28)), .int (iI (o 29)), .int (iI (o 30)), .int (iI (o 31)), .int (iI (o 32)), .int (iI (o 33)), .ref 548, .ref 549, .ref 550, .ref 551, .int (iI (o 38)), .ref 552, .ref 553, .ref 554, .ref 555, .ref 556, .ref 557, .ref 558, .ref 559, .ref 560, .ref 561, .int (iI (o 49)), .ref 562, .ref 563, .ref 564, .ref 565, .ref 566, .ref 567, .ref 568, .ref 569, .int (iI (o 58)), .ref 570, .ref 571, .ref 572, .ref 573, .ref 574, .ref 575, .ref 576, .ref 577, .ref 578, .int (iI (o 68)), .int (iI (o 69)), .int (iI (o 70)), .ref 579]) := hM3831
                  show X_T sc 157 (202, [(3, .int (iI (bI (True)))), (1, .int (iI wi)), (2, .int (iI col)), (0, .ref 530)], [], S3778) _
                  refine T_p xr_157_202 xn_157 (pc' := 155) (ls' := [(3, .int (iI (bI (True)))), (1, .int (iI wi)), (2, .int (iI col)), (0, .ref 530)]) (st' := []) rfl ?_
                  exact ih2666 S3778 True f3816 g3817 at3810 en3811 tk3812 nu3813 dg3814 nm3815 c1 d1 q1 wM3818 wH3819 eP3820 eH3821 hK3822 h3840 ha3832 ha3833 ha3834 ha3835 ha3836 (hF2669.tr ((X_Fr.rf).tr (X_Fr.mono ⟨hf3837.1, hf3837.2⟩ (fun q hq => by first | exact hq | (rcases hq with rfl <;> decide) | (rcases hq with rfl | rfl <;> decide) | (rcases hq with rfl | rfl | rfl <;> decide) | (rcases hq with rfl | rfl | rfl | rfl <;> decide) | (rcases hq with rfl | rfl | rfl | rfl | rfl <;> decide) | (rcases hq with rfl | rfl | rfl | rfl | rfl | rfl <;> decide) | (rcases hq with rfl | rfl | rfl | rfl | rfl | rfl | rfl <;> decide) | omega)))) (by omega) (fun z => absurd z (by omega)) (fun _ => by
                        rw [← hR, show (9 - d1 3 0).toNat = (9 - (d1 3 0 + 1)).toNat + 1 by omega, sp_el_e1 _ (by omega) (by omega), hp3825]
                        rfl) (hob4.tr hp3826) (hob5.tr hp3827) (hob9.tr hp3828) (hob10.tr hp3829) (hob11.tr hp3830) (fun z => absurd z (by omega)) (by omega)
  refine T_sub (ls := [(3, .int (iI (bI (False)))), (1, .int (iI wi)), (2, .int (iI col)), (0, .ref 530)]) ⟨rfl, rfl, rfl, rfl, trivial⟩ rfl rfl ?_
  exact L2665 ((10 : Int) + 1).toNat S False (o 5) (o 6) (o 7) (o 8) (o 9) (o 10) (o 11) nm c d q wM wH eP eH hK hM hA540 hA541 hA545 hA546 hA547 ((X_Fr.rf)) (by omega) (fun _ => ⟨hT, hW.2.2.2.1, by rw [hd3.1]; rfl, X_eok_0 hd3.1 hd3.2.1, by omega, fun _ _ _ _ _ => rfl⟩) (fun z => absurd h5 z) R_ob.rf R_ob.rf R_ob.rf R_ob.rf R_ob.rf (fun _ => ⟨fun z => z.elim, fun z => absurd (by omega) z⟩) (by omega)
end
section
theorem xr_157_0 : X_row 157 0 = some (0, (.bipush 30, 2), (0, 0, 0)) := by decide +kernel
theorem xr_157_2 : X_row 157 2 = some (2, (.aload_n 0, 1), (0, 0, 0)) := by decide +kernel
theorem xr_157_3 : X_row 157 3 = some (3, (.getfield 91, 3), (11, 4, 8)) := by decide +kernel
theorem xr_157_6 : X_row 157 6 = some (6, (.imul, 1), (0, 0, 0)) := by decide +kernel
theorem xr_157_7 : X_row 157 7 = some (7, (.aload_n 0, 1), (0, 0, 0)) := by decide +kernel
theorem xr_157_8 : X_row 157 8 = some (8, (.getfield 138, 3), (11, 30, 60)) := by decide +kernel
theorem xr_157_11 : X_row 157 11 = some (11, (.iadd, 1), (0, 0, 0)) := by decide +kernel
theorem xr_157_12 : X_row 157 12 = some (12, (.istore_n 1, 1), (0, 0, 0)) := by decide +kernel
theorem xr_157_13 : X_row 157 13 = some (13, (.aload_n 0, 1), (0, 0, 0)) := by decide +kernel
theorem xr_157_14 : X_row 157 14 = some (14, (.getfield 141, 3), (11, 17, 34)) := by decide +kernel
theorem xr_157_17 : X_row 157 17 = some (17, (.iload_n 1, 1), (0, 0, 0)) := by decide +kernel
theorem xr_157_18 : X_row 157 18 = some (18, (.aload_n 0, 1), (0, 0, 0)) := by decide +kernel
theorem xr_157_19 : X_row 157 19 = some (19, (.invokevirtual 119, 3), (151, 30, 0)) := by decide +kernel
theorem xr_157_22 : X_row 157 22 = some (22, (.iastore, 1), (0, 0, 0)) := by decide +kernel
theorem xr_157_23 : X_row 157 23 = some (23, (.aload_n 0, 1), (0, 0, 0)) := by decide +kernel
theorem xr_157_24 : X_row 157 24 = some (24, (.getfield 144, 3), (11, 18, 36)) := by decide +kernel
theorem xr_157_27 : X_row 157 27 = some (27, (.iload_n 1, 1), (0, 0, 0)) := by decide +kernel
theorem xr_157_28 : X_row 157 28 = some (28, (.iconst 0, 1), (0, 0, 0)) := by decide +kernel
theorem xr_157_29 : X_row 157 29 = some (29, (.iastore, 1), (0, 0, 0)) := by decide +kernel
theorem xr_157_30 : X_row 157 30 = some (30, (.aload_n 0, 1), (0, 0, 0)) := by decide +kernel
theorem xr_157_31 : X_row 157 31 = some (31, (.getfield 147, 3), (11, 19, 38)) := by decide +kernel
theorem xr_157_34 : X_row 157 34 = some (34, (.iload_n 1, 1), (0, 0, 0)) := by decide +kernel
theorem xr_157_35 : X_row 157 35 = some (35, (.iconst 0, 1), (0, 0, 0)) := by decide +kernel
theorem xr_157_36 : X_row 157 36 = some (36, (.iastore, 1), (0, 0, 0)) := by decide +kernel
theorem xr_157_37 : X_row 157 37 = some (37, (.aload_n 0, 1), (0, 0, 0)) := by decide +kernel
theorem xr_157_38 : X_row 157 38 = some (38, (.getfield 150, 3), (11, 20, 40)) := by decide +kernel
theorem xr_157_41 : X_row 157 41 = some (41, (.iload_n 1, 1), (0, 0, 0)) := by decide +kernel
theorem xr_157_42 : X_row 157 42 = some (42, (.iconst 0, 1), (0, 0, 0)) := by decide +kernel
theorem xr_157_43 : X_row 157 43 = some (43, (.iastore, 1), (0, 0, 0)) := by decide +kernel
theorem xr_157_44 : X_row 157 44 = some (44, (.aload_n 0, 1), (0, 0, 0)) := by decide +kernel
theorem xr_157_45 : X_row 157 45 = some (45, (.getfield 153, 3), (11, 21, 42)) := by decide +kernel
theorem xr_157_48 : X_row 157 48 = some (48, (.iload_n 1, 1), (0, 0, 0)) := by decide +kernel
theorem xr_157_49 : X_row 157 49 = some (49, (.iconst 0, 1), (0, 0, 0)) := by decide +kernel
theorem xr_157_50 : X_row 157 50 = some (50, (.iastore, 1), (0, 0, 0)) := by decide +kernel
theorem xr_157_51 : X_row 157 51 = some (51, (.aload_n 0, 1), (0, 0, 0)) := by decide +kernel
theorem xr_157_52 : X_row 157 52 = some (52, (.getfield 156, 3), (11, 22, 44)) := by decide +kernel
theorem xr_157_55 : X_row 157 55 = some (55, (.iload_n 1, 1), (0, 0, 0)) := by decide +kernel
theorem xr_157_56 : X_row 157 56 = some (56, (.iconst (-1), 1), (0, 0, 0)) := by decide +kernel
theorem xr_157_57 : X_row 157 57 = some (57, (.iastore, 1), (0, 0, 0)) := by decide +kernel
theorem xr_157_58 : X_row 157 58 = some (58, (.aload_n 0, 1), (0, 0, 0)) := by decide +kernel
theorem xr_157_59 : X_row 157 59 = some (59, (.invokevirtual 100, 3), (140, 14, 0)) := by decide +kernel
theorem xr_157_62 : X_row 157 62 = some (62, (.ifCond .eq 48, 3), (0, 0, 0)) := by decide +kernel
theorem xr_157_65 : X_row 157 65 = some (65, (.aload_n 0, 1), (0, 0, 0)) := by decide +kernel
theorem xr_157_66 : X_row 157 66 = some (66, (.ldc2_w 55, 3), (1818584692, 1290, 0)) := by decide +kernel
theorem xr_157_69 : X_row 157 69 = some (69, (.invokevirtual 127, 3), (146, 38, 0)) := by decide +kernel
theorem xr_157_72 : X_row 157 72 = some (72, (.ifCond .ne 13, 3), (0, 0, 0)) := by decide +kernel
theorem xr_157_75 : X_row 157 75 = some (75, (.aload_n 0, 1), (0, 0, 0)) := by decide +kernel
theorem xr_157_76 : X_row 157 76 = some (76, (.ldc2_w 57, 3), (491394656372, 1291, 0)) := by decide +kernel
theorem xr_157_79 : X_row 157 79 = some (79, (.invokevirtual 127, 3), (146, 38, 0)) := by decide +kernel
theorem xr_157_82 : X_row 157 82 = some (82, (.ifCond .eq 28, 3), (0, 0, 0)) := by decide +kernel
theorem xr_157_85 : X_row 157 85 = some (85, (.aload_n 0, 1), (0, 0, 0)) := by decide +kernel
theorem xr_157_86 : X_row 157 86 = some (86, (.getfield 144, 3), (11, 18, 36)) := by decide +kernel
theorem xr_157_89 : X_row 157 89 = some (89, (.iload_n 1, 1), (0, 0, 0)) := by decide +kernel
theorem xr_157_90 : X_row 157 90 = some (90, (.aload_n 0, 1), (0, 0, 0)) := by decide +kernel
theorem xr_157_91 : X_row 157 91 = some (91, (.ldc2_w 55, 3), (1818584692, 1290, 0)) := by decide +kernel
theorem xr_157_94 : X_row 157 94 = some (94, (.invokevirtual 127, 3), (146, 38, 0)) := by decide +kernel
theorem xr_157_97 : X_row 157 97 = some (97, (.ifCond .eq 7, 3), (0, 0, 0)) := by decide +kernel
theorem xr_157_100 : X_row 157 100 = some (100, (.iconst 1, 1), (0, 0, 0)) := by decide +kernel
theorem xr_157_101 : X_row 157 101 = some (101, (.goto 4, 3), (0, 0, 0)) := by decide +kernel
theorem xr_157_104 : X_row 157 104 = some (104, (.iconst 2, 1), (0, 0, 0)) := by decide +kernel
theorem xr_157_105 : X_row 157 105 = some (105, (.iastore, 1), (0, 0, 0)) := by decide +kernel
theorem xr_157_106 : X_row 157 106 = some (106, (.aload_n 0, 1), (0, 0, 0)) := by decide +kernel
theorem xr_157_107 : X_row 157 107 = some (107, (.invokevirtual 78, 3), (141, 0, 0)) := by decide +kernel
theorem xr_157_110 : X_row 157 110 = some (110, (.aload_n 0, 1), (0, 0, 0)) := by decide +kernel
theorem xr_157_111 : X_row 157 111 = some (111, (.invokevirtual 100, 3), (140, 14, 0)) := by decide +kernel
theorem xr_157_114 : X_row 157 114 = some (114, (.ifCond .eq 21, 3), (0, 0, 0)) := by decide +kernel
theorem xr_157_117 : X_row 157 117 = some (117, (.aload_n 0, 1), (0, 0, 0)) := by decide +kernel
theorem xr_157_118 : X_row 157 118 = some (118, (.getfield 27, 3), (11, 9, 18)) := by decide +kernel
theorem xr_157_121 : X_row 157 121 = some (121, (.iconst 2, 1), (0, 0, 0)) := by decide +kernel
theorem xr_157_122 : X_row 157 122 = some (122, (.if_icmp .ne 13, 3), (0, 0, 0)) := by decide +kernel
theorem xr_157_125 : X_row 157 125 = some (125, (.aload_n 0, 1), (0, 0, 0)) := by decide +kernel
theorem xr_157_126 : X_row 157 126 = some (126, (.getfield 147, 3), (11, 19, 38)) := by decide +kernel
theorem xr_157_129 : X_row 157 129 = some (129, (.iload_n 1, 1), (0, 0, 0)) := by decide +kernel
theorem xr_157_130 : X_row 157 130 = some (130, (.aload_n 0, 1), (0, 0, 0)) := by decide +kernel
theorem xr_157_131 : X_row 157 131 = some (131, (.invokevirtual 131, 3), (152, 40, 0)) := by decide +kernel
theorem xr_157_134 : X_row 157 134 = some (134, (.iastore, 1), (0, 0, 0)) := by decide +kernel
theorem xr_157_135 : X_row 157 135 = some (135, (.aload_n 0, 1), (0, 0, 0)) := by decide +kernel
theorem xr_157_136 : X_row 157 136 = some (136, (.getfield 20, 3), (11, 7, 14)) := by decide +kernel
theorem xr_157_139 : X_row 157 139 = some (139, (.istore_n 2, 1), (0, 0, 0)) := by decide +kernel
theorem xr_157_140 : X_row 157 140 = some (140, (.aload_n 0, 1), (0, 0, 0)) := by decide +kernel
theorem xr_157_141 : X_row 157 141 = some (141, (.invokevirtual 100, 3), (140, 14, 0)) := by decide +kernel
theorem xr_157_144 : X_row 157 144 = some (144, (.ifCond .eq 9, 3), (0, 0, 0)) := by decide +kernel
theorem xr_157_147 : X_row 157 147 = some (147, (.aload_n 0, 1), (0, 0, 0)) := by decide +kernel
theorem xr_157_148 : X_row 157 148 = some (148, (.bipush 58, 2), (0, 0, 0)) := by decide +kernel
theorem xr_157_150 : X_row 157 150 = some (150, (.invokevirtual 115, 3), (148, 24, 0)) := by decide +kernel
theorem xr_157_153 : X_row 157 153 = some (153, (.iconst 0, 1), (0, 0, 0)) := by decide +kernel
theorem xr_157_154 : X_row 157 154 = some (154, (.istore_n 3, 1), (0, 0, 0)) := by decide +kernel
theorem R_w.set2 {x k : Int} {d : Nat → Int → Int} {q : Int → Int64} {wR wL wK wM wH wS sO sN : Int → Int} {eP : Int → Int64} {eH hK : Int → Int} (h : R_w x d q wR wL wK wM wH wS sO sN eP eH hK) : R_w x (X_wu d 2 (fun _ => k)) q wR wL (X_ug wK x k) wM wH wS sO sN eP eH hK := ⟨h.1, h.2.1, X_ug_s _ _ _, h.2.2.2.1, h.2.2.2.2⟩
theorem R_w.set2' {x k : Int} {d : Nat → Int → Int} {q : Int → Int64} {wR wL wK wM wH wS sO sN : Int → Int} {eP : Int → Int64} {eH hK : Int → Int} (h : R_w x d q wR wL wK wM wH wS sO sN eP eH hK) (hk : d 2 0 = k) : R_w x (X_wu d 2 (fun _ => k)) q wR wL wK wM wH wS sO sN eP eH hK := ⟨h.1, h.2.1, h.2.2.1.trans hk, h.2.2.2.1, h.2.2.2.2⟩
set_option maxHeartbeats 8000000 in
theorem r_rwB (sc : X_Sc) (S : X_S) (o : Nat → Int) (nm : Int64) (tx : Int → Int) (kN : Int → Int64) (wR : Int → Int) (wL : Int → Int) (wK : Int → Int) (wM : Int → Int) (wH : Int → Int) (wS : Int → Int) (sO : Int → Int) (sN : Int → Int) (eP : Int → Int64) (eH : Int → Int) (hK : Int → Int) (tb : Int → Int) (len : Int) (n : Int) (so : Int → Int) (pl : Int → Int) (ct : Int → Int64) (E : Int → Int) (c : Int) (kn : Int → Int64) (kc : Int) (wc : Int) (wi : Int) (d : Nat → Int → Int) (q : Int → Int64) (hM : M_o S o nm) (hA532 : S.1 532 = .inl (.byte, 2000, .inl fun k : Nat => iI (tx (k : Int)))) (hA534 : S.1 534 = .inl (.long, 22, .inr (.inl fun k : Nat => kN (k : Int)))) (hA537 : S.1 537 = .inl (.int, 60, .inl fun k : Nat => iI (wR (k : Int)))) (hA538 : S.1 538 = .inl (.int, 60, .inl fun k : Nat => iI (wL (k : Int)))) (hA539 : S.1 539 = .inl (.int, 60, .inl fun k : Nat => iI (wK (k : Int)))) (hA540 : S.1 540 = .inl (.int, 60, .inl fun k : Nat => iI (wM (k : Int)))) (hA541 : S.1 541 = .inl (.int, 60, .inl fun k : Nat => iI (wH (k : Int)))) (hA542 : S.1 542 = .inl (.int, 60, .inl fun k : Nat => iI (wS (k : Int)))) (hA543 : S.1 543 = .inl (.int, 1800, .inl fun k : Nat => iI (sO (k : Int)))) (hA544 : S.1 544 = .inl (.int, 1800, .inl fun k : Nat => iI (sN (k : Int)))) (hA545 : S.1 545 = .inl (.long, 480, .inr (.inl fun k : Nat => eP (k : Int)))) (hA546 : S.1 546 = .inl (.int, 480, .inl fun k : Nat => iI (eH (k : Int)))) (hA547 : S.1 547 = .inl (.int, 240, .inl fun k : Nat => iI (hK (k : Int)))) (hlen : o 3 = len) (hl : 0 ≤ len ∧ len ≤ 2000) (htx : ∀ k, 0 ≤ k → k < len → tx k = tb k) (hX : X_TxE tb len n so pl ct E) (hT : R_tk n so pl ct E c (o 7) (o 8) (o 9) (o 10) (o 11) nm) (h5 : o 5 = 0) (hkc : o 29 = kc) (hwc : o 30 = wc) (hcr : 1 ≤ kc ∧ kc ≤ 11) (hb : 0 ≤ o 4 ∧ o 4 ≤ 1) (hN : ∀ i, 0 ≤ i → i < kc → kN (11 * o 4 + i) = kn i) (hw : 0 ≤ wi ∧ wi < 60 ∧ 0 ≤ wc ∧ wc < 30) (hW : R_w wi d q wR wL wK wM wH wS sO sN eP eH hK) (hd3 : d 3 0 = 0 ∧ d 4 0 = 0 ∧ d 5 0 = -1) (hd1 : 0 ≤ d 1 0 ∧ d 1 0 ≤ 2) (hct : ∀ i, 0 ≤ i → i < n → so i = 6 → ¬ ct i = 0) (hd2 : d 2 0 = 0) : X_T sc 157 (110, [(1, .int (iI wi)), (0, .ref 530)], [], S) (fun v S' => (∃ (at1 : Int) (en1 : Int) (tk1 : Int) (nu1 : Int) (dg1 : Int) (nm1 : Int64) (g1 : Int) (c2 : Int) (d2 : Nat → Int → Int) (q2 : Int → Int64) (wR1 : Int → Int) (wL1 : Int → Int) (wK1 : Int → Int) (wM1 : Int → Int) (wH1 : Int → Int) (wS1 : Int → Int) (sO1 : Int → Int) (sN1 : Int → Int) (eP1 : Int → Int64) (eH1 : Int → Int) (hK1 : Int → Int), v = none ∧ R_tk n so pl ct E c2 at1 en1 tk1 nu1 dg1 nm1 ∧ sp_wk n so ct kn kc c d q = some (c2, d2, q2) ∧ R_w wi d2 q2 wR1 wL1 wK1 wM1 wH1 wS1 sO1 sN1 eP1 eH1 hK1 ∧ R_ob 1 wi wR wR1 ∧ R_ob 1 wi wL wL1 ∧ R_ob 1 wi wK wK1 ∧ R_ob 1 wi wM wM1 ∧ R_ob 1 wi wH wH1 ∧ R_ob 1 wi wS wS1 ∧ R_ob 30 wi sO sO1 ∧ R_ob 30 wi sN sN1 ∧ R_ob 8 wi eP eP1 ∧ R_ob 8 wi eH eH1 ∧ R_ob 4 wi hK hK1 ∧ M_o S' (X_ou (X_ou (X_ou (X_ou (X_ou (X_ou (X_ou o 7 at1) 8 en1) 9 tk1) 10 nu1) 11 dg1) 6 g1) 30 (wc + 1)) nm1 ∧ S'.1 537 = .inl (.int, 60, .inl fun k : Nat => iI (wR1 (k : Int))) ∧ S'.1 538 = .inl (.int, 60, .inl fun k : Nat => iI (wL1 (k : Int))) ∧ S'.1 539 = .inl (.int, 60, .inl fun k : Nat => iI (wK1 (k : Int))) ∧ S'.1 540 = .inl (.int, 60, .inl fun k : Nat => iI (wM1 (k : Int))) ∧ S'.1 541 = .inl (.int, 60, .inl fun k : Nat => iI (wH1 (k : Int))) ∧ S'.1 542 = .inl (.int, 60, .inl fun k : Nat => iI (wS1 (k : Int))) ∧ S'.1 543 = .inl (.int, 1800, .inl fun k : Nat => iI (sO1 (k : Int))) ∧ S'.1 544 = .inl (.int, 1800, .inl fun k : Nat => iI (sN1 (k : Int))) ∧ S'.1 545 = .inl (.long, 480, .inr (.inl fun k : Nat => eP1 (k : Int))) ∧ S'.1 546 = .inl (.int, 480, .inl fun k : Nat => iI (eH1 (k : Int))) ∧ S'.1 547 = .inl (.int, 240, .inl fun k : Nat => iI (hK1 (k : Int))) ∧ (X_Fr (fun q => q = 530 ∨ q = 537 ∨ q = 538 ∨ q = 539 ∨ q = 540 ∨ q = 541 ∨ q = 542 ∨ q = 543 ∨ q = 544 ∨ q = 545 ∨ q = 546 ∨ q = 547) S S')) ∨ (∃ (at1 : Int) (en1 : Int) (tk1 : Int) (nu1 : Int) (dg1 : Int) (nm1 : Int64) (wc1 : Int) (f1 : Int) (g1 : Int) (wR1 : Int → Int) (wL1 : Int → Int) (wK1 : Int → Int) (wM1 : Int → Int) (wH1 : Int → Int) (wS1 : Int → Int) (sO1 : Int → Int) (sN1 : Int → Int) (eP1 : Int → Int64) (eH1 : Int → Int) (hK1 : Int → Int), v = none ∧ (1 ≤ f1 ∧ f1 ≤ 5) ∧ sp_wk n so ct kn kc c d q = none ∧ R_ob 1 wi wR wR1 ∧ R_ob 1 wi wL wL1 ∧ R_ob 1 wi wK wK1 ∧ R_ob 1 wi wM wM1 ∧ R_ob 1 wi wH wH1 ∧ R_ob 1 wi wS wS1 ∧ R_ob 30 wi sO sO1 ∧ R_ob 30 wi sN sN1 ∧ R_ob 8 wi eP eP1 ∧ R_ob 8 wi eH eH1 ∧ R_ob 4 wi hK hK1 ∧ M_o S' (X_ou (X_ou (X_ou (X_ou (X_ou (X_ou (X_ou (X_ou o 7 at1) 8 en1) 9 tk1) 10 nu1) 11 dg1) 5 f1) 6 g1) 30 wc1) nm1 ∧ S'.1 537 = .inl (.int, 60, .inl fun k : Nat => iI (wR1 (k : Int))) ∧ S'.1 538 = .inl (.int, 60, .inl fun k : Nat => iI (wL1 (k : Int))) ∧ S'.1 539 = .inl (.int, 60, .inl fun k : Nat => iI (wK1 (k : Int))) ∧ S'.1 540 = .inl (.int, 60, .inl fun k : Nat => iI (wM1 (k : Int))) ∧ S'.1 541 = .inl (.int, 60, .inl fun k : Nat => iI (wH1 (k : Int))) ∧ S'.1 542 = .inl (.int, 60, .inl fun k : Nat => iI (wS1 (k : Int))) ∧ S'.1 543 = .inl (.int, 1800, .inl fun k : Nat => iI (sO1 (k : Int))) ∧ S'.1 544 = .inl (.int, 1800, .inl fun k : Nat => iI (sN1 (k : Int))) ∧ S'.1 545 = .inl (.long, 480, .inr (.inl fun k : Nat => eP1 (k : Int))) ∧ S'.1 546 = .inl (.int, 480, .inl fun k : Nat => iI (eH1 (k : Int))) ∧ S'.1 547 = .inl (.int, 240, .inl fun k : Nat => iI (hK1 (k : Int))) ∧ (X_Fr (fun q => q = 530 ∨ q = 537 ∨ q = 538 ∨ q = 539 ∨ q = 540 ∨ q = 541 ∨ q = 542 ∨ q = 543 ∨ q = 544 ∨ q = 545 ∨ q = 546 ∨ q = 547) S S'))) := by
  obtain ⟨⟨hc0, hcn⟩, ⟨hs0, hs1⟩, hk0, ⟨ha0, ha1⟩, hk0e, ⟨_, _⟩, ⟨_, _⟩⟩ := R_tk_f hX hT
  have hn2 := hX.2.1
  refine X_QI (fun Q hQ => ?_)
  refine T_p xr_157_110 xn_157 (pc' := 111) (ls' := [(1, .int (iI wi)), (0, .ref 530)]) (st' := [.ref 530]) rfl ?_
  refine T_cv (S := S) (q := 530) xr_157_111 xf_140.1 xf_140.2.1 xn_140 (as := []) (r := []) rfl hM (Nat.le_of_ble_eq_true rfl) (Nat.le_of_ble_eq_true rfl) (pc' := 114) rfl (ls' := [(0, .ref 530)]) rfl ?_
  refine T_mono (r_isGood sc S o nm hM (show 0 ≤ (o 5) ∧ (o 5) ≤ 5 from by omega)) (fun v3841 S3842 h3843 => ?_)
  rcases h3843 with ⟨hv3844, hf3845⟩
  rw [hv3844]
  rw [hf3845]
  show X_T sc 157 (114, [(1, .int (iI wi)), (0, .ref 530)], [.int (iI (bI ((o 5) = 0)))], S) _
  refine T_bif_eq xr_157_114 (t := 135) (pc' := 117) rfl rfl (fun c3846 => ?_) (fun c3846 => ?_)
  · skip
    have c3846 : ¬ ((o 5) = 0) := c3846
    exact (show False by first | contradiction | omega).elim
  · skip
    have c3846 : ((o 5) = 0) := c3846
    refine T_p xr_157_117 xn_157 (pc' := 118) (ls' := [(1, .int (iI wi)), (0, .ref 530)]) (st' := [.ref 530]) rfl ?_
    refine T_get xr_157_118 hM rfl (v := .int (iI (o 9))) rfl (pc' := 121) rfl ?_
    refine T_p xr_157_121 xn_157 (pc' := 122) (ls' := [(1, .int (iI wi)), (0, .ref 530)]) (st' := [.int (iI 2), .int (iI (o 9))]) rfl ?_
    refine T_zicmp_ne xr_157_122 (t := 135) (pc' := 125) rfl rfl (fun c3847 => ?_) (fun c3847 => ?_)
    · skip
      have c3847 : ¬ (o 9) = 2 := c3847
      refine T_p xr_157_135 xn_157 (pc' := 136) (ls' := [(1, .int (iI wi)), (0, .ref 530)]) (st' := [.ref 530]) rfl ?_
      refine T_get xr_157_136 hM rfl (v := .int (iI (o 7))) rfl (pc' := 139) rfl ?_
      refine T_p xr_157_139 xn_157 (pc' := 140) (ls' := [(2, .int (iI (o 7))), (1, .int (iI wi)), (0, .ref 530)]) (st' := []) rfl ?_
      refine T_p xr_157_140 xn_157 (pc' := 141) (ls' := [(2, .int (iI (o 7))), (1, .int (iI wi)), (0, .ref 530)]) (st' := [.ref 530]) rfl ?_
      refine T_cv (S := S) (q := 530) xr_157_141 xf_140.1 xf_140.2.1 xn_140 (as := []) (r := []) rfl hM (Nat.le_of_ble_eq_true rfl) (Nat.le_of_ble_eq_true rfl) (pc' := 144) rfl (ls' := [(0, .ref 530)]) rfl ?_
      refine T_mono (r_isGood sc S o nm hM (show 0 ≤ (o 5) ∧ (o 5) ≤ 5 from by omega)) (fun v3848 S3849 h3850 => ?_)
      rcases h3850 with ⟨hv3851, hf3852⟩
      rw [hv3851]
      rw [hf3852]
      show X_T sc 157 (144, [(2, .int (iI (o 7))), (1, .int (iI wi)), (0, .ref 530)], [.int (iI (bI ((o 5) = 0)))], S) _
      refine T_bif_eq xr_157_144 (t := 153) (pc' := 147) rfl rfl (fun c3853 => ?_) (fun c3853 => ?_)
      · skip
        have c3853 : ¬ ((o 5) = 0) := c3853
        exact (show False by first | contradiction | omega).elim
      · skip
        have c3853 : ((o 5) = 0) := c3853
        refine T_p xr_157_147 xn_157 (pc' := 148) (ls' := [(2, .int (iI (o 7))), (1, .int (iI wi)), (0, .ref 530)]) (st' := [.ref 530]) rfl ?_
        refine T_p xr_157_148 xn_157 (pc' := 150) (ls' := [(2, .int (iI (o 7))), (1, .int (iI wi)), (0, .ref 530)]) (st' := [.int (iI 58), .ref 530]) rfl ?_
        refine T_cv (S := S) (q := 530) xr_157_150 xf_148.1 xf_148.2.1 xn_148 (as := [.int (iI 58)]) (r := []) rfl hM (Nat.le_of_ble_eq_true rfl) (Nat.le_of_ble_eq_true rfl) (pc' := 153) rfl (ls' := [(0, .ref 530), (1, .int (iI 58))]) rfl ?_
        refine T_mono (r_must sc S o nm tx tb len n so pl ct E c 58 hM hA532 (show (o 3) = len from by first | assumption | omega) hl htx hX hT (show (o 5) = 0 from by omega) (by omega)) (fun v3854 S3855 h3856 => ?_)
        rcases h3856 with ⟨at3857, en3858, tk3859, nu3860, dg3861, nm3862, hv3863, hp3864, hp3865, hM3866, hf3867⟩ | ⟨f3868, g3869, hv3870, hp3871, hp3872, hM3873, hf3874⟩
        · skip
          rw [hv3863]
          have h3875 : S3855.1 530 = .inr (11, [.ref 531, .int (iI (o 1)), .ref 532, .int (iI (o 3)), .int (iI (o 4)), .int (iI (o 5)), .int (iI (o 6)), .int (iI at3857), .int (iI en3858), .int (iI tk3859), .int (iI nu3860), .int (iI dg3861), .long nm3862, .ref 533, .ref 534, .ref 535, .ref 536, .ref 537, .ref 538, .ref 539, .ref 540, .ref 541, .ref 542, .ref 543, .ref 544, .ref 545, .ref 546, .ref 547, .int (iI (o 28)), .int (iI (o 29)), .int (iI (o 30)), .int (iI (o 31)), .int (iI (o 32)), .int (iI (o 33)), .ref 548, .ref 549, .ref 550, .ref 551, .int (iI (o 38)), .ref 552, .ref 553, .ref 554, .ref 555, .ref 556, .ref 557, .ref 558, .ref 559, .ref 560, .ref 561, .int (iI (o 49)), .ref 562, .ref 563, .ref 564, .ref 565, .ref 566, .ref 567, .ref 568, .ref 569, .int (iI (o 58)), .ref 570, .ref 571, .ref 572, .ref 573, .ref 574, .ref 575, .ref 576, .ref 577, .ref 578, .int (iI (o 68)), .int (iI (o 69)), .int (iI (o 70)), .ref 579]) := hM3866
          obtain ⟨⟨_, _⟩, ⟨_, _⟩, hk3876, ⟨_, _⟩, hk3876e, ⟨_, _⟩, ⟨_, _⟩⟩ := R_tk_f hX hp3864
          show X_T sc 157 (153, [(2, .int (iI (o 7))), (1, .int (iI wi)), (0, .ref 530)], [], S3855) _
          refine T_p xr_157_153 xn_157 (pc' := 154) (ls' := [(2, .int (iI (o 7))), (1, .int (iI wi)), (0, .ref 530)]) (st' := [.int (iI 0)]) rfl ?_
          refine T_ie (y := iI (bI (False))) (by rw [bI_f (fun h => h)]) ?_
          refine T_p xr_157_154 xn_157 (pc' := 155) (ls' := [(3, .int (iI (bI (False)))), (2, .int (iI (o 7))), (1, .int (iI wi)), (0, .ref 530)]) (st' := []) rfl ?_
          have h3878 := (hf3867.1 532 (by first | decide | omega)).trans (hA532)
          have h3879 := (hf3867.1 534 (by first | decide | omega)).trans (hA534)
          have h3880 := (hf3867.1 537 (by first | decide | omega)).trans (hA537)
          have h3881 := (hf3867.1 538 (by first | decide | omega)).trans (hA538)
          have h3882 := (hf3867.1 539 (by first | decide | omega)).trans (hA539)
          have h3883 := (hf3867.1 540 (by first | decide | omega)).trans (hA540)
          have h3884 := (hf3867.1 541 (by first | decide | omega)).trans (hA541)
          have h3885 := (hf3867.1 542 (by first | decide | omega)).trans (hA542)
          have h3886 := (hf3867.1 543 (by first | decide | omega)).trans (hA543)
          have h3887 := (hf3867.1 544 (by first | decide | omega)).trans (hA544)
          have h3888 := (hf3867.1 545 (by first | decide | omega)).trans (hA545)
          have h3889 := (hf3867.1 546 (by first | decide | omega)).trans (hA546)
          have h3890 := (hf3867.1 547 (by first | decide | omega)).trans (hA547)
          refine T_mono (r_rwC sc S3855 (X_ou (X_ou (X_ou (X_ou (X_ou o 7 at3857) 8 en3858) 9 tk3859) 10 nu3860) 11 dg3861) nm3862 tx kN wR wL wK wM wH wS sO sN eP eH hK tb len n so pl ct E (X_av n c) kn kc wc wi (X_wu d 2 (fun _ => 0)) q (o 7) h3875 h3878 h3879 h3880 h3881 h3882 h3883 h3884 h3885 h3886 h3887 h3888 h3889 h3890 (show (o 3) = len from by first | assumption | omega) hl htx hX hp3864 (show (o 5) = 0 from by omega) (show (o 29) = kc from by omega) (show (o 30) = wc from by omega) (by omega) (show 0 ≤ (o 4) ∧ (o 4) ≤ 1 from by omega) hN (by omega) (hW.set2' hd2) hd3 hd1 hct) (fun v3891 S3892 h3893 => hQ _ _ ?_)
          rcases h3893 with ⟨at3894, en3895, tk3896, nu3897, dg3898, nm3899, g3900, c3901, d3902, q3903, wR3904, wL3905, wK3906, wM3907, wH3908, wS3909, sO3910, sN3911, eP3912, eH3913, hK3914, hv3915, hp3916, hp3917, hp3918, hp3919, hp3920, hp3921, hp3922, hp3923, hp3924, hp3925, hp3926, hp3927, hp3928, hp3929, hM3930, ha3931, ha3932, ha3933, ha3934, ha3935, ha3936, ha3937, ha3938, ha3939, ha3940, ha3941, hf3942⟩ | ⟨at3943, en3944, tk3945, nu3946, dg3947, nm3948, wc3949, f3950, g3951, wR3952, wL3953, wK3954, wM3955, wH3956, wS3957, sO3958, sN3959, eP3960, eH3961, hK3962, hv3963, hp3964, hp3965, hp3966, hp3967, hp3968, hp3969, hp3970, hp3971, hp3972, hp3973, hp3974, hp3975, hp3976, hM3977, ha3978, ha3979, ha3980, ha3981, ha3982, ha3983, ha3984, ha3985, ha3986, ha3987, ha3988, hf3989⟩
          · skip
            rw [hv3915]
            have h3990 : S3892.1 530 = .inr (11, [.ref 531, .int (iI (o 1)), .ref 532, .int (iI (o 3)), .int (iI (o 4)), .int (iI (o 5)), .int (iI g3900), .int (iI at3894), .int (iI en3895), .int (iI tk3896), .int (iI nu3897), .int (iI dg3898), .long nm3899, .ref 533, .ref 534, .ref 535, .ref 536, .ref 537, .ref 538, .ref 539, .ref 540, .ref 541, .ref 542, .ref 543, .ref 544, .ref 545, .ref 546, .ref 547, .int (iI (o 28)), .int (iI (o 29)), .int (iI (wc + 1)), .int (iI (o 31)), .int (iI (o 32)), .int (iI (o 33)), .ref 548, .ref 549, .ref 550, .ref 551, .int (iI (o 38)), .ref 552, .ref 553, .ref 554, .ref 555, .ref 556, .ref 557, .ref 558, .ref 559, .ref 560, .ref 561, .int (iI (o 49)), .ref 562, .ref 563, .ref 564, .ref 565, .ref 566, .ref 567, .ref 568, .ref 569, .int (iI (o 58)), .ref 570, .ref 571, .ref 572, .ref 573, .ref 574, .ref 575, .ref 576, .ref 577, .ref 578, .int (iI (o 68)), .int (iI (o 69)), .int (iI (o 70)), .ref 579]) := hM3930
            exact Or.inl ⟨at3894, en3895, tk3896, nu3897, dg3898, nm3899, g3900, c3901, d3902, q3903, wR3904, wL3905, wK3906, wM3907, wH3908, wS3909, sO3910, sN3911, eP3912, eH3913, hK3914, rfl, hp3916, (by
                  unfold sp_wk
                  (repeat (first | rw [if_pos (by assumption)] | rw [if_neg (by assumption)] | rw [if_neg (by omega)] | rw [if_pos (by omega)]))
                  unfold sp_wb
                  rw [if_pos (by assumption)]
                  exact hp3917), hp3918, hp3919, hp3920, hp3921, hp3922, hp3923, hp3924, hp3925, hp3926, hp3927, hp3928, hp3929, h3990, ha3931, ha3932, ha3933, ha3934, ha3935, ha3936, ha3937, ha3938, ha3939, ha3940, ha3941, ((X_Fr.rf).tr (X_Fr.mono ⟨hf3867.1, hf3867.2⟩ (fun q hq => by first | exact hq | (rcases hq with rfl <;> decide) | (rcases hq with rfl | rfl <;> decide) | (rcases hq with rfl | rfl | rfl <;> decide) | (rcases hq with rfl | rfl | rfl | rfl <;> decide) | (rcases hq with rfl | rfl | rfl | rfl | rfl <;> decide) | (rcases hq with rfl | rfl | rfl | rfl | rfl | rfl <;> decide) | (rcases hq with rfl | rfl | rfl | rfl | rfl | rfl | rfl <;> decide) | omega))).tr (X_Fr.mono ⟨hf3942.1, hf3942.2⟩ (fun q hq => by first | exact hq | (rcases hq with rfl <;> decide) | (rcases hq with rfl | rfl <;> decide) | (rcases hq with rfl | rfl | rfl <;> decide) | (rcases hq with rfl | rfl | rfl | rfl <;> decide) | (rcases hq with rfl | rfl | rfl | rfl | rfl <;> decide) | (rcases hq with rfl | rfl | rfl | rfl | rfl | rfl <;> decide) | (rcases hq with rfl | rfl | rfl | rfl | rfl | rfl | rfl <;> decide) | omega))⟩
          · skip
            rw [hv3963]
            have h3991 : S3892.1 530 = .inr (11, [.ref 531, .int (iI (o 1)), .ref 532, .int (iI (o 3)), .int (iI (o 4)), .int (iI f3950), .int (iI g3951), .int (iI at3943), .int (iI en3944), .int (iI tk3945), .int (iI nu3946), .int (iI dg3947), .long nm3948, .ref 533, .ref 534, .ref 535, .ref 536, .ref 537, .ref 538, .ref 539, .ref 540, .ref 541, .ref 542, .ref 543, .ref 544, .ref 545, .ref 546, .ref 547, .int (iI (o 28)), .int (iI (o 29)), .int (iI wc3949), .int (iI (o 31)), .int (iI (o 32)), .int (iI (o 33)), .ref 548, .ref 549, .ref 550, .ref 551, .int (iI (o 38)), .ref 552, .ref 553, .ref 554, .ref 555, .ref 556, .ref 557, .ref 558, .ref 559, .ref 560, .ref 561, .int (iI (o 49)), .ref 562, .ref 563, .ref 564, .ref 565, .ref 566, .ref 567, .ref 568, .ref 569, .int (iI (o 58)), .ref 570, .ref 571, .ref 572, .ref 573, .ref 574, .ref 575, .ref 576, .ref 577, .ref 578, .int (iI (o 68)), .int (iI (o 69)), .int (iI (o 70)), .ref 579]) := hM3977
            exact Or.inr ⟨at3943, en3944, tk3945, nu3946, dg3947, nm3948, wc3949, f3950, g3951, wR3952, wL3953, wK3954, wM3955, wH3956, wS3957, sO3958, sN3959, eP3960, eH3961, hK3962, rfl, hp3964, (by
                  unfold sp_wk
                  (repeat (first | rw [if_pos (by assumption)] | rw [if_neg (by assumption)] | rw [if_neg (by omega)] | rw [if_pos (by omega)]))
                  unfold sp_wb
                  rw [if_pos (by assumption)]
                  exact hp3965), hp3966, hp3967, hp3968, hp3969, hp3970, hp3971, hp3972, hp3973, hp3974, hp3975, hp3976, h3991, ha3978, ha3979, ha3980, ha3981, ha3982, ha3983, ha3984, ha3985, ha3986, ha3987, ha3988, ((X_Fr.rf).tr (X_Fr.mono ⟨hf3867.1, hf3867.2⟩ (fun q hq => by first | exact hq | (rcases hq with rfl <;> decide) | (rcases hq with rfl | rfl <;> decide) | (rcases hq with rfl | rfl | rfl <;> decide) | (rcases hq with rfl | rfl | rfl | rfl <;> decide) | (rcases hq with rfl | rfl | rfl | rfl | rfl <;> decide) | (rcases hq with rfl | rfl | rfl | rfl | rfl | rfl <;> decide) | (rcases hq with rfl | rfl | rfl | rfl | rfl | rfl | rfl <;> decide) | omega))).tr (X_Fr.mono ⟨hf3989.1, hf3989.2⟩ (fun q hq => by first | exact hq | (rcases hq with rfl <;> decide) | (rcases hq with rfl | rfl <;> decide) | (rcases hq with rfl | rfl | rfl <;> decide) | (rcases hq with rfl | rfl | rfl | rfl <;> decide) | (rcases hq with rfl | rfl | rfl | rfl | rfl <;> decide) | (rcases hq with rfl | rfl | rfl | rfl | rfl | rfl <;> decide) | (rcases hq with rfl | rfl | rfl | rfl | rfl | rfl | rfl <;> decide) | omega))⟩
        · skip
          rw [hv3870]
          have h3877 : S3855.1 530 = .inr (11, [.ref 531, .int (iI (o 1)), .ref 532, .int (iI (o 3)), .int (iI (o 4)), .int (iI f3868), .int (iI g3869), .int (iI (o 7)), .int (iI (o 8)), .int (iI (o 9)), .int (iI (o 10)), .int (iI (o 11)), .long nm, .ref 533, .ref 534, .ref 535, .ref 536, .ref 537, .ref 538, .ref 539, .ref 540, .ref 541, .ref 542, .ref 543, .ref 544, .ref 545, .ref 546, .ref 547, .int (iI (o 28)), .int (iI (o 29)), .int (iI (o 30)), .int (iI (o 31)), .int (iI (o 32)), .int (iI (o 33)), .ref 548, .ref 549, .ref 550, .ref 551, .int (iI (o 38)), .ref 552, .ref 553, .ref 554, .ref 555, .ref 556, .ref 557, .ref 558, .ref 559, .ref 560, .ref 561, .int (iI (o 49)), .ref 562, .ref 563, .ref 564, .ref 565, .ref 566, .ref 567, .ref 568, .ref 569, .int (iI (o 58)), .ref 570, .ref 571, .ref 572, .ref 573, .ref 574, .ref 575, .ref 576, .ref 577, .ref 578, .int (iI (o 68)), .int (iI (o 69)), .int (iI (o 70)), .ref 579]) := hM3873
          show X_T sc 157 (153, [(2, .int (iI (o 7))), (1, .int (iI wi)), (0, .ref 530)], [], S3855) _
          refine T_p xr_157_153 xn_157 (pc' := 154) (ls' := [(2, .int (iI (o 7))), (1, .int (iI wi)), (0, .ref 530)]) (st' := [.int (iI 0)]) rfl ?_
          refine T_p xr_157_154 xn_157 (pc' := 155) (ls' := [(3, .int (iI 0)), (2, .int (iI (o 7))), (1, .int (iI wi)), (0, .ref 530)]) (st' := []) rfl ?_
          refine T_p xr_157_155 xn_157 (pc' := 156) (ls' := [(3, .int (iI 0)), (2, .int (iI (o 7))), (1, .int (iI wi)), (0, .ref 530)]) (st' := [.ref 530]) rfl ?_
          refine T_cv (S := S3855) (q := 530) xr_157_156 xf_140.1 xf_140.2.1 xn_140 (as := []) (r := []) rfl h3877 (Nat.le_of_ble_eq_true rfl) (Nat.le_of_ble_eq_true rfl) (pc' := 159) rfl (ls' := [(0, .ref 530)]) rfl ?_
          refine T_mono (r_isGood sc S3855 (X_ou (X_ou o 5 f3868) 6 g3869) nm h3877 (show 0 ≤ f3868 ∧ f3868 ≤ 5 from by omega)) (fun v3992 S3993 h3994 => ?_)
          rcases h3994 with ⟨hv3995, hf3996⟩
          rw [hv3995]
          rw [hf3996]
          show X_T sc 157 (159, [(3, .int (iI 0)), (2, .int (iI (o 7))), (1, .int (iI wi)), (0, .ref 530)], [.int (iI (bI (f3868 = 0)))], S3855) _
          refine T_bif_eq xr_157_159 (t := 205) (pc' := 162) rfl rfl (fun c3997 => ?_) (fun c3997 => ?_)
          · skip
            have c3997 : ¬ (f3868 = 0) := c3997
            refine T_p xr_157_205 xn_157 (pc' := 206) (ls' := [(3, .int (iI 0)), (2, .int (iI (o 7))), (1, .int (iI wi)), (0, .ref 530)]) (st' := [.ref 530]) rfl ?_
            refine T_cv (S := S3855) (q := 530) xr_157_206 xf_140.1 xf_140.2.1 xn_140 (as := []) (r := []) rfl h3877 (Nat.le_of_ble_eq_true rfl) (Nat.le_of_ble_eq_true rfl) (pc' := 209) rfl (ls' := [(0, .ref 530)]) rfl ?_
            refine T_mono (r_isGood sc S3855 (X_ou (X_ou o 5 f3868) 6 g3869) nm h3877 (show 0 ≤ f3868 ∧ f3868 ≤ 5 from by omega)) (fun v3998 S3999 h4000 => ?_)
            rcases h4000 with ⟨hv4001, hf4002⟩
            rw [hv4001]
            rw [hf4002]
            show X_T sc 157 (209, [(3, .int (iI 0)), (2, .int (iI (o 7))), (1, .int (iI wi)), (0, .ref 530)], [.int (iI (bI (f3868 = 0)))], S3855) _
            refine T_bif_eq xr_157_209 (t := 247) (pc' := 212) rfl rfl (fun c4003 => ?_) (fun c4003 => ?_)
            · skip
              have c4003 : ¬ (f3868 = 0) := c4003
              refine T_p xr_157_247 xn_157 (pc' := 248) (ls' := [(3, .int (iI 0)), (2, .int (iI (o 7))), (1, .int (iI wi)), (0, .ref 530)]) (st' := [.ref 530]) rfl ?_
              refine T_cv (S := S3855) (q := 530) xr_157_248 xf_140.1 xf_140.2.1 xn_140 (as := []) (r := []) rfl h3877 (Nat.le_of_ble_eq_true rfl) (Nat.le_of_ble_eq_true rfl) (pc' := 251) rfl (ls' := [(0, .ref 530)]) rfl ?_
              refine T_mono (r_isGood sc S3855 (X_ou (X_ou o 5 f3868) 6 g3869) nm h3877 (show 0 ≤ f3868 ∧ f3868 ≤ 5 from by omega)) (fun v4004 S4005 h4006 => ?_)
              rcases h4006 with ⟨hv4007, hf4008⟩
              rw [hv4007]
              rw [hf4008]
              show X_T sc 157 (251, [(3, .int (iI 0)), (2, .int (iI (o 7))), (1, .int (iI wi)), (0, .ref 530)], [.int (iI (bI (f3868 = 0)))], S3855) _
              refine T_bif_eq xr_157_251 (t := 277) (pc' := 254) rfl rfl (fun c4009 => ?_) (fun c4009 => ?_)
              · skip
                have c4009 : ¬ (f3868 = 0) := c4009
                refine T_p xr_157_277 xn_157 (pc' := 278) (ls' := [(3, .int (iI 0)), (2, .int (iI (o 7))), (1, .int (iI wi)), (0, .ref 530)]) (st' := [.ref 530]) rfl ?_
                refine T_cv (S := S3855) (q := 530) xr_157_278 xf_140.1 xf_140.2.1 xn_140 (as := []) (r := []) rfl h3877 (Nat.le_of_ble_eq_true rfl) (Nat.le_of_ble_eq_true rfl) (pc' := 281) rfl (ls' := [(0, .ref 530)]) rfl ?_
                refine T_mono (r_isGood sc S3855 (X_ou (X_ou o 5 f3868) 6 g3869) nm h3877 (show 0 ≤ f3868 ∧ f3868 ≤ 5 from by omega)) (fun v4010 S4011 h4012 => ?_)
                rcases h4012 with ⟨hv4013, hf4014⟩
                rw [hv4013]
                rw [hf4014]
                show X_T sc 157 (281, [(3, .int (iI 0)), (2, .int (iI (o 7))), (1, .int (iI wi)), (0, .ref 530)], [.int (iI (bI (f3868 = 0)))], S3855) _
                refine T_bif_eq xr_157_281 (t := 302) (pc' := 284) rfl rfl (fun c4015 => ?_) (fun c4015 => ?_)
                · skip
                  have c4015 : ¬ (f3868 = 0) := c4015
                  refine T_p xr_157_302 xn_157 (pc' := 303) (ls' := [(3, .int (iI 0)), (2, .int (iI (o 7))), (1, .int (iI wi)), (0, .ref 530)]) (st' := [.ref 530]) rfl ?_
                  refine T_p xr_157_303 xn_157 (pc' := 304) (ls' := [(3, .int (iI 0)), (2, .int (iI (o 7))), (1, .int (iI wi)), (0, .ref 530)]) (st' := [.ref 530, .ref 530]) rfl ?_
                  refine T_get xr_157_304 h3877 rfl (v := .int (iI (o 30))) rfl (pc' := 307) rfl ?_
                  refine T_p xr_157_307 xn_157 (pc' := 308) (ls' := [(3, .int (iI 0)), (2, .int (iI (o 7))), (1, .int (iI wi)), (0, .ref 530)]) (st' := [.int (iI 1), .int (iI (o 30)), .ref 530]) rfl ?_
                  refine T_ziadd xr_157_308 (z := (o 30) + 1) rfl (pc' := 309) rfl ?_
                  refine T_ie (y := iI (wc + 1)) (by rw [hwc]) ?_
                  refine T_put xr_157_309 h3877 rfl (Nat.le_of_ble_eq_true rfl) rfl (fs' := [.ref 531, .int (iI (o 1)), .ref 532, .int (iI (o 3)), .int (iI (o 4)), .int (iI f3868), .int (iI g3869), .int (iI (o 7)), .int (iI (o 8)), .int (iI (o 9)), .int (iI (o 10)), .int (iI (o 11)), .long nm, .ref 533, .ref 534, .ref 535, .ref 536, .ref 537, .ref 538, .ref 539, .ref 540, .ref 541, .ref 542, .ref 543, .ref 544, .ref 545, .ref 546, .ref 547, .int (iI (o 28)), .int (iI (o 29)), .int (iI (wc + 1)), .int (iI (o 31)), .int (iI (o 32)), .int (iI (o 33)), .ref 548, .ref 549, .ref 550, .ref 551, .int (iI (o 38)), .ref 552, .ref 553, .ref 554, .ref 555, .ref 556, .ref 557, .ref 558, .ref 559, .ref 560, .ref 561, .int (iI (o 49)), .ref 562, .ref 563, .ref 564, .ref 565, .ref 566, .ref 567, .ref 568, .ref 569, .int (iI (o 58)), .ref 570, .ref 571, .ref 572, .ref 573, .ref 574, .ref 575, .ref 576, .ref 577, .ref 578, .int (iI (o 68)), .int (iI (o 69)), .int (iI (o 70)), .ref 579]) rfl (pc' := 312) rfl (fun S4016 h4017 n4018 e4019 => ?_)
                  refine T_p xr_157_312 xn_157 (pc' := 313) (ls' := [(3, .int (iI 0)), (2, .int (iI (o 7))), (1, .int (iI wi)), (0, .ref 530)]) (st' := [.ref 530]) rfl ?_
                  refine T_cv (S := S4016) (q := 530) xr_157_313 xf_140.1 xf_140.2.1 xn_140 (as := []) (r := []) rfl h4017 (Nat.le_of_ble_eq_true rfl) (Nat.le_of_ble_eq_true rfl) (pc' := 316) rfl (ls' := [(0, .ref 530)]) rfl ?_
                  refine T_mono (r_isGood sc S4016 (X_ou (X_ou (X_ou o 5 f3868) 6 g3869) 30 (wc + 1)) nm h4017 (show 0 ≤ f3868 ∧ f3868 ≤ 5 from by omega)) (fun v4020 S4021 h4022 => ?_)
                  rcases h4022 with ⟨hv4023, hf4024⟩
                  rw [hv4023]
                  rw [hf4024]
                  show X_T sc 157 (316, [(3, .int (iI 0)), (2, .int (iI (o 7))), (1, .int (iI wi)), (0, .ref 530)], [.int (iI (bI (f3868 = 0)))], S4016) _
                  refine T_bif_eq xr_157_316 (t := 325) (pc' := 319) rfl rfl (fun c4025 => ?_) (fun c4025 => ?_)
                  · skip
                    have c4025 : ¬ (f3868 = 0) := c4025
                    refine T_vret xr_157_325 xf_157.2.2 ?_
                    refine hQ _ _ ?_
                    have h4026 := (n4018 537 (by decide)).trans ((hf3874.1 537 (by first | decide | omega)).trans (hA537))
                    have h4027 := (n4018 538 (by decide)).trans ((hf3874.1 538 (by first | decide | omega)).trans (hA538))
                    have h4028 := (n4018 539 (by decide)).trans ((hf3874.1 539 (by first | decide | omega)).trans (hA539))
                    have h4029 := (n4018 540 (by decide)).trans ((hf3874.1 540 (by first | decide | omega)).trans (hA540))
                    have h4030 := (n4018 541 (by decide)).trans ((hf3874.1 541 (by first | decide | omega)).trans (hA541))
                    have h4031 := (n4018 542 (by decide)).trans ((hf3874.1 542 (by first | decide | omega)).trans (hA542))
                    have h4032 := (n4018 543 (by decide)).trans ((hf3874.1 543 (by first | decide | omega)).trans (hA543))
                    have h4033 := (n4018 544 (by decide)).trans ((hf3874.1 544 (by first | decide | omega)).trans (hA544))
                    have h4034 := (n4018 545 (by decide)).trans ((hf3874.1 545 (by first | decide | omega)).trans (hA545))
                    have h4035 := (n4018 546 (by decide)).trans ((hf3874.1 546 (by first | decide | omega)).trans (hA546))
                    have h4036 := (n4018 547 (by decide)).trans ((hf3874.1 547 (by first | decide | omega)).trans (hA547))
                    refine Or.inr ⟨o 7, o 8, o 9, o 10, o 11, nm, wc + 1, f3868, g3869, wR, wL, wK, wM, wH, wS, sO, sN, eP, eH, hK, rfl, by omega, ?_, by first | exact R_ob.rf | exact R_ob.rf.up (by omega) | exact (R_ob.rf.up (by omega)).up (by omega), by first | exact R_ob.rf | exact R_ob.rf.up (by omega) | exact (R_ob.rf.up (by omega)).up (by omega), by first | exact R_ob.rf | exact R_ob.rf.up (by omega) | exact (R_ob.rf.up (by omega)).up (by omega), by first | exact R_ob.rf | exact R_ob.rf.up (by omega) | exact (R_ob.rf.up (by omega)).up (by omega), by first | exact R_ob.rf | exact R_ob.rf.up (by omega) | exact (R_ob.rf.up (by omega)).up (by omega), by first | exact R_ob.rf | exact R_ob.rf.up (by omega) | exact (R_ob.rf.up (by omega)).up (by omega), by first | exact R_ob.rf | exact R_ob.rf.up (by omega) | exact (R_ob.rf.up (by omega)).up (by omega), by first | exact R_ob.rf | exact R_ob.rf.up (by omega) | exact (R_ob.rf.up (by omega)).up (by omega), by first | exact R_ob.rf | exact R_ob.rf.up (by omega) | exact (R_ob.rf.up (by omega)).up (by omega), by first | exact R_ob.rf | exact R_ob.rf.up (by omega) | exact (R_ob.rf.up (by omega)).up (by omega), by first | exact R_ob.rf | exact R_ob.rf.up (by omega) | exact (R_ob.rf.up (by omega)).up (by omega), h4017, h4026, h4027, h4028, h4029, h4030, h4031, h4032, h4033, h4034, h4035, h4036, ((X_Fr.rf).tr (X_Fr.mono ⟨hf3874.1, hf3874.2⟩ (fun q hq => by first | exact hq | (rcases hq with rfl <;> decide) | (rcases hq with rfl | rfl <;> decide) | (rcases hq with rfl | rfl | rfl <;> decide) | (rcases hq with rfl | rfl | rfl | rfl <;> decide) | (rcases hq with rfl | rfl | rfl | rfl | rfl <;> decide) | (rcases hq with rfl | rfl | rfl | rfl | rfl | rfl <;> decide) | (rcases hq with rfl | rfl | rfl | rfl | rfl | rfl | rfl <;> decide) | omega))).tr (X_Fr.of n4018 e4019 (by first | decide | exact ⟨Nat.le_add_right _ _, Nat.add_le_add_left (by decide) _⟩ | omega))⟩
                    unfold sp_wk
                    (repeat (first | rw [if_pos (by assumption)] | rw [if_neg (by assumption)] | rw [if_neg (by omega)] | rw [if_pos (by omega)]))
                    all_goals first | rfl | (unfold sp_wb; (repeat' split) <;> first | rfl | (exfalso; omega) | contradiction)
                  · skip
                    have c4025 : (f3868 = 0) := c4025
                    exact (show False by first | contradiction | omega).elim
                · skip
                  have c4015 : (f3868 = 0) := c4015
                  exact (show False by first | contradiction | omega).elim
              · skip
                have c4009 : (f3868 = 0) := c4009
                exact (show False by first | contradiction | omega).elim
            · skip
              have c4003 : (f3868 = 0) := c4003
              exact (show False by first | contradiction | omega).elim
          · skip
            have c3997 : (f3868 = 0) := c3997
            exact (show False by first | contradiction | omega).elim
    · skip
      have c3847 : ¬ (¬ (o 9) = 2) := c3847
      refine T_p xr_157_125 xn_157 (pc' := 126) (ls' := [(1, .int (iI wi)), (0, .ref 530)]) (st' := [.ref 530]) rfl ?_
      refine T_get xr_157_126 hM rfl (v := .ref 539) rfl (pc' := 129) rfl ?_
      refine T_p xr_157_129 xn_157 (pc' := 130) (ls' := [(1, .int (iI wi)), (0, .ref 530)]) (st' := [.int (iI wi), .ref 539]) rfl ?_
      refine T_p xr_157_130 xn_157 (pc' := 131) (ls' := [(1, .int (iI wi)), (0, .ref 530)]) (st' := [.ref 530, .int (iI wi), .ref 539]) rfl ?_
      refine T_cv (S := S) (q := 530) xr_157_131 xf_152.1 xf_152.2.1 xn_152 (as := []) (r := [.int (iI wi), .ref 539]) rfl hM (Nat.le_of_ble_eq_true rfl) (Nat.le_of_ble_eq_true rfl) (pc' := 134) rfl (ls' := [(0, .ref 530)]) rfl ?_
      refine T_mono (r_aKind sc S o nm tx kN tb len n so pl ct E c kn kc hM hA532 hA534 (show (o 3) = len from by first | assumption | omega) hl htx hX hT (show (o 5) = 0 from by omega) (show (o 29) = kc from by omega) (by omega) (show 0 ≤ (o 4) ∧ (o 4) ≤ 1 from by omega) hN) (fun v4037 S4038 h4039 => ?_)
      rcases h4039 with ⟨at4040, en4041, tk4042, nu4043, dg4044, nm4045, hv4046, hp4047, hp4048, hp4049, hM4050, hf4051⟩ | ⟨r4052, f4053, g4054, hv4055, hp4056, hp4057, hp4058, hM4059, hf4060⟩
      · skip
        rw [hv4046]
        have h4061 : S4038.1 530 = .inr (11, [.ref 531, .int (iI (o 1)), .ref 532, .int (iI (o 3)), .int (iI (o 4)), .int (iI (o 5)), .int (iI (o 6)), .int (iI at4040), .int (iI en4041), .int (iI tk4042), .int (iI nu4043), .int (iI dg4044), .long nm4045, .ref 533, .ref 534, .ref 535, .ref 536, .ref 537, .ref 538, .ref 539, .ref 540, .ref 541, .ref 542, .ref 543, .ref 544, .ref 545, .ref 546, .ref 547, .int (iI (o 28)), .int (iI (o 29)), .int (iI (o 30)), .int (iI (o 31)), .int (iI (o 32)), .int (iI (o 33)), .ref 548, .ref 549, .ref 550, .ref 551, .int (iI (o 38)), .ref 552, .ref 553, .ref 554, .ref 555, .ref 556, .ref 557, .ref 558, .ref 559, .ref 560, .ref 561, .int (iI (o 49)), .ref 562, .ref 563, .ref 564, .ref 565, .ref 566, .ref 567, .ref 568, .ref 569, .int (iI (o 58)), .ref 570, .ref 571, .ref 572, .ref 573, .ref 574, .ref 575, .ref 576, .ref 577, .ref 578, .int (iI (o 68)), .int (iI (o 69)), .int (iI (o 70)), .ref 579]) := hM4050
        obtain ⟨⟨_, _⟩, ⟨_, _⟩, hk4062, ⟨_, _⟩, hk4062e, ⟨_, _⟩, ⟨_, _⟩⟩ := R_tk_f hX hp4047
        show X_T sc 157 (134, [(1, .int (iI wi)), (0, .ref 530)], [.int (iI (X_ix kn kc (ct c))), .int (iI wi), .ref 539], S4038) _
        have h4064 := (hf4051.1 539 (by first | decide | omega)).trans (hA539)
        refine T_ziast xr_157_134 h4064 (pc' := 135) rfl (fun S4065 h4066 n4067 e4068 => ?_)
        refine T_p xr_157_135 xn_157 (pc' := 136) (ls' := [(1, .int (iI wi)), (0, .ref 530)]) (st' := [.ref 530]) rfl ?_
        have h4069 := (n4067 530 (by decide)).trans (h4061)
        refine T_get xr_157_136 h4069 rfl (v := .int (iI at4040)) rfl (pc' := 139) rfl ?_
        refine T_p xr_157_139 xn_157 (pc' := 140) (ls' := [(2, .int (iI at4040)), (1, .int (iI wi)), (0, .ref 530)]) (st' := []) rfl ?_
        refine T_p xr_157_140 xn_157 (pc' := 141) (ls' := [(2, .int (iI at4040)), (1, .int (iI wi)), (0, .ref 530)]) (st' := [.ref 530]) rfl ?_
        refine T_cv (S := S4065) (q := 530) xr_157_141 xf_140.1 xf_140.2.1 xn_140 (as := []) (r := []) rfl h4069 (Nat.le_of_ble_eq_true rfl) (Nat.le_of_ble_eq_true rfl) (pc' := 144) rfl (ls' := [(0, .ref 530)]) rfl ?_
        refine T_mono (r_isGood sc S4065 (X_ou (X_ou (X_ou (X_ou (X_ou o 7 at4040) 8 en4041) 9 tk4042) 10 nu4043) 11 dg4044) nm4045 h4069 (show 0 ≤ (o 5) ∧ (o 5) ≤ 5 from by omega)) (fun v4070 S4071 h4072 => ?_)
        rcases h4072 with ⟨hv4073, hf4074⟩
        rw [hv4073]
        rw [hf4074]
        show X_T sc 157 (144, [(2, .int (iI at4040)), (1, .int (iI wi)), (0, .ref 530)], [.int (iI (bI ((o 5) = 0)))], S4065) _
        refine T_bif_eq xr_157_144 (t := 153) (pc' := 147) rfl rfl (fun c4075 => ?_) (fun c4075 => ?_)
        · skip
          have c4075 : ¬ ((o 5) = 0) := c4075
          exact (show False by first | contradiction | omega).elim
        · skip
          have c4075 : ((o 5) = 0) := c4075
          refine T_p xr_157_147 xn_157 (pc' := 148) (ls' := [(2, .int (iI at4040)), (1, .int (iI wi)), (0, .ref 530)]) (st' := [.ref 530]) rfl ?_
          refine T_p xr_157_148 xn_157 (pc' := 150) (ls' := [(2, .int (iI at4040)), (1, .int (iI wi)), (0, .ref 530)]) (st' := [.int (iI 58), .ref 530]) rfl ?_
          refine T_cv (S := S4065) (q := 530) xr_157_150 xf_148.1 xf_148.2.1 xn_148 (as := [.int (iI 58)]) (r := []) rfl h4069 (Nat.le_of_ble_eq_true rfl) (Nat.le_of_ble_eq_true rfl) (pc' := 153) rfl (ls' := [(0, .ref 530), (1, .int (iI 58))]) rfl ?_
          have h4076 := (n4067 532 (by decide)).trans ((hf4051.1 532 (by first | decide | omega)).trans (hA532))
          refine T_mono (r_must sc S4065 (X_ou (X_ou (X_ou (X_ou (X_ou o 7 at4040) 8 en4041) 9 tk4042) 10 nu4043) 11 dg4044) nm4045 tx tb len n so pl ct E (X_av n c) 58 h4069 h4076 (show (o 3) = len from by first | assumption | omega) hl htx hX hp4047 (show (o 5) = 0 from by omega) (by omega)) (fun v4077 S4078 h4079 => ?_)
          rcases h4079 with ⟨at4080, en4081, tk4082, nu4083, dg4084, nm4085, hv4086, hp4087, hp4088, hM4089, hf4090⟩ | ⟨f4091, g4092, hv4093, hp4094, hp4095, hM4096, hf4097⟩
          · skip
            rw [hv4086]
            have h4098 : S4078.1 530 = .inr (11, [.ref 531, .int (iI (o 1)), .ref 532, .int (iI (o 3)), .int (iI (o 4)), .int (iI (o 5)), .int (iI (o 6)), .int (iI at4080), .int (iI en4081), .int (iI tk4082), .int (iI nu4083), .int (iI dg4084), .long nm4085, .ref 533, .ref 534, .ref 535, .ref 536, .ref 537, .ref 538, .ref 539, .ref 540, .ref 541, .ref 542, .ref 543, .ref 544, .ref 545, .ref 546, .ref 547, .int (iI (o 28)), .int (iI (o 29)), .int (iI (o 30)), .int (iI (o 31)), .int (iI (o 32)), .int (iI (o 33)), .ref 548, .ref 549, .ref 550, .ref 551, .int (iI (o 38)), .ref 552, .ref 553, .ref 554, .ref 555, .ref 556, .ref 557, .ref 558, .ref 559, .ref 560, .ref 561, .int (iI (o 49)), .ref 562, .ref 563, .ref 564, .ref 565, .ref 566, .ref 567, .ref 568, .ref 569, .int (iI (o 58)), .ref 570, .ref 571, .ref 572, .ref 573, .ref 574, .ref 575, .ref 576, .ref 577, .ref 578, .int (iI (o 68)), .int (iI (o 69)), .int (iI (o 70)), .ref 579]) := hM4089
            obtain ⟨⟨_, _⟩, ⟨_, _⟩, hk4099, ⟨_, _⟩, hk4099e, ⟨_, _⟩, ⟨_, _⟩⟩ := R_tk_f hX hp4087
            show X_T sc 157 (153, [(2, .int (iI at4040)), (1, .int (iI wi)), (0, .ref 530)], [], S4078) _
            refine T_p xr_157_153 xn_157 (pc' := 154) (ls' := [(2, .int (iI at4040)), (1, .int (iI wi)), (0, .ref 530)]) (st' := [.int (iI 0)]) rfl ?_
            refine T_ie (y := iI (bI (False))) (by rw [bI_f (fun h => h)]) ?_
            refine T_p xr_157_154 xn_157 (pc' := 155) (ls' := [(3, .int (iI (bI (False)))), (2, .int (iI at4040)), (1, .int (iI wi)), (0, .ref 530)]) (st' := []) rfl ?_
            have h4101 := (hf4090.1 532 (by first | decide | omega)).trans (h4076)
            have h4102 := (hf4090.1 534 (by first | decide | omega)).trans ((n4067 534 (by decide)).trans ((hf4051.1 534 (by first | decide | omega)).trans (hA534)))
            have h4103 := (hf4090.1 537 (by first | decide | omega)).trans ((n4067 537 (by decide)).trans ((hf4051.1 537 (by first | decide | omega)).trans (hA537)))
            have h4104 := (hf4090.1 538 (by first | decide | omega)).trans ((n4067 538 (by decide)).trans ((hf4051.1 538 (by first | decide | omega)).trans (hA538)))
            have h4105 := (hf4090.1 539 (by first | decide | omega)).trans (h4066)
            have h4106 := (hf4090.1 540 (by first | decide | omega)).trans ((n4067 540 (by decide)).trans ((hf4051.1 540 (by first | decide | omega)).trans (hA540)))
            have h4107 := (hf4090.1 541 (by first | decide | omega)).trans ((n4067 541 (by decide)).trans ((hf4051.1 541 (by first | decide | omega)).trans (hA541)))
            have h4108 := (hf4090.1 542 (by first | decide | omega)).trans ((n4067 542 (by decide)).trans ((hf4051.1 542 (by first | decide | omega)).trans (hA542)))
            have h4109 := (hf4090.1 543 (by first | decide | omega)).trans ((n4067 543 (by decide)).trans ((hf4051.1 543 (by first | decide | omega)).trans (hA543)))
            have h4110 := (hf4090.1 544 (by first | decide | omega)).trans ((n4067 544 (by decide)).trans ((hf4051.1 544 (by first | decide | omega)).trans (hA544)))
            have h4111 := (hf4090.1 545 (by first | decide | omega)).trans ((n4067 545 (by decide)).trans ((hf4051.1 545 (by first | decide | omega)).trans (hA545)))
            have h4112 := (hf4090.1 546 (by first | decide | omega)).trans ((n4067 546 (by decide)).trans ((hf4051.1 546 (by first | decide | omega)).trans (hA546)))
            have h4113 := (hf4090.1 547 (by first | decide | omega)).trans ((n4067 547 (by decide)).trans ((hf4051.1 547 (by first | decide | omega)).trans (hA547)))
            refine T_mono (r_rwC sc S4078 (X_ou (X_ou (X_ou (X_ou (X_ou o 7 at4080) 8 en4081) 9 tk4082) 10 nu4083) 11 dg4084) nm4085 tx kN wR wL (X_ug wK wi (X_ix kn kc (ct c))) wM wH wS sO sN eP eH hK tb len n so pl ct E (X_av n (X_av n c)) kn kc wc wi (X_wu d 2 (fun _ => (X_ix kn kc (ct c)))) q at4040 h4098 h4101 h4102 h4103 h4104 h4105 h4106 h4107 h4108 h4109 h4110 h4111 h4112 h4113 (show (o 3) = len from by first | assumption | omega) hl htx hX hp4087 (show (o 5) = 0 from by omega) (show (o 29) = kc from by omega) (show (o 30) = wc from by omega) (by omega) (show 0 ≤ (o 4) ∧ (o 4) ≤ 1 from by omega) hN (by omega) hW.set2 hd3 hd1 hct) (fun v4114 S4115 h4116 => hQ _ _ ?_)
            rcases h4116 with ⟨at4117, en4118, tk4119, nu4120, dg4121, nm4122, g4123, c4124, d4125, q4126, wR4127, wL4128, wK4129, wM4130, wH4131, wS4132, sO4133, sN4134, eP4135, eH4136, hK4137, hv4138, hp4139, hp4140, hp4141, hp4142, hp4143, hp4144, hp4145, hp4146, hp4147, hp4148, hp4149, hp4150, hp4151, hp4152, hM4153, ha4154, ha4155, ha4156, ha4157, ha4158, ha4159, ha4160, ha4161, ha4162, ha4163, ha4164, hf4165⟩ | ⟨at4166, en4167, tk4168, nu4169, dg4170, nm4171, wc4172, f4173, g4174, wR4175, wL4176, wK4177, wM4178, wH4179, wS4180, sO4181, sN4182, eP4183, eH4184, hK4185, hv4186, hp4187, hp4188, hp4189, hp4190, hp4191, hp4192, hp4193, hp4194, hp4195, hp4196, hp4197, hp4198, hp4199, hM4200, ha4201, ha4202, ha4203, ha4204, ha4205, ha4206, ha4207, ha4208, ha4209, ha4210, ha4211, hf4212⟩
            · skip
              rw [hv4138]
              have h4213 : S4115.1 530 = .inr (11, [.ref 531, .int (iI (o 1)), .ref 532, .int (iI (o 3)), .int (iI (o 4)), .int (iI (o 5)), .int (iI g4123), .int (iI at4117), .int (iI en4118), .int (iI tk4119), .int (iI nu4120), .int (iI dg4121), .long nm4122, .ref 533, .ref 534, .ref 535, .ref 536, .ref 537, .ref 538, .ref 539, .ref 540, .ref 541, .ref 542, .ref 543, .ref 544, .ref 545, .ref 546, .ref 547, .int (iI (o 28)), .int (iI (o 29)), .int (iI (wc + 1)), .int (iI (o 31)), .int (iI (o 32)), .int (iI (o 33)), .ref 548, .ref 549, .ref 550, .ref 551, .int (iI (o 38)), .ref 552, .ref 553, .ref 554, .ref 555, .ref 556, .ref 557, .ref 558, .ref 559, .ref 560, .ref 561, .int (iI (o 49)), .ref 562, .ref 563, .ref 564, .ref 565, .ref 566, .ref 567, .ref 568, .ref 569, .int (iI (o 58)), .ref 570, .ref 571, .ref 572, .ref 573, .ref 574, .ref 575, .ref 576, .ref 577, .ref 578, .int (iI (o 68)), .int (iI (o 69)), .int (iI (o 70)), .ref 579]) := hM4153
              exact Or.inl ⟨at4117, en4118, tk4119, nu4120, dg4121, nm4122, g4123, c4124, d4125, q4126, wR4127, wL4128, wK4129, wM4130, wH4131, wS4132, sO4133, sN4134, eP4135, eH4136, hK4137, rfl, hp4139, (by
                    unfold sp_wk
                    (repeat (first | rw [if_pos (by assumption)] | rw [if_neg (by assumption)] | rw [if_neg (by omega)] | rw [if_pos (by omega)]))
                    unfold sp_wb
                    rw [if_pos (by assumption)]
                    exact hp4140), hp4141, hp4142, hp4143, (R_ob.rf.up (by omega)).tr hp4144, hp4145, hp4146, hp4147, hp4148, hp4149, hp4150, hp4151, hp4152, h4213, ha4154, ha4155, ha4156, ha4157, ha4158, ha4159, ha4160, ha4161, ha4162, ha4163, ha4164, ((((X_Fr.rf).tr (X_Fr.mono ⟨hf4051.1, hf4051.2⟩ (fun q hq => by first | exact hq | (rcases hq with rfl <;> decide) | (rcases hq with rfl | rfl <;> decide) | (rcases hq with rfl | rfl | rfl <;> decide) | (rcases hq with rfl | rfl | rfl | rfl <;> decide) | (rcases hq with rfl | rfl | rfl | rfl | rfl <;> decide) | (rcases hq with rfl | rfl | rfl | rfl | rfl | rfl <;> decide) | (rcases hq with rfl | rfl | rfl | rfl | rfl | rfl | rfl <;> decide) | omega))).tr (X_Fr.of n4067 e4068 (by first | decide | exact ⟨Nat.le_add_right _ _, Nat.add_le_add_left (by decide) _⟩ | omega))).tr (X_Fr.mono ⟨hf4090.1, hf4090.2⟩ (fun q hq => by first | exact hq | (rcases hq with rfl <;> decide) | (rcases hq with rfl | rfl <;> decide) | (rcases hq with rfl | rfl | rfl <;> decide) | (rcases hq with rfl | rfl | rfl | rfl <;> decide) | (rcases hq with rfl | rfl | rfl | rfl | rfl <;> decide) | (rcases hq with rfl | rfl | rfl | rfl | rfl | rfl <;> decide) | (rcases hq with rfl | rfl | rfl | rfl | rfl | rfl | rfl <;> decide) | omega))).tr (X_Fr.mono ⟨hf4165.1, hf4165.2⟩ (fun q hq => by first | exact hq | (rcases hq with rfl <;> decide) | (rcases hq with rfl | rfl <;> decide) | (rcases hq with rfl | rfl | rfl <;> decide) | (rcases hq with rfl | rfl | rfl | rfl <;> decide) | (rcases hq with rfl | rfl | rfl | rfl | rfl <;> decide) | (rcases hq with rfl | rfl | rfl | rfl | rfl | rfl <;> decide) | (rcases hq with rfl | rfl | rfl | rfl | rfl | rfl | rfl <;> decide) | omega))⟩
            · skip
              rw [hv4186]
              have h4214 : S4115.1 530 = .inr (11, [.ref 531, .int (iI (o 1)), .ref 532, .int (iI (o 3)), .int (iI (o 4)), .int (iI f4173), .int (iI g4174), .int (iI at4166), .int (iI en4167), .int (iI tk4168), .int (iI nu4169), .int (iI dg4170), .long nm4171, .ref 533, .ref 534, .ref 535, .ref 536, .ref 537, .ref 538, .ref 539, .ref 540, .ref 541, .ref 542, .ref 543, .ref 544, .ref 545, .ref 546, .ref 547, .int (iI (o 28)), .int (iI (o 29)), .int (iI wc4172), .int (iI (o 31)), .int (iI (o 32)), .int (iI (o 33)), .ref 548, .ref 549, .ref 550, .ref 551, .int (iI (o 38)), .ref 552, .ref 553, .ref 554, .ref 555, .ref 556, .ref 557, .ref 558, .ref 559, .ref 560, .ref 561, .int (iI (o 49)), .ref 562, .ref 563, .ref 564, .ref 565, .ref 566, .ref 567, .ref 568, .ref 569, .int (iI (o 58)), .ref 570, .ref 571, .ref 572, .ref 573, .ref 574, .ref 575, .ref 576, .ref 577, .ref 578, .int (iI (o 68)), .int (iI (o 69)), .int (iI (o 70)), .ref 579]) := hM4200
              exact Or.inr ⟨at4166, en4167, tk4168, nu4169, dg4170, nm4171, wc4172, f4173, g4174, wR4175, wL4176, wK4177, wM4178, wH4179, wS4180, sO4181, sN4182, eP4183, eH4184, hK4185, rfl, hp4187, (by
                    unfold sp_wk
                    (repeat (first | rw [if_pos (by assumption)] | rw [if_neg (by assumption)] | rw [if_neg (by omega)] | rw [if_pos (by omega)]))
                    unfold sp_wb
                    rw [if_pos (by assumption)]
                    exact hp4188), hp4189, hp4190, (R_ob.rf.up (by omega)).tr hp4191, hp4192, hp4193, hp4194, hp4195, hp4196, hp4197, hp4198, hp4199, h4214, ha4201, ha4202, ha4203, ha4204, ha4205, ha4206, ha4207, ha4208, ha4209, ha4210, ha4211, ((((X_Fr.rf).tr (X_Fr.mono ⟨hf4051.1, hf4051.2⟩ (fun q hq => by first | exact hq | (rcases hq with rfl <;> decide) | (rcases hq with rfl | rfl <;> decide) | (rcases hq with rfl | rfl | rfl <;> decide) | (rcases hq with rfl | rfl | rfl | rfl <;> decide) | (rcases hq with rfl | rfl | rfl | rfl | rfl <;> decide) | (rcases hq with rfl | rfl | rfl | rfl | rfl | rfl <;> decide) | (rcases hq with rfl | rfl | rfl | rfl | rfl | rfl | rfl <;> decide) | omega))).tr (X_Fr.of n4067 e4068 (by first | decide | exact ⟨Nat.le_add_right _ _, Nat.add_le_add_left (by decide) _⟩ | omega))).tr (X_Fr.mono ⟨hf4090.1, hf4090.2⟩ (fun q hq => by first | exact hq | (rcases hq with rfl <;> decide) | (rcases hq with rfl | rfl <;> decide) | (rcases hq with rfl | rfl | rfl <;> decide) | (rcases hq with rfl | rfl | rfl | rfl <;> decide) | (rcases hq with rfl | rfl | rfl | rfl | rfl <;> decide) | (rcases hq with rfl | rfl | rfl | rfl | rfl | rfl <;> decide) | (rcases hq with rfl | rfl | rfl | rfl | rfl | rfl | rfl <;> decide) | omega))).tr (X_Fr.mono ⟨hf4212.1, hf4212.2⟩ (fun q hq => by first | exact hq | (rcases hq with rfl <;> decide) | (rcases hq with rfl | rfl <;> decide) | (rcases hq with rfl | rfl | rfl <;> decide) | (rcases hq with rfl | rfl | rfl | rfl <;> decide) | (rcases hq with rfl | rfl | rfl | rfl | rfl <;> decide) | (rcases hq with rfl | rfl | rfl | rfl | rfl | rfl <;> decide) | (rcases hq with rfl | rfl | rfl | rfl | rfl | rfl | rfl <;> decide) | omega))⟩
          · skip
            rw [hv4093]
            have h4100 : S4078.1 530 = .inr (11, [.ref 531, .int (iI (o 1)), .ref 532, .int (iI (o 3)), .int (iI (o 4)), .int (iI f4091), .int (iI g4092), .int (iI at4040), .int (iI en4041), .int (iI tk4042), .int (iI nu4043), .int (iI dg4044), .long nm4045, .ref 533, .ref 534, .ref 535, .ref 536, .ref 537, .ref 538, .ref 539, .ref 540, .ref 541, .ref 542, .ref 543, .ref 544, .ref 545, .ref 546, .ref 547, .int (iI (o 28)), .int (iI (o 29)), .int (iI (o 30)), .int (iI (o 31)), .int (iI (o 32)), .int (iI (o 33)), .ref 548, .ref 549, .ref 550, .ref 551, .int (iI (o 38)), .ref 552, .ref 553, .ref 554, .ref 555, .ref 556, .ref 557, .ref 558, .ref 559, .ref 560, .ref 561, .int (iI (o 49)), .ref 562, .ref 563, .ref 564, .ref 565, .ref 566, .ref 567, .ref 568, .ref 569, .int (iI (o 58)), .ref 570, .ref 571, .ref 572, .ref 573, .ref 574, .ref 575, .ref 576, .ref 577, .ref 578, .int (iI (o 68)), .int (iI (o 69)), .int (iI (o 70)), .ref 579]) := hM4096
            show X_T sc 157 (153, [(2, .int (iI at4040)), (1, .int (iI wi)), (0, .ref 530)], [], S4078) _
            refine T_p xr_157_153 xn_157 (pc' := 154) (ls' := [(2, .int (iI at4040)), (1, .int (iI wi)), (0, .ref 530)]) (st' := [.int (iI 0)]) rfl ?_
            refine T_p xr_157_154 xn_157 (pc' := 155) (ls' := [(3, .int (iI 0)), (2, .int (iI at4040)), (1, .int (iI wi)), (0, .ref 530)]) (st' := []) rfl ?_
            refine T_p xr_157_155 xn_157 (pc' := 156) (ls' := [(3, .int (iI 0)), (2, .int (iI at4040)), (1, .int (iI wi)), (0, .ref 530)]) (st' := [.ref 530]) rfl ?_
            refine T_cv (S := S4078) (q := 530) xr_157_156 xf_140.1 xf_140.2.1 xn_140 (as := []) (r := []) rfl h4100 (Nat.le_of_ble_eq_true rfl) (Nat.le_of_ble_eq_true rfl) (pc' := 159) rfl (ls' := [(0, .ref 530)]) rfl ?_
            refine T_mono (r_isGood sc S4078 (X_ou (X_ou (X_ou (X_ou (X_ou (X_ou (X_ou o 5 f4091) 6 g4092) 7 at4040) 8 en4041) 9 tk4042) 10 nu4043) 11 dg4044) nm4045 h4100 (show 0 ≤ f4091 ∧ f4091 ≤ 5 from by omega)) (fun v4215 S4216 h4217 => ?_)
            rcases h4217 with ⟨hv4218, hf4219⟩
            rw [hv4218]
            rw [hf4219]
            show X_T sc 157 (159, [(3, .int (iI 0)), (2, .int (iI at4040)), (1, .int (iI wi)), (0, .ref 530)], [.int (iI (bI (f4091 = 0)))], S4078) _
            refine T_bif_eq xr_157_159 (t := 205) (pc' := 162) rfl rfl (fun c4220 => ?_) (fun c4220 => ?_)
            · skip
              have c4220 : ¬ (f4091 = 0) := c4220
              refine T_p xr_157_205 xn_157 (pc' := 206) (ls' := [(3, .int (iI 0)), (2, .int (iI at4040)), (1, .int (iI wi)), (0, .ref 530)]) (st' := [.ref 530]) rfl ?_
              refine T_cv (S := S4078) (q := 530) xr_157_206 xf_140.1 xf_140.2.1 xn_140 (as := []) (r := []) rfl h4100 (Nat.le_of_ble_eq_true rfl) (Nat.le_of_ble_eq_true rfl) (pc' := 209) rfl (ls' := [(0, .ref 530)]) rfl ?_
              refine T_mono (r_isGood sc S4078 (X_ou (X_ou (X_ou (X_ou (X_ou (X_ou (X_ou o 5 f4091) 6 g4092) 7 at4040) 8 en4041) 9 tk4042) 10 nu4043) 11 dg4044) nm4045 h4100 (show 0 ≤ f4091 ∧ f4091 ≤ 5 from by omega)) (fun v4221 S4222 h4223 => ?_)
              rcases h4223 with ⟨hv4224, hf4225⟩
              rw [hv4224]
              rw [hf4225]
              show X_T sc 157 (209, [(3, .int (iI 0)), (2, .int (iI at4040)), (1, .int (iI wi)), (0, .ref 530)], [.int (iI (bI (f4091 = 0)))], S4078) _
              refine T_bif_eq xr_157_209 (t := 247) (pc' := 212) rfl rfl (fun c4226 => ?_) (fun c4226 => ?_)
              · skip
                have c4226 : ¬ (f4091 = 0) := c4226
                refine T_p xr_157_247 xn_157 (pc' := 248) (ls' := [(3, .int (iI 0)), (2, .int (iI at4040)), (1, .int (iI wi)), (0, .ref 530)]) (st' := [.ref 530]) rfl ?_
                refine T_cv (S := S4078) (q := 530) xr_157_248 xf_140.1 xf_140.2.1 xn_140 (as := []) (r := []) rfl h4100 (Nat.le_of_ble_eq_true rfl) (Nat.le_of_ble_eq_true rfl) (pc' := 251) rfl (ls' := [(0, .ref 530)]) rfl ?_
                refine T_mono (r_isGood sc S4078 (X_ou (X_ou (X_ou (X_ou (X_ou (X_ou (X_ou o 5 f4091) 6 g4092) 7 at4040) 8 en4041) 9 tk4042) 10 nu4043) 11 dg4044) nm4045 h4100 (show 0 ≤ f4091 ∧ f4091 ≤ 5 from by omega)) (fun v4227 S4228 h4229 => ?_)
                rcases h4229 with ⟨hv4230, hf4231⟩
                rw [hv4230]
                rw [hf4231]
                show X_T sc 157 (251, [(3, .int (iI 0)), (2, .int (iI at4040)), (1, .int (iI wi)), (0, .ref 530)], [.int (iI (bI (f4091 = 0)))], S4078) _
                refine T_bif_eq xr_157_251 (t := 277) (pc' := 254) rfl rfl (fun c4232 => ?_) (fun c4232 => ?_)
                · skip
                  have c4232 : ¬ (f4091 = 0) := c4232
                  refine T_p xr_157_277 xn_157 (pc' := 278) (ls' := [(3, .int (iI 0)), (2, .int (iI at4040)), (1, .int (iI wi)), (0, .ref 530)]) (st' := [.ref 530]) rfl ?_
                  refine T_cv (S := S4078) (q := 530) xr_157_278 xf_140.1 xf_140.2.1 xn_140 (as := []) (r := []) rfl h4100 (Nat.le_of_ble_eq_true rfl) (Nat.le_of_ble_eq_true rfl) (pc' := 281) rfl (ls' := [(0, .ref 530)]) rfl ?_
                  refine T_mono (r_isGood sc S4078 (X_ou (X_ou (X_ou (X_ou (X_ou (X_ou (X_ou o 5 f4091) 6 g4092) 7 at4040) 8 en4041) 9 tk4042) 10 nu4043) 11 dg4044) nm4045 h4100 (show 0 ≤ f4091 ∧ f4091 ≤ 5 from by omega)) (fun v4233 S4234 h4235 => ?_)
                  rcases h4235 with ⟨hv4236, hf4237⟩
                  rw [hv4236]
                  rw [hf4237]
                  show X_T sc 157 (281, [(3, .int (iI 0)), (2, .int (iI at4040)), (1, .int (iI wi)), (0, .ref 530)], [.int (iI (bI (f4091 = 0)))], S4078) _
                  refine T_bif_eq xr_157_281 (t := 302) (pc' := 284) rfl rfl (fun c4238 => ?_) (fun c4238 => ?_)
                  · skip
                    have c4238 : ¬ (f4091 = 0) := c4238
                    refine T_p xr_157_302 xn_157 (pc' := 303) (ls' := [(3, .int (iI 0)), (2, .int (iI at4040)), (1, .int (iI wi)), (0, .ref 530)]) (st' := [.ref 530]) rfl ?_
                    refine T_p xr_157_303 xn_157 (pc' := 304) (ls' := [(3, .int (iI 0)), (2, .int (iI at4040)), (1, .int (iI wi)), (0, .ref 530)]) (st' := [.ref 530, .ref 530]) rfl ?_
                    refine T_get xr_157_304 h4100 rfl (v := .int (iI (o 30))) rfl (pc' := 307) rfl ?_
                    refine T_p xr_157_307 xn_157 (pc' := 308) (ls' := [(3, .int (iI 0)), (2, .int (iI at4040)), (1, .int (iI wi)), (0, .ref 530)]) (st' := [.int (iI 1), .int (iI (o 30)), .ref 530]) rfl ?_
                    refine T_ziadd xr_157_308 (z := (o 30) + 1) rfl (pc' := 309) rfl ?_
                    refine T_ie (y := iI (wc + 1)) (by rw [hwc]) ?_
                    refine T_put xr_157_309 h4100 rfl (Nat.le_of_ble_eq_true rfl) rfl (fs' := [.ref 531, .int (iI (o 1)), .ref 532, .int (iI (o 3)), .int (iI (o 4)), .int (iI f4091), .int (iI g4092), .int (iI at4040), .int (iI en4041), .int (iI tk4042), .int (iI nu4043), .int (iI dg4044), .long nm4045, .ref 533, .ref 534, .ref 535, .ref 536, .ref 537, .ref 538, .ref 539, .ref 540, .ref 541, .ref 542, .ref 543, .ref 544, .ref 545, .ref 546, .ref 547, .int (iI (o 28)), .int (iI (o 29)), .int (iI (wc + 1)), .int (iI (o 31)), .int (iI (o 32)), .int (iI (o 33)), .ref 548, .ref 549, .ref 550, .ref 551, .int (iI (o 38)), .ref 552, .ref 553, .ref 554, .ref 555, .ref 556, .ref 557, .ref 558, .ref 559, .ref 560, .ref 561, .int (iI (o 49)), .ref 562, .ref 563, .ref 564, .ref 565, .ref 566, .ref 567, .ref 568, .ref 569, .int (iI (o 58)), .ref 570, .ref 571, .ref 572, .ref 573, .ref 574, .ref 575, .ref 576, .ref 577, .ref 578, .int (iI (o 68)), .int (iI (o 69)), .int (iI (o 70)), .ref 579]) rfl (pc' := 312) rfl (fun S4239 h4240 n4241 e4242 => ?_)
                    refine T_p xr_157_312 xn_157 (pc' := 313) (ls' := [(3, .int (iI 0)), (2, .int (iI at4040)), (1, .int (iI wi)), (0, .ref 530)]) (st' := [.ref 530]) rfl ?_
                    refine T_cv (S := S4239) (q := 530) xr_157_313 xf_140.1 xf_140.2.1 xn_140 (as := []) (r := []) rfl h4240 (Nat.le_of_ble_eq_true rfl) (Nat.le_of_ble_eq_true rfl) (pc' := 316) rfl (ls' := [(0, .ref 530)]) rfl ?_
                    refine T_mono (r_isGood sc S4239 (X_ou (X_ou (X_ou (X_ou (X_ou (X_ou (X_ou (X_ou o 5 f4091) 6 g4092) 7 at4040) 8 en4041) 9 tk4042) 10 nu4043) 11 dg4044) 30 (wc + 1)) nm4045 h4240 (show 0 ≤ f4091 ∧ f4091 ≤ 5 from by omega)) (fun v4243 S4244 h4245 => ?_)
                    rcases h4245 with ⟨hv4246, hf4247⟩
                    rw [hv4246]
                    rw [hf4247]
                    show X_T sc 157 (316, [(3, .int (iI 0)), (2, .int (iI at4040)), (1, .int (iI wi)), (0, .ref 530)], [.int (iI (bI (f4091 = 0)))], S4239) _
                    refine T_bif_eq xr_157_316 (t := 325) (pc' := 319) rfl rfl (fun c4248 => ?_) (fun c4248 => ?_)
                    · skip
                      have c4248 : ¬ (f4091 = 0) := c4248
                      refine T_vret xr_157_325 xf_157.2.2 ?_
                      refine hQ _ _ ?_
                      have h4249 := (n4241 537 (by decide)).trans ((hf4097.1 537 (by first | decide | omega)).trans ((n4067 537 (by decide)).trans ((hf4051.1 537 (by first | decide | omega)).trans (hA537))))
                      have h4250 := (n4241 538 (by decide)).trans ((hf4097.1 538 (by first | decide | omega)).trans ((n4067 538 (by decide)).trans ((hf4051.1 538 (by first | decide | omega)).trans (hA538))))
                      have h4251 := (n4241 539 (by decide)).trans ((hf4097.1 539 (by first | decide | omega)).trans (h4066))
                      have h4252 := (n4241 540 (by decide)).trans ((hf4097.1 540 (by first | decide | omega)).trans ((n4067 540 (by decide)).trans ((hf4051.1 540 (by first | decide | omega)).trans (hA540))))
                      have h4253 := (n4241 541 (by decide)).trans ((hf4097.1 541 (by first | decide | omega)).trans ((n4067 541 (by decide)).trans ((hf4051.1 541 (by first | decide | omega)).trans (hA541))))
                      have h4254 := (n4241 542 (by decide)).trans ((hf4097.1 542 (by first | decide | omega)).trans ((n4067 542 (by decide)).trans ((hf4051.1 542 (by first | decide | omega)).trans (hA542))))
                      have h4255 := (n4241 543 (by decide)).trans ((hf4097.1 543 (by first | decide | omega)).trans ((n4067 543 (by decide)).trans ((hf4051.1 543 (by first | decide | omega)).trans (hA543))))
                      have h4256 := (n4241 544 (by decide)).trans ((hf4097.1 544 (by first | decide | omega)).trans ((n4067 544 (by decide)).trans ((hf4051.1 544 (by first | decide | omega)).trans (hA544))))
                      have h4257 := (n4241 545 (by decide)).trans ((hf4097.1 545 (by first | decide | omega)).trans ((n4067 545 (by decide)).trans ((hf4051.1 545 (by first | decide | omega)).trans (hA545))))
                      have h4258 := (n4241 546 (by decide)).trans ((hf4097.1 546 (by first | decide | omega)).trans ((n4067 546 (by decide)).trans ((hf4051.1 546 (by first | decide | omega)).trans (hA546))))
                      have h4259 := (n4241 547 (by decide)).trans ((hf4097.1 547 (by first | decide | omega)).trans ((n4067 547 (by decide)).trans ((hf4051.1 547 (by first | decide | omega)).trans (hA547))))
                      refine Or.inr ⟨at4040, en4041, tk4042, nu4043, dg4044, nm4045, wc + 1, f4091, g4092, wR, wL, (X_ug wK wi (X_ix kn kc (ct c))), wM, wH, wS, sO, sN, eP, eH, hK, rfl, by omega, ?_, by first | exact R_ob.rf | exact R_ob.rf.up (by omega) | exact (R_ob.rf.up (by omega)).up (by omega), by first | exact R_ob.rf | exact R_ob.rf.up (by omega) | exact (R_ob.rf.up (by omega)).up (by omega), by first | exact R_ob.rf | exact R_ob.rf.up (by omega) | exact (R_ob.rf.up (by omega)).up (by omega), by first | exact R_ob.rf | exact R_ob.rf.up (by omega) | exact (R_ob.rf.up (by omega)).up (by omega), by first | exact R_ob.rf | exact R_ob.rf.up (by omega) | exact (R_ob.rf.up (by omega)).up (by omega), by first | exact R_ob.rf | exact R_ob.rf.up (by omega) | exact (R_ob.rf.up (by omega)).up (by omega), by first | exact R_ob.rf | exact R_ob.rf.up (by omega) | exact (R_ob.rf.up (by omega)).up (by omega), by first | exact R_ob.rf | exact R_ob.rf.up (by omega) | exact (R_ob.rf.up (by omega)).up (by omega), by first | exact R_ob.rf | exact R_ob.rf.up (by omega) | exact (R_ob.rf.up (by omega)).up (by omega), by first | exact R_ob.rf | exact R_ob.rf.up (by omega) | exact (R_ob.rf.up (by omega)).up (by omega), by first | exact R_ob.rf | exact R_ob.rf.up (by omega) | exact (R_ob.rf.up (by omega)).up (by omega), h4240, h4249, h4250, h4251, h4252, h4253, h4254, h4255, h4256, h4257, h4258, h4259, ((((X_Fr.rf).tr (X_Fr.mono ⟨hf4051.1, hf4051.2⟩ (fun q hq => by first | exact hq | (rcases hq with rfl <;> decide) | (rcases hq with rfl | rfl <;> decide) | (rcases hq with rfl | rfl | rfl <;> decide) | (rcases hq with rfl | rfl | rfl | rfl <;> decide) | (rcases hq with rfl | rfl | rfl | rfl | rfl <;> decide) | (rcases hq with rfl | rfl | rfl | rfl | rfl | rfl <;> decide) | (rcases hq with rfl | rfl | rfl | rfl | rfl | rfl | rfl <;> decide) | omega))).tr (X_Fr.of n4067 e4068 (by first | decide | exact ⟨Nat.le_add_right _ _, Nat.add_le_add_left (by decide) _⟩ | omega))).tr (X_Fr.mono ⟨hf4097.1, hf4097.2⟩ (fun q hq => by first | exact hq | (rcases hq with rfl <;> decide) | (rcases hq with rfl | rfl <;> decide) | (rcases hq with rfl | rfl | rfl <;> decide) | (rcases hq with rfl | rfl | rfl | rfl <;> decide) | (rcases hq with rfl | rfl | rfl | rfl | rfl <;> decide) | (rcases hq with rfl | rfl | rfl | rfl | rfl | rfl <;> decide) | (rcases hq with rfl | rfl | rfl | rfl | rfl | rfl | rfl <;> decide) | omega))).tr (X_Fr.of n4241 e4242 (by first | decide | exact ⟨Nat.le_add_right _ _, Nat.add_le_add_left (by decide) _⟩ | omega))⟩
                      unfold sp_wk
                      (repeat (first | rw [if_pos (by assumption)] | rw [if_neg (by assumption)] | rw [if_neg (by omega)] | rw [if_pos (by omega)]))
                      all_goals first | rfl | (unfold sp_wb; (repeat' split) <;> first | rfl | (exfalso; omega) | contradiction)
                    · skip
                      have c4248 : (f4091 = 0) := c4248
                      exact (show False by first | contradiction | omega).elim
                  · skip
                    have c4238 : (f4091 = 0) := c4238
                    exact (show False by first | contradiction | omega).elim
                · skip
                  have c4232 : (f4091 = 0) := c4232
                  exact (show False by first | contradiction | omega).elim
              · skip
                have c4226 : (f4091 = 0) := c4226
                exact (show False by first | contradiction | omega).elim
            · skip
              have c4220 : (f4091 = 0) := c4220
              exact (show False by first | contradiction | omega).elim
      · skip
        rw [hv4055]
        have h4063 : S4038.1 530 = .inr (11, [.ref 531, .int (iI (o 1)), .ref 532, .int (iI (o 3)), .int (iI (o 4)), .int (iI f4053), .int (iI g4054), .int (iI (o 7)), .int (iI (o 8)), .int (iI (o 9)), .int (iI (o 10)), .int (iI (o 11)), .long nm, .ref 533, .ref 534, .ref 535, .ref 536, .ref 537, .ref 538, .ref 539, .ref 540, .ref 541, .ref 542, .ref 543, .ref 544, .ref 545, .ref 546, .ref 547, .int (iI (o 28)), .int (iI (o 29)), .int (iI (o 30)), .int (iI (o 31)), .int (iI (o 32)), .int (iI (o 33)), .ref 548, .ref 549, .ref 550, .ref 551, .int (iI (o 38)), .ref 552, .ref 553, .ref 554, .ref 555, .ref 556, .ref 557, .ref 558, .ref 559, .ref 560, .ref 561, .int (iI (o 49)), .ref 562, .ref 563, .ref 564, .ref 565, .ref 566, .ref 567, .ref 568, .ref 569, .int (iI (o 58)), .ref 570, .ref 571, .ref 572, .ref 573, .ref 574, .ref 575, .ref 576, .ref 577, .ref 578, .int (iI (o 68)), .int (iI (o 69)), .int (iI (o 70)), .ref 579]) := hM4059
        show X_T sc 157 (134, [(1, .int (iI wi)), (0, .ref 530)], [.int (iI r4052), .int (iI wi), .ref 539], S4038) _
        have h4260 := (hf4060.1 539 (by first | decide | omega)).trans (hA539)
        refine T_ziast xr_157_134 h4260 (pc' := 135) rfl (fun S4261 h4262 n4263 e4264 => ?_)
        refine T_p xr_157_135 xn_157 (pc' := 136) (ls' := [(1, .int (iI wi)), (0, .ref 530)]) (st' := [.ref 530]) rfl ?_
        have h4265 := (n4263 530 (by decide)).trans (h4063)
        refine T_get xr_157_136 h4265 rfl (v := .int (iI (o 7))) rfl (pc' := 139) rfl ?_
        refine T_p xr_157_139 xn_157 (pc' := 140) (ls' := [(2, .int (iI (o 7))), (1, .int (iI wi)), (0, .ref 530)]) (st' := []) rfl ?_
        refine T_p xr_157_140 xn_157 (pc' := 141) (ls' := [(2, .int (iI (o 7))), (1, .int (iI wi)), (0, .ref 530)]) (st' := [.ref 530]) rfl ?_
        refine T_cv (S := S4261) (q := 530) xr_157_141 xf_140.1 xf_140.2.1 xn_140 (as := []) (r := []) rfl h4265 (Nat.le_of_ble_eq_true rfl) (Nat.le_of_ble_eq_true rfl) (pc' := 144) rfl (ls' := [(0, .ref 530)]) rfl ?_
        refine T_mono (r_isGood sc S4261 (X_ou (X_ou o 5 f4053) 6 g4054) nm h4265 (show 0 ≤ f4053 ∧ f4053 ≤ 5 from by omega)) (fun v4266 S4267 h4268 => ?_)
        rcases h4268 with ⟨hv4269, hf4270⟩
        rw [hv4269]
        rw [hf4270]
        show X_T sc 157 (144, [(2, .int (iI (o 7))), (1, .int (iI wi)), (0, .ref 530)], [.int (iI (bI (f4053 = 0)))], S4261) _
        refine T_bif_eq xr_157_144 (t := 153) (pc' := 147) rfl rfl (fun c4271 => ?_) (fun c4271 => ?_)
        · skip
          have c4271 : ¬ (f4053 = 0) := c4271
          refine T_p xr_157_153 xn_157 (pc' := 154) (ls' := [(2, .int (iI (o 7))), (1, .int (iI wi)), (0, .ref 530)]) (st' := [.int (iI 0)]) rfl ?_
          refine T_p xr_157_154 xn_157 (pc' := 155) (ls' := [(3, .int (iI 0)), (2, .int (iI (o 7))), (1, .int (iI wi)), (0, .ref 530)]) (st' := []) rfl ?_
          refine T_p xr_157_155 xn_157 (pc' := 156) (ls' := [(3, .int (iI 0)), (2, .int (iI (o 7))), (1, .int (iI wi)), (0, .ref 530)]) (st' := [.ref 530]) rfl ?_
          refine T_cv (S := S4261) (q := 530) xr_157_156 xf_140.1 xf_140.2.1 xn_140 (as := []) (r := []) rfl h4265 (Nat.le_of_ble_eq_true rfl) (Nat.le_of_ble_eq_true rfl) (pc' := 159) rfl (ls' := [(0, .ref 530)]) rfl ?_
          refine T_mono (r_isGood sc S4261 (X_ou (X_ou o 5 f4053) 6 g4054) nm h4265 (show 0 ≤ f4053 ∧ f4053 ≤ 5 from by omega)) (fun v4272 S4273 h4274 => ?_)
          rcases h4274 with ⟨hv4275, hf4276⟩
          rw [hv4275]
          rw [hf4276]
          show X_T sc 157 (159, [(3, .int (iI 0)), (2, .int (iI (o 7))), (1, .int (iI wi)), (0, .ref 530)], [.int (iI (bI (f4053 = 0)))], S4261) _
          refine T_bif_eq xr_157_159 (t := 205) (pc' := 162) rfl rfl (fun c4277 => ?_) (fun c4277 => ?_)
          · skip
            have c4277 : ¬ (f4053 = 0) := c4277
            refine T_p xr_157_205 xn_157 (pc' := 206) (ls' := [(3, .int (iI 0)), (2, .int (iI (o 7))), (1, .int (iI wi)), (0, .ref 530)]) (st' := [.ref 530]) rfl ?_
            refine T_cv (S := S4261) (q := 530) xr_157_206 xf_140.1 xf_140.2.1 xn_140 (as := []) (r := []) rfl h4265 (Nat.le_of_ble_eq_true rfl) (Nat.le_of_ble_eq_true rfl) (pc' := 209) rfl (ls' := [(0, .ref 530)]) rfl ?_
            refine T_mono (r_isGood sc S4261 (X_ou (X_ou o 5 f4053) 6 g4054) nm h4265 (show 0 ≤ f4053 ∧ f4053 ≤ 5 from by omega)) (fun v4278 S4279 h4280 => ?_)
            rcases h4280 with ⟨hv4281, hf4282⟩
            rw [hv4281]
            rw [hf4282]
            show X_T sc 157 (209, [(3, .int (iI 0)), (2, .int (iI (o 7))), (1, .int (iI wi)), (0, .ref 530)], [.int (iI (bI (f4053 = 0)))], S4261) _
            refine T_bif_eq xr_157_209 (t := 247) (pc' := 212) rfl rfl (fun c4283 => ?_) (fun c4283 => ?_)
            · skip
              have c4283 : ¬ (f4053 = 0) := c4283
              refine T_p xr_157_247 xn_157 (pc' := 248) (ls' := [(3, .int (iI 0)), (2, .int (iI (o 7))), (1, .int (iI wi)), (0, .ref 530)]) (st' := [.ref 530]) rfl ?_
              refine T_cv (S := S4261) (q := 530) xr_157_248 xf_140.1 xf_140.2.1 xn_140 (as := []) (r := []) rfl h4265 (Nat.le_of_ble_eq_true rfl) (Nat.le_of_ble_eq_true rfl) (pc' := 251) rfl (ls' := [(0, .ref 530)]) rfl ?_
              refine T_mono (r_isGood sc S4261 (X_ou (X_ou o 5 f4053) 6 g4054) nm h4265 (show 0 ≤ f4053 ∧ f4053 ≤ 5 from by omega)) (fun v4284 S4285 h4286 => ?_)
              rcases h4286 with ⟨hv4287, hf4288⟩
              rw [hv4287]
              rw [hf4288]
              show X_T sc 157 (251, [(3, .int (iI 0)), (2, .int (iI (o 7))), (1, .int (iI wi)), (0, .ref 530)], [.int (iI (bI (f4053 = 0)))], S4261) _
              refine T_bif_eq xr_157_251 (t := 277) (pc' := 254) rfl rfl (fun c4289 => ?_) (fun c4289 => ?_)
              · skip
                have c4289 : ¬ (f4053 = 0) := c4289
                refine T_p xr_157_277 xn_157 (pc' := 278) (ls' := [(3, .int (iI 0)), (2, .int (iI (o 7))), (1, .int (iI wi)), (0, .ref 530)]) (st' := [.ref 530]) rfl ?_
                refine T_cv (S := S4261) (q := 530) xr_157_278 xf_140.1 xf_140.2.1 xn_140 (as := []) (r := []) rfl h4265 (Nat.le_of_ble_eq_true rfl) (Nat.le_of_ble_eq_true rfl) (pc' := 281) rfl (ls' := [(0, .ref 530)]) rfl ?_
                refine T_mono (r_isGood sc S4261 (X_ou (X_ou o 5 f4053) 6 g4054) nm h4265 (show 0 ≤ f4053 ∧ f4053 ≤ 5 from by omega)) (fun v4290 S4291 h4292 => ?_)
                rcases h4292 with ⟨hv4293, hf4294⟩
                rw [hv4293]
                rw [hf4294]
                show X_T sc 157 (281, [(3, .int (iI 0)), (2, .int (iI (o 7))), (1, .int (iI wi)), (0, .ref 530)], [.int (iI (bI (f4053 = 0)))], S4261) _
                refine T_bif_eq xr_157_281 (t := 302) (pc' := 284) rfl rfl (fun c4295 => ?_) (fun c4295 => ?_)
                · skip
                  have c4295 : ¬ (f4053 = 0) := c4295
                  refine T_p xr_157_302 xn_157 (pc' := 303) (ls' := [(3, .int (iI 0)), (2, .int (iI (o 7))), (1, .int (iI wi)), (0, .ref 530)]) (st' := [.ref 530]) rfl ?_
                  refine T_p xr_157_303 xn_157 (pc' := 304) (ls' := [(3, .int (iI 0)), (2, .int (iI (o 7))), (1, .int (iI wi)), (0, .ref 530)]) (st' := [.ref 530, .ref 530]) rfl ?_
                  refine T_get xr_157_304 h4265 rfl (v := .int (iI (o 30))) rfl (pc' := 307) rfl ?_
                  refine T_p xr_157_307 xn_157 (pc' := 308) (ls' := [(3, .int (iI 0)), (2, .int (iI (o 7))), (1, .int (iI wi)), (0, .ref 530)]) (st' := [.int (iI 1), .int (iI (o 30)), .ref 530]) rfl ?_
                  refine T_ziadd xr_157_308 (z := (o 30) + 1) rfl (pc' := 309) rfl ?_
                  refine T_ie (y := iI (wc + 1)) (by rw [hwc]) ?_
                  refine T_put xr_157_309 h4265 rfl (Nat.le_of_ble_eq_true rfl) rfl (fs' := [.ref 531, .int (iI (o 1)), .ref 532, .int (iI (o 3)), .int (iI (o 4)), .int (iI f4053), .int (iI g4054), .int (iI (o 7)), .int (iI (o 8)), .int (iI (o 9)), .int (iI (o 10)), .int (iI (o 11)), .long nm, .ref 533, .ref 534, .ref 535, .ref 536, .ref 537, .ref 538, .ref 539, .ref 540, .ref 541, .ref 542, .ref 543, .ref 544, .ref 545, .ref 546, .ref 547, .int (iI (o 28)), .int (iI (o 29)), .int (iI (wc + 1)), .int (iI (o 31)), .int (iI (o 32)), .int (iI (o 33)), .ref 548, .ref 549, .ref 550, .ref 551, .int (iI (o 38)), .ref 552, .ref 553, .ref 554, .ref 555, .ref 556, .ref 557, .ref 558, .ref 559, .ref 560, .ref 561, .int (iI (o 49)), .ref 562, .ref 563, .ref 564, .ref 565, .ref 566, .ref 567, .ref 568, .ref 569, .int (iI (o 58)), .ref 570, .ref 571, .ref 572, .ref 573, .ref 574, .ref 575, .ref 576, .ref 577, .ref 578, .int (iI (o 68)), .int (iI (o 69)), .int (iI (o 70)), .ref 579]) rfl (pc' := 312) rfl (fun S4296 h4297 n4298 e4299 => ?_)
                  refine T_p xr_157_312 xn_157 (pc' := 313) (ls' := [(3, .int (iI 0)), (2, .int (iI (o 7))), (1, .int (iI wi)), (0, .ref 530)]) (st' := [.ref 530]) rfl ?_
                  refine T_cv (S := S4296) (q := 530) xr_157_313 xf_140.1 xf_140.2.1 xn_140 (as := []) (r := []) rfl h4297 (Nat.le_of_ble_eq_true rfl) (Nat.le_of_ble_eq_true rfl) (pc' := 316) rfl (ls' := [(0, .ref 530)]) rfl ?_
                  refine T_mono (r_isGood sc S4296 (X_ou (X_ou (X_ou o 5 f4053) 6 g4054) 30 (wc + 1)) nm h4297 (show 0 ≤ f4053 ∧ f4053 ≤ 5 from by omega)) (fun v4300 S4301 h4302 => ?_)
                  rcases h4302 with ⟨hv4303, hf4304⟩
                  rw [hv4303]
                  rw [hf4304]
                  show X_T sc 157 (316, [(3, .int (iI 0)), (2, .int (iI (o 7))), (1, .int (iI wi)), (0, .ref 530)], [.int (iI (bI (f4053 = 0)))], S4296) _
                  refine T_bif_eq xr_157_316 (t := 325) (pc' := 319) rfl rfl (fun c4305 => ?_) (fun c4305 => ?_)
                  · skip
                    have c4305 : ¬ (f4053 = 0) := c4305
                    refine T_vret xr_157_325 xf_157.2.2 ?_
                    refine hQ _ _ ?_
                    have h4306 := (n4298 537 (by decide)).trans ((n4263 537 (by decide)).trans ((hf4060.1 537 (by first | decide | omega)).trans (hA537)))
                    have h4307 := (n4298 538 (by decide)).trans ((n4263 538 (by decide)).trans ((hf4060.1 538 (by first | decide | omega)).trans (hA538)))
                    have h4308 := (n4298 539 (by decide)).trans (h4262)
                    have h4309 := (n4298 540 (by decide)).trans ((n4263 540 (by decide)).trans ((hf4060.1 540 (by first | decide | omega)).trans (hA540)))
                    have h4310 := (n4298 541 (by decide)).trans ((n4263 541 (by decide)).trans ((hf4060.1 541 (by first | decide | omega)).trans (hA541)))
                    have h4311 := (n4298 542 (by decide)).trans ((n4263 542 (by decide)).trans ((hf4060.1 542 (by first | decide | omega)).trans (hA542)))
                    have h4312 := (n4298 543 (by decide)).trans ((n4263 543 (by decide)).trans ((hf4060.1 543 (by first | decide | omega)).trans (hA543)))
                    have h4313 := (n4298 544 (by decide)).trans ((n4263 544 (by decide)).trans ((hf4060.1 544 (by first | decide | omega)).trans (hA544)))
                    have h4314 := (n4298 545 (by decide)).trans ((n4263 545 (by decide)).trans ((hf4060.1 545 (by first | decide | omega)).trans (hA545)))
                    have h4315 := (n4298 546 (by decide)).trans ((n4263 546 (by decide)).trans ((hf4060.1 546 (by first | decide | omega)).trans (hA546)))
                    have h4316 := (n4298 547 (by decide)).trans ((n4263 547 (by decide)).trans ((hf4060.1 547 (by first | decide | omega)).trans (hA547)))
                    refine Or.inr ⟨o 7, o 8, o 9, o 10, o 11, nm, wc + 1, f4053, g4054, wR, wL, (X_ug wK wi r4052), wM, wH, wS, sO, sN, eP, eH, hK, rfl, by omega, ?_, by first | exact R_ob.rf | exact R_ob.rf.up (by omega) | exact (R_ob.rf.up (by omega)).up (by omega), by first | exact R_ob.rf | exact R_ob.rf.up (by omega) | exact (R_ob.rf.up (by omega)).up (by omega), by first | exact R_ob.rf | exact R_ob.rf.up (by omega) | exact (R_ob.rf.up (by omega)).up (by omega), by first | exact R_ob.rf | exact R_ob.rf.up (by omega) | exact (R_ob.rf.up (by omega)).up (by omega), by first | exact R_ob.rf | exact R_ob.rf.up (by omega) | exact (R_ob.rf.up (by omega)).up (by omega), by first | exact R_ob.rf | exact R_ob.rf.up (by omega) | exact (R_ob.rf.up (by omega)).up (by omega), by first | exact R_ob.rf | exact R_ob.rf.up (by omega) | exact (R_ob.rf.up (by omega)).up (by omega), by first | exact R_ob.rf | exact R_ob.rf.up (by omega) | exact (R_ob.rf.up (by omega)).up (by omega), by first | exact R_ob.rf | exact R_ob.rf.up (by omega) | exact (R_ob.rf.up (by omega)).up (by omega), by first | exact R_ob.rf | exact R_ob.rf.up (by omega) | exact (R_ob.rf.up (by omega)).up (by omega), by first | exact R_ob.rf | exact R_ob.rf.up (by omega) | exact (R_ob.rf.up (by omega)).up (by omega), h4297, h4306, h4307, h4308, h4309, h4310, h4311, h4312, h4313, h4314, h4315, h4316, (((X_Fr.rf).tr (X_Fr.mono ⟨hf4060.1, hf4060.2⟩ (fun q hq => by first | exact hq | (rcases hq with rfl <;> decide) | (rcases hq with rfl | rfl <;> decide) | (rcases hq with rfl | rfl | rfl <;> decide) | (rcases hq with rfl | rfl | rfl | rfl <;> decide) | (rcases hq with rfl | rfl | rfl | rfl | rfl <;> decide) | (rcases hq with rfl | rfl | rfl | rfl | rfl | rfl <;> decide) | (rcases hq with rfl | rfl | rfl | rfl | rfl | rfl | rfl <;> decide) | omega))).tr (X_Fr.of n4263 e4264 (by first | decide | exact ⟨Nat.le_add_right _ _, Nat.add_le_add_left (by decide) _⟩ | omega))).tr (X_Fr.of n4298 e4299 (by first | decide | exact ⟨Nat.le_add_right _ _, Nat.add_le_add_left (by decide) _⟩ | omega))⟩
                    unfold sp_wk
                    (repeat (first | rw [if_pos (by assumption)] | rw [if_neg (by assumption)] | rw [if_neg (by omega)] | rw [if_pos (by omega)]))
                    all_goals first | rfl | (unfold sp_wb; (repeat' split) <;> first | rfl | (exfalso; omega) | contradiction)
                  · skip
                    have c4305 : (f4053 = 0) := c4305
                    exact (show False by first | contradiction | omega).elim
                · skip
                  have c4295 : (f4053 = 0) := c4295
                  exact (show False by first | contradiction | omega).elim
              · skip
                have c4289 : (f4053 = 0) := c4289
                exact (show False by first | contradiction | omega).elim
            · skip
              have c4283 : (f4053 = 0) := c4283
              exact (show False by first | contradiction | omega).elim
          · skip
            have c4277 : (f4053 = 0) := c4277
            exact (show False by first | contradiction | omega).elim
        · skip
          have c4271 : (f4053 = 0) := c4271
          exact (show False by first | contradiction | omega).elim
set_option maxHeartbeats 8000000 in
theorem r_readWord (sc : X_Sc) (S : X_S) (o : Nat → Int) (nm : Int64) (tx : Int → Int) (rN : Int → Int64) (kN : Int → Int64) (wR : Int → Int) (wL : Int → Int) (wK : Int → Int) (wM : Int → Int) (wH : Int → Int) (wS : Int → Int) (sO : Int → Int) (sN : Int → Int) (eP : Int → Int64) (eH : Int → Int) (hK : Int → Int) (tb : Int → Int) (len : Int) (n : Int) (so : Int → Int) (pl : Int → Int) (ct : Int → Int64) (E : Int → Int) (c : Int) (c0 : Int) (rc : Int) (kc : Int) (wc : Int) (rn : Int → Int64) (lo : Int → Int) (kn : Int → Int64) (ab : Int → Int) (D : Int → Nat → Int → Int) (W : Int → Int → Int64) (hM : M_o S o nm) (hA532 : S.1 532 = .inl (.byte, 2000, .inl fun k : Nat => iI (tx (k : Int)))) (hA533 : S.1 533 = .inl (.long, 24, .inr (.inl fun k : Nat => rN (k : Int)))) (hA534 : S.1 534 = .inl (.long, 22, .inr (.inl fun k : Nat => kN (k : Int)))) (hA537 : S.1 537 = .inl (.int, 60, .inl fun k : Nat => iI (wR (k : Int)))) (hA538 : S.1 538 = .inl (.int, 60, .inl fun k : Nat => iI (wL (k : Int)))) (hA539 : S.1 539 = .inl (.int, 60, .inl fun k : Nat => iI (wK (k : Int)))) (hA540 : S.1 540 = .inl (.int, 60, .inl fun k : Nat => iI (wM (k : Int)))) (hA541 : S.1 541 = .inl (.int, 60, .inl fun k : Nat => iI (wH (k : Int)))) (hA542 : S.1 542 = .inl (.int, 60, .inl fun k : Nat => iI (wS (k : Int)))) (hA543 : S.1 543 = .inl (.int, 1800, .inl fun k : Nat => iI (sO (k : Int)))) (hA544 : S.1 544 = .inl (.int, 1800, .inl fun k : Nat => iI (sN (k : Int)))) (hA545 : S.1 545 = .inl (.long, 480, .inr (.inl fun k : Nat => eP (k : Int)))) (hA546 : S.1 546 = .inl (.int, 480, .inl fun k : Nat => iI (eH (k : Int)))) (hA547 : S.1 547 = .inl (.int, 240, .inl fun k : Nat => iI (hK (k : Int)))) (hlen : o 3 = len) (hl : 0 ≤ len ∧ len ≤ 2000) (htx : ∀ k, 0 ≤ k → k < len → tx k = tb k) (hX : X_TxE tb len n so pl ct E) (hT : R_tk n so pl ct E c (o 7) (o 8) (o 9) (o 10) (o 11) nm) (h5 : o 5 = 0) (hrc : o 28 = rc) (hkc : o 29 = kc) (hwc : o 30 = wc) (hcr : (0 ≤ rc ∧ rc ≤ 12) ∧ 1 ≤ kc ∧ kc ≤ 11) (hb : 0 ≤ o 4 ∧ o 4 ≤ 1) (hwl : 0 ≤ wc ∧ wc < 30) (hc : c = X_av n c0) (hN1 : ∀ i, 0 ≤ i → i < rc → rN (12 * o 4 + i) = rn i) (hN2 : ∀ i, 0 ≤ i → i < kc → kN (11 * o 4 + i) = kn i) (hct : ∀ i, 0 ≤ i → i < n → so i = 6 → ¬ ct i = 0) : X_T sc 157 (0, [(0, .ref 530)], [], S) (fun v S' => (∃ (at1 : Int) (en1 : Int) (tk1 : Int) (nu1 : Int) (dg1 : Int) (nm1 : Int64) (g1 : Int) (c2 : Int) (d2 : Nat → Int → Int) (q2 : Int → Int64) (wR1 : Int → Int) (wL1 : Int → Int) (wK1 : Int → Int) (wM1 : Int → Int) (wH1 : Int → Int) (wS1 : Int → Int) (sO1 : Int → Int) (sN1 : Int → Int) (eP1 : Int → Int64) (eH1 : Int → Int) (hK1 : Int → Int), v = none ∧ R_tk n so pl ct E c2 at1 en1 tk1 nu1 dg1 nm1 ∧ sp_word n so ct (c0, rc, kc, wc, rn, lo, kn, ab, D, W) = some (c2, rc, kc, wc + 1, rn, lo, kn, ab, X_ug D wc d2, X_ug W wc q2) ∧ R_w (30 * o 4 + wc) d2 q2 wR1 wL1 wK1 wM1 wH1 wS1 sO1 sN1 eP1 eH1 hK1 ∧ R_ob 1 (30 * o 4 + wc) wR wR1 ∧ R_ob 1 (30 * o 4 + wc) wL wL1 ∧ R_ob 1 (30 * o 4 + wc) wK wK1 ∧ R_ob 1 (30 * o 4 + wc) wM wM1 ∧ R_ob 1 (30 * o 4 + wc) wH wH1 ∧ R_ob 1 (30 * o 4 + wc) wS wS1 ∧ R_ob 30 (30 * o 4 + wc) sO sO1 ∧ R_ob 30 (30 * o 4 + wc) sN sN1 ∧ R_ob 8 (30 * o 4 + wc) eP eP1 ∧ R_ob 8 (30 * o 4 + wc) eH eH1 ∧ R_ob 4 (30 * o 4 + wc) hK hK1 ∧ M_o S' (X_ou (X_ou (X_ou (X_ou (X_ou (X_ou (X_ou o 7 at1) 8 en1) 9 tk1) 10 nu1) 11 dg1) 6 g1) 30 (wc + 1)) nm1 ∧ S'.1 537 = .inl (.int, 60, .inl fun k : Nat => iI (wR1 (k : Int))) ∧ S'.1 538 = .inl (.int, 60, .inl fun k : Nat => iI (wL1 (k : Int))) ∧ S'.1 539 = .inl (.int, 60, .inl fun k : Nat => iI (wK1 (k : Int))) ∧ S'.1 540 = .inl (.int, 60, .inl fun k : Nat => iI (wM1 (k : Int))) ∧ S'.1 541 = .inl (.int, 60, .inl fun k : Nat => iI (wH1 (k : Int))) ∧ S'.1 542 = .inl (.int, 60, .inl fun k : Nat => iI (wS1 (k : Int))) ∧ S'.1 543 = .inl (.int, 1800, .inl fun k : Nat => iI (sO1 (k : Int))) ∧ S'.1 544 = .inl (.int, 1800, .inl fun k : Nat => iI (sN1 (k : Int))) ∧ S'.1 545 = .inl (.long, 480, .inr (.inl fun k : Nat => eP1 (k : Int))) ∧ S'.1 546 = .inl (.int, 480, .inl fun k : Nat => iI (eH1 (k : Int))) ∧ S'.1 547 = .inl (.int, 240, .inl fun k : Nat => iI (hK1 (k : Int))) ∧ (X_Fr (fun q => q = 530 ∨ q = 537 ∨ q = 538 ∨ q = 539 ∨ q = 540 ∨ q = 541 ∨ q = 542 ∨ q = 543 ∨ q = 544 ∨ q = 545 ∨ q = 546 ∨ q = 547) S S')) ∨ (∃ (at1 : Int) (en1 : Int) (tk1 : Int) (nu1 : Int) (dg1 : Int) (nm1 : Int64) (wc1 : Int) (f1 : Int) (g1 : Int) (wR1 : Int → Int) (wL1 : Int → Int) (wK1 : Int → Int) (wM1 : Int → Int) (wH1 : Int → Int) (wS1 : Int → Int) (sO1 : Int → Int) (sN1 : Int → Int) (eP1 : Int → Int64) (eH1 : Int → Int) (hK1 : Int → Int), v = none ∧ (1 ≤ f1 ∧ f1 ≤ 5) ∧ sp_word n so ct (c0, rc, kc, wc, rn, lo, kn, ab, D, W) = none ∧ R_ob 1 (30 * o 4 + wc) wR wR1 ∧ R_ob 1 (30 * o 4 + wc) wL wL1 ∧ R_ob 1 (30 * o 4 + wc) wK wK1 ∧ R_ob 1 (30 * o 4 + wc) wM wM1 ∧ R_ob 1 (30 * o 4 + wc) wH wH1 ∧ R_ob 1 (30 * o 4 + wc) wS wS1 ∧ R_ob 30 (30 * o 4 + wc) sO sO1 ∧ R_ob 30 (30 * o 4 + wc) sN sN1 ∧ R_ob 8 (30 * o 4 + wc) eP eP1 ∧ R_ob 8 (30 * o 4 + wc) eH eH1 ∧ R_ob 4 (30 * o 4 + wc) hK hK1 ∧ M_o S' (X_ou (X_ou (X_ou (X_ou (X_ou (X_ou (X_ou (X_ou o 7 at1) 8 en1) 9 tk1) 10 nu1) 11 dg1) 5 f1) 6 g1) 30 wc1) nm1 ∧ S'.1 537 = .inl (.int, 60, .inl fun k : Nat => iI (wR1 (k : Int))) ∧ S'.1 538 = .inl (.int, 60, .inl fun k : Nat => iI (wL1 (k : Int))) ∧ S'.1 539 = .inl (.int, 60, .inl fun k : Nat => iI (wK1 (k : Int))) ∧ S'.1 540 = .inl (.int, 60, .inl fun k : Nat => iI (wM1 (k : Int))) ∧ S'.1 541 = .inl (.int, 60, .inl fun k : Nat => iI (wH1 (k : Int))) ∧ S'.1 542 = .inl (.int, 60, .inl fun k : Nat => iI (wS1 (k : Int))) ∧ S'.1 543 = .inl (.int, 1800, .inl fun k : Nat => iI (sO1 (k : Int))) ∧ S'.1 544 = .inl (.int, 1800, .inl fun k : Nat => iI (sN1 (k : Int))) ∧ S'.1 545 = .inl (.long, 480, .inr (.inl fun k : Nat => eP1 (k : Int))) ∧ S'.1 546 = .inl (.int, 480, .inl fun k : Nat => iI (eH1 (k : Int))) ∧ S'.1 547 = .inl (.int, 240, .inl fun k : Nat => iI (hK1 (k : Int))) ∧ (X_Fr (fun q => q = 530 ∨ q = 537 ∨ q = 538 ∨ q = 539 ∨ q = 540 ∨ q = 541 ∨ q = 542 ∨ q = 543 ∨ q = 544 ∨ q = 545 ∨ q = 546 ∨ q = 547) S S'))) := by
  obtain ⟨⟨hc0, hcn⟩, ⟨hs0, hs1⟩, hk0, ⟨ha0, ha1⟩, hk0e, ⟨_, _⟩, ⟨_, _⟩⟩ := R_tk_f hX hT
  have hn2 := hX.2.1
  refine X_QI (fun Q hQ => ?_)
  refine T_p xr_157_0 xn_157 (pc' := 2) (ls' := [(0, .ref 530)]) (st' := [.int (iI 30)]) rfl ?_
  refine T_p xr_157_2 xn_157 (pc' := 3) (ls' := [(0, .ref 530)]) (st' := [.ref 530, .int (iI 30)]) rfl ?_
  refine T_get xr_157_3 hM rfl (v := .int (iI (o 4))) rfl (pc' := 6) rfl ?_
  refine T_zimul xr_157_6 (z := 30 * (o 4)) rfl (pc' := 7) rfl ?_
  refine T_p xr_157_7 xn_157 (pc' := 8) (ls' := [(0, .ref 530)]) (st' := [.ref 530, .int (iI (30 * (o 4)))]) rfl ?_
  refine T_get xr_157_8 hM rfl (v := .int (iI (o 30))) rfl (pc' := 11) rfl ?_
  refine T_ziadd xr_157_11 (z := (30 * (o 4)) + (o 30)) rfl (pc' := 12) rfl ?_
  obtain ⟨wi, hwi⟩ : ∃ z : Int, z = 30 * o 4 + wc := ⟨_, rfl⟩
  simp only [← hwi] at hQ
  refine T_ie (y := iI wi) (by congr 1; omega) ?_
  refine T_p xr_157_12 xn_157 (pc' := 13) (ls' := [(1, .int (iI wi)), (0, .ref 530)]) (st' := []) rfl ?_
  refine T_p xr_157_13 xn_157 (pc' := 14) (ls' := [(1, .int (iI wi)), (0, .ref 530)]) (st' := [.ref 530]) rfl ?_
  refine T_get xr_157_14 hM rfl (v := .ref 537) rfl (pc' := 17) rfl ?_
  refine T_p xr_157_17 xn_157 (pc' := 18) (ls' := [(1, .int (iI wi)), (0, .ref 530)]) (st' := [.int (iI wi), .ref 537]) rfl ?_
  refine T_p xr_157_18 xn_157 (pc' := 19) (ls' := [(1, .int (iI wi)), (0, .ref 530)]) (st' := [.ref 530, .int (iI wi), .ref 537]) rfl ?_
  refine T_cv (S := S) (q := 530) xr_157_19 xf_151.1 xf_151.2.1 xn_151 (as := []) (r := [.int (iI wi), .ref 537]) rfl hM (Nat.le_of_ble_eq_true rfl) (Nat.le_of_ble_eq_true rfl) (pc' := 22) rfl (ls' := [(0, .ref 530)]) rfl ?_
  refine T_mono (r_aRank sc S o nm tx rN tb len n so pl ct E c rn rc hM hA532 hA533 (show (o 3) = len from by first | assumption | omega) hl htx hX hT (show (o 5) = 0 from by omega) (show (o 28) = rc from by omega) (by omega) (show 0 ≤ (o 4) ∧ (o 4) ≤ 1 from by omega) hN1) (fun v4317 S4318 h4319 => ?_)
  rcases h4319 with ⟨at4320, en4321, tk4322, nu4323, dg4324, nm4325, hv4326, hp4327, hp4328, hp4329, hM4330, hf4331⟩ | ⟨r4332, f4333, g4334, hv4335, hp4336, hp4337, hp4338, hM4339, hf4340⟩
  · skip
    rw [hv4326]
    have h4341 : S4318.1 530 = .inr (11, [.ref 531, .int (iI (o 1)), .ref 532, .int (iI (o 3)), .int (iI (o 4)), .int (iI (o 5)), .int (iI (o 6)), .int (iI at4320), .int (iI en4321), .int (iI tk4322), .int (iI nu4323), .int (iI dg4324), .long nm4325, .ref 533, .ref 534, .ref 535, .ref 536, .ref 537, .ref 538, .ref 539, .ref 540, .ref 541, .ref 542, .ref 543, .ref 544, .ref 545, .ref 546, .ref 547, .int (iI (o 28)), .int (iI (o 29)), .int (iI (o 30)), .int (iI (o 31)), .int (iI (o 32)), .int (iI (o 33)), .ref 548, .ref 549, .ref 550, .ref 551, .int (iI (o 38)), .ref 552, .ref 553, .ref 554, .ref 555, .ref 556, .ref 557, .ref 558, .ref 559, .ref 560, .ref 561, .int (iI (o 49)), .ref 562, .ref 563, .ref 564, .ref 565, .ref 566, .ref 567, .ref 568, .ref 569, .int (iI (o 58)), .ref 570, .ref 571, .ref 572, .ref 573, .ref 574, .ref 575, .ref 576, .ref 577, .ref 578, .int (iI (o 68)), .int (iI (o 69)), .int (iI (o 70)), .ref 579]) := hM4330
    obtain ⟨⟨_, _⟩, ⟨_, _⟩, hk4342, ⟨_, _⟩, hk4342e, ⟨_, _⟩, ⟨_, _⟩⟩ := R_tk_f hX hp4327
    show X_T sc 157 (22, [(1, .int (iI wi)), (0, .ref 530)], [.int (iI (X_ix rn rc (ct c))), .int (iI wi), .ref 537], S4318) _
    have h4344 := (hf4331.1 537 (by first | decide | omega)).trans (hA537)
    refine T_ziast xr_157_22 h4344 (pc' := 23) rfl (fun S4345 h4346 n4347 e4348 => ?_)
    refine T_p xr_157_23 xn_157 (pc' := 24) (ls' := [(1, .int (iI wi)), (0, .ref 530)]) (st' := [.ref 530]) rfl ?_
    have h4349 := (n4347 530 (by decide)).trans (h4341)
    refine T_get xr_157_24 h4349 rfl (v := .ref 538) rfl (pc' := 27) rfl ?_
    refine T_p xr_157_27 xn_157 (pc' := 28) (ls' := [(1, .int (iI wi)), (0, .ref 530)]) (st' := [.int (iI wi), .ref 538]) rfl ?_
    refine T_p xr_157_28 xn_157 (pc' := 29) (ls' := [(1, .int (iI wi)), (0, .ref 530)]) (st' := [.int (iI 0), .int (iI wi), .ref 538]) rfl ?_
    have h4350 := (n4347 538 (by decide)).trans ((hf4331.1 538 (by first | decide | omega)).trans (hA538))
    refine T_ziast xr_157_29 h4350 (pc' := 30) rfl (fun S4351 h4352 n4353 e4354 => ?_)
    refine T_p xr_157_30 xn_157 (pc' := 31) (ls' := [(1, .int (iI wi)), (0, .ref 530)]) (st' := [.ref 530]) rfl ?_
    have h4355 := (n4353 530 (by decide)).trans (h4349)
    refine T_get xr_157_31 h4355 rfl (v := .ref 539) rfl (pc' := 34) rfl ?_
    refine T_p xr_157_34 xn_157 (pc' := 35) (ls' := [(1, .int (iI wi)), (0, .ref 530)]) (st' := [.int (iI wi), .ref 539]) rfl ?_
    refine T_p xr_157_35 xn_157 (pc' := 36) (ls' := [(1, .int (iI wi)), (0, .ref 530)]) (st' := [.int (iI 0), .int (iI wi), .ref 539]) rfl ?_
    have h4356 := (n4353 539 (by decide)).trans ((n4347 539 (by decide)).trans ((hf4331.1 539 (by first | decide | omega)).trans (hA539)))
    refine T_ziast xr_157_36 h4356 (pc' := 37) rfl (fun S4357 h4358 n4359 e4360 => ?_)
    refine T_p xr_157_37 xn_157 (pc' := 38) (ls' := [(1, .int (iI wi)), (0, .ref 530)]) (st' := [.ref 530]) rfl ?_
    have h4361 := (n4359 530 (by decide)).trans (h4355)
    refine T_get xr_157_38 h4361 rfl (v := .ref 540) rfl (pc' := 41) rfl ?_
    refine T_p xr_157_41 xn_157 (pc' := 42) (ls' := [(1, .int (iI wi)), (0, .ref 530)]) (st' := [.int (iI wi), .ref 540]) rfl ?_
    refine T_p xr_157_42 xn_157 (pc' := 43) (ls' := [(1, .int (iI wi)), (0, .ref 530)]) (st' := [.int (iI 0), .int (iI wi), .ref 540]) rfl ?_
    have h4362 := (n4359 540 (by decide)).trans ((n4353 540 (by decide)).trans ((n4347 540 (by decide)).trans ((hf4331.1 540 (by first | decide | omega)).trans (hA540))))
    refine T_ziast xr_157_43 h4362 (pc' := 44) rfl (fun S4363 h4364 n4365 e4366 => ?_)
    refine T_p xr_157_44 xn_157 (pc' := 45) (ls' := [(1, .int (iI wi)), (0, .ref 530)]) (st' := [.ref 530]) rfl ?_
    have h4367 := (n4365 530 (by decide)).trans (h4361)
    refine T_get xr_157_45 h4367 rfl (v := .ref 541) rfl (pc' := 48) rfl ?_
    refine T_p xr_157_48 xn_157 (pc' := 49) (ls' := [(1, .int (iI wi)), (0, .ref 530)]) (st' := [.int (iI wi), .ref 541]) rfl ?_
    refine T_p xr_157_49 xn_157 (pc' := 50) (ls' := [(1, .int (iI wi)), (0, .ref 530)]) (st' := [.int (iI 0), .int (iI wi), .ref 541]) rfl ?_
    have h4368 := (n4365 541 (by decide)).trans ((n4359 541 (by decide)).trans ((n4353 541 (by decide)).trans ((n4347 541 (by decide)).trans ((hf4331.1 541 (by first | decide | omega)).trans (hA541)))))
    refine T_ziast xr_157_50 h4368 (pc' := 51) rfl (fun S4369 h4370 n4371 e4372 => ?_)
    refine T_p xr_157_51 xn_157 (pc' := 52) (ls' := [(1, .int (iI wi)), (0, .ref 530)]) (st' := [.ref 530]) rfl ?_
    have h4373 := (n4371 530 (by decide)).trans (h4367)
    refine T_get xr_157_52 h4373 rfl (v := .ref 542) rfl (pc' := 55) rfl ?_
    refine T_p xr_157_55 xn_157 (pc' := 56) (ls' := [(1, .int (iI wi)), (0, .ref 530)]) (st' := [.int (iI wi), .ref 542]) rfl ?_
    refine T_p xr_157_56 xn_157 (pc' := 57) (ls' := [(1, .int (iI wi)), (0, .ref 530)]) (st' := [.int (iI (-1)), .int (iI wi), .ref 542]) rfl ?_
    have h4374 := (n4371 542 (by decide)).trans ((n4365 542 (by decide)).trans ((n4359 542 (by decide)).trans ((n4353 542 (by decide)).trans ((n4347 542 (by decide)).trans ((hf4331.1 542 (by first | decide | omega)).trans (hA542))))))
    refine T_ziast xr_157_57 h4374 (pc' := 58) rfl (fun S4375 h4376 n4377 e4378 => ?_)
    refine T_p xr_157_58 xn_157 (pc' := 59) (ls' := [(1, .int (iI wi)), (0, .ref 530)]) (st' := [.ref 530]) rfl ?_
    have h4379 := (n4377 530 (by decide)).trans (h4373)
    refine T_cv (S := S4375) (q := 530) xr_157_59 xf_140.1 xf_140.2.1 xn_140 (as := []) (r := []) rfl h4379 (Nat.le_of_ble_eq_true rfl) (Nat.le_of_ble_eq_true rfl) (pc' := 62) rfl (ls' := [(0, .ref 530)]) rfl ?_
    refine T_mono (r_isGood sc S4375 (X_ou (X_ou (X_ou (X_ou (X_ou o 7 at4320) 8 en4321) 9 tk4322) 10 nu4323) 11 dg4324) nm4325 h4379 (show 0 ≤ (o 5) ∧ (o 5) ≤ 5 from by omega)) (fun v4380 S4381 h4382 => ?_)
    rcases h4382 with ⟨hv4383, hf4384⟩
    rw [hv4383]
    rw [hf4384]
    show X_T sc 157 (62, [(1, .int (iI wi)), (0, .ref 530)], [.int (iI (bI ((o 5) = 0)))], S4375) _
    refine T_bif_eq xr_157_62 (t := 110) (pc' := 65) rfl rfl (fun c4385 => ?_) (fun c4385 => ?_)
    · skip
      have c4385 : ¬ ((o 5) = 0) := c4385
      exact (show False by first | contradiction | omega).elim
    · skip
      have c4385 : ((o 5) = 0) := c4385
      refine T_p xr_157_65 xn_157 (pc' := 66) (ls' := [(1, .int (iI wi)), (0, .ref 530)]) (st' := [.ref 530]) rfl ?_
      refine T_p xr_157_66 xn_157 (pc' := 69) (ls' := [(1, .int (iI wi)), (0, .ref 530)]) (st' := [.long (Int64.ofNat 1818584692), .ref 530]) rfl ?_
      refine T_cv (S := S4375) (q := 530) xr_157_69 xf_146.1 xf_146.2.1 xn_146 (as := [.long (Int64.ofNat 1818584692)]) (r := []) rfl h4379 (Nat.le_of_ble_eq_true rfl) (Nat.le_of_ble_eq_true rfl) (pc' := 72) rfl (ls' := [(0, .ref 530), (1, .long (Int64.ofNat 1818584692))]) rfl ?_
      have h4386 := (n4377 532 (by decide)).trans ((n4371 532 (by decide)).trans ((n4365 532 (by decide)).trans ((n4359 532 (by decide)).trans ((n4353 532 (by decide)).trans ((n4347 532 (by decide)).trans ((hf4331.1 532 (by first | decide | omega)).trans (hA532)))))))
      refine T_mono (r_isWord sc S4375 (X_ou (X_ou (X_ou (X_ou (X_ou o 7 at4320) 8 en4321) 9 tk4322) 10 nu4323) 11 dg4324) nm4325 tx tb len n so pl ct E (X_av n c) (Int64.ofNat 1818584692) h4379 h4386 (show (o 3) = len from by first | assumption | omega) hl htx hX hp4327) (fun v4387 S4388 h4389 => ?_)
      rcases h4389 with ⟨hv4390, hf4391⟩
      rw [hv4390]
      rw [hf4391]
      show X_T sc 157 (72, [(1, .int (iI wi)), (0, .ref 530)], [.int (iI (bI (so (X_av n c) = 3 ∧ ct (X_av n c) = (Int64.ofNat 1818584692))))], S4375) _
      refine T_bif_ne xr_157_72 (t := 85) (pc' := 75) rfl rfl (fun c4392 => ?_) (fun c4392 => ?_)
      · skip
        have c4392 : (so (X_av n c) = 3 ∧ ct (X_av n c) = (Int64.ofNat 1818584692)) := c4392
        refine T_p xr_157_85 xn_157 (pc' := 86) (ls' := [(1, .int (iI wi)), (0, .ref 530)]) (st' := [.ref 530]) rfl ?_
        refine T_get xr_157_86 h4379 rfl (v := .ref 538) rfl (pc' := 89) rfl ?_
        refine T_p xr_157_89 xn_157 (pc' := 90) (ls' := [(1, .int (iI wi)), (0, .ref 530)]) (st' := [.int (iI wi), .ref 538]) rfl ?_
        refine T_p xr_157_90 xn_157 (pc' := 91) (ls' := [(1, .int (iI wi)), (0, .ref 530)]) (st' := [.ref 530, .int (iI wi), .ref 538]) rfl ?_
        refine T_p xr_157_91 xn_157 (pc' := 94) (ls' := [(1, .int (iI wi)), (0, .ref 530)]) (st' := [.long (Int64.ofNat 1818584692), .ref 530, .int (iI wi), .ref 538]) rfl ?_
        refine T_cv (S := S4375) (q := 530) xr_157_94 xf_146.1 xf_146.2.1 xn_146 (as := [.long (Int64.ofNat 1818584692)]) (r := [.int (iI wi), .ref 538]) rfl h4379 (Nat.le_of_ble_eq_true rfl) (Nat.le_of_ble_eq_true rfl) (pc' := 97) rfl (ls' := [(0, .ref 530), (1, .long (Int64.ofNat 1818584692))]) rfl ?_
        refine T_mono (r_isWord sc S4375 (X_ou (X_ou (X_ou (X_ou (X_ou o 7 at4320) 8 en4321) 9 tk4322) 10 nu4323) 11 dg4324) nm4325 tx tb len n so pl ct E (X_av n c) (Int64.ofNat 1818584692) h4379 h4386 (show (o 3) = len from by first | assumption | omega) hl htx hX hp4327) (fun v4393 S4394 h4395 => ?_)
        rcases h4395 with ⟨hv4396, hf4397⟩
        rw [hv4396]
        rw [hf4397]
        show X_T sc 157 (97, [(1, .int (iI wi)), (0, .ref 530)], [.int (iI (bI (so (X_av n c) = 3 ∧ ct (X_av n c) = (Int64.ofNat 1818584692)))), .int (iI wi), .ref 538], S4375) _
        refine T_bif_eq xr_157_97 (t := 104) (pc' := 100) rfl rfl (fun c4398 => ?_) (fun c4398 => ?_)
        · skip
          have c4398 : ¬ (so (X_av n c) = 3 ∧ ct (X_av n c) = (Int64.ofNat 1818584692)) := c4398
          exact (show False by first | contradiction | omega).elim
        · skip
          have c4398 : (so (X_av n c) = 3 ∧ ct (X_av n c) = (Int64.ofNat 1818584692)) := c4398
          refine T_p xr_157_100 xn_157 (pc' := 101) (ls' := [(1, .int (iI wi)), (0, .ref 530)]) (st' := [.int (iI 1), .int (iI wi), .ref 538]) rfl ?_
          refine T_p xr_157_101 xn_157 (pc' := 105) (ls' := [(1, .int (iI wi)), (0, .ref 530)]) (st' := [.int (iI 1), .int (iI wi), .ref 538]) rfl ?_
          have h4399 := (n4377 538 (by decide)).trans ((n4371 538 (by decide)).trans ((n4365 538 (by decide)).trans ((n4359 538 (by decide)).trans (h4352))))
          refine T_ziast xr_157_105 h4399 (pc' := 106) rfl (fun S4400 h4401 n4402 e4403 => ?_)
          refine T_p xr_157_106 xn_157 (pc' := 107) (ls' := [(1, .int (iI wi)), (0, .ref 530)]) (st' := [.ref 530]) rfl ?_
          have h4404 := (n4402 530 (by decide)).trans (h4379)
          refine T_cv (S := S4400) (q := 530) xr_157_107 xf_141.1 xf_141.2.1 xn_141 (as := []) (r := []) rfl h4404 (Nat.le_of_ble_eq_true rfl) (Nat.le_of_ble_eq_true rfl) (pc' := 110) rfl (ls' := [(0, .ref 530)]) rfl ?_
          have h4405 := (n4402 532 (by decide)).trans (h4386)
          refine T_mono (r_nx sc S4400 (X_ou (X_ou (X_ou (X_ou (X_ou o 7 at4320) 8 en4321) 9 tk4322) 10 nu4323) 11 dg4324) nm4325 tx tb len n so pl ct E (X_av n c) h4404 h4405 (show (o 3) = len from by first | assumption | omega) hl htx hX hp4327 (by omega)) (fun v4406 S4407 h4408 => ?_)
          rcases h4408 with ⟨at4409, en4410, tk4411, nu4412, dg4413, nm4414, hv4415, hp4416, hM4417, hf4418⟩
          rw [hv4415]
          have h4419 : S4407.1 530 = .inr (11, [.ref 531, .int (iI (o 1)), .ref 532, .int (iI (o 3)), .int (iI (o 4)), .int (iI (o 5)), .int (iI (o 6)), .int (iI at4409), .int (iI en4410), .int (iI tk4411), .int (iI nu4412), .int (iI dg4413), .long nm4414, .ref 533, .ref 534, .ref 535, .ref 536, .ref 537, .ref 538, .ref 539, .ref 540, .ref 541, .ref 542, .ref 543, .ref 544, .ref 545, .ref 546, .ref 547, .int (iI (o 28)), .int (iI (o 29)), .int (iI (o 30)), .int (iI (o 31)), .int (iI (o 32)), .int (iI (o 33)), .ref 548, .ref 549, .ref 550, .ref 551, .int (iI (o 38)), .ref 552, .ref 553, .ref 554, .ref 555, .ref 556, .ref 557, .ref 558, .ref 559, .ref 560, .ref 561, .int (iI (o 49)), .ref 562, .ref 563, .ref 564, .ref 565, .ref 566, .ref 567, .ref 568, .ref 569, .int (iI (o 58)), .ref 570, .ref 571, .ref 572, .ref 573, .ref 574, .ref 575, .ref 576, .ref 577, .ref 578, .int (iI (o 68)), .int (iI (o 69)), .int (iI (o 70)), .ref 579]) := hM4417
          obtain ⟨⟨_, _⟩, ⟨_, _⟩, hk4420, ⟨_, _⟩, hk4420e, ⟨_, _⟩, ⟨_, _⟩⟩ := R_tk_f hX hp4416
          show X_T sc 157 (110, [(1, .int (iI wi)), (0, .ref 530)], [], S4407) _
          have h4421 := (hf4418.1 538 (by first | decide | omega)).trans (h4401)
          have eC : X_lnC n so ct (X_av n c) = (X_av n (X_av n c)) := by unfold X_lnC; rw [if_pos (Or.inl (by assumption))]
          have eV : X_lnV so ct (X_av n c) 0 = 1 := by unfold X_lnV; rw [if_pos (by assumption)]
          have h4422 := (hf4418.1 537 (by first | decide | omega)).trans ((n4402 537 (by decide)).trans ((n4377 537 (by decide)).trans ((n4371 537 (by decide)).trans ((n4365 537 (by decide)).trans ((n4359 537 (by decide)).trans ((n4353 537 (by decide)).trans (h4346)))))))
          have h4423 := (hf4418.1 539 (by first | decide | omega)).trans ((n4402 539 (by decide)).trans ((n4377 539 (by decide)).trans ((n4371 539 (by decide)).trans ((n4365 539 (by decide)).trans (h4358)))))
          have h4424 := (hf4418.1 540 (by first | decide | omega)).trans ((n4402 540 (by decide)).trans ((n4377 540 (by decide)).trans ((n4371 540 (by decide)).trans (h4364))))
          have h4425 := (hf4418.1 541 (by first | decide | omega)).trans ((n4402 541 (by decide)).trans ((n4377 541 (by decide)).trans (h4370)))
          have h4426 := (hf4418.1 542 (by first | decide | omega)).trans ((n4402 542 (by decide)).trans (h4376))
          have h4427 := (hf4418.1 543 (by first | decide | omega)).trans ((n4402 543 (by decide)).trans ((n4377 543 (by decide)).trans ((n4371 543 (by decide)).trans ((n4365 543 (by decide)).trans ((n4359 543 (by decide)).trans ((n4353 543 (by decide)).trans ((n4347 543 (by decide)).trans ((hf4331.1 543 (by first | decide | omega)).trans (hA543)))))))))
          have h4428 := (hf4418.1 544 (by first | decide | omega)).trans ((n4402 544 (by decide)).trans ((n4377 544 (by decide)).trans ((n4371 544 (by decide)).trans ((n4365 544 (by decide)).trans ((n4359 544 (by decide)).trans ((n4353 544 (by decide)).trans ((n4347 544 (by decide)).trans ((hf4331.1 544 (by first | decide | omega)).trans (hA544)))))))))
          have h4429 := (hf4418.1 545 (by first | decide | omega)).trans ((n4402 545 (by decide)).trans ((n4377 545 (by decide)).trans ((n4371 545 (by decide)).trans ((n4365 545 (by decide)).trans ((n4359 545 (by decide)).trans ((n4353 545 (by decide)).trans ((n4347 545 (by decide)).trans ((hf4331.1 545 (by first | decide | omega)).trans (hA545)))))))))
          have h4430 := (hf4418.1 546 (by first | decide | omega)).trans ((n4402 546 (by decide)).trans ((n4377 546 (by decide)).trans ((n4371 546 (by decide)).trans ((n4365 546 (by decide)).trans ((n4359 546 (by decide)).trans ((n4353 546 (by decide)).trans ((n4347 546 (by decide)).trans ((hf4331.1 546 (by first | decide | omega)).trans (hA546)))))))))
          have h4431 := (hf4418.1 547 (by first | decide | omega)).trans ((n4402 547 (by decide)).trans ((n4377 547 (by decide)).trans ((n4371 547 (by decide)).trans ((n4365 547 (by decide)).trans ((n4359 547 (by decide)).trans ((n4353 547 (by decide)).trans ((n4347 547 (by decide)).trans ((hf4331.1 547 (by first | decide | omega)).trans (hA547)))))))))
          have hW0 : R_w wi (X_wu (X_clr (D wc) (X_ix rn rc (ct c))) 1 (fun _ => 1)) (W wc) (X_ug wR wi (X_ix rn rc (ct c))) (X_ug (X_ug wL wi 0) wi 1) (X_ug wK wi 0) (X_ug wM wi 0) (X_ug wH wi 0) (X_ug wS wi (-1)) sO sN eP eH hK := ⟨X_ug_s _ _ _, X_ug_s _ _ _, X_ug_s _ _ _, ⟨X_ug_s _ _ _, X_ug_s _ _ _, fun e h1 h2 => absurd (show e < 0 from h2) (by omega), fun e h1 h2 => absurd (show e < 0 from h2) (by omega)⟩, X_ug_s _ _ _, fun e h1 h2 => absurd (show e < -1 from h2) (by omega)⟩
          have h4432 := (hf4418.1 532 (by first | decide | omega)).trans (h4405)
          have h4433 := (hf4418.1 534 (by first | decide | omega)).trans ((n4402 534 (by decide)).trans ((n4377 534 (by decide)).trans ((n4371 534 (by decide)).trans ((n4365 534 (by decide)).trans ((n4359 534 (by decide)).trans ((n4353 534 (by decide)).trans ((n4347 534 (by decide)).trans ((hf4331.1 534 (by first | decide | omega)).trans (hA534)))))))))
          refine T_mono (r_rwB sc S4407 (X_ou (X_ou (X_ou (X_ou (X_ou o 7 at4409) 8 en4410) 9 tk4411) 10 nu4412) 11 dg4413) nm4414 tx kN (X_ug wR wi (X_ix rn rc (ct c))) (X_ug (X_ug wL wi 0) wi 1) (X_ug wK wi 0) (X_ug wM wi 0) (X_ug wH wi 0) (X_ug wS wi (-1)) sO sN eP eH hK tb len n so pl ct E (X_av n (X_av n c)) kn kc wc wi (X_wu (X_clr (D wc) (X_ix rn rc (ct c))) 1 (fun _ => 1)) (W wc) h4419 h4432 h4433 h4422 h4421 h4423 h4424 h4425 h4426 h4427 h4428 h4429 h4430 h4431 (show (o 3) = len from by first | assumption | omega) hl htx hX hp4416 (show (o 5) = 0 from by omega) (show (o 29) = kc from by omega) (show (o 30) = wc from by omega) (by omega) (show 0 ≤ (o 4) ∧ (o 4) ≤ 1 from by omega) hN2 (by omega) hW0 ⟨rfl, rfl, rfl⟩ (show (0 : Int) ≤ 1 ∧ (1 : Int) ≤ 2 by omega) hct rfl) (fun v4434 S4435 h4436 => hQ _ _ ?_)
          rcases h4436 with ⟨at4437, en4438, tk4439, nu4440, dg4441, nm4442, g4443, c4444, d4445, q4446, wR4447, wL4448, wK4449, wM4450, wH4451, wS4452, sO4453, sN4454, eP4455, eH4456, hK4457, hv4458, hp4459, hp4460, hp4461, hp4462, hp4463, hp4464, hp4465, hp4466, hp4467, hp4468, hp4469, hp4470, hp4471, hp4472, hM4473, ha4474, ha4475, ha4476, ha4477, ha4478, ha4479, ha4480, ha4481, ha4482, ha4483, ha4484, hf4485⟩ | ⟨at4486, en4487, tk4488, nu4489, dg4490, nm4491, wc4492, f4493, g4494, wR4495, wL4496, wK4497, wM4498, wH4499, wS4500, sO4501, sN4502, eP4503, eH4504, hK4505, hv4506, hp4507, hp4508, hp4509, hp4510, hp4511, hp4512, hp4513, hp4514, hp4515, hp4516, hp4517, hp4518, hp4519, hM4520, ha4521, ha4522, ha4523, ha4524, ha4525, ha4526, ha4527, ha4528, ha4529, ha4530, ha4531, hf4532⟩
          · skip
            rw [hv4458]
            have h4533 : S4435.1 530 = .inr (11, [.ref 531, .int (iI (o 1)), .ref 532, .int (iI (o 3)), .int (iI (o 4)), .int (iI (o 5)), .int (iI g4443), .int (iI at4437), .int (iI en4438), .int (iI tk4439), .int (iI nu4440), .int (iI dg4441), .long nm4442, .ref 533, .ref 534, .ref 535, .ref 536, .ref 537, .ref 538, .ref 539, .ref 540, .ref 541, .ref 542, .ref 543, .ref 544, .ref 545, .ref 546, .ref 547, .int (iI (o 28)), .int (iI (o 29)), .int (iI (wc + 1)), .int (iI (o 31)), .int (iI (o 32)), .int (iI (o 33)), .ref 548, .ref 549, .ref 550, .ref 551, .int (iI (o 38)), .ref 552, .ref 553, .ref 554, .ref 555, .ref 556, .ref 557, .ref 558, .ref 559, .ref 560, .ref 561, .int (iI (o 49)), .ref 562, .ref 563, .ref 564, .ref 565, .ref 566, .ref 567, .ref 568, .ref 569, .int (iI (o 58)), .ref 570, .ref 571, .ref 572, .ref 573, .ref 574, .ref 575, .ref 576, .ref 577, .ref 578, .int (iI (o 68)), .int (iI (o 69)), .int (iI (o 70)), .ref 579]) := hM4473
            exact Or.inl ⟨at4437, en4438, tk4439, nu4440, dg4441, nm4442, g4443, c4444, d4445, q4446, wR4447, wL4448, wK4449, wM4450, wH4451, wS4452, sO4453, sN4454, eP4455, eH4456, hK4457, rfl, hp4459, (by
                  simp only [sp_word]
                  rw [← hc, if_neg (by omega), if_pos (by assumption), if_neg (by omega), eC, eV, hp4460]
                  rfl), hp4461, (R_ob.rf.up (by omega)).tr hp4462, ((R_ob.rf.up (by omega)).up (by omega)).tr hp4463, (R_ob.rf.up (by omega)).tr hp4464, (R_ob.rf.up (by omega)).tr hp4465, (R_ob.rf.up (by omega)).tr hp4466, (R_ob.rf.up (by omega)).tr hp4467, hp4468, hp4469, hp4470, hp4471, hp4472, h4533, ha4474, ha4475, ha4476, ha4477, ha4478, ha4479, ha4480, ha4481, ha4482, ha4483, ha4484, ((((((((((X_Fr.rf).tr (X_Fr.mono ⟨hf4331.1, hf4331.2⟩ (fun q hq => by first | exact hq | (rcases hq with rfl <;> decide) | (rcases hq with rfl | rfl <;> decide) | (rcases hq with rfl | rfl | rfl <;> decide) | (rcases hq with rfl | rfl | rfl | rfl <;> decide) | (rcases hq with rfl | rfl | rfl | rfl | rfl <;> decide) | (rcases hq with rfl | rfl | rfl | rfl | rfl | rfl <;> decide) | (rcases hq with rfl | rfl | rfl | rfl | rfl | rfl | rfl <;> decide) | omega))).tr (X_Fr.of n4347 e4348 (by first | decide | exact ⟨Nat.le_add_right _ _, Nat.add_le_add_left (by decide) _⟩ | omega))).tr (X_Fr.of n4353 e4354 (by first | decide | exact ⟨Nat.le_add_right _ _, Nat.add_le_add_left (by decide) _⟩ | omega))).tr (X_Fr.of n4359 e4360 (by first | decide | exact ⟨Nat.le_add_right _ _, Nat.add_le_add_left (by decide) _⟩ | omega))).tr (X_Fr.of n4365 e4366 (by first | decide | exact ⟨Nat.le_add_right _ _, Nat.add_le_add_left (by decide) _⟩ | omega))).tr (X_Fr.of n4371 e4372 (by first | decide | exact ⟨Nat.le_add_right _ _, Nat.add_le_add_left (by decide) _⟩ | omega))).tr (X_Fr.of n4377 e4378 (by first | decide | exact ⟨Nat.le_add_right _ _, Nat.add_le_add_left (by decide) _⟩ | omega))).tr (X_Fr.of n4402 e4403 (by first | decide | exact ⟨Nat.le_add_right _ _, Nat.add_le_add_left (by decide) _⟩ | omega))).tr (X_Fr.mono ⟨hf4418.1, hf4418.2⟩ (fun q hq => by first | exact hq | (rcases hq with rfl <;> decide) | (rcases hq with rfl | rfl <;> decide) | (rcases hq with rfl | rfl | rfl <;> decide) | (rcases hq with rfl | rfl | rfl | rfl <;> decide) | (rcases hq with rfl | rfl | rfl | rfl | rfl <;> decide) | (rcases hq with rfl | rfl | rfl | rfl | rfl | rfl <;> decide) | (rcases hq with rfl | rfl | rfl | rfl | rfl | rfl | rfl <;> decide) | omega))).tr (X_Fr.mono ⟨hf4485.1, hf4485.2⟩ (fun q hq => by first | exact hq | (rcases hq with rfl <;> decide) | (rcases hq with rfl | rfl <;> decide) | (rcases hq with rfl | rfl | rfl <;> decide) | (rcases hq with rfl | rfl | rfl | rfl <;> decide) | (rcases hq with rfl | rfl | rfl | rfl | rfl <;> decide) | (rcases hq with rfl | rfl | rfl | rfl | rfl | rfl <;> decide) | (rcases hq with rfl | rfl | rfl | rfl | rfl | rfl | rfl <;> decide) | omega))⟩
          · skip
            rw [hv4506]
            have h4534 : S4435.1 530 = .inr (11, [.ref 531, .int (iI (o 1)), .ref 532, .int (iI (o 3)), .int (iI (o 4)), .int (iI f4493), .int (iI g4494), .int (iI at4486), .int (iI en4487), .int (iI tk4488), .int (iI nu4489), .int (iI dg4490), .long nm4491, .ref 533, .ref 534, .ref 535, .ref 536, .ref 537, .ref 538, .ref 539, .ref 540, .ref 541, .ref 542, .ref 543, .ref 544, .ref 545, .ref 546, .ref 547, .int (iI (o 28)), .int (iI (o 29)), .int (iI wc4492), .int (iI (o 31)), .int (iI (o 32)), .int (iI (o 33)), .ref 548, .ref 549, .ref 550, .ref 551, .int (iI (o 38)), .ref 552, .ref 553, .ref 554, .ref 555, .ref 556, .ref 557, .ref 558, .ref 559, .ref 560, .ref 561, .int (iI (o 49)), .ref 562, .ref 563, .ref 564, .ref 565, .ref 566, .ref 567, .ref 568, .ref 569, .int (iI (o 58)), .ref 570, .ref 571, .ref 572, .ref 573, .ref 574, .ref 575, .ref 576, .ref 577, .ref 578, .int (iI (o 68)), .int (iI (o 69)), .int (iI (o 70)), .ref 579]) := hM4520
            exact Or.inr ⟨at4486, en4487, tk4488, nu4489, dg4490, nm4491, wc4492, f4493, g4494, wR4495, wL4496, wK4497, wM4498, wH4499, wS4500, sO4501, sN4502, eP4503, eH4504, hK4505, rfl, hp4507, (by
                  simp only [sp_word]
                  rw [← hc, if_neg (by omega), if_pos (by assumption), if_neg (by omega), eC, eV, hp4508]
                  rfl), (R_ob.rf.up (by omega)).tr hp4509, ((R_ob.rf.up (by omega)).up (by omega)).tr hp4510, (R_ob.rf.up (by omega)).tr hp4511, (R_ob.rf.up (by omega)).tr hp4512, (R_ob.rf.up (by omega)).tr hp4513, (R_ob.rf.up (by omega)).tr hp4514, hp4515, hp4516, hp4517, hp4518, hp4519, h4534, ha4521, ha4522, ha4523, ha4524, ha4525, ha4526, ha4527, ha4528, ha4529, ha4530, ha4531, ((((((((((X_Fr.rf).tr (X_Fr.mono ⟨hf4331.1, hf4331.2⟩ (fun q hq => by first | exact hq | (rcases hq with rfl <;> decide) | (rcases hq with rfl | rfl <;> decide) | (rcases hq with rfl | rfl | rfl <;> decide) | (rcases hq with rfl | rfl | rfl | rfl <;> decide) | (rcases hq with rfl | rfl | rfl | rfl | rfl <;> decide) | (rcases hq with rfl | rfl | rfl | rfl | rfl | rfl <;> decide) | (rcases hq with rfl | rfl | rfl | rfl | rfl | rfl | rfl <;> decide) | omega))).tr (X_Fr.of n4347 e4348 (by first | decide | exact ⟨Nat.le_add_right _ _, Nat.add_le_add_left (by decide) _⟩ | omega))).tr (X_Fr.of n4353 e4354 (by first | decide | exact ⟨Nat.le_add_right _ _, Nat.add_le_add_left (by decide) _⟩ | omega))).tr (X_Fr.of n4359 e4360 (by first | decide | exact ⟨Nat.le_add_right _ _, Nat.add_le_add_left (by decide) _⟩ | omega))).tr (X_Fr.of n4365 e4366 (by first | decide | exact ⟨Nat.le_add_right _ _, Nat.add_le_add_left (by decide) _⟩ | omega))).tr (X_Fr.of n4371 e4372 (by first | decide | exact ⟨Nat.le_add_right _ _, Nat.add_le_add_left (by decide) _⟩ | omega))).tr (X_Fr.of n4377 e4378 (by first | decide | exact ⟨Nat.le_add_right _ _, Nat.add_le_add_left (by decide) _⟩ | omega))).tr (X_Fr.of n4402 e4403 (by first | decide | exact ⟨Nat.le_add_right _ _, Nat.add_le_add_left (by decide) _⟩ | omega))).tr (X_Fr.mono ⟨hf4418.1, hf4418.2⟩ (fun q hq => by first | exact hq | (rcases hq with rfl <;> decide) | (rcases hq with rfl | rfl <;> decide) | (rcases hq with rfl | rfl | rfl <;> decide) | (rcases hq with rfl | rfl | rfl | rfl <;> decide) | (rcases hq with rfl | rfl | rfl | rfl | rfl <;> decide) | (rcases hq with rfl | rfl | rfl | rfl | rfl | rfl <;> decide) | (rcases hq with rfl | rfl | rfl | rfl | rfl | rfl | rfl <;> decide) | omega))).tr (X_Fr.mono ⟨hf4532.1, hf4532.2⟩ (fun q hq => by first | exact hq | (rcases hq with rfl <;> decide) | (rcases hq with rfl | rfl <;> decide) | (rcases hq with rfl | rfl | rfl <;> decide) | (rcases hq with rfl | rfl | rfl | rfl <;> decide) | (rcases hq with rfl | rfl | rfl | rfl | rfl <;> decide) | (rcases hq with rfl | rfl | rfl | rfl | rfl | rfl <;> decide) | (rcases hq with rfl | rfl | rfl | rfl | rfl | rfl | rfl <;> decide) | omega))⟩
      · skip
        have c4392 : ¬ (so (X_av n c) = 3 ∧ ct (X_av n c) = (Int64.ofNat 1818584692)) := c4392
        refine T_p xr_157_75 xn_157 (pc' := 76) (ls' := [(1, .int (iI wi)), (0, .ref 530)]) (st' := [.ref 530]) rfl ?_
        refine T_p xr_157_76 xn_157 (pc' := 79) (ls' := [(1, .int (iI wi)), (0, .ref 530)]) (st' := [.long (Int64.ofNat 491394656372), .ref 530]) rfl ?_
        refine T_cv (S := S4375) (q := 530) xr_157_79 xf_146.1 xf_146.2.1 xn_146 (as := [.long (Int64.ofNat 491394656372)]) (r := []) rfl h4379 (Nat.le_of_ble_eq_true rfl) (Nat.le_of_ble_eq_true rfl) (pc' := 82) rfl (ls' := [(0, .ref 530), (1, .long (Int64.ofNat 491394656372))]) rfl ?_
        refine T_mono (r_isWord sc S4375 (X_ou (X_ou (X_ou (X_ou (X_ou o 7 at4320) 8 en4321) 9 tk4322) 10 nu4323) 11 dg4324) nm4325 tx tb len n so pl ct E (X_av n c) (Int64.ofNat 491394656372) h4379 h4386 (show (o 3) = len from by first | assumption | omega) hl htx hX hp4327) (fun v4535 S4536 h4537 => ?_)
        rcases h4537 with ⟨hv4538, hf4539⟩
        rw [hv4538]
        rw [hf4539]
        show X_T sc 157 (82, [(1, .int (iI wi)), (0, .ref 530)], [.int (iI (bI (so (X_av n c) = 3 ∧ ct (X_av n c) = (Int64.ofNat 491394656372))))], S4375) _
        refine T_bif_eq xr_157_82 (t := 110) (pc' := 85) rfl rfl (fun c4540 => ?_) (fun c4540 => ?_)
        · skip
          have c4540 : ¬ (so (X_av n c) = 3 ∧ ct (X_av n c) = (Int64.ofNat 491394656372)) := c4540
          have h4541 := (n4377 538 (by decide)).trans ((n4371 538 (by decide)).trans ((n4365 538 (by decide)).trans ((n4359 538 (by decide)).trans (h4352))))
          have eC : X_lnC n so ct (X_av n c) = (X_av n c) := by unfold X_lnC; rw [if_neg (by rintro (h | h) <;> contradiction)]
          have eV : X_lnV so ct (X_av n c) 0 = 0 := by unfold X_lnV; rw [if_neg (by assumption), if_neg (by assumption)]
          have h4542 := (n4377 537 (by decide)).trans ((n4371 537 (by decide)).trans ((n4365 537 (by decide)).trans ((n4359 537 (by decide)).trans ((n4353 537 (by decide)).trans (h4346)))))
          have h4543 := (n4377 539 (by decide)).trans ((n4371 539 (by decide)).trans ((n4365 539 (by decide)).trans (h4358)))
          have h4544 := (n4377 540 (by decide)).trans ((n4371 540 (by decide)).trans (h4364))
          have h4545 := (n4377 541 (by decide)).trans (h4370)
          have h4546 := (n4377 543 (by decide)).trans ((n4371 543 (by decide)).trans ((n4365 543 (by decide)).trans ((n4359 543 (by decide)).trans ((n4353 543 (by decide)).trans ((n4347 543 (by decide)).trans ((hf4331.1 543 (by first | decide | omega)).trans (hA543)))))))
          have h4547 := (n4377 544 (by decide)).trans ((n4371 544 (by decide)).trans ((n4365 544 (by decide)).trans ((n4359 544 (by decide)).trans ((n4353 544 (by decide)).trans ((n4347 544 (by decide)).trans ((hf4331.1 544 (by first | decide | omega)).trans (hA544)))))))
          have h4548 := (n4377 545 (by decide)).trans ((n4371 545 (by decide)).trans ((n4365 545 (by decide)).trans ((n4359 545 (by decide)).trans ((n4353 545 (by decide)).trans ((n4347 545 (by decide)).trans ((hf4331.1 545 (by first | decide | omega)).trans (hA545)))))))
          have h4549 := (n4377 546 (by decide)).trans ((n4371 546 (by decide)).trans ((n4365 546 (by decide)).trans ((n4359 546 (by decide)).trans ((n4353 546 (by decide)).trans ((n4347 546 (by decide)).trans ((hf4331.1 546 (by first | decide | omega)).trans (hA546)))))))
          have h4550 := (n4377 547 (by decide)).trans ((n4371 547 (by decide)).trans ((n4365 547 (by decide)).trans ((n4359 547 (by decide)).trans ((n4353 547 (by decide)).trans ((n4347 547 (by decide)).trans ((hf4331.1 547 (by first | decide | omega)).trans (hA547)))))))
          have hW0 : R_w wi (X_wu (X_clr (D wc) (X_ix rn rc (ct c))) 1 (fun _ => 0)) (W wc) (X_ug wR wi (X_ix rn rc (ct c))) (X_ug wL wi 0) (X_ug wK wi 0) (X_ug wM wi 0) (X_ug wH wi 0) (X_ug wS wi (-1)) sO sN eP eH hK := ⟨X_ug_s _ _ _, X_ug_s _ _ _, X_ug_s _ _ _, ⟨X_ug_s _ _ _, X_ug_s _ _ _, fun e h1 h2 => absurd (show e < 0 from h2) (by omega), fun e h1 h2 => absurd (show e < 0 from h2) (by omega)⟩, X_ug_s _ _ _, fun e h1 h2 => absurd (show e < -1 from h2) (by omega)⟩
          have h4551 := (n4377 534 (by decide)).trans ((n4371 534 (by decide)).trans ((n4365 534 (by decide)).trans ((n4359 534 (by decide)).trans ((n4353 534 (by decide)).trans ((n4347 534 (by decide)).trans ((hf4331.1 534 (by first | decide | omega)).trans (hA534)))))))
          refine T_mono (r_rwB sc S4375 (X_ou (X_ou (X_ou (X_ou (X_ou o 7 at4320) 8 en4321) 9 tk4322) 10 nu4323) 11 dg4324) nm4325 tx kN (X_ug wR wi (X_ix rn rc (ct c))) (X_ug wL wi 0) (X_ug wK wi 0) (X_ug wM wi 0) (X_ug wH wi 0) (X_ug wS wi (-1)) sO sN eP eH hK tb len n so pl ct E (X_av n c) kn kc wc wi (X_wu (X_clr (D wc) (X_ix rn rc (ct c))) 1 (fun _ => 0)) (W wc) h4379 h4386 h4551 h4542 h4541 h4543 h4544 h4545 h4376 h4546 h4547 h4548 h4549 h4550 (show (o 3) = len from by first | assumption | omega) hl htx hX hp4327 (show (o 5) = 0 from by omega) (show (o 29) = kc from by omega) (show (o 30) = wc from by omega) (by omega) (show 0 ≤ (o 4) ∧ (o 4) ≤ 1 from by omega) hN2 (by omega) hW0 ⟨rfl, rfl, rfl⟩ (show (0 : Int) ≤ 0 ∧ (0 : Int) ≤ 2 by omega) hct rfl) (fun v4552 S4553 h4554 => hQ _ _ ?_)
          rcases h4554 with ⟨at4555, en4556, tk4557, nu4558, dg4559, nm4560, g4561, c4562, d4563, q4564, wR4565, wL4566, wK4567, wM4568, wH4569, wS4570, sO4571, sN4572, eP4573, eH4574, hK4575, hv4576, hp4577, hp4578, hp4579, hp4580, hp4581, hp4582, hp4583, hp4584, hp4585, hp4586, hp4587, hp4588, hp4589, hp4590, hM4591, ha4592, ha4593, ha4594, ha4595, ha4596, ha4597, ha4598, ha4599, ha4600, ha4601, ha4602, hf4603⟩ | ⟨at4604, en4605, tk4606, nu4607, dg4608, nm4609, wc4610, f4611, g4612, wR4613, wL4614, wK4615, wM4616, wH4617, wS4618, sO4619, sN4620, eP4621, eH4622, hK4623, hv4624, hp4625, hp4626, hp4627, hp4628, hp4629, hp4630, hp4631, hp4632, hp4633, hp4634, hp4635, hp4636, hp4637, hM4638, ha4639, ha4640, ha4641, ha4642, ha4643, ha4644, ha4645, ha4646, ha4647, ha4648, ha4649, hf4650⟩
          · skip
            rw [hv4576]
            have h4651 : S4553.1 530 = .inr (11, [.ref 531, .int (iI (o 1)), .ref 532, .int (iI (o 3)), .int (iI (o 4)), .int (iI (o 5)), .int (iI g4561), .int (iI at4555), .int (iI en4556), .int (iI tk4557), .int (iI nu4558), .int (iI dg4559), .long nm4560, .ref 533, .ref 534, .ref 535, .ref 536, .ref 537, .ref 538, .ref 539, .ref 540, .ref 541, .ref 542, .ref 543, .ref 544, .ref 545, .ref 546, .ref 547, .int (iI (o 28)), .int (iI (o 29)), .int (iI (wc + 1)), .int (iI (o 31)), .int (iI (o 32)), .int (iI (o 33)), .ref 548, .ref 549, .ref 550, .ref 551, .int (iI (o 38)), .ref 552, .ref 553, .ref 554, .ref 555, .ref 556, .ref 557, .ref 558, .ref 559, .ref 560, .ref 561, .int (iI (o 49)), .ref 562, .ref 563, .ref 564, .ref 565, .ref 566, .ref 567, .ref 568, .ref 569, .int (iI (o 58)), .ref 570, .ref 571, .ref 572, .ref 573, .ref 574, .ref 575, .ref 576, .ref 577, .ref 578, .int (iI (o 68)), .int (iI (o 69)), .int (iI (o 70)), .ref 579]) := hM4591
            exact Or.inl ⟨at4555, en4556, tk4557, nu4558, dg4559, nm4560, g4561, c4562, d4563, q4564, wR4565, wL4566, wK4567, wM4568, wH4569, wS4570, sO4571, sN4572, eP4573, eH4574, hK4575, rfl, hp4577, (by
                  simp only [sp_word]
                  rw [← hc, if_neg (by omega), if_pos (by assumption), if_neg (by omega), eC, eV, hp4578]
                  rfl), hp4579, (R_ob.rf.up (by omega)).tr hp4580, (R_ob.rf.up (by omega)).tr hp4581, (R_ob.rf.up (by omega)).tr hp4582, (R_ob.rf.up (by omega)).tr hp4583, (R_ob.rf.up (by omega)).tr hp4584, (R_ob.rf.up (by omega)).tr hp4585, hp4586, hp4587, hp4588, hp4589, hp4590, h4651, ha4592, ha4593, ha4594, ha4595, ha4596, ha4597, ha4598, ha4599, ha4600, ha4601, ha4602, ((((((((X_Fr.rf).tr (X_Fr.mono ⟨hf4331.1, hf4331.2⟩ (fun q hq => by first | exact hq | (rcases hq with rfl <;> decide) | (rcases hq with rfl | rfl <;> decide) | (rcases hq with rfl | rfl | rfl <;> decide) | (rcases hq with rfl | rfl | rfl | rfl <;> decide) | (rcases hq with rfl | rfl | rfl | rfl | rfl <;> decide) | (rcases hq with rfl | rfl | rfl | rfl | rfl | rfl <;> decide) | (rcases hq with rfl | rfl | rfl | rfl | rfl | rfl | rfl <;> decide) | omega))).tr (X_Fr.of n4347 e4348 (by first | decide | exact ⟨Nat.le_add_right _ _, Nat.add_le_add_left (by decide) _⟩ | omega))).tr (X_Fr.of n4353 e4354 (by first | decide | exact ⟨Nat.le_add_right _ _, Nat.add_le_add_left (by decide) _⟩ | omega))).tr (X_Fr.of n4359 e4360 (by first | decide | exact ⟨Nat.le_add_right _ _, Nat.add_le_add_left (by decide) _⟩ | omega))).tr (X_Fr.of n4365 e4366 (by first | decide | exact ⟨Nat.le_add_right _ _, Nat.add_le_add_left (by decide) _⟩ | omega))).tr (X_Fr.of n4371 e4372 (by first | decide | exact ⟨Nat.le_add_right _ _, Nat.add_le_add_left (by decide) _⟩ | omega))).tr (X_Fr.of n4377 e4378 (by first | decide | exact ⟨Nat.le_add_right _ _, Nat.add_le_add_left (by decide) _⟩ | omega))).tr (X_Fr.mono ⟨hf4603.1, hf4603.2⟩ (fun q hq => by first | exact hq | (rcases hq with rfl <;> decide) | (rcases hq with rfl | rfl <;> decide) | (rcases hq with rfl | rfl | rfl <;> decide) | (rcases hq with rfl | rfl | rfl | rfl <;> decide) | (rcases hq with rfl | rfl | rfl | rfl | rfl <;> decide) | (rcases hq with rfl | rfl | rfl | rfl | rfl | rfl <;> decide) | (rcases hq with rfl | rfl | rfl | rfl | rfl | rfl | rfl <;> decide) | omega))⟩
          · skip
            rw [hv4624]
            have h4652 : S4553.1 530 = .inr (11, [.ref 531, .int (iI (o 1)), .ref 532, .int (iI (o 3)), .int (iI (o 4)), .int (iI f4611), .int (iI g4612), .int (iI at4604), .int (iI en4605), .int (iI tk4606), .int (iI nu4607), .int (iI dg4608), .long nm4609, .ref 533, .ref 534, .ref 535, .ref 536, .ref 537, .ref 538, .ref 539, .ref 540, .ref 541, .ref 542, .ref 543, .ref 544, .ref 545, .ref 546, .ref 547, .int (iI (o 28)), .int (iI (o 29)), .int (iI wc4610), .int (iI (o 31)), .int (iI (o 32)), .int (iI (o 33)), .ref 548, .ref 549, .ref 550, .ref 551, .int (iI (o 38)), .ref 552, .ref 553, .ref 554, .ref 555, .ref 556, .ref 557, .ref 558, .ref 559, .ref 560, .ref 561, .int (iI (o 49)), .ref 562, .ref 563, .ref 564, .ref 565, .ref 566, .ref 567, .ref 568, .ref 569, .int (iI (o 58)), .ref 570, .ref 571, .ref 572, .ref 573, .ref 574, .ref 575, .ref 576, .ref 577, .ref 578, .int (iI (o 68)), .int (iI (o 69)), .int (iI (o 70)), .ref 579]) := hM4638
            exact Or.inr ⟨at4604, en4605, tk4606, nu4607, dg4608, nm4609, wc4610, f4611, g4612, wR4613, wL4614, wK4615, wM4616, wH4617, wS4618, sO4619, sN4620, eP4621, eH4622, hK4623, rfl, hp4625, (by
                  simp only [sp_word]
                  rw [← hc, if_neg (by omega), if_pos (by assumption), if_neg (by omega), eC, eV, hp4626]
                  rfl), (R_ob.rf.up (by omega)).tr hp4627, (R_ob.rf.up (by omega)).tr hp4628, (R_ob.rf.up (by omega)).tr hp4629, (R_ob.rf.up (by omega)).tr hp4630, (R_ob.rf.up (by omega)).tr hp4631, (R_ob.rf.up (by omega)).tr hp4632, hp4633, hp4634, hp4635, hp4636, hp4637, h4652, ha4639, ha4640, ha4641, ha4642, ha4643, ha4644, ha4645, ha4646, ha4647, ha4648, ha4649, ((((((((X_Fr.rf).tr (X_Fr.mono ⟨hf4331.1, hf4331.2⟩ (fun q hq => by first | exact hq | (rcases hq with rfl <;> decide) | (rcases hq with rfl | rfl <;> decide) | (rcases hq with rfl | rfl | rfl <;> decide) | (rcases hq with rfl | rfl | rfl | rfl <;> decide) | (rcases hq with rfl | rfl | rfl | rfl | rfl <;> decide) | (rcases hq with rfl | rfl | rfl | rfl | rfl | rfl <;> decide) | (rcases hq with rfl | rfl | rfl | rfl | rfl | rfl | rfl <;> decide) | omega))).tr (X_Fr.of n4347 e4348 (by first | decide | exact ⟨Nat.le_add_right _ _, Nat.add_le_add_left (by decide) _⟩ | omega))).tr (X_Fr.of n4353 e4354 (by first | decide | exact ⟨Nat.le_add_right _ _, Nat.add_le_add_left (by decide) _⟩ | omega))).tr (X_Fr.of n4359 e4360 (by first | decide | exact ⟨Nat.le_add_right _ _, Nat.add_le_add_left (by decide) _⟩ | omega))).tr (X_Fr.of n4365 e4366 (by first | decide | exact ⟨Nat.le_add_right _ _, Nat.add_le_add_left (by decide) _⟩ | omega))).tr (X_Fr.of n4371 e4372 (by first | decide | exact ⟨Nat.le_add_right _ _, Nat.add_le_add_left (by decide) _⟩ | omega))).tr (X_Fr.of n4377 e4378 (by first | decide | exact ⟨Nat.le_add_right _ _, Nat.add_le_add_left (by decide) _⟩ | omega))).tr (X_Fr.mono ⟨hf4650.1, hf4650.2⟩ (fun q hq => by first | exact hq | (rcases hq with rfl <;> decide) | (rcases hq with rfl | rfl <;> decide) | (rcases hq with rfl | rfl | rfl <;> decide) | (rcases hq with rfl | rfl | rfl | rfl <;> decide) | (rcases hq with rfl | rfl | rfl | rfl | rfl <;> decide) | (rcases hq with rfl | rfl | rfl | rfl | rfl | rfl <;> decide) | (rcases hq with rfl | rfl | rfl | rfl | rfl | rfl | rfl <;> decide) | omega))⟩
        · skip
          have c4540 : (so (X_av n c) = 3 ∧ ct (X_av n c) = (Int64.ofNat 491394656372)) := c4540
          refine T_p xr_157_85 xn_157 (pc' := 86) (ls' := [(1, .int (iI wi)), (0, .ref 530)]) (st' := [.ref 530]) rfl ?_
          refine T_get xr_157_86 h4379 rfl (v := .ref 538) rfl (pc' := 89) rfl ?_
          refine T_p xr_157_89 xn_157 (pc' := 90) (ls' := [(1, .int (iI wi)), (0, .ref 530)]) (st' := [.int (iI wi), .ref 538]) rfl ?_
          refine T_p xr_157_90 xn_157 (pc' := 91) (ls' := [(1, .int (iI wi)), (0, .ref 530)]) (st' := [.ref 530, .int (iI wi), .ref 538]) rfl ?_
          refine T_p xr_157_91 xn_157 (pc' := 94) (ls' := [(1, .int (iI wi)), (0, .ref 530)]) (st' := [.long (Int64.ofNat 1818584692), .ref 530, .int (iI wi), .ref 538]) rfl ?_
          refine T_cv (S := S4375) (q := 530) xr_157_94 xf_146.1 xf_146.2.1 xn_146 (as := [.long (Int64.ofNat 1818584692)]) (r := [.int (iI wi), .ref 538]) rfl h4379 (Nat.le_of_ble_eq_true rfl) (Nat.le_of_ble_eq_true rfl) (pc' := 97) rfl (ls' := [(0, .ref 530), (1, .long (Int64.ofNat 1818584692))]) rfl ?_
          refine T_mono (r_isWord sc S4375 (X_ou (X_ou (X_ou (X_ou (X_ou o 7 at4320) 8 en4321) 9 tk4322) 10 nu4323) 11 dg4324) nm4325 tx tb len n so pl ct E (X_av n c) (Int64.ofNat 1818584692) h4379 h4386 (show (o 3) = len from by first | assumption | omega) hl htx hX hp4327) (fun v4653 S4654 h4655 => ?_)
          rcases h4655 with ⟨hv4656, hf4657⟩
          rw [hv4656]
          rw [hf4657]
          show X_T sc 157 (97, [(1, .int (iI wi)), (0, .ref 530)], [.int (iI (bI (so (X_av n c) = 3 ∧ ct (X_av n c) = (Int64.ofNat 1818584692)))), .int (iI wi), .ref 538], S4375) _
          refine T_bif_eq xr_157_97 (t := 104) (pc' := 100) rfl rfl (fun c4658 => ?_) (fun c4658 => ?_)
          · skip
            have c4658 : ¬ (so (X_av n c) = 3 ∧ ct (X_av n c) = (Int64.ofNat 1818584692)) := c4658
            refine T_p xr_157_104 xn_157 (pc' := 105) (ls' := [(1, .int (iI wi)), (0, .ref 530)]) (st' := [.int (iI 2), .int (iI wi), .ref 538]) rfl ?_
            have h4659 := (n4377 538 (by decide)).trans ((n4371 538 (by decide)).trans ((n4365 538 (by decide)).trans ((n4359 538 (by decide)).trans (h4352))))
            refine T_ziast xr_157_105 h4659 (pc' := 106) rfl (fun S4660 h4661 n4662 e4663 => ?_)
            refine T_p xr_157_106 xn_157 (pc' := 107) (ls' := [(1, .int (iI wi)), (0, .ref 530)]) (st' := [.ref 530]) rfl ?_
            have h4664 := (n4662 530 (by decide)).trans (h4379)
            refine T_cv (S := S4660) (q := 530) xr_157_107 xf_141.1 xf_141.2.1 xn_141 (as := []) (r := []) rfl h4664 (Nat.le_of_ble_eq_true rfl) (Nat.le_of_ble_eq_true rfl) (pc' := 110) rfl (ls' := [(0, .ref 530)]) rfl ?_
            have h4665 := (n4662 532 (by decide)).trans (h4386)
            refine T_mono (r_nx sc S4660 (X_ou (X_ou (X_ou (X_ou (X_ou o 7 at4320) 8 en4321) 9 tk4322) 10 nu4323) 11 dg4324) nm4325 tx tb len n so pl ct E (X_av n c) h4664 h4665 (show (o 3) = len from by first | assumption | omega) hl htx hX hp4327 (by omega)) (fun v4666 S4667 h4668 => ?_)
            rcases h4668 with ⟨at4669, en4670, tk4671, nu4672, dg4673, nm4674, hv4675, hp4676, hM4677, hf4678⟩
            rw [hv4675]
            have h4679 : S4667.1 530 = .inr (11, [.ref 531, .int (iI (o 1)), .ref 532, .int (iI (o 3)), .int (iI (o 4)), .int (iI (o 5)), .int (iI (o 6)), .int (iI at4669), .int (iI en4670), .int (iI tk4671), .int (iI nu4672), .int (iI dg4673), .long nm4674, .ref 533, .ref 534, .ref 535, .ref 536, .ref 537, .ref 538, .ref 539, .ref 540, .ref 541, .ref 542, .ref 543, .ref 544, .ref 545, .ref 546, .ref 547, .int (iI (o 28)), .int (iI (o 29)), .int (iI (o 30)), .int (iI (o 31)), .int (iI (o 32)), .int (iI (o 33)), .ref 548, .ref 549, .ref 550, .ref 551, .int (iI (o 38)), .ref 552, .ref 553, .ref 554, .ref 555, .ref 556, .ref 557, .ref 558, .ref 559, .ref 560, .ref 561, .int (iI (o 49)), .ref 562, .ref 563, .ref 564, .ref 565, .ref 566, .ref 567, .ref 568, .ref 569, .int (iI (o 58)), .ref 570, .ref 571, .ref 572, .ref 573, .ref 574, .ref 575, .ref 576, .ref 577, .ref 578, .int (iI (o 68)), .int (iI (o 69)), .int (iI (o 70)), .ref 579]) := hM4677
            obtain ⟨⟨_, _⟩, ⟨_, _⟩, hk4680, ⟨_, _⟩, hk4680e, ⟨_, _⟩, ⟨_, _⟩⟩ := R_tk_f hX hp4676
            show X_T sc 157 (110, [(1, .int (iI wi)), (0, .ref 530)], [], S4667) _
            have h4681 := (hf4678.1 538 (by first | decide | omega)).trans (h4661)
            have eC : X_lnC n so ct (X_av n c) = (X_av n (X_av n c)) := by unfold X_lnC; rw [if_pos (Or.inr (by assumption))]
            have eV : X_lnV so ct (X_av n c) 0 = 2 := by unfold X_lnV; rw [if_neg (by assumption), if_pos (by assumption)]
            have h4682 := (hf4678.1 537 (by first | decide | omega)).trans ((n4662 537 (by decide)).trans ((n4377 537 (by decide)).trans ((n4371 537 (by decide)).trans ((n4365 537 (by decide)).trans ((n4359 537 (by decide)).trans ((n4353 537 (by decide)).trans (h4346)))))))
            have h4683 := (hf4678.1 539 (by first | decide | omega)).trans ((n4662 539 (by decide)).trans ((n4377 539 (by decide)).trans ((n4371 539 (by decide)).trans ((n4365 539 (by decide)).trans (h4358)))))
            have h4684 := (hf4678.1 540 (by first | decide | omega)).trans ((n4662 540 (by decide)).trans ((n4377 540 (by decide)).trans ((n4371 540 (by decide)).trans (h4364))))
            have h4685 := (hf4678.1 541 (by first | decide | omega)).trans ((n4662 541 (by decide)).trans ((n4377 541 (by decide)).trans (h4370)))
            have h4686 := (hf4678.1 542 (by first | decide | omega)).trans ((n4662 542 (by decide)).trans (h4376))
            have h4687 := (hf4678.1 543 (by first | decide | omega)).trans ((n4662 543 (by decide)).trans ((n4377 543 (by decide)).trans ((n4371 543 (by decide)).trans ((n4365 543 (by decide)).trans ((n4359 543 (by decide)).trans ((n4353 543 (by decide)).trans ((n4347 543 (by decide)).trans ((hf4331.1 543 (by first | decide | omega)).trans (hA543)))))))))
            have h4688 := (hf4678.1 544 (by first | decide | omega)).trans ((n4662 544 (by decide)).trans ((n4377 544 (by decide)).trans ((n4371 544 (by decide)).trans ((n4365 544 (by decide)).trans ((n4359 544 (by decide)).trans ((n4353 544 (by decide)).trans ((n4347 544 (by decide)).trans ((hf4331.1 544 (by first | decide | omega)).trans (hA544)))))))))
            have h4689 := (hf4678.1 545 (by first | decide | omega)).trans ((n4662 545 (by decide)).trans ((n4377 545 (by decide)).trans ((n4371 545 (by decide)).trans ((n4365 545 (by decide)).trans ((n4359 545 (by decide)).trans ((n4353 545 (by decide)).trans ((n4347 545 (by decide)).trans ((hf4331.1 545 (by first | decide | omega)).trans (hA545)))))))))
            have h4690 := (hf4678.1 546 (by first | decide | omega)).trans ((n4662 546 (by decide)).trans ((n4377 546 (by decide)).trans ((n4371 546 (by decide)).trans ((n4365 546 (by decide)).trans ((n4359 546 (by decide)).trans ((n4353 546 (by decide)).trans ((n4347 546 (by decide)).trans ((hf4331.1 546 (by first | decide | omega)).trans (hA546)))))))))
            have h4691 := (hf4678.1 547 (by first | decide | omega)).trans ((n4662 547 (by decide)).trans ((n4377 547 (by decide)).trans ((n4371 547 (by decide)).trans ((n4365 547 (by decide)).trans ((n4359 547 (by decide)).trans ((n4353 547 (by decide)).trans ((n4347 547 (by decide)).trans ((hf4331.1 547 (by first | decide | omega)).trans (hA547)))))))))
            have hW0 : R_w wi (X_wu (X_clr (D wc) (X_ix rn rc (ct c))) 1 (fun _ => 2)) (W wc) (X_ug wR wi (X_ix rn rc (ct c))) (X_ug (X_ug wL wi 0) wi 2) (X_ug wK wi 0) (X_ug wM wi 0) (X_ug wH wi 0) (X_ug wS wi (-1)) sO sN eP eH hK := ⟨X_ug_s _ _ _, X_ug_s _ _ _, X_ug_s _ _ _, ⟨X_ug_s _ _ _, X_ug_s _ _ _, fun e h1 h2 => absurd (show e < 0 from h2) (by omega), fun e h1 h2 => absurd (show e < 0 from h2) (by omega)⟩, X_ug_s _ _ _, fun e h1 h2 => absurd (show e < -1 from h2) (by omega)⟩
            have h4692 := (hf4678.1 532 (by first | decide | omega)).trans (h4665)
            have h4693 := (hf4678.1 534 (by first | decide | omega)).trans ((n4662 534 (by decide)).trans ((n4377 534 (by decide)).trans ((n4371 534 (by decide)).trans ((n4365 534 (by decide)).trans ((n4359 534 (by decide)).trans ((n4353 534 (by decide)).trans ((n4347 534 (by decide)).trans ((hf4331.1 534 (by first | decide | omega)).trans (hA534)))))))))
            refine T_mono (r_rwB sc S4667 (X_ou (X_ou (X_ou (X_ou (X_ou o 7 at4669) 8 en4670) 9 tk4671) 10 nu4672) 11 dg4673) nm4674 tx kN (X_ug wR wi (X_ix rn rc (ct c))) (X_ug (X_ug wL wi 0) wi 2) (X_ug wK wi 0) (X_ug wM wi 0) (X_ug wH wi 0) (X_ug wS wi (-1)) sO sN eP eH hK tb len n so pl ct E (X_av n (X_av n c)) kn kc wc wi (X_wu (X_clr (D wc) (X_ix rn rc (ct c))) 1 (fun _ => 2)) (W wc) h4679 h4692 h4693 h4682 h4681 h4683 h4684 h4685 h4686 h4687 h4688 h4689 h4690 h4691 (show (o 3) = len from by first | assumption | omega) hl htx hX hp4676 (show (o 5) = 0 from by omega) (show (o 29) = kc from by omega) (show (o 30) = wc from by omega) (by omega) (show 0 ≤ (o 4) ∧ (o 4) ≤ 1 from by omega) hN2 (by omega) hW0 ⟨rfl, rfl, rfl⟩ (show (0 : Int) ≤ 2 ∧ (2 : Int) ≤ 2 by omega) hct rfl) (fun v4694 S4695 h4696 => hQ _ _ ?_)
            rcases h4696 with ⟨at4697, en4698, tk4699, nu4700, dg4701, nm4702, g4703, c4704, d4705, q4706, wR4707, wL4708, wK4709, wM4710, wH4711, wS4712, sO4713, sN4714, eP4715, eH4716, hK4717, hv4718, hp4719, hp4720, hp4721, hp4722, hp4723, hp4724, hp4725, hp4726, hp4727, hp4728, hp4729, hp4730, hp4731, hp4732, hM4733, ha4734, ha4735, ha4736, ha4737, ha4738, ha4739, ha4740, ha4741, ha4742, ha4743, ha4744, hf4745⟩ | ⟨at4746, en4747, tk4748, nu4749, dg4750, nm4751, wc4752, f4753, g4754, wR4755, wL4756, wK4757, wM4758, wH4759, wS4760, sO4761, sN4762, eP4763, eH4764, hK4765, hv4766, hp4767, hp4768, hp4769, hp4770, hp4771, hp4772, hp4773, hp4774, hp4775, hp4776, hp4777, hp4778, hp4779, hM4780, ha4781, ha4782, ha4783, ha4784, ha4785, ha4786, ha4787, ha4788, ha4789, ha4790, ha4791, hf4792⟩
            · skip
              rw [hv4718]
              have h4793 : S4695.1 530 = .inr (11, [.ref 531, .int (iI (o 1)), .ref 532, .int (iI (o 3)), .int (iI (o 4)), .int (iI (o 5)), .int (iI g4703), .int (iI at4697), .int (iI en4698), .int (iI tk4699), .int (iI nu4700), .int (iI dg4701), .long nm4702, .ref 533, .ref 534, .ref 535, .ref 536, .ref 537, .ref 538, .ref 539, .ref 540, .ref 541, .ref 542, .ref 543, .ref 544, .ref 545, .ref 546, .ref 547, .int (iI (o 28)), .int (iI (o 29)), .int (iI (wc + 1)), .int (iI (o 31)), .int (iI (o 32)), .int (iI (o 33)), .ref 548, .ref 549, .ref 550, .ref 551, .int (iI (o 38)), .ref 552, .ref 553, .ref 554, .ref 555, .ref 556, .ref 557, .ref 558, .ref 559, .ref 560, .ref 561, .int (iI (o 49)), .ref 562, .ref 563, .ref 564, .ref 565, .ref 566, .ref 567, .ref 568, .ref 569, .int (iI (o 58)), .ref 570, .ref 571, .ref 572, .ref 573, .ref 574, .ref 575, .ref 576, .ref 577, .ref 578, .int (iI (o 68)), .int (iI (o 69)), .int (iI (o 70)), .ref 579]) := hM4733
              exact Or.inl ⟨at4697, en4698, tk4699, nu4700, dg4701, nm4702, g4703, c4704, d4705, q4706, wR4707, wL4708, wK4709, wM4710, wH4711, wS4712, sO4713, sN4714, eP4715, eH4716, hK4717, rfl, hp4719, (by
                    simp only [sp_word]
                    rw [← hc, if_neg (by omega), if_pos (by assumption), if_neg (by omega), eC, eV, hp4720]
                    rfl), hp4721, (R_ob.rf.up (by omega)).tr hp4722, ((R_ob.rf.up (by omega)).up (by omega)).tr hp4723, (R_ob.rf.up (by omega)).tr hp4724, (R_ob.rf.up (by omega)).tr hp4725, (R_ob.rf.up (by omega)).tr hp4726, (R_ob.rf.up (by omega)).tr hp4727, hp4728, hp4729, hp4730, hp4731, hp4732, h4793, ha4734, ha4735, ha4736, ha4737, ha4738, ha4739, ha4740, ha4741, ha4742, ha4743, ha4744, ((((((((((X_Fr.rf).tr (X_Fr.mono ⟨hf4331.1, hf4331.2⟩ (fun q hq => by first | exact hq | (rcases hq with rfl <;> decide) | (rcases hq with rfl | rfl <;> decide) | (rcases hq with rfl | rfl | rfl <;> decide) | (rcases hq with rfl | rfl | rfl | rfl <;> decide) | (rcases hq with rfl | rfl | rfl | rfl | rfl <;> decide) | (rcases hq with rfl | rfl | rfl | rfl | rfl | rfl <;> decide) | (rcases hq with rfl | rfl | rfl | rfl | rfl | rfl | rfl <;> decide) | omega))).tr (X_Fr.of n4347 e4348 (by first | decide | exact ⟨Nat.le_add_right _ _, Nat.add_le_add_left (by decide) _⟩ | omega))).tr (X_Fr.of n4353 e4354 (by first | decide | exact ⟨Nat.le_add_right _ _, Nat.add_le_add_left (by decide) _⟩ | omega))).tr (X_Fr.of n4359 e4360 (by first | decide | exact ⟨Nat.le_add_right _ _, Nat.add_le_add_left (by decide) _⟩ | omega))).tr (X_Fr.of n4365 e4366 (by first | decide | exact ⟨Nat.le_add_right _ _, Nat.add_le_add_left (by decide) _⟩ | omega))).tr (X_Fr.of n4371 e4372 (by first | decide | exact ⟨Nat.le_add_right _ _, Nat.add_le_add_left (by decide) _⟩ | omega))).tr (X_Fr.of n4377 e4378 (by first | decide | exact ⟨Nat.le_add_right _ _, Nat.add_le_add_left (by decide) _⟩ | omega))).tr (X_Fr.of n4662 e4663 (by first | decide | exact ⟨Nat.le_add_right _ _, Nat.add_le_add_left (by decide) _⟩ | omega))).tr (X_Fr.mono ⟨hf4678.1, hf4678.2⟩ (fun q hq => by first | exact hq | (rcases hq with rfl <;> decide) | (rcases hq with rfl | rfl <;> decide) | (rcases hq with rfl | rfl | rfl <;> decide) | (rcases hq with rfl | rfl | rfl | rfl <;> decide) | (rcases hq with rfl | rfl | rfl | rfl | rfl <;> decide) | (rcases hq with rfl | rfl | rfl | rfl | rfl | rfl <;> decide) | (rcases hq with rfl | rfl | rfl | rfl | rfl | rfl | rfl <;> decide) | omega))).tr (X_Fr.mono ⟨hf4745.1, hf4745.2⟩ (fun q hq => by first | exact hq | (rcases hq with rfl <;> decide) | (rcases hq with rfl | rfl <;> decide) | (rcases hq with rfl | rfl | rfl <;> decide) | (rcases hq with rfl | rfl | rfl | rfl <;> decide) | (rcases hq with rfl | rfl | rfl | rfl | rfl <;> decide) | (rcases hq with rfl | rfl | rfl | rfl | rfl | rfl <;> decide) | (rcases hq with rfl | rfl | rfl | rfl | rfl | rfl | rfl <;> decide) | omega))⟩
            · skip
              rw [hv4766]
              have h4794 : S4695.1 530 = .inr (11, [.ref 531, .int (iI (o 1)), .ref 532, .int (iI (o 3)), .int (iI (o 4)), .int (iI f4753), .int (iI g4754), .int (iI at4746), .int (iI en4747), .int (iI tk4748), .int (iI nu4749), .int (iI dg4750), .long nm4751, .ref 533, .ref 534, .ref 535, .ref 536, .ref 537, .ref 538, .ref 539, .ref 540, .ref 541, .ref 542, .ref 543, .ref 544, .ref 545, .ref 546, .ref 547, .int (iI (o 28)), .int (iI (o 29)), .int (iI wc4752), .int (iI (o 31)), .int (iI (o 32)), .int (iI (o 33)), .ref 548, .ref 549, .ref 550, .ref 551, .int (iI (o 38)), .ref 552, .ref 553, .ref 554, .ref 555, .ref 556, .ref 557, .ref 558, .ref 559, .ref 560, .ref 561, .int (iI (o 49)), .ref 562, .ref 563, .ref 564, .ref 565, .ref 566, .ref 567, .ref 568, .ref 569, .int (iI (o 58)), .ref 570, .ref 571, .ref 572, .ref 573, .ref 574, .ref 575, .ref 576, .ref 577, .ref 578, .int (iI (o 68)), .int (iI (o 69)), .int (iI (o 70)), .ref 579]) := hM4780
              exact Or.inr ⟨at4746, en4747, tk4748, nu4749, dg4750, nm4751, wc4752, f4753, g4754, wR4755, wL4756, wK4757, wM4758, wH4759, wS4760, sO4761, sN4762, eP4763, eH4764, hK4765, rfl, hp4767, (by
                    simp only [sp_word]
                    rw [← hc, if_neg (by omega), if_pos (by assumption), if_neg (by omega), eC, eV, hp4768]
                    rfl), (R_ob.rf.up (by omega)).tr hp4769, ((R_ob.rf.up (by omega)).up (by omega)).tr hp4770, (R_ob.rf.up (by omega)).tr hp4771, (R_ob.rf.up (by omega)).tr hp4772, (R_ob.rf.up (by omega)).tr hp4773, (R_ob.rf.up (by omega)).tr hp4774, hp4775, hp4776, hp4777, hp4778, hp4779, h4794, ha4781, ha4782, ha4783, ha4784, ha4785, ha4786, ha4787, ha4788, ha4789, ha4790, ha4791, ((((((((((X_Fr.rf).tr (X_Fr.mono ⟨hf4331.1, hf4331.2⟩ (fun q hq => by first | exact hq | (rcases hq with rfl <;> decide) | (rcases hq with rfl | rfl <;> decide) | (rcases hq with rfl | rfl | rfl <;> decide) | (rcases hq with rfl | rfl | rfl | rfl <;> decide) | (rcases hq with rfl | rfl | rfl | rfl | rfl <;> decide) | (rcases hq with rfl | rfl | rfl | rfl | rfl | rfl <;> decide) | (rcases hq with rfl | rfl | rfl | rfl | rfl | rfl | rfl <;> decide) | omega))).tr (X_Fr.of n4347 e4348 (by first | decide | exact ⟨Nat.le_add_right _ _, Nat.add_le_add_left (by decide) _⟩ | omega))).tr (X_Fr.of n4353 e4354 (by first | decide | exact ⟨Nat.le_add_right _ _, Nat.add_le_add_left (by decide) _⟩ | omega))).tr (X_Fr.of n4359 e4360 (by first | decide | exact ⟨Nat.le_add_right _ _, Nat.add_le_add_left (by decide) _⟩ | omega))).tr (X_Fr.of n4365 e4366 (by first | decide | exact ⟨Nat.le_add_right _ _, Nat.add_le_add_left (by decide) _⟩ | omega))).tr (X_Fr.of n4371 e4372 (by first | decide | exact ⟨Nat.le_add_right _ _, Nat.add_le_add_left (by decide) _⟩ | omega))).tr (X_Fr.of n4377 e4378 (by first | decide | exact ⟨Nat.le_add_right _ _, Nat.add_le_add_left (by decide) _⟩ | omega))).tr (X_Fr.of n4662 e4663 (by first | decide | exact ⟨Nat.le_add_right _ _, Nat.add_le_add_left (by decide) _⟩ | omega))).tr (X_Fr.mono ⟨hf4678.1, hf4678.2⟩ (fun q hq => by first | exact hq | (rcases hq with rfl <;> decide) | (rcases hq with rfl | rfl <;> decide) | (rcases hq with rfl | rfl | rfl <;> decide) | (rcases hq with rfl | rfl | rfl | rfl <;> decide) | (rcases hq with rfl | rfl | rfl | rfl | rfl <;> decide) | (rcases hq with rfl | rfl | rfl | rfl | rfl | rfl <;> decide) | (rcases hq with rfl | rfl | rfl | rfl | rfl | rfl | rfl <;> decide) | omega))).tr (X_Fr.mono ⟨hf4792.1, hf4792.2⟩ (fun q hq => by first | exact hq | (rcases hq with rfl <;> decide) | (rcases hq with rfl | rfl <;> decide) | (rcases hq with rfl | rfl | rfl <;> decide) | (rcases hq with rfl | rfl | rfl | rfl <;> decide) | (rcases hq with rfl | rfl | rfl | rfl | rfl <;> decide) | (rcases hq with rfl | rfl | rfl | rfl | rfl | rfl <;> decide) | (rcases hq with rfl | rfl | rfl | rfl | rfl | rfl | rfl <;> decide) | omega))⟩
          · skip
            have c4658 : (so (X_av n c) = 3 ∧ ct (X_av n c) = (Int64.ofNat 1818584692)) := c4658
            exact (show False by first | contradiction | omega).elim
  · skip
    rw [hv4335]
    have h4343 : S4318.1 530 = .inr (11, [.ref 531, .int (iI (o 1)), .ref 532, .int (iI (o 3)), .int (iI (o 4)), .int (iI f4333), .int (iI g4334), .int (iI (o 7)), .int (iI (o 8)), .int (iI (o 9)), .int (iI (o 10)), .int (iI (o 11)), .long nm, .ref 533, .ref 534, .ref 535, .ref 536, .ref 537, .ref 538, .ref 539, .ref 540, .ref 541, .ref 542, .ref 543, .ref 544, .ref 545, .ref 546, .ref 547, .int (iI (o 28)), .int (iI (o 29)), .int (iI (o 30)), .int (iI (o 31)), .int (iI (o 32)), .int (iI (o 33)), .ref 548, .ref 549, .ref 550, .ref 551, .int (iI (o 38)), .ref 552, .ref 553, .ref 554, .ref 555, .ref 556, .ref 557, .ref 558, .ref 559, .ref 560, .ref 561, .int (iI (o 49)), .ref 562, .ref 563, .ref 564, .ref 565, .ref 566, .ref 567, .ref 568, .ref 569, .int (iI (o 58)), .ref 570, .ref 571, .ref 572, .ref 573, .ref 574, .ref 575, .ref 576, .ref 577, .ref 578, .int (iI (o 68)), .int (iI (o 69)), .int (iI (o 70)), .ref 579]) := hM4339
    show X_T sc 157 (22, [(1, .int (iI wi)), (0, .ref 530)], [.int (iI r4332), .int (iI wi), .ref 537], S4318) _
    have h4795 := (hf4340.1 537 (by first | decide | omega)).trans (hA537)
    refine T_ziast xr_157_22 h4795 (pc' := 23) rfl (fun S4796 h4797 n4798 e4799 => ?_)
    refine T_p xr_157_23 xn_157 (pc' := 24) (ls' := [(1, .int (iI wi)), (0, .ref 530)]) (st' := [.ref 530]) rfl ?_
    have h4800 := (n4798 530 (by decide)).trans (h4343)
    refine T_get xr_157_24 h4800 rfl (v := .ref 538) rfl (pc' := 27) rfl ?_
    refine T_p xr_157_27 xn_157 (pc' := 28) (ls' := [(1, .int (iI wi)), (0, .ref 530)]) (st' := [.int (iI wi), .ref 538]) rfl ?_
    refine T_p xr_157_28 xn_157 (pc' := 29) (ls' := [(1, .int (iI wi)), (0, .ref 530)]) (st' := [.int (iI 0), .int (iI wi), .ref 538]) rfl ?_
    have h4801 := (n4798 538 (by decide)).trans ((hf4340.1 538 (by first | decide | omega)).trans (hA538))
    refine T_ziast xr_157_29 h4801 (pc' := 30) rfl (fun S4802 h4803 n4804 e4805 => ?_)
    refine T_p xr_157_30 xn_157 (pc' := 31) (ls' := [(1, .int (iI wi)), (0, .ref 530)]) (st' := [.ref 530]) rfl ?_
    have h4806 := (n4804 530 (by decide)).trans (h4800)
    refine T_get xr_157_31 h4806 rfl (v := .ref 539) rfl (pc' := 34) rfl ?_
    refine T_p xr_157_34 xn_157 (pc' := 35) (ls' := [(1, .int (iI wi)), (0, .ref 530)]) (st' := [.int (iI wi), .ref 539]) rfl ?_
    refine T_p xr_157_35 xn_157 (pc' := 36) (ls' := [(1, .int (iI wi)), (0, .ref 530)]) (st' := [.int (iI 0), .int (iI wi), .ref 539]) rfl ?_
    have h4807 := (n4804 539 (by decide)).trans ((n4798 539 (by decide)).trans ((hf4340.1 539 (by first | decide | omega)).trans (hA539)))
    refine T_ziast xr_157_36 h4807 (pc' := 37) rfl (fun S4808 h4809 n4810 e4811 => ?_)
    refine T_p xr_157_37 xn_157 (pc' := 38) (ls' := [(1, .int (iI wi)), (0, .ref 530)]) (st' := [.ref 530]) rfl ?_
    have h4812 := (n4810 530 (by decide)).trans (h4806)
    refine T_get xr_157_38 h4812 rfl (v := .ref 540) rfl (pc' := 41) rfl ?_
    refine T_p xr_157_41 xn_157 (pc' := 42) (ls' := [(1, .int (iI wi)), (0, .ref 530)]) (st' := [.int (iI wi), .ref 540]) rfl ?_
    refine T_p xr_157_42 xn_157 (pc' := 43) (ls' := [(1, .int (iI wi)), (0, .ref 530)]) (st' := [.int (iI 0), .int (iI wi), .ref 540]) rfl ?_
    have h4813 := (n4810 540 (by decide)).trans ((n4804 540 (by decide)).trans ((n4798 540 (by decide)).trans ((hf4340.1 540 (by first | decide | omega)).trans (hA540))))
    refine T_ziast xr_157_43 h4813 (pc' := 44) rfl (fun S4814 h4815 n4816 e4817 => ?_)
    refine T_p xr_157_44 xn_157 (pc' := 45) (ls' := [(1, .int (iI wi)), (0, .ref 530)]) (st' := [.ref 530]) rfl ?_
    have h4818 := (n4816 530 (by decide)).trans (h4812)
    refine T_get xr_157_45 h4818 rfl (v := .ref 541) rfl (pc' := 48) rfl ?_
    refine T_p xr_157_48 xn_157 (pc' := 49) (ls' := [(1, .int (iI wi)), (0, .ref 530)]) (st' := [.int (iI wi), .ref 541]) rfl ?_
    refine T_p xr_157_49 xn_157 (pc' := 50) (ls' := [(1, .int (iI wi)), (0, .ref 530)]) (st' := [.int (iI 0), .int (iI wi), .ref 541]) rfl ?_
    have h4819 := (n4816 541 (by decide)).trans ((n4810 541 (by decide)).trans ((n4804 541 (by decide)).trans ((n4798 541 (by decide)).trans ((hf4340.1 541 (by first | decide | omega)).trans (hA541)))))
    refine T_ziast xr_157_50 h4819 (pc' := 51) rfl (fun S4820 h4821 n4822 e4823 => ?_)
    refine T_p xr_157_51 xn_157 (pc' := 52) (ls' := [(1, .int (iI wi)), (0, .ref 530)]) (st' := [.ref 530]) rfl ?_
    have h4824 := (n4822 530 (by decide)).trans (h4818)
    refine T_get xr_157_52 h4824 rfl (v := .ref 542) rfl (pc' := 55) rfl ?_
    refine T_p xr_157_55 xn_157 (pc' := 56) (ls' := [(1, .int (iI wi)), (0, .ref 530)]) (st' := [.int (iI wi), .ref 542]) rfl ?_
    refine T_p xr_157_56 xn_157 (pc' := 57) (ls' := [(1, .int (iI wi)), (0, .ref 530)]) (st' := [.int (iI (-1)), .int (iI wi), .ref 542]) rfl ?_
    have h4825 := (n4822 542 (by decide)).trans ((n4816 542 (by decide)).trans ((n4810 542 (by decide)).trans ((n4804 542 (by decide)).trans ((n4798 542 (by decide)).trans ((hf4340.1 542 (by first | decide | omega)).trans (hA542))))))
    refine T_ziast xr_157_57 h4825 (pc' := 58) rfl (fun S4826 h4827 n4828 e4829 => ?_)
    refine T_p xr_157_58 xn_157 (pc' := 59) (ls' := [(1, .int (iI wi)), (0, .ref 530)]) (st' := [.ref 530]) rfl ?_
    have h4830 := (n4828 530 (by decide)).trans (h4824)
    refine T_cv (S := S4826) (q := 530) xr_157_59 xf_140.1 xf_140.2.1 xn_140 (as := []) (r := []) rfl h4830 (Nat.le_of_ble_eq_true rfl) (Nat.le_of_ble_eq_true rfl) (pc' := 62) rfl (ls' := [(0, .ref 530)]) rfl ?_
    refine T_mono (r_isGood sc S4826 (X_ou (X_ou o 5 f4333) 6 g4334) nm h4830 (show 0 ≤ f4333 ∧ f4333 ≤ 5 from by omega)) (fun v4831 S4832 h4833 => ?_)
    rcases h4833 with ⟨hv4834, hf4835⟩
    rw [hv4834]
    rw [hf4835]
    show X_T sc 157 (62, [(1, .int (iI wi)), (0, .ref 530)], [.int (iI (bI (f4333 = 0)))], S4826) _
    refine T_bif_eq xr_157_62 (t := 110) (pc' := 65) rfl rfl (fun c4836 => ?_) (fun c4836 => ?_)
    · skip
      have c4836 : ¬ (f4333 = 0) := c4836
      refine T_p xr_157_110 xn_157 (pc' := 111) (ls' := [(1, .int (iI wi)), (0, .ref 530)]) (st' := [.ref 530]) rfl ?_
      refine T_cv (S := S4826) (q := 530) xr_157_111 xf_140.1 xf_140.2.1 xn_140 (as := []) (r := []) rfl h4830 (Nat.le_of_ble_eq_true rfl) (Nat.le_of_ble_eq_true rfl) (pc' := 114) rfl (ls' := [(0, .ref 530)]) rfl ?_
      refine T_mono (r_isGood sc S4826 (X_ou (X_ou o 5 f4333) 6 g4334) nm h4830 (show 0 ≤ f4333 ∧ f4333 ≤ 5 from by omega)) (fun v4837 S4838 h4839 => ?_)
      rcases h4839 with ⟨hv4840, hf4841⟩
      rw [hv4840]
      rw [hf4841]
      show X_T sc 157 (114, [(1, .int (iI wi)), (0, .ref 530)], [.int (iI (bI (f4333 = 0)))], S4826) _
      refine T_bif_eq xr_157_114 (t := 135) (pc' := 117) rfl rfl (fun c4842 => ?_) (fun c4842 => ?_)
      · skip
        have c4842 : ¬ (f4333 = 0) := c4842
        refine T_p xr_157_135 xn_157 (pc' := 136) (ls' := [(1, .int (iI wi)), (0, .ref 530)]) (st' := [.ref 530]) rfl ?_
        refine T_get xr_157_136 h4830 rfl (v := .int (iI (o 7))) rfl (pc' := 139) rfl ?_
        refine T_p xr_157_139 xn_157 (pc' := 140) (ls' := [(2, .int (iI (o 7))), (1, .int (iI wi)), (0, .ref 530)]) (st' := []) rfl ?_
        refine T_p xr_157_140 xn_157 (pc' := 141) (ls' := [(2, .int (iI (o 7))), (1, .int (iI wi)), (0, .ref 530)]) (st' := [.ref 530]) rfl ?_
        refine T_cv (S := S4826) (q := 530) xr_157_141 xf_140.1 xf_140.2.1 xn_140 (as := []) (r := []) rfl h4830 (Nat.le_of_ble_eq_true rfl) (Nat.le_of_ble_eq_true rfl) (pc' := 144) rfl (ls' := [(0, .ref 530)]) rfl ?_
        refine T_mono (r_isGood sc S4826 (X_ou (X_ou o 5 f4333) 6 g4334) nm h4830 (show 0 ≤ f4333 ∧ f4333 ≤ 5 from by omega)) (fun v4843 S4844 h4845 => ?_)
        rcases h4845 with ⟨hv4846, hf4847⟩
        rw [hv4846]
        rw [hf4847]
        show X_T sc 157 (144, [(2, .int (iI (o 7))), (1, .int (iI wi)), (0, .ref 530)], [.int (iI (bI (f4333 = 0)))], S4826) _
        refine T_bif_eq xr_157_144 (t := 153) (pc' := 147) rfl rfl (fun c4848 => ?_) (fun c4848 => ?_)
        · skip
          have c4848 : ¬ (f4333 = 0) := c4848
          refine T_p xr_157_153 xn_157 (pc' := 154) (ls' := [(2, .int (iI (o 7))), (1, .int (iI wi)), (0, .ref 530)]) (st' := [.int (iI 0)]) rfl ?_
          refine T_p xr_157_154 xn_157 (pc' := 155) (ls' := [(3, .int (iI 0)), (2, .int (iI (o 7))), (1, .int (iI wi)), (0, .ref 530)]) (st' := []) rfl ?_
          refine T_p xr_157_155 xn_157 (pc' := 156) (ls' := [(3, .int (iI 0)), (2, .int (iI (o 7))), (1, .int (iI wi)), (0, .ref 530)]) (st' := [.ref 530]) rfl ?_
          refine T_cv (S := S4826) (q := 530) xr_157_156 xf_140.1 xf_140.2.1 xn_140 (as := []) (r := []) rfl h4830 (Nat.le_of_ble_eq_true rfl) (Nat.le_of_ble_eq_true rfl) (pc' := 159) rfl (ls' := [(0, .ref 530)]) rfl ?_
          refine T_mono (r_isGood sc S4826 (X_ou (X_ou o 5 f4333) 6 g4334) nm h4830 (show 0 ≤ f4333 ∧ f4333 ≤ 5 from by omega)) (fun v4849 S4850 h4851 => ?_)
          rcases h4851 with ⟨hv4852, hf4853⟩
          rw [hv4852]
          rw [hf4853]
          show X_T sc 157 (159, [(3, .int (iI 0)), (2, .int (iI (o 7))), (1, .int (iI wi)), (0, .ref 530)], [.int (iI (bI (f4333 = 0)))], S4826) _
          refine T_bif_eq xr_157_159 (t := 205) (pc' := 162) rfl rfl (fun c4854 => ?_) (fun c4854 => ?_)
          · skip
            have c4854 : ¬ (f4333 = 0) := c4854
            refine T_p xr_157_205 xn_157 (pc' := 206) (ls' := [(3, .int (iI 0)), (2, .int (iI (o 7))), (1, .int (iI wi)), (0, .ref 530)]) (st' := [.ref 530]) rfl ?_
            refine T_cv (S := S4826) (q := 530) xr_157_206 xf_140.1 xf_140.2.1 xn_140 (as := []) (r := []) rfl h4830 (Nat.le_of_ble_eq_true rfl) (Nat.le_of_ble_eq_true rfl) (pc' := 209) rfl (ls' := [(0, .ref 530)]) rfl ?_
            refine T_mono (r_isGood sc S4826 (X_ou (X_ou o 5 f4333) 6 g4334) nm h4830 (show 0 ≤ f4333 ∧ f4333 ≤ 5 from by omega)) (fun v4855 S4856 h4857 => ?_)
            rcases h4857 with ⟨hv4858, hf4859⟩
            rw [hv4858]
            rw [hf4859]
            show X_T sc 157 (209, [(3, .int (iI 0)), (2, .int (iI (o 7))), (1, .int (iI wi)), (0, .ref 530)], [.int (iI (bI (f4333 = 0)))], S4826) _
            refine T_bif_eq xr_157_209 (t := 247) (pc' := 212) rfl rfl (fun c4860 => ?_) (fun c4860 => ?_)
            · skip
              have c4860 : ¬ (f4333 = 0) := c4860
              refine T_p xr_157_247 xn_157 (pc' := 248) (ls' := [(3, .int (iI 0)), (2, .int (iI (o 7))), (1, .int (iI wi)), (0, .ref 530)]) (st' := [.ref 530]) rfl ?_
              refine T_cv (S := S4826) (q := 530) xr_157_248 xf_140.1 xf_140.2.1 xn_140 (as := []) (r := []) rfl h4830 (Nat.le_of_ble_eq_true rfl) (Nat.le_of_ble_eq_true rfl) (pc' := 251) rfl (ls' := [(0, .ref 530)]) rfl ?_
              refine T_mono (r_isGood sc S4826 (X_ou (X_ou o 5 f4333) 6 g4334) nm h4830 (show 0 ≤ f4333 ∧ f4333 ≤ 5 from by omega)) (fun v4861 S4862 h4863 => ?_)
              rcases h4863 with ⟨hv4864, hf4865⟩
              rw [hv4864]
              rw [hf4865]
              show X_T sc 157 (251, [(3, .int (iI 0)), (2, .int (iI (o 7))), (1, .int (iI wi)), (0, .ref 530)], [.int (iI (bI (f4333 = 0)))], S4826) _
              refine T_bif_eq xr_157_251 (t := 277) (pc' := 254) rfl rfl (fun c4866 => ?_) (fun c4866 => ?_)
              · skip
                have c4866 : ¬ (f4333 = 0) := c4866
                refine T_p xr_157_277 xn_157 (pc' := 278) (ls' := [(3, .int (iI 0)), (2, .int (iI (o 7))), (1, .int (iI wi)), (0, .ref 530)]) (st' := [.ref 530]) rfl ?_
                refine T_cv (S := S4826) (q := 530) xr_157_278 xf_140.1 xf_140.2.1 xn_140 (as := []) (r := []) rfl h4830 (Nat.le_of_ble_eq_true rfl) (Nat.le_of_ble_eq_true rfl) (pc' := 281) rfl (ls' := [(0, .ref 530)]) rfl ?_
                refine T_mono (r_isGood sc S4826 (X_ou (X_ou o 5 f4333) 6 g4334) nm h4830 (show 0 ≤ f4333 ∧ f4333 ≤ 5 from by omega)) (fun v4867 S4868 h4869 => ?_)
                rcases h4869 with ⟨hv4870, hf4871⟩
                rw [hv4870]
                rw [hf4871]
                show X_T sc 157 (281, [(3, .int (iI 0)), (2, .int (iI (o 7))), (1, .int (iI wi)), (0, .ref 530)], [.int (iI (bI (f4333 = 0)))], S4826) _
                refine T_bif_eq xr_157_281 (t := 302) (pc' := 284) rfl rfl (fun c4872 => ?_) (fun c4872 => ?_)
                · skip
                  have c4872 : ¬ (f4333 = 0) := c4872
                  refine T_p xr_157_302 xn_157 (pc' := 303) (ls' := [(3, .int (iI 0)), (2, .int (iI (o 7))), (1, .int (iI wi)), (0, .ref 530)]) (st' := [.ref 530]) rfl ?_
                  refine T_p xr_157_303 xn_157 (pc' := 304) (ls' := [(3, .int (iI 0)), (2, .int (iI (o 7))), (1, .int (iI wi)), (0, .ref 530)]) (st' := [.ref 530, .ref 530]) rfl ?_
                  refine T_get xr_157_304 h4830 rfl (v := .int (iI (o 30))) rfl (pc' := 307) rfl ?_
                  refine T_p xr_157_307 xn_157 (pc' := 308) (ls' := [(3, .int (iI 0)), (2, .int (iI (o 7))), (1, .int (iI wi)), (0, .ref 530)]) (st' := [.int (iI 1), .int (iI (o 30)), .ref 530]) rfl ?_
                  refine T_ziadd xr_157_308 (z := (o 30) + 1) rfl (pc' := 309) rfl ?_
                  refine T_ie (y := iI (wc + 1)) (by rw [hwc]) ?_
                  refine T_put xr_157_309 h4830 rfl (Nat.le_of_ble_eq_true rfl) rfl (fs' := [.ref 531, .int (iI (o 1)), .ref 532, .int (iI (o 3)), .int (iI (o 4)), .int (iI f4333), .int (iI g4334), .int (iI (o 7)), .int (iI (o 8)), .int (iI (o 9)), .int (iI (o 10)), .int (iI (o 11)), .long nm, .ref 533, .ref 534, .ref 535, .ref 536, .ref 537, .ref 538, .ref 539, .ref 540, .ref 541, .ref 542, .ref 543, .ref 544, .ref 545, .ref 546, .ref 547, .int (iI (o 28)), .int (iI (o 29)), .int (iI (wc + 1)), .int (iI (o 31)), .int (iI (o 32)), .int (iI (o 33)), .ref 548, .ref 549, .ref 550, .ref 551, .int (iI (o 38)), .ref 552, .ref 553, .ref 554, .ref 555, .ref 556, .ref 557, .ref 558, .ref 559, .ref 560, .ref 561, .int (iI (o 49)), .ref 562, .ref 563, .ref 564, .ref 565, .ref 566, .ref 567, .ref 568, .ref 569, .int (iI (o 58)), .ref 570, .ref 571, .ref 572, .ref 573, .ref 574, .ref 575, .ref 576, .ref 577, .ref 578, .int (iI (o 68)), .int (iI (o 69)), .int (iI (o 70)), .ref 579]) rfl (pc' := 312) rfl (fun S4873 h4874 n4875 e4876 => ?_)
                  refine T_p xr_157_312 xn_157 (pc' := 313) (ls' := [(3, .int (iI 0)), (2, .int (iI (o 7))), (1, .int (iI wi)), (0, .ref 530)]) (st' := [.ref 530]) rfl ?_
                  refine T_cv (S := S4873) (q := 530) xr_157_313 xf_140.1 xf_140.2.1 xn_140 (as := []) (r := []) rfl h4874 (Nat.le_of_ble_eq_true rfl) (Nat.le_of_ble_eq_true rfl) (pc' := 316) rfl (ls' := [(0, .ref 530)]) rfl ?_
                  refine T_mono (r_isGood sc S4873 (X_ou (X_ou (X_ou o 5 f4333) 6 g4334) 30 (wc + 1)) nm h4874 (show 0 ≤ f4333 ∧ f4333 ≤ 5 from by omega)) (fun v4877 S4878 h4879 => ?_)
                  rcases h4879 with ⟨hv4880, hf4881⟩
                  rw [hv4880]
                  rw [hf4881]
                  show X_T sc 157 (316, [(3, .int (iI 0)), (2, .int (iI (o 7))), (1, .int (iI wi)), (0, .ref 530)], [.int (iI (bI (f4333 = 0)))], S4873) _
                  refine T_bif_eq xr_157_316 (t := 325) (pc' := 319) rfl rfl (fun c4882 => ?_) (fun c4882 => ?_)
                  · skip
                    have c4882 : ¬ (f4333 = 0) := c4882
                    refine T_vret xr_157_325 xf_157.2.2 ?_
                    refine hQ _ _ ?_
                    have h4883 := (n4875 537 (by decide)).trans ((n4828 537 (by decide)).trans ((n4822 537 (by decide)).trans ((n4816 537 (by decide)).trans ((n4810 537 (by decide)).trans ((n4804 537 (by decide)).trans (h4797))))))
                    have h4884 := (n4875 538 (by decide)).trans ((n4828 538 (by decide)).trans ((n4822 538 (by decide)).trans ((n4816 538 (by decide)).trans ((n4810 538 (by decide)).trans (h4803)))))
                    have h4885 := (n4875 539 (by decide)).trans ((n4828 539 (by decide)).trans ((n4822 539 (by decide)).trans ((n4816 539 (by decide)).trans (h4809))))
                    have h4886 := (n4875 540 (by decide)).trans ((n4828 540 (by decide)).trans ((n4822 540 (by decide)).trans (h4815)))
                    have h4887 := (n4875 541 (by decide)).trans ((n4828 541 (by decide)).trans (h4821))
                    have h4888 := (n4875 542 (by decide)).trans (h4827)
                    have h4889 := (n4875 543 (by decide)).trans ((n4828 543 (by decide)).trans ((n4822 543 (by decide)).trans ((n4816 543 (by decide)).trans ((n4810 543 (by decide)).trans ((n4804 543 (by decide)).trans ((n4798 543 (by decide)).trans ((hf4340.1 543 (by first | decide | omega)).trans (hA543))))))))
                    have h4890 := (n4875 544 (by decide)).trans ((n4828 544 (by decide)).trans ((n4822 544 (by decide)).trans ((n4816 544 (by decide)).trans ((n4810 544 (by decide)).trans ((n4804 544 (by decide)).trans ((n4798 544 (by decide)).trans ((hf4340.1 544 (by first | decide | omega)).trans (hA544))))))))
                    have h4891 := (n4875 545 (by decide)).trans ((n4828 545 (by decide)).trans ((n4822 545 (by decide)).trans ((n4816 545 (by decide)).trans ((n4810 545 (by decide)).trans ((n4804 545 (by decide)).trans ((n4798 545 (by decide)).trans ((hf4340.1 545 (by first | decide | omega)).trans (hA545))))))))
                    have h4892 := (n4875 546 (by decide)).trans ((n4828 546 (by decide)).trans ((n4822 546 (by decide)).trans ((n4816 546 (by decide)).trans ((n4810 546 (by decide)).trans ((n4804 546 (by decide)).trans ((n4798 546 (by decide)).trans ((hf4340.1 546 (by first | decide | omega)).trans (hA546))))))))
                    have h4893 := (n4875 547 (by decide)).trans ((n4828 547 (by decide)).trans ((n4822 547 (by decide)).trans ((n4816 547 (by decide)).trans ((n4810 547 (by decide)).trans ((n4804 547 (by decide)).trans ((n4798 547 (by decide)).trans ((hf4340.1 547 (by first | decide | omega)).trans (hA547))))))))
                    refine Or.inr ⟨o 7, o 8, o 9, o 10, o 11, nm, wc + 1, f4333, g4334, (X_ug wR wi r4332), (X_ug wL wi 0), (X_ug wK wi 0), (X_ug wM wi 0), (X_ug wH wi 0), (X_ug wS wi (-1)), sO, sN, eP, eH, hK, rfl, by omega, ?_, by first | exact R_ob.rf | exact R_ob.rf.up (by omega) | exact (R_ob.rf.up (by omega)).up (by omega), by first | exact R_ob.rf | exact R_ob.rf.up (by omega) | exact (R_ob.rf.up (by omega)).up (by omega), by first | exact R_ob.rf | exact R_ob.rf.up (by omega) | exact (R_ob.rf.up (by omega)).up (by omega), by first | exact R_ob.rf | exact R_ob.rf.up (by omega) | exact (R_ob.rf.up (by omega)).up (by omega), by first | exact R_ob.rf | exact R_ob.rf.up (by omega) | exact (R_ob.rf.up (by omega)).up (by omega), by first | exact R_ob.rf | exact R_ob.rf.up (by omega) | exact (R_ob.rf.up (by omega)).up (by omega), by first | exact R_ob.rf | exact R_ob.rf.up (by omega) | exact (R_ob.rf.up (by omega)).up (by omega), by first | exact R_ob.rf | exact R_ob.rf.up (by omega) | exact (R_ob.rf.up (by omega)).up (by omega), by first | exact R_ob.rf | exact R_ob.rf.up (by omega) | exact (R_ob.rf.up (by omega)).up (by omega), by first | exact R_ob.rf | exact R_ob.rf.up (by omega) | exact (R_ob.rf.up (by omega)).up (by omega), by first | exact R_ob.rf | exact R_ob.rf.up (by omega) | exact (R_ob.rf.up (by omega)).up (by omega), h4874, h4883, h4884, h4885, h4886, h4887, h4888, h4889, h4890, h4891, h4892, h4893, ((((((((X_Fr.rf).tr (X_Fr.mono ⟨hf4340.1, hf4340.2⟩ (fun q hq => by first | exact hq | (rcases hq with rfl <;> decide) | (rcases hq with rfl | rfl <;> decide) | (rcases hq with rfl | rfl | rfl <;> decide) | (rcases hq with rfl | rfl | rfl | rfl <;> decide) | (rcases hq with rfl | rfl | rfl | rfl | rfl <;> decide) | (rcases hq with rfl | rfl | rfl | rfl | rfl | rfl <;> decide) | (rcases hq with rfl | rfl | rfl | rfl | rfl | rfl | rfl <;> decide) | omega))).tr (X_Fr.of n4798 e4799 (by first | decide | exact ⟨Nat.le_add_right _ _, Nat.add_le_add_left (by decide) _⟩ | omega))).tr (X_Fr.of n4804 e4805 (by first | decide | exact ⟨Nat.le_add_right _ _, Nat.add_le_add_left (by decide) _⟩ | omega))).tr (X_Fr.of n4810 e4811 (by first | decide | exact ⟨Nat.le_add_right _ _, Nat.add_le_add_left (by decide) _⟩ | omega))).tr (X_Fr.of n4816 e4817 (by first | decide | exact ⟨Nat.le_add_right _ _, Nat.add_le_add_left (by decide) _⟩ | omega))).tr (X_Fr.of n4822 e4823 (by first | decide | exact ⟨Nat.le_add_right _ _, Nat.add_le_add_left (by decide) _⟩ | omega))).tr (X_Fr.of n4828 e4829 (by first | decide | exact ⟨Nat.le_add_right _ _, Nat.add_le_add_left (by decide) _⟩ | omega))).tr (X_Fr.of n4875 e4876 (by first | decide | exact ⟨Nat.le_add_right _ _, Nat.add_le_add_left (by decide) _⟩ | omega))⟩
                    simp only [sp_word]
                    rw [← hc]
                    (repeat (first | rw [if_pos (by assumption)] | rw [if_neg (by assumption)] | rw [if_neg (by omega)] | rw [if_pos (by omega)]))
                    all_goals first | rfl | ((repeat' split) <;> first | rfl | (exfalso; omega) | contradiction)
                  · skip
                    have c4882 : (f4333 = 0) := c4882
                    exact (show False by first | contradiction | omega).elim
                · skip
                  have c4872 : (f4333 = 0) := c4872
                  exact (show False by first | contradiction | omega).elim
              · skip
                have c4866 : (f4333 = 0) := c4866
                exact (show False by first | contradiction | omega).elim
            · skip
              have c4860 : (f4333 = 0) := c4860
              exact (show False by first | contradiction | omega).elim
          · skip
            have c4854 : (f4333 = 0) := c4854
            exact (show False by first | contradiction | omega).elim
        · skip
          have c4848 : (f4333 = 0) := c4848
          exact (show False by first | contradiction | omega).elim
      · skip
        have c4842 : (f4333 = 0) := c4842
        exact (show False by first | contradiction | omega).elim
    · skip
      have c4836 : (f4333 = 0) := c4836
      exact (show False by first | contradiction | omega).elim
end
section
theorem xr_162_264 : X_row 162 264 = some (264, (.aload_n 0, 1), (0, 0, 0)) := by decide +kernel
theorem xr_162_265 : X_row 162 265 = some (265, (.invokevirtual 78, 3), (141, 0, 0)) := by decide +kernel
theorem xr_162_268 : X_row 162 268 = some (268, (.aload_n 0, 1), (0, 0, 0)) := by decide +kernel
theorem xr_162_269 : X_row 162 269 = some (269, (.invokevirtual 100, 3), (140, 14, 0)) := by decide +kernel
theorem xr_162_272 : X_row 162 272 = some (272, (.ifCond .ne 6, 3), (0, 0, 0)) := by decide +kernel
theorem xr_162_278 : X_row 162 278 = some (278, (.lload_n 1, 1), (0, 0, 0)) := by decide +kernel
theorem xr_162_279 : X_row 162 279 = some (279, (.ldc2_w 45, 3), (1918987883, 1285, 0)) := by decide +kernel
theorem xr_162_282 : X_row 162 282 = some (282, (.lcmp, 1), (0, 0, 0)) := by decide +kernel
theorem xr_162_283 : X_row 162 283 = some (283, (.ifCond .ne 10, 3), (0, 0, 0)) := by decide +kernel
theorem xr_162_286 : X_row 162 286 = some (286, (.aload_n 0, 1), (0, 0, 0)) := by decide +kernel
theorem xr_162_287 : X_row 162 287 = some (287, (.invokevirtual 296, 3), (153, 20, 0)) := by decide +kernel
theorem xr_162_290 : X_row 162 290 = some (290, (.goto 37, 3), (0, 0, 0)) := by decide +kernel
theorem xr_162_293 : X_row 162 293 = some (293, (.lload_n 1, 1), (0, 0, 0)) := by decide +kernel
theorem xr_162_294 : X_row 162 294 = some (294, (.ldc2_w 47, 3), (32766990153442674, 1286, 0)) := by decide +kernel
theorem xr_162_297 : X_row 162 297 = some (297, (.lcmp, 1), (0, 0, 0)) := by decide +kernel
theorem xr_162_298 : X_row 162 298 = some (298, (.ifCond .ne 10, 3), (0, 0, 0)) := by decide +kernel
theorem xr_162_301 : X_row 162 301 = some (301, (.aload_n 0, 1), (0, 0, 0)) := by decide +kernel
theorem xr_162_302 : X_row 162 302 = some (302, (.invokevirtual 299, 3), (155, 28, 0)) := by decide +kernel
theorem xr_162_305 : X_row 162 305 = some (305, (.goto 22, 3), (0, 0, 0)) := by decide +kernel
theorem xr_162_308 : X_row 162 308 = some (308, (.lload_n 1, 1), (0, 0, 0)) := by decide +kernel
theorem xr_162_309 : X_row 162 309 = some (309, (.ldc2_w 49, 3), (1802071652, 1287, 0)) := by decide +kernel
theorem xr_162_312 : X_row 162 312 = some (312, (.lcmp, 1), (0, 0, 0)) := by decide +kernel
theorem xr_162_313 : X_row 162 313 = some (313, (.ifCond .ne 10, 3), (0, 0, 0)) := by decide +kernel
theorem xr_162_316 : X_row 162 316 = some (316, (.aload_n 0, 1), (0, 0, 0)) := by decide +kernel
theorem xr_162_317 : X_row 162 317 = some (317, (.invokevirtual 302, 3), (156, 34, 0)) := by decide +kernel
theorem xr_162_320 : X_row 162 320 = some (320, (.goto 7, 3), (0, 0, 0)) := by decide +kernel
theorem xr_162_323 : X_row 162 323 = some (323, (.aload_n 0, 1), (0, 0, 0)) := by decide +kernel
theorem xr_162_324 : X_row 162 324 = some (324, (.invokevirtual 305, 3), (157, 42, 0)) := by decide +kernel
theorem xr_162_327 : X_row 162 327 = some (327, (.goto (-214), 3), (0, 0, 0)) := by decide +kernel
theorem xn_162 : X_nL 162 = 4 := by decide +kernel
theorem xf_162 : X_na 162 = 0 ∧ X_ci 162 = 11 ∧ X_rt 162 = (some .int) := by decide +kernel
theorem X_av_le {n c : Int} : c ≤ X_av n c := by
  unfold X_av
  split <;> omega
theorem sp_el_le {n : Int} {so : Int → Int} {ct : Int → Int64} {kn : Int → Int64} {kc : Int} : ∀ (k : Nat) (c : Int) (d : Nat → Int → Int) (q : Int → Int64) (r : Int × (Nat → Int → Int) × (Int → Int64)), sp_el n so ct kn kc k c d q = some r → c ≤ r.1 := by
  intro k
  induction k with
  | zero => intro c d q r h; cases h
  | succ k ih =>
    intro c d q r h
    have h1 := X_av_le (n := n) (c := c)
    have h2 := X_av_le (n := n) (c := X_av n c)
    unfold sp_el at h
    repeat' split at h
    all_goals first
      | (cases h; done)
      | (cases h; exact Int.le_refl _)
      | (have := ih _ _ _ _ h; omega)
theorem sp_stF_le {n c s v pile : Int} {d : Nat → Int → Int} {r : Int × (Nat → Int → Int) × Int} (h : sp_stF n c s v d pile = some r) : c ≤ r.1 := by
  unfold sp_stF at h
  repeat' split at h
  all_goals first
    | (cases h; done)
    | (cases h; exact X_av_le)
theorem sp_step_le {n : Int} {so : Int → Int} {ct : Int → Int64} {c : Int} {d : Nat → Int → Int} {pile : Int} {r : Int × (Nat → Int → Int) × Int} (h : sp_step n so ct c d pile = some r) : c ≤ r.1 := by
  have h1 := X_av_le (n := n) (c := c)
  unfold sp_step at h
  repeat' split at h
  all_goals first
    | (cases h; done)
    | (have := sp_stF_le h; omega)
theorem sp_sl_le {n : Int} {so : Int → Int} {ct : Int → Int64} : ∀ (k : Nat) (c : Int) (d : Nat → Int → Int) (p : Int) (r : Int × (Nat → Int → Int) × Int), sp_sl n so ct k c d p = some r → c ≤ r.1 := by
  intro k
  induction k with
  | zero => intro c d p r h; cases h; exact Int.le_refl _
  | succ k ih =>
    intro c d p r h
    unfold sp_sl at h
    split at h
    · cases h; exact Int.le_refl _
    · cases hs : sp_step n so ct c d p with
      | none => rw [hs] at h; cases h
      | some z =>
        rw [hs] at h
        have := ih _ _ _ _ h
        have := sp_step_le hs
        omega
theorem sp_steps_le {n : Int} {so : Int → Int} {ct : Int → Int64} {c : Int} {d : Nat → Int → Int} {r : Int × (Nat → Int → Int)} (h : sp_steps n so ct c d = some r) : c ≤ r.1 := by
  unfold sp_steps at h
  cases hs : sp_sl n so ct 30 (X_av n c) (X_wu d 5 (fun _ => 0)) 0 with
  | none => rw [hs] at h; cases h
  | some z =>
    rw [hs] at h
    have h : (if so z.1 = 59 then (if z.2.2 = 1 then some (X_av n z.1, z.2.1) else none) else none) = some r := h
    have h1 := sp_sl_le _ _ _ _ _ hs
    have h2 := X_av_le (n := n) (c := c)
    have h3 := X_av_le (n := n) (c := z.1)
    repeat' split at h
    all_goals first
      | (cases h; done)
      | (cases h; show c ≤ X_av n z.1; omega)
theorem sp_we_le {n : Int} {so : Int → Int} {ct : Int → Int64} {c : Int} {d : Nat → Int → Int} {q : Int → Int64} {r : Int × (Nat → Int → Int) × (Int → Int64)} (h : sp_we n so ct c d q = some r) : c ≤ r.1 := by
  have h1 := X_av_le (n := n) (c := c)
  have key : ∀ z, (sp_steps n so ct c d).bind (fun r => some (r.1, r.2, q)) = some z → c ≤ z.1 := by
    intro z hz
    cases hs : sp_steps n so ct c d with
    | none => rw [hs] at hz; cases hz
    | some y =>
      rw [hs] at hz
      cases hz
      exact sp_steps_le hs
  unfold sp_we at h
  repeat' split at h
  all_goals first
    | (cases h; done)
    | exact key _ h
    | (cases h; exact h1)
theorem sp_wb_le {n : Int} {so : Int → Int} {ct : Int → Int64} {kn : Int → Int64} {kc c : Int} {d : Nat → Int → Int} {q : Int → Int64} {r : Int × (Nat → Int → Int) × (Int → Int64)} (h : sp_wb n so ct kn kc c d q = some r) : c ≤ r.1 := by
  unfold sp_wb at h
  split at h
  · cases hs : sp_el n so ct kn kc 9 (X_av n c) d q with
    | none => rw [hs] at h; cases h
    | some z =>
      rw [hs] at h
      have h1 := sp_we_le (show sp_we n so ct z.1 z.2.1 z.2.2 = some r from h)
      have h2 := sp_el_le _ _ _ _ _ hs
      have h3 := X_av_le (n := n) (c := c)
      omega
  · cases h
theorem sp_wk_le {n : Int} {so : Int → Int} {ct : Int → Int64} {kn : Int → Int64} {kc c : Int} {d : Nat → Int → Int} {q : Int → Int64} {r : Int × (Nat → Int → Int) × (Int → Int64)} (h : sp_wk n so ct kn kc c d q = some r) : c ≤ r.1 := by
  have h3 := X_av_le (n := n) (c := c)
  unfold sp_wk at h
  repeat' split at h
  all_goals first
    | (cases h; done)
    | (have := sp_wb_le h; omega)
theorem X_lnC_le {n : Int} {so : Int → Int} {ct : Int → Int64} {c : Int} : c ≤ X_lnC n so ct c := by
  unfold X_lnC
  split
  · exact X_av_le
  · exact Int.le_refl _
theorem sp_line_gt {n : Int} {so : Int → Int} {ct : Int → Int64} {K K' : X_Kp} (hc : K.1 + 1 < n) (h : sp_line n so ct K = some K') : K.1 + 1 ≤ K'.1 := by
  have e : X_av n K.1 = K.1 + 1 := by unfold X_av; rw [if_pos hc]
  obtain ⟨c, rc, kc, wc, rn, lo, kn, ab, D, W⟩ := K
  simp only at e hc ⊢
  have a1 := X_av_le (n := n) (c := X_av n c)
  have a2 := X_av_le (n := n) (c := X_av n (X_av n c))
  have a3 := X_av_le (n := n) (c := X_av n (X_av n (X_av n c)))
  have a4 := X_av_le (n := n) (c := X_av n (X_av n (X_av n (X_av n c))))
  unfold sp_line at h
  split at h
  · simp only [sp_rank] at h
    repeat' split at h
    all_goals first | (cases h; done) | (cases h; show c + 1 ≤ X_av n (X_av n (X_av n c)); omega)
  · split at h
    · simp only [sp_tight] at h
      repeat' split at h
      all_goals first | (cases h; done) | (cases h; show c + 1 ≤ X_av n (X_av n (X_av n (X_av n c))); omega)
    · split at h
      · simp only [sp_kind] at h
        repeat' split at h
        all_goals first
          | (cases h; done)
          | (cases h; show c + 1 ≤ X_av n (X_av n (X_av n (X_av n (X_av n c)))); omega)
          | (cases h; show c + 1 ≤ X_av n (X_av n (X_av n c)); omega)
      · split at h
        · simp only [sp_word] at h
          split at h
          · cases h
          · split at h
            · split at h
              · cases h
              · cases hs : sp_wk n so ct kn kc (X_lnC n so ct (X_av n (X_av n c))) (X_wu (X_clr (D wc) (X_ix rn rc (ct (X_av n c)))) 1 (fun _ => X_lnV so ct (X_av n (X_av n c)) 0)) (W wc) with
                | none => rw [hs] at h; cases h
                | some z =>
                  rw [hs] at h
                  cases h
                  have b1 := sp_wk_le hs
                  have b2 := X_lnC_le (n := n) (so := so) (ct := ct) (c := X_av n (X_av n c))
                  show c + 1 ≤ z.1
                  omega
            · cases h
        · cases h
/-- a bank of the reference holds what K tells -/
def R_bk (b : Int) (K : X_Kp) (rN kN : Int → Int64) (tg kU wR wL wK wM wH wS sO sN : Int → Int) (eP : Int → Int64) (eH hK : Int → Int) : Prop :=
  R_rk b K.2.1 K.2.2.2.2.1 K.2.2.2.2.2.1 rN tg ∧ R_kd b K.2.2.1 K.2.2.2.2.2.2.1 K.2.2.2.2.2.2.2.1 kN kU ∧ ∀ w, 0 ≤ w → w < K.2.2.2.1 → R_w (30 * b + w) (K.2.2.2.2.2.2.2.2.1 w) (K.2.2.2.2.2.2.2.2.2 w) wR wL wK wM wH wS sO sN eP eH hK
theorem X_Kok.wd {K : X_Kp} (h : X_Kok K) : ∀ w, 0 ≤ w → w < K.2.2.2.1 → K.2.2.2.2.2.2.2.2.1 w 3 0 ≤ 8 ∧ K.2.2.2.2.2.2.2.2.1 w 4 0 ≤ 8 ∧ K.2.2.2.2.2.2.2.2.1 w 5 0 ≤ 30 := fun w h1 h2 => by
  obtain ⟨a1, a2, -, -, -, -, a3⟩ := h.2.2.2 w h1 h2
  have a4 := a1.le
  have a5 := a1.1
  refine ⟨a5.2, by omega, ?_⟩
  rcases a3 with a3 | a3
  · omega
  · exact a3.2.1
section X_RBK
variable {b b' : Int} {K : X_Kp} {rN kN rN' kN' : Int → Int64} {tg kU wR wL wK wM wH wS sO sN tg' kU' wR' wL' wK' wM' wH' wS' sO' sN' : Int → Int} {eP eP' : Int → Int64} {eH hK eH' hK' : Int → Int}
theorem R_bk.frR (hb : 0 ≤ b ∧ b ≤ 1 ∧ 0 ≤ b' ∧ b' ≤ 1 ∧ ¬ b = b') (hK0 : X_Kok K) (h : R_bk b K rN kN tg kU wR wL wK wM wH wS sO sN eP eH hK) (h1 : R_ob 12 b' rN rN') (h2 : R_ob 144 b' tg tg') : R_bk b K rN' kN tg' kU wR wL wK wM wH wS sO sN eP eH hK := by
  obtain ⟨⟨a1, a2, a3⟩, a4, a5⟩ := h
  have hr := hK0.1
  exact ⟨⟨fun i g1 g2 => by rw [h1 _ (by omega)]; exact a1 i g1 g2, fun i j g1 g2 g3 g4 => by rw [h2 _ (by omega)]; exact a2 i j g1 g2 g3 g4, a3⟩, a4, a5⟩
theorem R_bk.frK (hb : 0 ≤ b ∧ b ≤ 1 ∧ 0 ≤ b' ∧ b' ≤ 1 ∧ ¬ b = b') (hK0 : X_Kok K) (h : R_bk b K rN kN tg kU wR wL wK wM wH wS sO sN eP eH hK) (h1 : R_ob 11 b' kN kN') (h2 : R_ob 11 b' kU kU') : R_bk b K rN kN' tg kU' wR wL wK wM wH wS sO sN eP eH hK := by
  obtain ⟨a1, ⟨c1, c2, c3, c4⟩, a5⟩ := h
  have hr := hK0.2.1
  refine ⟨a1, ⟨fun i g1 g2 => by rw [h1 _ (by omega)]; exact c1 i g1 g2, c2, by rw [h2 _ (by omega)]; exact c3, fun k g1 g2 => ?_⟩, a5⟩
  rw [h2 _ (by omega)]
  exact c4 k g1 g2
theorem R_bk.frW {w0 : Int} (hb : 0 ≤ b ∧ b ≤ 1 ∧ 0 ≤ b' ∧ b' ≤ 1 ∧ ¬ b = b') (hw0 : 0 ≤ w0 ∧ w0 < 30) (hK0 : X_Kok K) (h : R_bk b K rN kN tg kU wR wL wK wM wH wS sO sN eP eH hK) (h4 : ∀ w, 0 ≤ w → w < K.2.2.2.1 → K.2.2.2.2.2.2.2.2.1 w 4 0 ≤ 4)
    (o1 : R_ob 1 (30 * b' + w0) wR wR') (o2 : R_ob 1 (30 * b' + w0) wL wL') (o3 : R_ob 1 (30 * b' + w0) wK wK') (o4 : R_ob 1 (30 * b' + w0) wM wM') (o5 : R_ob 1 (30 * b' + w0) wH wH') (o6 : R_ob 1 (30 * b' + w0) wS wS') (o7 : R_ob 30 (30 * b' + w0) sO sO') (o8 : R_ob 30 (30 * b' + w0) sN sN') (o9 : R_ob 8 (30 * b' + w0) eP eP') (o10 : R_ob 8 (30 * b' + w0) eH eH') (o11 : R_ob 4 (30 * b' + w0) hK hK') : R_bk b K rN kN tg kU wR' wL' wK' wM' wH' wS' sO' sN' eP' eH' hK' := by
  have hw := hK0.2.2.1
  exact ⟨h.1, h.2.1, fun w g1 g2 => R_w.fr (y := 30 * b' + w0) (by omega) ⟨(hK0.wd w g1 g2).1, h4 w g1 g2, (hK0.wd w g1 g2).2.2⟩ (h.2.2 w g1 g2) o1 o2 o3 o4 o5 o6 o7 o8 o9 o10 o11⟩
theorem R_bk.adW {c c2 rc kc wc : Int} {rn : Int → Int64} {lo : Int → Int} {kn : Int → Int64} {ab : Int → Int} {D : Int → Nat → Int → Int} {W : Int → Int → Int64} {d2 : Nat → Int → Int} {q2 : Int → Int64} (hK0 : X_Kok (c, rc, kc, wc, rn, lo, kn, ab, D, W)) (h : R_bk b (c, rc, kc, wc, rn, lo, kn, ab, D, W) rN kN tg kU wR wL wK wM wH wS sO sN eP eH hK) (h4 : ∀ w, 0 ≤ w → w < wc → D w 4 0 ≤ 4)
    (hn : R_w (30 * b + wc) d2 q2 wR' wL' wK' wM' wH' wS' sO' sN' eP' eH' hK')
    (o1 : R_ob 1 (30 * b + wc) wR wR') (o2 : R_ob 1 (30 * b + wc) wL wL') (o3 : R_ob 1 (30 * b + wc) wK wK') (o4 : R_ob 1 (30 * b + wc) wM wM') (o5 : R_ob 1 (30 * b + wc) wH wH') (o6 : R_ob 1 (30 * b + wc) wS wS') (o7 : R_ob 30 (30 * b + wc) sO sO') (o8 : R_ob 30 (30 * b + wc) sN sN') (o9 : R_ob 8 (30 * b + wc) eP eP') (o10 : R_ob 8 (30 * b + wc) eH eH') (o11 : R_ob 4 (30 * b + wc) hK hK') : R_bk b (c2, rc, kc, wc + 1, rn, lo, kn, ab, X_ug D wc d2, X_ug W wc q2) rN kN tg kU wR' wL' wK' wM' wH' wS' sO' sN' eP' eH' hK' := by
  refine ⟨h.1, h.2.1, fun w g1 g2 => ?_⟩
  have g2 : w < wc + 1 := g2
  show R_w (30 * b + w) (X_ug D wc d2 w) (X_ug W wc q2 w) _ _ _ _ _ _ _ _ _ _ _
  by_cases hw : w = wc
  · subst hw
    rw [X_ug_s, X_ug_s]
    exact hn
  · rw [X_ug_n _ _ hw, X_ug_n _ _ hw]
    have g3 : w < wc := by omega
    exact R_w.fr (y := 30 * b + wc) (by omega) ⟨(hK0.wd w g1 g3).1, h4 w g1 g3, (hK0.wd w g1 g3).2.2⟩ (h.2.2 w g1 g3) o1 o2 o3 o4 o5 o6 o7 o8 o9 o10 o11
end X_RBK
theorem X_by_id {x : Int} (h : -128 ≤ x ∧ x ≤ 127) : X_by x = x := by
  have key : ∀ k : Fin 256, X_by (((k : Nat) : Int) - 128) = ((k : Nat) : Int) - 128 := by decide +kernel
  have := key ⟨(x + 128).toNat, by omega⟩
  simp only at this
  rw [show (((x + 128).toNat : Nat) : Int) - 128 = x by omega] at this
  exact this
theorem sp_el_h4 {n : Int} {so : Int → Int} {ct : Int → Int64} {kn : Int → Int64} {kc : Int} : ∀ (k : Nat) (c : Int) (d : Nat → Int → Int) (q : Int → Int64) (r : Int × (Nat → Int → Int) × (Int → Int64)), sp_el n so ct kn kc k c d q = some r → d 4 0 ≤ 4 → r.2.1 4 0 ≤ 4 := by
  intro k
  induction k with
  | zero => intro c d q r h; cases h
  | succ k ih =>
    intro c d q r h h4
    have kH : ∀ z, d 4 0 < 4 → X_aH d z 4 0 ≤ 4 := fun z hz => by show d 4 0 + 1 ≤ 4; omega
    unfold sp_el at h
    split at h
    · cases h; exact h4
    · split at h
      · cases h; exact h4
      · split at h
        · exact ih _ _ _ _ h h4
        · split at h
          · rename_i h6
            split at h
            · split at h
              · cases h
              · exact ih _ _ _ _ h (kH _ h6.2.2.1)
            · exact ih _ _ _ _ h (kH _ h6.2.2.1)
          · cases h
theorem sp_wb_h4 {n : Int} {so : Int → Int} {ct : Int → Int64} {kn : Int → Int64} {kc c : Int} {d : Nat → Int → Int} {q : Int → Int64} {r : Int × (Nat → Int → Int) × (Int → Int64)} (hkc : 1 ≤ kc) (hct : ∀ i, 0 ≤ i → i < n → so i = 6 → ¬ ct i = 0) (hcr : 0 ≤ c ∧ c < n) (h3 : d 3 0 = 0) (h4 : d 4 0 = 0) (h : sp_wb n so ct kn kc c d q = some r) : r.2.1 4 0 ≤ 4 := by
  unfold sp_wb at h
  split at h
  · cases hs : sp_el n so ct kn kc 9 (X_av n c) d q with
    | none => rw [hs] at h; cases h
    | some z =>
      rw [hs] at h
      have h : sp_we n so ct z.1 z.2.1 z.2.2 = some r := h
      obtain ⟨-, -, -, b3⟩ := sp_el_ok hkc hct _ _ _ _ _ (X_av_r hcr) hs (X_eok_0 h3 h4)
      obtain ⟨-, -, e3, -, -⟩ := sp_we_ok b3 h
      rw [e3 4 (by decide) (by decide) (by decide)]
      exact sp_el_h4 _ _ _ _ _ hs (by omega)
  · cases h
theorem sp_wk_h4 {n : Int} {so : Int → Int} {ct : Int → Int64} {kn : Int → Int64} {kc c : Int} {d : Nat → Int → Int} {q : Int → Int64} {r : Int × (Nat → Int → Int) × (Int → Int64)} (hkc : 1 ≤ kc) (hct : ∀ i, 0 ≤ i → i < n → so i = 6 → ¬ ct i = 0) (hcr : 0 ≤ c ∧ c < n) (h3 : d 3 0 = 0) (h4 : d 4 0 = 0) (h : sp_wk n so ct kn kc c d q = some r) : r.2.1 4 0 ≤ 4 := by
  unfold sp_wk at h
  split at h
  · split at h
    · cases h
    · exact sp_wb_h4 (d := X_wu d 2 (fun _ => X_ix kn kc (ct c))) hkc hct (X_av_r hcr) h3 h4 h
  · exact sp_wb_h4 (d := X_wu d 2 (fun _ => 0)) hkc hct hcr h3 h4 h
def X_K4 (K : X_Kp) : Prop := ∀ w, 0 ≤ w → w < K.2.2.2.1 → K.2.2.2.2.2.2.2.2.1 w 4 0 ≤ 4
theorem sp_line_h4 {n : Int} {so : Int → Int} {ct : Int → Int64} {K K' : X_Kp} (hct : ∀ i, 0 ≤ i → i < n → so i = 6 → ¬ ct i = 0) (hcr : 0 ≤ K.1 ∧ K.1 < n) (hK : X_Kok K) (h4 : X_K4 K) (h : sp_line n so ct K = some K') : X_K4 K' := by
  obtain ⟨c, rc, kc, wc, rn, lo, kn, ab, D, W⟩ := K
  have hkc := hK.2.1.1
  simp only at hkc hcr
  unfold sp_line at h
  split at h
  · simp only [sp_rank] at h
    repeat' split at h
    all_goals first | (cases h; done) | (cases h; exact h4)
  · split at h
    · simp only [sp_tight] at h
      repeat' split at h
      all_goals first | (cases h; done) | (cases h; exact h4)
    · split at h
      · simp only [sp_kind] at h
        repeat' split at h
        all_goals first | (cases h; done) | (cases h; exact h4)
      · split at h
        · simp only [sp_word] at h
          split at h
          · cases h
          · split at h
            · split at h
              · cases h
              · cases hs : sp_wk n so ct kn kc (X_lnC n so ct (X_av n (X_av n c))) (X_wu (X_clr (D wc) (X_ix rn rc (ct (X_av n c)))) 1 (fun _ => X_lnV so ct (X_av n (X_av n c)) 0)) (W wc) with
                | none => rw [hs] at h; cases h
                | some z =>
                  rw [hs] at h
                  cases h
                  intro w g1 g2
                  have g2 : w < wc + 1 := g2
                  show X_ug D wc z.2.1 w 4 0 ≤ 4
                  by_cases hw : w = wc
                  · subst hw
                    rw [X_ug_s]
                    exact sp_wk_h4 hkc hct (X_lnC_r (X_av_r (X_av_r hcr))) rfl rfl hs
                  · rw [X_ug_n _ _ hw]
                    exact h4 w g1 (show w < wc by omega)
            · cases h
        · cases h
theorem sp_lines_at {n : Int} {so : Int → Int} {ct : Int → Int64} {m : Nat} {K : X_Kp} (hm : 0 < m) : sp_lines n so ct m K = if so K.1 = 0 then some K else (sp_line n so ct K).bind (sp_lines n so ct (m - 1)) := by
  cases m with
  | zero => omega
  | succ m => rfl

set_option maxHeartbeats 4000000 in
theorem r_lnR (sc : X_Sc) (S : X_S) (o : Nat → Int) (nm : Int64) (tx : Int → Int) (rN : Int → Int64) (tg : Int → Int) (tb : Int → Int) (len : Int) (n : Int) (so : Int → Int) (pl : Int → Int) (ct : Int → Int64) (E : Int → Int) (c : Int) (rc : Int) (kc : Int) (wc : Int) (rn : Int → Int64) (lo : Int → Int) (kn : Int → Int64) (ab : Int → Int) (D : Int → Nat → Int → Int) (W : Int → Int → Int64) (hM : M_o S o nm) (hA532 : S.1 532 = .inl (.byte, 2000, .inl fun k : Nat => iI (tx (k : Int)))) (hA533 : S.1 533 = .inl (.long, 24, .inr (.inl fun k : Nat => rN (k : Int)))) (hA535 : S.1 535 = .inl (.boolean, 288, .inl fun k : Nat => iI (tg (k : Int)))) (hlen : o 3 = len) (hl : 0 ≤ len ∧ len ≤ 2000) (htx : ∀ k, 0 ≤ k → k < len → tx k = tb k) (hX : X_TxE tb len n so pl ct E) (hT : R_tk n so pl ct E c (o 7) (o 8) (o 9) (o 10) (o 11) nm) (h5 : o 5 = 0) (hrc : o 28 = rc) (hkc : o 29 = kc) (hwc : o 30 = wc) (hb : 0 ≤ o 4 ∧ o 4 ≤ 1) (hkw : so c = 3 ∧ ct c = Int64.ofNat 1918987883) (hcr : 0 ≤ rc ∧ rc < 12) (hR : R_rk (o 4) rc rn lo rN tg) (Q : Option Value → X_S → Prop) (hk : ∀ S' : X_S, ((∃ (at1 : Int) (en1 : Int) (tk1 : Int) (nu1 : Int) (dg1 : Int) (nm1 : Int64) (rN1 : Int → Int64) (tg1 : Int → Int), R_tk n so pl ct E (X_av n (X_av n (X_av n c))) at1 en1 tk1 nu1 dg1 nm1 ∧ sp_rank n so ct (c, rc, kc, wc, rn, lo, kn, ab, D, W) = some (X_av n (X_av n (X_av n c)), rc + 1, kc, wc, X_ug rn rc (ct (X_av n c)), X_ug lo rc 0, kn, ab, D, W) ∧ R_rk (o 4) (rc + 1) (X_ug rn rc (ct (X_av n c))) (X_ug lo rc 0) rN1 tg1 ∧ (R_ob 12 (o 4) rN rN1 ∧ R_ob 144 (o 4) tg tg1) ∧ M_o S' (X_ou (X_ou (X_ou (X_ou (X_ou (X_ou o 7 at1) 8 en1) 9 tk1) 10 nu1) 11 dg1) 28 (rc + 1)) nm1 ∧ S'.1 533 = .inl (.long, 24, .inr (.inl fun k : Nat => rN1 (k : Int))) ∧ S'.1 535 = .inl (.boolean, 288, .inl fun k : Nat => iI (tg1 (k : Int))) ∧ (X_Fr (fun q => q = 530 ∨ q = 533 ∨ q = 535) S S')) ∨ (∃ (at1 : Int) (en1 : Int) (tk1 : Int) (nu1 : Int) (dg1 : Int) (nm1 : Int64) (f1 : Int) (g1 : Int) (rc1 : Int) (rN1 : Int → Int64) (tg1 : Int → Int), (1 ≤ f1 ∧ f1 ≤ 5) ∧ sp_rank n so ct (c, rc, kc, wc, rn, lo, kn, ab, D, W) = none ∧ (R_ob 12 (o 4) rN rN1 ∧ R_ob 144 (o 4) tg tg1) ∧ M_o S' (X_ou (X_ou (X_ou (X_ou (X_ou (X_ou (X_ou (X_ou o 7 at1) 8 en1) 9 tk1) 10 nu1) 11 dg1) 5 f1) 6 g1) 28 rc1) nm1 ∧ S'.1 533 = .inl (.long, 24, .inr (.inl fun k : Nat => rN1 (k : Int))) ∧ S'.1 535 = .inl (.boolean, 288, .inl fun k : Nat => iI (tg1 (k : Int))) ∧ (X_Fr (fun q => q = 530 ∨ q = 533 ∨ q = 535) S S'))) → X_T sc 162 (113, [(0, .ref 530)], [], S') Q) : X_T sc 162 (264, [(1, .long (ct c)), (0, .ref 530)], [], S) Q := by
  obtain ⟨⟨hc0, hcn⟩, ⟨hs0, hs1⟩, hk0, ⟨ha0, ha1⟩, hk0e, ⟨_, _⟩, ⟨_, _⟩⟩ := R_tk_f hX hT
  have hn2 := hX.2.1
  refine T_p xr_162_264 xn_162 (pc' := 265) (ls' := [(1, .long (ct c)), (0, .ref 530)]) (st' := [.ref 530]) rfl ?_
  refine T_cv (S := S) (q := 530) xr_162_265 xf_141.1 xf_141.2.1 xn_141 (as := []) (r := []) rfl hM (Nat.le_of_ble_eq_true rfl) (Nat.le_of_ble_eq_true rfl) (pc' := 268) rfl (ls' := [(0, .ref 530)]) rfl ?_
  refine T_mono (r_nx sc S o nm tx tb len n so pl ct E c hM hA532 (show (o 3) = len from by first | assumption | omega) hl htx hX hT (by omega)) (fun v4894 S4895 h4896 => ?_)
  rcases h4896 with ⟨at4897, en4898, tk4899, nu4900, dg4901, nm4902, hv4903, hp4904, hM4905, hf4906⟩
  rw [hv4903]
  have h4907 : S4895.1 530 = .inr (11, [.ref 531, .int (iI (o 1)), .ref 532, .int (iI (o 3)), .int (iI (o 4)), .int (iI (o 5)), .int (iI (o 6)), .int (iI at4897), .int (iI en4898), .int (iI tk4899), .int (iI nu4900), .int (iI dg4901), .long nm4902, .ref 533, .ref 534, .ref 535, .ref 536, .ref 537, .ref 538, .ref 539, .ref 540, .ref 541, .ref 542, .ref 543, .ref 544, .ref 545, .ref 546, .ref 547, .int (iI (o 28)), .int (iI (o 29)), .int (iI (o 30)), .int (iI (o 31)), .int (iI (o 32)), .int (iI (o 33)), .ref 548, .ref 549, .ref 550, .ref 551, .int (iI (o 38)), .ref 552, .ref 553, .ref 554, .ref 555, .ref 556, .ref 557, .ref 558, .ref 559, .ref 560, .ref 561, .int (iI (o 49)), .ref 562, .ref 563, .ref 564, .ref 565, .ref 566, .ref 567, .ref 568, .ref 569, .int (iI (o 58)), .ref 570, .ref 571, .ref 572, .ref 573, .ref 574, .ref 575, .ref 576, .ref 577, .ref 578, .int (iI (o 68)), .int (iI (o 69)), .int (iI (o 70)), .ref 579]) := hM4905
  obtain ⟨⟨_, _⟩, ⟨_, _⟩, hk4908, ⟨_, _⟩, hk4908e, ⟨_, _⟩, ⟨_, _⟩⟩ := R_tk_f hX hp4904
  show X_T sc 162 (268, [(1, .long (ct c)), (0, .ref 530)], [], S4895) _
  refine T_p xr_162_268 xn_162 (pc' := 269) (ls' := [(1, .long (ct c)), (0, .ref 530)]) (st' := [.ref 530]) rfl ?_
  refine T_cv (S := S4895) (q := 530) xr_162_269 xf_140.1 xf_140.2.1 xn_140 (as := []) (r := []) rfl h4907 (Nat.le_of_ble_eq_true rfl) (Nat.le_of_ble_eq_true rfl) (pc' := 272) rfl (ls' := [(0, .ref 530)]) rfl ?_
  refine T_mono (r_isGood sc S4895 (X_ou (X_ou (X_ou (X_ou (X_ou o 7 at4897) 8 en4898) 9 tk4899) 10 nu4900) 11 dg4901) nm4902 h4907 (show 0 ≤ (o 5) ∧ (o 5) ≤ 5 from by omega)) (fun v4909 S4910 h4911 => ?_)
  rcases h4911 with ⟨hv4912, hf4913⟩
  rw [hv4912]
  rw [hf4913]
  show X_T sc 162 (272, [(1, .long (ct c)), (0, .ref 530)], [.int (iI (bI ((o 5) = 0)))], S4895) _
  refine T_bif_ne xr_162_272 (t := 278) (pc' := 275) rfl rfl (fun c4914 => ?_) (fun c4914 => ?_)
  · skip
    have c4914 : ((o 5) = 0) := c4914
    refine T_p xr_162_278 xn_162 (pc' := 279) (ls' := [(1, .long (ct c)), (0, .ref 530)]) (st' := [.long (ct c)]) rfl ?_
    refine T_p xr_162_279 xn_162 (pc' := 282) (ls' := [(1, .long (ct c)), (0, .ref 530)]) (st' := [.long (Int64.ofNat 1918987883), .long (ct c)]) rfl ?_
    refine T_lc_ne xr_162_282 xr_162_283 (t := 293) (pc' := 286) rfl rfl (fun c4915 => ?_) (fun c4915 => ?_)
    · skip
      have c4915 : ¬ (ct c) = (Int64.ofNat 1918987883) := c4915
      exact absurd hkw.2 c4915
    · skip
      have c4915 : ¬ (¬ (ct c) = (Int64.ofNat 1918987883)) := c4915
      refine T_p xr_162_286 xn_162 (pc' := 287) (ls' := [(1, .long (ct c)), (0, .ref 530)]) (st' := [.ref 530]) rfl ?_
      refine T_cv (S := S4895) (q := 530) xr_162_287 xf_153.1 xf_153.2.1 xn_153 (as := []) (r := []) rfl h4907 (Nat.le_of_ble_eq_true rfl) (Nat.le_of_ble_eq_true rfl) (pc' := 290) rfl (ls' := [(0, .ref 530)]) rfl ?_
      have h4916 := (hf4906.1 532 (by first | decide | omega)).trans (hA532)
      have h4917 := (hf4906.1 533 (by first | decide | omega)).trans (hA533)
      have h4918 := (hf4906.1 535 (by first | decide | omega)).trans (hA535)
      refine T_mono (r_readRank sc S4895 (X_ou (X_ou (X_ou (X_ou (X_ou o 7 at4897) 8 en4898) 9 tk4899) 10 nu4900) 11 dg4901) nm4902 tx rN tg tb len n so pl ct E (X_av n c) c rc kc wc rn lo kn ab D W h4907 h4916 h4917 h4918 (show (o 3) = len from by first | assumption | omega) hl htx hX hp4904 (show (o 5) = 0 from by omega) (show (o 28) = rc from by omega) (by omega) (show 0 ≤ (o 4) ∧ (o 4) ≤ 1 from by omega) (by omega) hR) (fun v4919 S4920 h4921 => ?_)
      rcases h4921 with ⟨at4922, en4923, tk4924, nu4925, dg4926, nm4927, rN4928, tg4929, hv4930, hp4931, hp4932, hp4933, hp4934, hM4935, ha4936, ha4937, hf4938⟩ | ⟨at4939, en4940, tk4941, nu4942, dg4943, nm4944, rc4945, f4946, g4947, rN4948, tg4949, hv4950, hp4951, hp4952, hp4953, hM4954, ha4955, ha4956, hf4957⟩
      · skip
        rw [hv4930]
        have h4958 : S4920.1 530 = .inr (11, [.ref 531, .int (iI (o 1)), .ref 532, .int (iI (o 3)), .int (iI (o 4)), .int (iI (o 5)), .int (iI (o 6)), .int (iI at4922), .int (iI en4923), .int (iI tk4924), .int (iI nu4925), .int (iI dg4926), .long nm4927, .ref 533, .ref 534, .ref 535, .ref 536, .ref 537, .ref 538, .ref 539, .ref 540, .ref 541, .ref 542, .ref 543, .ref 544, .ref 545, .ref 546, .ref 547, .int (iI (rc + 1)), .int (iI (o 29)), .int (iI (o 30)), .int (iI (o 31)), .int (iI (o 32)), .int (iI (o 33)), .ref 548, .ref 549, .ref 550, .ref 551, .int (iI (o 38)), .ref 552, .ref 553, .ref 554, .ref 555, .ref 556, .ref 557, .ref 558, .ref 559, .ref 560, .ref 561, .int (iI (o 49)), .ref 562, .ref 563, .ref 564, .ref 565, .ref 566, .ref 567, .ref 568, .ref 569, .int (iI (o 58)), .ref 570, .ref 571, .ref 572, .ref 573, .ref 574, .ref 575, .ref 576, .ref 577, .ref 578, .int (iI (o 68)), .int (iI (o 69)), .int (iI (o 70)), .ref 579]) := hM4935
        have hp4933 : R_rk ((o 4)) (rc + 1) (X_ug rn rc (ct (X_av n c))) (X_ug lo rc 0) rN4928 tg4929 := hp4933
        have hp4934 : R_ob 12 ((o 4)) rN rN4928 ∧ R_ob 144 ((o 4)) tg tg4929 := hp4934
        obtain ⟨⟨_, _⟩, ⟨_, _⟩, hk4959, ⟨_, _⟩, hk4959e, ⟨_, _⟩, ⟨_, _⟩⟩ := R_tk_f hX hp4931
        show X_T sc 162 (290, [(1, .long (ct c)), (0, .ref 530)], [], S4920) _
        refine T_p xr_162_290 xn_162 (pc' := 327) (ls' := [(1, .long (ct c)), (0, .ref 530)]) (st' := []) rfl ?_
        refine T_p xr_162_327 xn_162 (pc' := 113) (ls' := [(1, .long (ct c)), (0, .ref 530)]) (st' := []) rfl ?_
        refine T_sub (ls := [(0, .ref 530)]) ⟨rfl, trivial⟩ rfl rfl ?_
        refine hk _ ?_
        exact Or.inl ⟨at4922, en4923, tk4924, nu4925, dg4926, nm4927, rN4928, tg4929, hp4931, hp4932, hp4933, hp4934, h4958, ha4936, ha4937, ((X_Fr.rf).tr (X_Fr.mono ⟨hf4906.1, hf4906.2⟩ (fun q hq => by first | exact hq | (rcases hq with rfl <;> decide) | (rcases hq with rfl | rfl <;> decide) | (rcases hq with rfl | rfl | rfl <;> decide) | (rcases hq with rfl | rfl | rfl | rfl <;> decide) | (rcases hq with rfl | rfl | rfl | rfl | rfl <;> decide) | (rcases hq with rfl | rfl | rfl | rfl | rfl | rfl <;> decide) | (rcases hq with rfl | rfl | rfl | rfl | rfl | rfl | rfl <;> decide) | omega))).tr (X_Fr.mono ⟨hf4938.1, hf4938.2⟩ (fun q hq => by first | exact hq | (rcases hq with rfl <;> decide) | (rcases hq with rfl | rfl <;> decide) | (rcases hq with rfl | rfl | rfl <;> decide) | (rcases hq with rfl | rfl | rfl | rfl <;> decide) | (rcases hq with rfl | rfl | rfl | rfl | rfl <;> decide) | (rcases hq with rfl | rfl | rfl | rfl | rfl | rfl <;> decide) | (rcases hq with rfl | rfl | rfl | rfl | rfl | rfl | rfl <;> decide) | omega))⟩
      · skip
        rw [hv4950]
        have h4960 : S4920.1 530 = .inr (11, [.ref 531, .int (iI (o 1)), .ref 532, .int (iI (o 3)), .int (iI (o 4)), .int (iI f4946), .int (iI g4947), .int (iI at4939), .int (iI en4940), .int (iI tk4941), .int (iI nu4942), .int (iI dg4943), .long nm4944, .ref 533, .ref 534, .ref 535, .ref 536, .ref 537, .ref 538, .ref 539, .ref 540, .ref 541, .ref 542, .ref 543, .ref 544, .ref 545, .ref 546, .ref 547, .int (iI rc4945), .int (iI (o 29)), .int (iI (o 30)), .int (iI (o 31)), .int (iI (o 32)), .int (iI (o 33)), .ref 548, .ref 549, .ref 550, .ref 551, .int (iI (o 38)), .ref 552, .ref 553, .ref 554, .ref 555, .ref 556, .ref 557, .ref 558, .ref 559, .ref 560, .ref 561, .int (iI (o 49)), .ref 562, .ref 563, .ref 564, .ref 565, .ref 566, .ref 567, .ref 568, .ref 569, .int (iI (o 58)), .ref 570, .ref 571, .ref 572, .ref 573, .ref 574, .ref 575, .ref 576, .ref 577, .ref 578, .int (iI (o 68)), .int (iI (o 69)), .int (iI (o 70)), .ref 579]) := hM4954
        have hp4953 : R_ob 12 ((o 4)) rN rN4948 ∧ R_ob 144 ((o 4)) tg tg4949 := hp4953
        show X_T sc 162 (290, [(1, .long (ct c)), (0, .ref 530)], [], S4920) _
        refine T_p xr_162_290 xn_162 (pc' := 327) (ls' := [(1, .long (ct c)), (0, .ref 530)]) (st' := []) rfl ?_
        refine T_p xr_162_327 xn_162 (pc' := 113) (ls' := [(1, .long (ct c)), (0, .ref 530)]) (st' := []) rfl ?_
        refine T_sub (ls := [(0, .ref 530)]) ⟨rfl, trivial⟩ rfl rfl ?_
        refine hk _ ?_
        exact Or.inr ⟨at4939, en4940, tk4941, nu4942, dg4943, nm4944, f4946, g4947, rc4945, rN4948, tg4949, hp4951, hp4952, hp4953, h4960, ha4955, ha4956, ((X_Fr.rf).tr (X_Fr.mono ⟨hf4906.1, hf4906.2⟩ (fun q hq => by first | exact hq | (rcases hq with rfl <;> decide) | (rcases hq with rfl | rfl <;> decide) | (rcases hq with rfl | rfl | rfl <;> decide) | (rcases hq with rfl | rfl | rfl | rfl <;> decide) | (rcases hq with rfl | rfl | rfl | rfl | rfl <;> decide) | (rcases hq with rfl | rfl | rfl | rfl | rfl | rfl <;> decide) | (rcases hq with rfl | rfl | rfl | rfl | rfl | rfl | rfl <;> decide) | omega))).tr (X_Fr.mono ⟨hf4957.1, hf4957.2⟩ (fun q hq => by first | exact hq | (rcases hq with rfl <;> decide) | (rcases hq with rfl | rfl <;> decide) | (rcases hq with rfl | rfl | rfl <;> decide) | (rcases hq with rfl | rfl | rfl | rfl <;> decide) | (rcases hq with rfl | rfl | rfl | rfl | rfl <;> decide) | (rcases hq with rfl | rfl | rfl | rfl | rfl | rfl <;> decide) | (rcases hq with rfl | rfl | rfl | rfl | rfl | rfl | rfl <;> decide) | omega))⟩
  · skip
    have c4914 : ¬ ((o 5) = 0) := c4914
    exact (show False by first | contradiction | omega).elim
set_option maxHeartbeats 4000000 in
theorem r_lnT (sc : X_Sc) (S : X_S) (o : Nat → Int) (nm : Int64) (tx : Int → Int) (rN : Int → Int64) (tg : Int → Int) (tb : Int → Int) (len : Int) (n : Int) (so : Int → Int) (pl : Int → Int) (ct : Int → Int64) (E : Int → Int) (c : Int) (rc : Int) (kc : Int) (wc : Int) (rn : Int → Int64) (lo : Int → Int) (kn : Int → Int64) (ab : Int → Int) (D : Int → Nat → Int → Int) (W : Int → Int → Int64) (hM : M_o S o nm) (hA532 : S.1 532 = .inl (.byte, 2000, .inl fun k : Nat => iI (tx (k : Int)))) (hA533 : S.1 533 = .inl (.long, 24, .inr (.inl fun k : Nat => rN (k : Int)))) (hA535 : S.1 535 = .inl (.boolean, 288, .inl fun k : Nat => iI (tg (k : Int)))) (hlen : o 3 = len) (hl : 0 ≤ len ∧ len ≤ 2000) (htx : ∀ k, 0 ≤ k → k < len → tx k = tb k) (hX : X_TxE tb len n so pl ct E) (hT : R_tk n so pl ct E c (o 7) (o 8) (o 9) (o 10) (o 11) nm) (h5 : o 5 = 0) (hrc : o 28 = rc) (hkc : o 29 = kc) (hwc : o 30 = wc) (hb : 0 ≤ o 4 ∧ o 4 ≤ 1) (hkw : so c = 3 ∧ ct c = Int64.ofNat 32766990153442674) (hcr : 0 ≤ rc ∧ rc ≤ 12) (hR : R_rk (o 4) rc rn lo rN tg) (Q : Option Value → X_S → Prop) (hk : ∀ S' : X_S, ((∃ (at1 : Int) (en1 : Int) (tk1 : Int) (nu1 : Int) (dg1 : Int) (nm1 : Int64) (tg1 : Int → Int), R_tk n so pl ct E (X_av n (X_av n (X_av n (X_av n c)))) at1 en1 tk1 nu1 dg1 nm1 ∧ sp_tight n so ct (c, rc, kc, wc, rn, lo, kn, ab, D, W) = some (X_av n (X_av n (X_av n (X_av n c))), rc, kc, wc, rn, X_tf rc lo (X_ix rn rc (ct (X_av n c))) (X_ix rn rc (ct (X_av n (X_av n c)))), kn, ab, D, W) ∧ R_rk (o 4) rc rn (X_tf rc lo (X_ix rn rc (ct (X_av n c))) (X_ix rn rc (ct (X_av n (X_av n c))))) rN tg1 ∧ R_ob 144 (o 4) tg tg1 ∧ M_o S' (X_ou (X_ou (X_ou (X_ou (X_ou o 7 at1) 8 en1) 9 tk1) 10 nu1) 11 dg1) nm1 ∧ S'.1 535 = .inl (.boolean, 288, .inl fun k : Nat => iI (tg1 (k : Int))) ∧ (X_Fr (fun q => q = 530 ∨ q = 535) S S')) ∨ (∃ (at1 : Int) (en1 : Int) (tk1 : Int) (nu1 : Int) (dg1 : Int) (nm1 : Int64) (f1 : Int) (g1 : Int) (tg1 : Int → Int), (1 ≤ f1 ∧ f1 ≤ 5) ∧ sp_tight n so ct (c, rc, kc, wc, rn, lo, kn, ab, D, W) = none ∧ R_ob 144 (o 4) tg tg1 ∧ M_o S' (X_ou (X_ou (X_ou (X_ou (X_ou (X_ou (X_ou o 7 at1) 8 en1) 9 tk1) 10 nu1) 11 dg1) 5 f1) 6 g1) nm1 ∧ S'.1 535 = .inl (.boolean, 288, .inl fun k : Nat => iI (tg1 (k : Int))) ∧ (X_Fr (fun q => q = 530 ∨ q = 535) S S'))) → X_T sc 162 (113, [(0, .ref 530)], [], S') Q) : X_T sc 162 (264, [(1, .long (ct c)), (0, .ref 530)], [], S) Q := by
  obtain ⟨⟨hc0, hcn⟩, ⟨hs0, hs1⟩, hk0, ⟨ha0, ha1⟩, hk0e, ⟨_, _⟩, ⟨_, _⟩⟩ := R_tk_f hX hT
  have hn2 := hX.2.1
  refine T_p xr_162_264 xn_162 (pc' := 265) (ls' := [(1, .long (ct c)), (0, .ref 530)]) (st' := [.ref 530]) rfl ?_
  refine T_cv (S := S) (q := 530) xr_162_265 xf_141.1 xf_141.2.1 xn_141 (as := []) (r := []) rfl hM (Nat.le_of_ble_eq_true rfl) (Nat.le_of_ble_eq_true rfl) (pc' := 268) rfl (ls' := [(0, .ref 530)]) rfl ?_
  refine T_mono (r_nx sc S o nm tx tb len n so pl ct E c hM hA532 (show (o 3) = len from by first | assumption | omega) hl htx hX hT (by omega)) (fun v4961 S4962 h4963 => ?_)
  rcases h4963 with ⟨at4964, en4965, tk4966, nu4967, dg4968, nm4969, hv4970, hp4971, hM4972, hf4973⟩
  rw [hv4970]
  have h4974 : S4962.1 530 = .inr (11, [.ref 531, .int (iI (o 1)), .ref 532, .int (iI (o 3)), .int (iI (o 4)), .int (iI (o 5)), .int (iI (o 6)), .int (iI at4964), .int (iI en4965), .int (iI tk4966), .int (iI nu4967), .int (iI dg4968), .long nm4969, .ref 533, .ref 534, .ref 535, .ref 536, .ref 537, .ref 538, .ref 539, .ref 540, .ref 541, .ref 542, .ref 543, .ref 544, .ref 545, .ref 546, .ref 547, .int (iI (o 28)), .int (iI (o 29)), .int (iI (o 30)), .int (iI (o 31)), .int (iI (o 32)), .int (iI (o 33)), .ref 548, .ref 549, .ref 550, .ref 551, .int (iI (o 38)), .ref 552, .ref 553, .ref 554, .ref 555, .ref 556, .ref 557, .ref 558, .ref 559, .ref 560, .ref 561, .int (iI (o 49)), .ref 562, .ref 563, .ref 564, .ref 565, .ref 566, .ref 567, .ref 568, .ref 569, .int (iI (o 58)), .ref 570, .ref 571, .ref 572, .ref 573, .ref 574, .ref 575, .ref 576, .ref 577, .ref 578, .int (iI (o 68)), .int (iI (o 69)), .int (iI (o 70)), .ref 579]) := hM4972
  obtain ⟨⟨_, _⟩, ⟨_, _⟩, hk4975, ⟨_, _⟩, hk4975e, ⟨_, _⟩, ⟨_, _⟩⟩ := R_tk_f hX hp4971
  show X_T sc 162 (268, [(1, .long (ct c)), (0, .ref 530)], [], S4962) _
  refine T_p xr_162_268 xn_162 (pc' := 269) (ls' := [(1, .long (ct c)), (0, .ref 530)]) (st' := [.ref 530]) rfl ?_
  refine T_cv (S := S4962) (q := 530) xr_162_269 xf_140.1 xf_140.2.1 xn_140 (as := []) (r := []) rfl h4974 (Nat.le_of_ble_eq_true rfl) (Nat.le_of_ble_eq_true rfl) (pc' := 272) rfl (ls' := [(0, .ref 530)]) rfl ?_
  refine T_mono (r_isGood sc S4962 (X_ou (X_ou (X_ou (X_ou (X_ou o 7 at4964) 8 en4965) 9 tk4966) 10 nu4967) 11 dg4968) nm4969 h4974 (show 0 ≤ (o 5) ∧ (o 5) ≤ 5 from by omega)) (fun v4976 S4977 h4978 => ?_)
  rcases h4978 with ⟨hv4979, hf4980⟩
  rw [hv4979]
  rw [hf4980]
  show X_T sc 162 (272, [(1, .long (ct c)), (0, .ref 530)], [.int (iI (bI ((o 5) = 0)))], S4962) _
  refine T_bif_ne xr_162_272 (t := 278) (pc' := 275) rfl rfl (fun c4981 => ?_) (fun c4981 => ?_)
  · skip
    have c4981 : ((o 5) = 0) := c4981
    refine T_p xr_162_278 xn_162 (pc' := 279) (ls' := [(1, .long (ct c)), (0, .ref 530)]) (st' := [.long (ct c)]) rfl ?_
    refine T_p xr_162_279 xn_162 (pc' := 282) (ls' := [(1, .long (ct c)), (0, .ref 530)]) (st' := [.long (Int64.ofNat 1918987883), .long (ct c)]) rfl ?_
    refine T_lc_ne xr_162_282 xr_162_283 (t := 293) (pc' := 286) rfl rfl (fun c4982 => ?_) (fun c4982 => ?_)
    · skip
      have c4982 : ¬ (ct c) = (Int64.ofNat 1918987883) := c4982
      refine T_p xr_162_293 xn_162 (pc' := 294) (ls' := [(1, .long (ct c)), (0, .ref 530)]) (st' := [.long (ct c)]) rfl ?_
      refine T_p xr_162_294 xn_162 (pc' := 297) (ls' := [(1, .long (ct c)), (0, .ref 530)]) (st' := [.long (Int64.ofNat 32766990153442674), .long (ct c)]) rfl ?_
      refine T_lc_ne xr_162_297 xr_162_298 (t := 308) (pc' := 301) rfl rfl (fun c4983 => ?_) (fun c4983 => ?_)
      · skip
        have c4983 : ¬ (ct c) = (Int64.ofNat 32766990153442674) := c4983
        exact absurd hkw.2 c4983
      · skip
        have c4983 : ¬ (¬ (ct c) = (Int64.ofNat 32766990153442674)) := c4983
        refine T_p xr_162_301 xn_162 (pc' := 302) (ls' := [(1, .long (ct c)), (0, .ref 530)]) (st' := [.ref 530]) rfl ?_
        refine T_cv (S := S4962) (q := 530) xr_162_302 xf_155.1 xf_155.2.1 xn_155 (as := []) (r := []) rfl h4974 (Nat.le_of_ble_eq_true rfl) (Nat.le_of_ble_eq_true rfl) (pc' := 305) rfl (ls' := [(0, .ref 530)]) rfl ?_
        have h4984 := (hf4973.1 532 (by first | decide | omega)).trans (hA532)
        have h4985 := (hf4973.1 533 (by first | decide | omega)).trans (hA533)
        have h4986 := (hf4973.1 535 (by first | decide | omega)).trans (hA535)
        refine T_mono (r_readTighter sc S4962 (X_ou (X_ou (X_ou (X_ou (X_ou o 7 at4964) 8 en4965) 9 tk4966) 10 nu4967) 11 dg4968) nm4969 tx rN tg tb len n so pl ct E (X_av n c) c rc kc wc rn lo kn ab D W h4974 h4984 h4985 h4986 (show (o 3) = len from by first | assumption | omega) hl htx hX hp4971 (show (o 5) = 0 from by omega) (show (o 28) = rc from by omega) (by omega) (show 0 ≤ (o 4) ∧ (o 4) ≤ 1 from by omega) (by omega) hR) (fun v4987 S4988 h4989 => ?_)
        rcases h4989 with ⟨at4990, en4991, tk4992, nu4993, dg4994, nm4995, tg4996, hv4997, hp4998, hp4999, hp5000, hp5001, hM5002, ha5003, hf5004⟩ | ⟨at5005, en5006, tk5007, nu5008, dg5009, nm5010, f5011, g5012, tg5013, hv5014, hp5015, hp5016, hp5017, hM5018, ha5019, hf5020⟩
        · skip
          rw [hv4997]
          have h5021 : S4988.1 530 = .inr (11, [.ref 531, .int (iI (o 1)), .ref 532, .int (iI (o 3)), .int (iI (o 4)), .int (iI (o 5)), .int (iI (o 6)), .int (iI at4990), .int (iI en4991), .int (iI tk4992), .int (iI nu4993), .int (iI dg4994), .long nm4995, .ref 533, .ref 534, .ref 535, .ref 536, .ref 537, .ref 538, .ref 539, .ref 540, .ref 541, .ref 542, .ref 543, .ref 544, .ref 545, .ref 546, .ref 547, .int (iI (o 28)), .int (iI (o 29)), .int (iI (o 30)), .int (iI (o 31)), .int (iI (o 32)), .int (iI (o 33)), .ref 548, .ref 549, .ref 550, .ref 551, .int (iI (o 38)), .ref 552, .ref 553, .ref 554, .ref 555, .ref 556, .ref 557, .ref 558, .ref 559, .ref 560, .ref 561, .int (iI (o 49)), .ref 562, .ref 563, .ref 564, .ref 565, .ref 566, .ref 567, .ref 568, .ref 569, .int (iI (o 58)), .ref 570, .ref 571, .ref 572, .ref 573, .ref 574, .ref 575, .ref 576, .ref 577, .ref 578, .int (iI (o 68)), .int (iI (o 69)), .int (iI (o 70)), .ref 579]) := hM5002
          have hp5000 : R_rk ((o 4)) rc rn (X_tf rc lo (X_ix rn rc (ct (X_av n c))) (X_ix rn rc (ct (X_av n (X_av n c))))) rN tg4996 := hp5000
          have hp5001 : R_ob 144 ((o 4)) tg tg4996 := hp5001
          obtain ⟨⟨_, _⟩, ⟨_, _⟩, hk5022, ⟨_, _⟩, hk5022e, ⟨_, _⟩, ⟨_, _⟩⟩ := R_tk_f hX hp4998
          show X_T sc 162 (305, [(1, .long (ct c)), (0, .ref 530)], [], S4988) _
          refine T_p xr_162_305 xn_162 (pc' := 327) (ls' := [(1, .long (ct c)), (0, .ref 530)]) (st' := []) rfl ?_
          refine T_p xr_162_327 xn_162 (pc' := 113) (ls' := [(1, .long (ct c)), (0, .ref 530)]) (st' := []) rfl ?_
          refine T_sub (ls := [(0, .ref 530)]) ⟨rfl, trivial⟩ rfl rfl ?_
          refine hk _ ?_
          exact Or.inl ⟨at4990, en4991, tk4992, nu4993, dg4994, nm4995, tg4996, hp4998, hp4999, hp5000, hp5001, h5021, ha5003, ((X_Fr.rf).tr (X_Fr.mono ⟨hf4973.1, hf4973.2⟩ (fun q hq => by first | exact hq | (rcases hq with rfl <;> decide) | (rcases hq with rfl | rfl <;> decide) | (rcases hq with rfl | rfl | rfl <;> decide) | (rcases hq with rfl | rfl | rfl | rfl <;> decide) | (rcases hq with rfl | rfl | rfl | rfl | rfl <;> decide) | (rcases hq with rfl | rfl | rfl | rfl | rfl | rfl <;> decide) | (rcases hq with rfl | rfl | rfl | rfl | rfl | rfl | rfl <;> decide) | omega))).tr (X_Fr.mono ⟨hf5004.1, hf5004.2⟩ (fun q hq => by first | exact hq | (rcases hq with rfl <;> decide) | (rcases hq with rfl | rfl <;> decide) | (rcases hq with rfl | rfl | rfl <;> decide) | (rcases hq with rfl | rfl | rfl | rfl <;> decide) | (rcases hq with rfl | rfl | rfl | rfl | rfl <;> decide) | (rcases hq with rfl | rfl | rfl | rfl | rfl | rfl <;> decide) | (rcases hq with rfl | rfl | rfl | rfl | rfl | rfl | rfl <;> decide) | omega))⟩
        · skip
          rw [hv5014]
          have h5023 : S4988.1 530 = .inr (11, [.ref 531, .int (iI (o 1)), .ref 532, .int (iI (o 3)), .int (iI (o 4)), .int (iI f5011), .int (iI g5012), .int (iI at5005), .int (iI en5006), .int (iI tk5007), .int (iI nu5008), .int (iI dg5009), .long nm5010, .ref 533, .ref 534, .ref 535, .ref 536, .ref 537, .ref 538, .ref 539, .ref 540, .ref 541, .ref 542, .ref 543, .ref 544, .ref 545, .ref 546, .ref 547, .int (iI (o 28)), .int (iI (o 29)), .int (iI (o 30)), .int (iI (o 31)), .int (iI (o 32)), .int (iI (o 33)), .ref 548, .ref 549, .ref 550, .ref 551, .int (iI (o 38)), .ref 552, .ref 553, .ref 554, .ref 555, .ref 556, .ref 557, .ref 558, .ref 559, .ref 560, .ref 561, .int (iI (o 49)), .ref 562, .ref 563, .ref 564, .ref 565, .ref 566, .ref 567, .ref 568, .ref 569, .int (iI (o 58)), .ref 570, .ref 571, .ref 572, .ref 573, .ref 574, .ref 575, .ref 576, .ref 577, .ref 578, .int (iI (o 68)), .int (iI (o 69)), .int (iI (o 70)), .ref 579]) := hM5018
          have hp5017 : R_ob 144 ((o 4)) tg tg5013 := hp5017
          show X_T sc 162 (305, [(1, .long (ct c)), (0, .ref 530)], [], S4988) _
          refine T_p xr_162_305 xn_162 (pc' := 327) (ls' := [(1, .long (ct c)), (0, .ref 530)]) (st' := []) rfl ?_
          refine T_p xr_162_327 xn_162 (pc' := 113) (ls' := [(1, .long (ct c)), (0, .ref 530)]) (st' := []) rfl ?_
          refine T_sub (ls := [(0, .ref 530)]) ⟨rfl, trivial⟩ rfl rfl ?_
          refine hk _ ?_
          exact Or.inr ⟨at5005, en5006, tk5007, nu5008, dg5009, nm5010, f5011, g5012, tg5013, hp5015, hp5016, hp5017, h5023, ha5019, ((X_Fr.rf).tr (X_Fr.mono ⟨hf4973.1, hf4973.2⟩ (fun q hq => by first | exact hq | (rcases hq with rfl <;> decide) | (rcases hq with rfl | rfl <;> decide) | (rcases hq with rfl | rfl | rfl <;> decide) | (rcases hq with rfl | rfl | rfl | rfl <;> decide) | (rcases hq with rfl | rfl | rfl | rfl | rfl <;> decide) | (rcases hq with rfl | rfl | rfl | rfl | rfl | rfl <;> decide) | (rcases hq with rfl | rfl | rfl | rfl | rfl | rfl | rfl <;> decide) | omega))).tr (X_Fr.mono ⟨hf5020.1, hf5020.2⟩ (fun q hq => by first | exact hq | (rcases hq with rfl <;> decide) | (rcases hq with rfl | rfl <;> decide) | (rcases hq with rfl | rfl | rfl <;> decide) | (rcases hq with rfl | rfl | rfl | rfl <;> decide) | (rcases hq with rfl | rfl | rfl | rfl | rfl <;> decide) | (rcases hq with rfl | rfl | rfl | rfl | rfl | rfl <;> decide) | (rcases hq with rfl | rfl | rfl | rfl | rfl | rfl | rfl <;> decide) | omega))⟩
    · skip
      have c4982 : ¬ (¬ (ct c) = (Int64.ofNat 1918987883)) := c4982
      exact absurd ((hkw.2).symm.trans (show ct c = Int64.ofNat 1918987883 from (by first | exact c4982 | exact Classical.not_not.mp c4982))) (by decide)
  · skip
    have c4981 : ¬ ((o 5) = 0) := c4981
    exact (show False by first | contradiction | omega).elim
set_option maxHeartbeats 4000000 in
theorem r_lnK (sc : X_Sc) (S : X_S) (o : Nat → Int) (nm : Int64) (tx : Int → Int) (kN : Int → Int64) (kU : Int → Int) (tb : Int → Int) (len : Int) (n : Int) (so : Int → Int) (pl : Int → Int) (ct : Int → Int64) (E : Int → Int) (c : Int) (rc : Int) (kc : Int) (wc : Int) (rn : Int → Int64) (lo : Int → Int) (kn : Int → Int64) (ab : Int → Int) (D : Int → Nat → Int → Int) (W : Int → Int → Int64) (hM : M_o S o nm) (hA532 : S.1 532 = .inl (.byte, 2000, .inl fun k : Nat => iI (tx (k : Int)))) (hA534 : S.1 534 = .inl (.long, 22, .inr (.inl fun k : Nat => kN (k : Int)))) (hA536 : S.1 536 = .inl (.int, 22, .inl fun k : Nat => iI (kU (k : Int)))) (hlen : o 3 = len) (hl : 0 ≤ len ∧ len ≤ 2000) (htx : ∀ k, 0 ≤ k → k < len → tx k = tb k) (hX : X_TxE tb len n so pl ct E) (hT : R_tk n so pl ct E c (o 7) (o 8) (o 9) (o 10) (o 11) nm) (h5 : o 5 = 0) (hrc : o 28 = rc) (hkc : o 29 = kc) (hwc : o 30 = wc) (hb : 0 ≤ o 4 ∧ o 4 ≤ 1) (hkw : so c = 3 ∧ ct c = Int64.ofNat 1802071652) (hcr : 1 ≤ kc ∧ kc < 11) (hR : R_kd (o 4) kc kn ab kN kU) (Q : Option Value → X_S → Prop) (hk : ∀ S' : X_S, ((∃ (at1 : Int) (en1 : Int) (tk1 : Int) (nu1 : Int) (dg1 : Int) (nm1 : Int64) (c2 : Int) (ab1 : Int → Int) (kN1 : Int → Int64) (kU1 : Int → Int), R_tk n so pl ct E c2 at1 en1 tk1 nu1 dg1 nm1 ∧ sp_kind n so ct (c, rc, kc, wc, rn, lo, kn, ab, D, W) = some (c2, rc, kc + 1, wc, rn, lo, X_ug kn kc (ct (X_av n c)), ab1, D, W) ∧ R_kd (o 4) (kc + 1) (X_ug kn kc (ct (X_av n c))) ab1 kN1 kU1 ∧ R_ob 11 (o 4) kN kN1 ∧ R_ob 11 (o 4) kU kU1 ∧ M_o S' (X_ou (X_ou (X_ou (X_ou (X_ou (X_ou o 7 at1) 8 en1) 9 tk1) 10 nu1) 11 dg1) 29 (kc + 1)) nm1 ∧ S'.1 534 = .inl (.long, 22, .inr (.inl fun k : Nat => kN1 (k : Int))) ∧ S'.1 536 = .inl (.int, 22, .inl fun k : Nat => iI (kU1 (k : Int))) ∧ (X_Fr (fun q => q = 530 ∨ q = 534 ∨ q = 536) S S')) ∨ (∃ (at1 : Int) (en1 : Int) (tk1 : Int) (nu1 : Int) (dg1 : Int) (nm1 : Int64) (f1 : Int) (g1 : Int) (kc1 : Int) (kN1 : Int → Int64) (kU1 : Int → Int), (1 ≤ f1 ∧ f1 ≤ 5) ∧ sp_kind n so ct (c, rc, kc, wc, rn, lo, kn, ab, D, W) = none ∧ R_ob 11 (o 4) kN kN1 ∧ R_ob 11 (o 4) kU kU1 ∧ M_o S' (X_ou (X_ou (X_ou (X_ou (X_ou (X_ou (X_ou (X_ou o 7 at1) 8 en1) 9 tk1) 10 nu1) 11 dg1) 5 f1) 6 g1) 29 kc1) nm1 ∧ S'.1 534 = .inl (.long, 22, .inr (.inl fun k : Nat => kN1 (k : Int))) ∧ S'.1 536 = .inl (.int, 22, .inl fun k : Nat => iI (kU1 (k : Int))) ∧ (X_Fr (fun q => q = 530 ∨ q = 534 ∨ q = 536) S S'))) → X_T sc 162 (113, [(0, .ref 530)], [], S') Q) : X_T sc 162 (264, [(1, .long (ct c)), (0, .ref 530)], [], S) Q := by
  obtain ⟨⟨hc0, hcn⟩, ⟨hs0, hs1⟩, hk0, ⟨ha0, ha1⟩, hk0e, ⟨_, _⟩, ⟨_, _⟩⟩ := R_tk_f hX hT
  have hn2 := hX.2.1
  refine T_p xr_162_264 xn_162 (pc' := 265) (ls' := [(1, .long (ct c)), (0, .ref 530)]) (st' := [.ref 530]) rfl ?_
  refine T_cv (S := S) (q := 530) xr_162_265 xf_141.1 xf_141.2.1 xn_141 (as := []) (r := []) rfl hM (Nat.le_of_ble_eq_true rfl) (Nat.le_of_ble_eq_true rfl) (pc' := 268) rfl (ls' := [(0, .ref 530)]) rfl ?_
  refine T_mono (r_nx sc S o nm tx tb len n so pl ct E c hM hA532 (show (o 3) = len from by first | assumption | omega) hl htx hX hT (by omega)) (fun v5024 S5025 h5026 => ?_)
  rcases h5026 with ⟨at5027, en5028, tk5029, nu5030, dg5031, nm5032, hv5033, hp5034, hM5035, hf5036⟩
  rw [hv5033]
  have h5037 : S5025.1 530 = .inr (11, [.ref 531, .int (iI (o 1)), .ref 532, .int (iI (o 3)), .int (iI (o 4)), .int (iI (o 5)), .int (iI (o 6)), .int (iI at5027), .int (iI en5028), .int (iI tk5029), .int (iI nu5030), .int (iI dg5031), .long nm5032, .ref 533, .ref 534, .ref 535, .ref 536, .ref 537, .ref 538, .ref 539, .ref 540, .ref 541, .ref 542, .ref 543, .ref 544, .ref 545, .ref 546, .ref 547, .int (iI (o 28)), .int (iI (o 29)), .int (iI (o 30)), .int (iI (o 31)), .int (iI (o 32)), .int (iI (o 33)), .ref 548, .ref 549, .ref 550, .ref 551, .int (iI (o 38)), .ref 552, .ref 553, .ref 554, .ref 555, .ref 556, .ref 557, .ref 558, .ref 559, .ref 560, .ref 561, .int (iI (o 49)), .ref 562, .ref 563, .ref 564, .ref 565, .ref 566, .ref 567, .ref 568, .ref 569, .int (iI (o 58)), .ref 570, .ref 571, .ref 572, .ref 573, .ref 574, .ref 575, .ref 576, .ref 577, .ref 578, .int (iI (o 68)), .int (iI (o 69)), .int (iI (o 70)), .ref 579]) := hM5035
  obtain ⟨⟨_, _⟩, ⟨_, _⟩, hk5038, ⟨_, _⟩, hk5038e, ⟨_, _⟩, ⟨_, _⟩⟩ := R_tk_f hX hp5034
  show X_T sc 162 (268, [(1, .long (ct c)), (0, .ref 530)], [], S5025) _
  refine T_p xr_162_268 xn_162 (pc' := 269) (ls' := [(1, .long (ct c)), (0, .ref 530)]) (st' := [.ref 530]) rfl ?_
  refine T_cv (S := S5025) (q := 530) xr_162_269 xf_140.1 xf_140.2.1 xn_140 (as := []) (r := []) rfl h5037 (Nat.le_of_ble_eq_true rfl) (Nat.le_of_ble_eq_true rfl) (pc' := 272) rfl (ls' := [(0, .ref 530)]) rfl ?_
  refine T_mono (r_isGood sc S5025 (X_ou (X_ou (X_ou (X_ou (X_ou o 7 at5027) 8 en5028) 9 tk5029) 10 nu5030) 11 dg5031) nm5032 h5037 (show 0 ≤ (o 5) ∧ (o 5) ≤ 5 from by omega)) (fun v5039 S5040 h5041 => ?_)
  rcases h5041 with ⟨hv5042, hf5043⟩
  rw [hv5042]
  rw [hf5043]
  show X_T sc 162 (272, [(1, .long (ct c)), (0, .ref 530)], [.int (iI (bI ((o 5) = 0)))], S5025) _
  refine T_bif_ne xr_162_272 (t := 278) (pc' := 275) rfl rfl (fun c5044 => ?_) (fun c5044 => ?_)
  · skip
    have c5044 : ((o 5) = 0) := c5044
    refine T_p xr_162_278 xn_162 (pc' := 279) (ls' := [(1, .long (ct c)), (0, .ref 530)]) (st' := [.long (ct c)]) rfl ?_
    refine T_p xr_162_279 xn_162 (pc' := 282) (ls' := [(1, .long (ct c)), (0, .ref 530)]) (st' := [.long (Int64.ofNat 1918987883), .long (ct c)]) rfl ?_
    refine T_lc_ne xr_162_282 xr_162_283 (t := 293) (pc' := 286) rfl rfl (fun c5045 => ?_) (fun c5045 => ?_)
    · skip
      have c5045 : ¬ (ct c) = (Int64.ofNat 1918987883) := c5045
      refine T_p xr_162_293 xn_162 (pc' := 294) (ls' := [(1, .long (ct c)), (0, .ref 530)]) (st' := [.long (ct c)]) rfl ?_
      refine T_p xr_162_294 xn_162 (pc' := 297) (ls' := [(1, .long (ct c)), (0, .ref 530)]) (st' := [.long (Int64.ofNat 32766990153442674), .long (ct c)]) rfl ?_
      refine T_lc_ne xr_162_297 xr_162_298 (t := 308) (pc' := 301) rfl rfl (fun c5046 => ?_) (fun c5046 => ?_)
      · skip
        have c5046 : ¬ (ct c) = (Int64.ofNat 32766990153442674) := c5046
        refine T_p xr_162_308 xn_162 (pc' := 309) (ls' := [(1, .long (ct c)), (0, .ref 530)]) (st' := [.long (ct c)]) rfl ?_
        refine T_p xr_162_309 xn_162 (pc' := 312) (ls' := [(1, .long (ct c)), (0, .ref 530)]) (st' := [.long (Int64.ofNat 1802071652), .long (ct c)]) rfl ?_
        refine T_lc_ne xr_162_312 xr_162_313 (t := 323) (pc' := 316) rfl rfl (fun c5047 => ?_) (fun c5047 => ?_)
        · skip
          have c5047 : ¬ (ct c) = (Int64.ofNat 1802071652) := c5047
          exact absurd hkw.2 c5047
        · skip
          have c5047 : ¬ (¬ (ct c) = (Int64.ofNat 1802071652)) := c5047
          refine T_p xr_162_316 xn_162 (pc' := 317) (ls' := [(1, .long (ct c)), (0, .ref 530)]) (st' := [.ref 530]) rfl ?_
          refine T_cv (S := S5025) (q := 530) xr_162_317 xf_156.1 xf_156.2.1 xn_156 (as := []) (r := []) rfl h5037 (Nat.le_of_ble_eq_true rfl) (Nat.le_of_ble_eq_true rfl) (pc' := 320) rfl (ls' := [(0, .ref 530)]) rfl ?_
          have h5048 := (hf5036.1 532 (by first | decide | omega)).trans (hA532)
          have h5049 := (hf5036.1 534 (by first | decide | omega)).trans (hA534)
          have h5050 := (hf5036.1 536 (by first | decide | omega)).trans (hA536)
          refine T_mono (r_readKind sc S5025 (X_ou (X_ou (X_ou (X_ou (X_ou o 7 at5027) 8 en5028) 9 tk5029) 10 nu5030) 11 dg5031) nm5032 tx kN kU tb len n so pl ct E (X_av n c) c rc kc wc rn lo kn ab D W h5037 h5048 h5049 h5050 (show (o 3) = len from by first | assumption | omega) hl htx hX hp5034 (show (o 5) = 0 from by omega) (show (o 29) = kc from by omega) (by omega) (show 0 ≤ (o 4) ∧ (o 4) ≤ 1 from by omega) (by omega) hR) (fun v5051 S5052 h5053 => ?_)
          rcases h5053 with ⟨at5054, en5055, tk5056, nu5057, dg5058, nm5059, c5060, ab5061, kN5062, kU5063, hv5064, hp5065, hp5066, hp5067, hp5068, hp5069, hM5070, ha5071, ha5072, hf5073⟩ | ⟨at5074, en5075, tk5076, nu5077, dg5078, nm5079, kc5080, f5081, g5082, kN5083, kU5084, hv5085, hp5086, hp5087, hp5088, hp5089, hM5090, ha5091, ha5092, hf5093⟩
          · skip
            rw [hv5064]
            have h5094 : S5052.1 530 = .inr (11, [.ref 531, .int (iI (o 1)), .ref 532, .int (iI (o 3)), .int (iI (o 4)), .int (iI (o 5)), .int (iI (o 6)), .int (iI at5054), .int (iI en5055), .int (iI tk5056), .int (iI nu5057), .int (iI dg5058), .long nm5059, .ref 533, .ref 534, .ref 535, .ref 536, .ref 537, .ref 538, .ref 539, .ref 540, .ref 541, .ref 542, .ref 543, .ref 544, .ref 545, .ref 546, .ref 547, .int (iI (o 28)), .int (iI (kc + 1)), .int (iI (o 30)), .int (iI (o 31)), .int (iI (o 32)), .int (iI (o 33)), .ref 548, .ref 549, .ref 550, .ref 551, .int (iI (o 38)), .ref 552, .ref 553, .ref 554, .ref 555, .ref 556, .ref 557, .ref 558, .ref 559, .ref 560, .ref 561, .int (iI (o 49)), .ref 562, .ref 563, .ref 564, .ref 565, .ref 566, .ref 567, .ref 568, .ref 569, .int (iI (o 58)), .ref 570, .ref 571, .ref 572, .ref 573, .ref 574, .ref 575, .ref 576, .ref 577, .ref 578, .int (iI (o 68)), .int (iI (o 69)), .int (iI (o 70)), .ref 579]) := hM5070
            have hp5067 : R_kd ((o 4)) (kc + 1) (X_ug kn kc (ct (X_av n c))) ab5061 kN5062 kU5063 := hp5067
            have hp5068 : R_ob 11 ((o 4)) kN kN5062 := hp5068
            have hp5069 : R_ob 11 ((o 4)) kU kU5063 := hp5069
            obtain ⟨⟨_, _⟩, ⟨_, _⟩, hk5095, ⟨_, _⟩, hk5095e, ⟨_, _⟩, ⟨_, _⟩⟩ := R_tk_f hX hp5065
            show X_T sc 162 (320, [(1, .long (ct c)), (0, .ref 530)], [], S5052) _
            refine T_p xr_162_320 xn_162 (pc' := 327) (ls' := [(1, .long (ct c)), (0, .ref 530)]) (st' := []) rfl ?_
            refine T_p xr_162_327 xn_162 (pc' := 113) (ls' := [(1, .long (ct c)), (0, .ref 530)]) (st' := []) rfl ?_
            refine T_sub (ls := [(0, .ref 530)]) ⟨rfl, trivial⟩ rfl rfl ?_
            refine hk _ ?_
            exact Or.inl ⟨at5054, en5055, tk5056, nu5057, dg5058, nm5059, c5060, ab5061, kN5062, kU5063, hp5065, hp5066, hp5067, hp5068, hp5069, h5094, ha5071, ha5072, ((X_Fr.rf).tr (X_Fr.mono ⟨hf5036.1, hf5036.2⟩ (fun q hq => by first | exact hq | (rcases hq with rfl <;> decide) | (rcases hq with rfl | rfl <;> decide) | (rcases hq with rfl | rfl | rfl <;> decide) | (rcases hq with rfl | rfl | rfl | rfl <;> decide) | (rcases hq with rfl | rfl | rfl | rfl | rfl <;> decide) | (rcases hq with rfl | rfl | rfl | rfl | rfl | rfl <;> decide) | (rcases hq with rfl | rfl | rfl | rfl | rfl | rfl | rfl <;> decide) | omega))).tr (X_Fr.mono ⟨hf5073.1, hf5073.2⟩ (fun q hq => by first | exact hq | (rcases hq with rfl <;> decide) | (rcases hq with rfl | rfl <;> decide) | (rcases hq with rfl | rfl | rfl <;> decide) | (rcases hq with rfl | rfl | rfl | rfl <;> decide) | (rcases hq with rfl | rfl | rfl | rfl | rfl <;> decide) | (rcases hq with rfl | rfl | rfl | rfl | rfl | rfl <;> decide) | (rcases hq with rfl | rfl | rfl | rfl | rfl | rfl | rfl <;> decide) | omega))⟩
          · skip
            rw [hv5085]
            have h5096 : S5052.1 530 = .inr (11, [.ref 531, .int (iI (o 1)), .ref 532, .int (iI (o 3)), .int (iI (o 4)), .int (iI f5081), .int (iI g5082), .int (iI at5074), .int (iI en5075), .int (iI tk5076), .int (iI nu5077), .int (iI dg5078), .long nm5079, .ref 533, .ref 534, .ref 535, .ref 536, .ref 537, .ref 538, .ref 539, .ref 540, .ref 541, .ref 542, .ref 543, .ref 544, .ref 545, .ref 546, .ref 547, .int (iI (o 28)), .int (iI kc5080), .int (iI (o 30)), .int (iI (o 31)), .int (iI (o 32)), .int (iI (o 33)), .ref 548, .ref 549, .ref 550, .ref 551, .int (iI (o 38)), .ref 552, .ref 553, .ref 554, .ref 555, .ref 556, .ref 557, .ref 558, .ref 559, .ref 560, .ref 561, .int (iI (o 49)), .ref 562, .ref 563, .ref 564, .ref 565, .ref 566, .ref 567, .ref 568, .ref 569, .int (iI (o 58)), .ref 570, .ref 571, .ref 572, .ref 573, .ref 574, .ref 575, .ref 576, .ref 577, .ref 578, .int (iI (o 68)), .int (iI (o 69)), .int (iI (o 70)), .ref 579]) := hM5090
            have hp5088 : R_ob 11 ((o 4)) kN kN5083 := hp5088
            have hp5089 : R_ob 11 ((o 4)) kU kU5084 := hp5089
            show X_T sc 162 (320, [(1, .long (ct c)), (0, .ref 530)], [], S5052) _
            refine T_p xr_162_320 xn_162 (pc' := 327) (ls' := [(1, .long (ct c)), (0, .ref 530)]) (st' := []) rfl ?_
            refine T_p xr_162_327 xn_162 (pc' := 113) (ls' := [(1, .long (ct c)), (0, .ref 530)]) (st' := []) rfl ?_
            refine T_sub (ls := [(0, .ref 530)]) ⟨rfl, trivial⟩ rfl rfl ?_
            refine hk _ ?_
            exact Or.inr ⟨at5074, en5075, tk5076, nu5077, dg5078, nm5079, f5081, g5082, kc5080, kN5083, kU5084, hp5086, hp5087, hp5088, hp5089, h5096, ha5091, ha5092, ((X_Fr.rf).tr (X_Fr.mono ⟨hf5036.1, hf5036.2⟩ (fun q hq => by first | exact hq | (rcases hq with rfl <;> decide) | (rcases hq with rfl | rfl <;> decide) | (rcases hq with rfl | rfl | rfl <;> decide) | (rcases hq with rfl | rfl | rfl | rfl <;> decide) | (rcases hq with rfl | rfl | rfl | rfl | rfl <;> decide) | (rcases hq with rfl | rfl | rfl | rfl | rfl | rfl <;> decide) | (rcases hq with rfl | rfl | rfl | rfl | rfl | rfl | rfl <;> decide) | omega))).tr (X_Fr.mono ⟨hf5093.1, hf5093.2⟩ (fun q hq => by first | exact hq | (rcases hq with rfl <;> decide) | (rcases hq with rfl | rfl <;> decide) | (rcases hq with rfl | rfl | rfl <;> decide) | (rcases hq with rfl | rfl | rfl | rfl <;> decide) | (rcases hq with rfl | rfl | rfl | rfl | rfl <;> decide) | (rcases hq with rfl | rfl | rfl | rfl | rfl | rfl <;> decide) | (rcases hq with rfl | rfl | rfl | rfl | rfl | rfl | rfl <;> decide) | omega))⟩
      · skip
        have c5046 : ¬ (¬ (ct c) = (Int64.ofNat 32766990153442674)) := c5046
        exact absurd ((hkw.2).symm.trans (show ct c = Int64.ofNat 32766990153442674 from (by first | exact c5046 | exact Classical.not_not.mp c5046))) (by decide)
    · skip
      have c5045 : ¬ (¬ (ct c) = (Int64.ofNat 1918987883)) := c5045
      exact absurd ((hkw.2).symm.trans (show ct c = Int64.ofNat 1918987883 from (by first | exact c5045 | exact Classical.not_not.mp c5045))) (by decide)
  · skip
    have c5044 : ¬ ((o 5) = 0) := c5044
    exact (show False by first | contradiction | omega).elim
set_option maxHeartbeats 4000000 in
theorem r_lnW (sc : X_Sc) (S : X_S) (o : Nat → Int) (nm : Int64) (tx : Int → Int) (rN : Int → Int64) (kN : Int → Int64) (wR : Int → Int) (wL : Int → Int) (wK : Int → Int) (wM : Int → Int) (wH : Int → Int) (wS : Int → Int) (sO : Int → Int) (sN : Int → Int) (eP : Int → Int64) (eH : Int → Int) (hK : Int → Int) (tb : Int → Int) (len : Int) (n : Int) (so : Int → Int) (pl : Int → Int) (ct : Int → Int64) (E : Int → Int) (c : Int) (rc : Int) (kc : Int) (wc : Int) (rn : Int → Int64) (lo : Int → Int) (kn : Int → Int64) (ab : Int → Int) (D : Int → Nat → Int → Int) (W : Int → Int → Int64) (hM : M_o S o nm) (hA532 : S.1 532 = .inl (.byte, 2000, .inl fun k : Nat => iI (tx (k : Int)))) (hA533 : S.1 533 = .inl (.long, 24, .inr (.inl fun k : Nat => rN (k : Int)))) (hA534 : S.1 534 = .inl (.long, 22, .inr (.inl fun k : Nat => kN (k : Int)))) (hA537 : S.1 537 = .inl (.int, 60, .inl fun k : Nat => iI (wR (k : Int)))) (hA538 : S.1 538 = .inl (.int, 60, .inl fun k : Nat => iI (wL (k : Int)))) (hA539 : S.1 539 = .inl (.int, 60, .inl fun k : Nat => iI (wK (k : Int)))) (hA540 : S.1 540 = .inl (.int, 60, .inl fun k : Nat => iI (wM (k : Int)))) (hA541 : S.1 541 = .inl (.int, 60, .inl fun k : Nat => iI (wH (k : Int)))) (hA542 : S.1 542 = .inl (.int, 60, .inl fun k : Nat => iI (wS (k : Int)))) (hA543 : S.1 543 = .inl (.int, 1800, .inl fun k : Nat => iI (sO (k : Int)))) (hA544 : S.1 544 = .inl (.int, 1800, .inl fun k : Nat => iI (sN (k : Int)))) (hA545 : S.1 545 = .inl (.long, 480, .inr (.inl fun k : Nat => eP (k : Int)))) (hA546 : S.1 546 = .inl (.int, 480, .inl fun k : Nat => iI (eH (k : Int)))) (hA547 : S.1 547 = .inl (.int, 240, .inl fun k : Nat => iI (hK (k : Int)))) (hlen : o 3 = len) (hl : 0 ≤ len ∧ len ≤ 2000) (htx : ∀ k, 0 ≤ k → k < len → tx k = tb k) (hX : X_TxE tb len n so pl ct E) (hT : R_tk n so pl ct E c (o 7) (o 8) (o 9) (o 10) (o 11) nm) (h5 : o 5 = 0) (hrc : o 28 = rc) (hkc : o 29 = kc) (hwc : o 30 = wc) (hb : 0 ≤ o 4 ∧ o 4 ≤ 1) (hkw : so c = 3 ∧ ct c = Int64.ofNat 2003792484) (hcr : (0 ≤ rc ∧ rc ≤ 12) ∧ 1 ≤ kc ∧ kc ≤ 11) (hwl : 0 ≤ wc ∧ wc < 30) (hN1 : ∀ i, 0 ≤ i → i < rc → rN (12 * o 4 + i) = rn i) (hN2 : ∀ i, 0 ≤ i → i < kc → kN (11 * o 4 + i) = kn i) (hct : ∀ i, 0 ≤ i → i < n → so i = 6 → ¬ ct i = 0) (Q : Option Value → X_S → Prop) (hk : ∀ S' : X_S, ((∃ (at1 : Int) (en1 : Int) (tk1 : Int) (nu1 : Int) (dg1 : Int) (nm1 : Int64) (g1 : Int) (c2 : Int) (d2 : Nat → Int → Int) (q2 : Int → Int64) (wR1 : Int → Int) (wL1 : Int → Int) (wK1 : Int → Int) (wM1 : Int → Int) (wH1 : Int → Int) (wS1 : Int → Int) (sO1 : Int → Int) (sN1 : Int → Int) (eP1 : Int → Int64) (eH1 : Int → Int) (hK1 : Int → Int), R_tk n so pl ct E c2 at1 en1 tk1 nu1 dg1 nm1 ∧ sp_word n so ct (c, rc, kc, wc, rn, lo, kn, ab, D, W) = some (c2, rc, kc, wc + 1, rn, lo, kn, ab, X_ug D wc d2, X_ug W wc q2) ∧ R_w (30 * o 4 + wc) d2 q2 wR1 wL1 wK1 wM1 wH1 wS1 sO1 sN1 eP1 eH1 hK1 ∧ R_ob 1 (30 * o 4 + wc) wR wR1 ∧ R_ob 1 (30 * o 4 + wc) wL wL1 ∧ R_ob 1 (30 * o 4 + wc) wK wK1 ∧ R_ob 1 (30 * o 4 + wc) wM wM1 ∧ R_ob 1 (30 * o 4 + wc) wH wH1 ∧ R_ob 1 (30 * o 4 + wc) wS wS1 ∧ R_ob 30 (30 * o 4 + wc) sO sO1 ∧ R_ob 30 (30 * o 4 + wc) sN sN1 ∧ R_ob 8 (30 * o 4 + wc) eP eP1 ∧ R_ob 8 (30 * o 4 + wc) eH eH1 ∧ R_ob 4 (30 * o 4 + wc) hK hK1 ∧ M_o S' (X_ou (X_ou (X_ou (X_ou (X_ou (X_ou (X_ou o 7 at1) 8 en1) 9 tk1) 10 nu1) 11 dg1) 6 g1) 30 (wc + 1)) nm1 ∧ S'.1 537 = .inl (.int, 60, .inl fun k : Nat => iI (wR1 (k : Int))) ∧ S'.1 538 = .inl (.int, 60, .inl fun k : Nat => iI (wL1 (k : Int))) ∧ S'.1 539 = .inl (.int, 60, .inl fun k : Nat => iI (wK1 (k : Int))) ∧ S'.1 540 = .inl (.int, 60, .inl fun k : Nat => iI (wM1 (k : Int))) ∧ S'.1 541 = .inl (.int, 60, .inl fun k : Nat => iI (wH1 (k : Int))) ∧ S'.1 542 = .inl (.int, 60, .inl fun k : Nat => iI (wS1 (k : Int))) ∧ S'.1 543 = .inl (.int, 1800, .inl fun k : Nat => iI (sO1 (k : Int))) ∧ S'.1 544 = .inl (.int, 1800, .inl fun k : Nat => iI (sN1 (k : Int))) ∧ S'.1 545 = .inl (.long, 480, .inr (.inl fun k : Nat => eP1 (k : Int))) ∧ S'.1 546 = .inl (.int, 480, .inl fun k : Nat => iI (eH1 (k : Int))) ∧ S'.1 547 = .inl (.int, 240, .inl fun k : Nat => iI (hK1 (k : Int))) ∧ (X_Fr (fun q => q = 530 ∨ q = 537 ∨ q = 538 ∨ q = 539 ∨ q = 540 ∨ q = 541 ∨ q = 542 ∨ q = 543 ∨ q = 544 ∨ q = 545 ∨ q = 546 ∨ q = 547) S S')) ∨ (∃ (at1 : Int) (en1 : Int) (tk1 : Int) (nu1 : Int) (dg1 : Int) (nm1 : Int64) (f1 : Int) (g1 : Int) (wc1 : Int) (wR1 : Int → Int) (wL1 : Int → Int) (wK1 : Int → Int) (wM1 : Int → Int) (wH1 : Int → Int) (wS1 : Int → Int) (sO1 : Int → Int) (sN1 : Int → Int) (eP1 : Int → Int64) (eH1 : Int → Int) (hK1 : Int → Int), (1 ≤ f1 ∧ f1 ≤ 5) ∧ sp_word n so ct (c, rc, kc, wc, rn, lo, kn, ab, D, W) = none ∧ R_ob 1 (30 * o 4 + wc) wR wR1 ∧ R_ob 1 (30 * o 4 + wc) wL wL1 ∧ R_ob 1 (30 * o 4 + wc) wK wK1 ∧ R_ob 1 (30 * o 4 + wc) wM wM1 ∧ R_ob 1 (30 * o 4 + wc) wH wH1 ∧ R_ob 1 (30 * o 4 + wc) wS wS1 ∧ R_ob 30 (30 * o 4 + wc) sO sO1 ∧ R_ob 30 (30 * o 4 + wc) sN sN1 ∧ R_ob 8 (30 * o 4 + wc) eP eP1 ∧ R_ob 8 (30 * o 4 + wc) eH eH1 ∧ R_ob 4 (30 * o 4 + wc) hK hK1 ∧ M_o S' (X_ou (X_ou (X_ou (X_ou (X_ou (X_ou (X_ou (X_ou o 7 at1) 8 en1) 9 tk1) 10 nu1) 11 dg1) 5 f1) 6 g1) 30 wc1) nm1 ∧ S'.1 537 = .inl (.int, 60, .inl fun k : Nat => iI (wR1 (k : Int))) ∧ S'.1 538 = .inl (.int, 60, .inl fun k : Nat => iI (wL1 (k : Int))) ∧ S'.1 539 = .inl (.int, 60, .inl fun k : Nat => iI (wK1 (k : Int))) ∧ S'.1 540 = .inl (.int, 60, .inl fun k : Nat => iI (wM1 (k : Int))) ∧ S'.1 541 = .inl (.int, 60, .inl fun k : Nat => iI (wH1 (k : Int))) ∧ S'.1 542 = .inl (.int, 60, .inl fun k : Nat => iI (wS1 (k : Int))) ∧ S'.1 543 = .inl (.int, 1800, .inl fun k : Nat => iI (sO1 (k : Int))) ∧ S'.1 544 = .inl (.int, 1800, .inl fun k : Nat => iI (sN1 (k : Int))) ∧ S'.1 545 = .inl (.long, 480, .inr (.inl fun k : Nat => eP1 (k : Int))) ∧ S'.1 546 = .inl (.int, 480, .inl fun k : Nat => iI (eH1 (k : Int))) ∧ S'.1 547 = .inl (.int, 240, .inl fun k : Nat => iI (hK1 (k : Int))) ∧ (X_Fr (fun q => q = 530 ∨ q = 537 ∨ q = 538 ∨ q = 539 ∨ q = 540 ∨ q = 541 ∨ q = 542 ∨ q = 543 ∨ q = 544 ∨ q = 545 ∨ q = 546 ∨ q = 547) S S'))) → X_T sc 162 (113, [(0, .ref 530)], [], S') Q) : X_T sc 162 (264, [(1, .long (ct c)), (0, .ref 530)], [], S) Q := by
  obtain ⟨⟨hc0, hcn⟩, ⟨hs0, hs1⟩, hk0, ⟨ha0, ha1⟩, hk0e, ⟨_, _⟩, ⟨_, _⟩⟩ := R_tk_f hX hT
  have hn2 := hX.2.1
  refine T_p xr_162_264 xn_162 (pc' := 265) (ls' := [(1, .long (ct c)), (0, .ref 530)]) (st' := [.ref 530]) rfl ?_
  refine T_cv (S := S) (q := 530) xr_162_265 xf_141.1 xf_141.2.1 xn_141 (as := []) (r := []) rfl hM (Nat.le_of_ble_eq_true rfl) (Nat.le_of_ble_eq_true rfl) (pc' := 268) rfl (ls' := [(0, .ref 530)]) rfl ?_
  refine T_mono (r_nx sc S o nm tx tb len n so pl ct E c hM hA532 (show (o 3) = len from by first | assumption | omega) hl htx hX hT (by omega)) (fun v5097 S5098 h5099 => ?_)
  rcases h5099 with ⟨at5100, en5101, tk5102, nu5103, dg5104, nm5105, hv5106, hp5107, hM5108, hf5109⟩
  rw [hv5106]
  have h5110 : S5098.1 530 = .inr (11, [.ref 531, .int (iI (o 1)), .ref 532, .int (iI (o 3)), .int (iI (o 4)), .int (iI (o 5)), .int (iI (o 6)), .int (iI at5100), .int (iI en5101), .int (iI tk5102), .int (iI nu5103), .int (iI dg5104), .long nm5105, .ref 533, .ref 534, .ref 535, .ref 536, .ref 537, .ref 538, .ref 539, .ref 540, .ref 541, .ref 542, .ref 543, .ref 544, .ref 545, .ref 546, .ref 547, .int (iI (o 28)), .int (iI (o 29)), .int (iI (o 30)), .int (iI (o 31)), .int (iI (o 32)), .int (iI (o 33)), .ref 548, .ref 549, .ref 550, .ref 551, .int (iI (o 38)), .ref 552, .ref 553, .ref 554, .ref 555, .ref 556, .ref 557, .ref 558, .ref 559, .ref 560, .ref 561, .int (iI (o 49)), .ref 562, .ref 563, .ref 564, .ref 565, .ref 566, .ref 567, .ref 568, .ref 569, .int (iI (o 58)), .ref 570, .ref 571, .ref 572, .ref 573, .ref 574, .ref 575, .ref 576, .ref 577, .ref 578, .int (iI (o 68)), .int (iI (o 69)), .int (iI (o 70)), .ref 579]) := hM5108
  obtain ⟨⟨_, _⟩, ⟨_, _⟩, hk5111, ⟨_, _⟩, hk5111e, ⟨_, _⟩, ⟨_, _⟩⟩ := R_tk_f hX hp5107
  show X_T sc 162 (268, [(1, .long (ct c)), (0, .ref 530)], [], S5098) _
  refine T_p xr_162_268 xn_162 (pc' := 269) (ls' := [(1, .long (ct c)), (0, .ref 530)]) (st' := [.ref 530]) rfl ?_
  refine T_cv (S := S5098) (q := 530) xr_162_269 xf_140.1 xf_140.2.1 xn_140 (as := []) (r := []) rfl h5110 (Nat.le_of_ble_eq_true rfl) (Nat.le_of_ble_eq_true rfl) (pc' := 272) rfl (ls' := [(0, .ref 530)]) rfl ?_
  refine T_mono (r_isGood sc S5098 (X_ou (X_ou (X_ou (X_ou (X_ou o 7 at5100) 8 en5101) 9 tk5102) 10 nu5103) 11 dg5104) nm5105 h5110 (show 0 ≤ (o 5) ∧ (o 5) ≤ 5 from by omega)) (fun v5112 S5113 h5114 => ?_)
  rcases h5114 with ⟨hv5115, hf5116⟩
  rw [hv5115]
  rw [hf5116]
  show X_T sc 162 (272, [(1, .long (ct c)), (0, .ref 530)], [.int (iI (bI ((o 5) = 0)))], S5098) _
  refine T_bif_ne xr_162_272 (t := 278) (pc' := 275) rfl rfl (fun c5117 => ?_) (fun c5117 => ?_)
  · skip
    have c5117 : ((o 5) = 0) := c5117
    refine T_p xr_162_278 xn_162 (pc' := 279) (ls' := [(1, .long (ct c)), (0, .ref 530)]) (st' := [.long (ct c)]) rfl ?_
    refine T_p xr_162_279 xn_162 (pc' := 282) (ls' := [(1, .long (ct c)), (0, .ref 530)]) (st' := [.long (Int64.ofNat 1918987883), .long (ct c)]) rfl ?_
    refine T_lc_ne xr_162_282 xr_162_283 (t := 293) (pc' := 286) rfl rfl (fun c5118 => ?_) (fun c5118 => ?_)
    · skip
      have c5118 : ¬ (ct c) = (Int64.ofNat 1918987883) := c5118
      refine T_p xr_162_293 xn_162 (pc' := 294) (ls' := [(1, .long (ct c)), (0, .ref 530)]) (st' := [.long (ct c)]) rfl ?_
      refine T_p xr_162_294 xn_162 (pc' := 297) (ls' := [(1, .long (ct c)), (0, .ref 530)]) (st' := [.long (Int64.ofNat 32766990153442674), .long (ct c)]) rfl ?_
      refine T_lc_ne xr_162_297 xr_162_298 (t := 308) (pc' := 301) rfl rfl (fun c5119 => ?_) (fun c5119 => ?_)
      · skip
        have c5119 : ¬ (ct c) = (Int64.ofNat 32766990153442674) := c5119
        refine T_p xr_162_308 xn_162 (pc' := 309) (ls' := [(1, .long (ct c)), (0, .ref 530)]) (st' := [.long (ct c)]) rfl ?_
        refine T_p xr_162_309 xn_162 (pc' := 312) (ls' := [(1, .long (ct c)), (0, .ref 530)]) (st' := [.long (Int64.ofNat 1802071652), .long (ct c)]) rfl ?_
        refine T_lc_ne xr_162_312 xr_162_313 (t := 323) (pc' := 316) rfl rfl (fun c5120 => ?_) (fun c5120 => ?_)
        · skip
          have c5120 : ¬ (ct c) = (Int64.ofNat 1802071652) := c5120
          refine T_p xr_162_323 xn_162 (pc' := 324) (ls' := [(1, .long (ct c)), (0, .ref 530)]) (st' := [.ref 530]) rfl ?_
          refine T_cv (S := S5098) (q := 530) xr_162_324 xf_157.1 xf_157.2.1 xn_157 (as := []) (r := []) rfl h5110 (Nat.le_of_ble_eq_true rfl) (Nat.le_of_ble_eq_true rfl) (pc' := 327) rfl (ls' := [(0, .ref 530)]) rfl ?_
          have h5121 := (hf5109.1 532 (by first | decide | omega)).trans (hA532)
          have h5122 := (hf5109.1 533 (by first | decide | omega)).trans (hA533)
          have h5123 := (hf5109.1 534 (by first | decide | omega)).trans (hA534)
          have h5124 := (hf5109.1 537 (by first | decide | omega)).trans (hA537)
          have h5125 := (hf5109.1 538 (by first | decide | omega)).trans (hA538)
          have h5126 := (hf5109.1 539 (by first | decide | omega)).trans (hA539)
          have h5127 := (hf5109.1 540 (by first | decide | omega)).trans (hA540)
          have h5128 := (hf5109.1 541 (by first | decide | omega)).trans (hA541)
          have h5129 := (hf5109.1 542 (by first | decide | omega)).trans (hA542)
          have h5130 := (hf5109.1 543 (by first | decide | omega)).trans (hA543)
          have h5131 := (hf5109.1 544 (by first | decide | omega)).trans (hA544)
          have h5132 := (hf5109.1 545 (by first | decide | omega)).trans (hA545)
          have h5133 := (hf5109.1 546 (by first | decide | omega)).trans (hA546)
          have h5134 := (hf5109.1 547 (by first | decide | omega)).trans (hA547)
          refine T_mono (r_readWord sc S5098 (X_ou (X_ou (X_ou (X_ou (X_ou o 7 at5100) 8 en5101) 9 tk5102) 10 nu5103) 11 dg5104) nm5105 tx rN kN wR wL wK wM wH wS sO sN eP eH hK tb len n so pl ct E (X_av n c) c rc kc wc rn lo kn ab D W h5110 h5121 h5122 h5123 h5124 h5125 h5126 h5127 h5128 h5129 h5130 h5131 h5132 h5133 h5134 (show (o 3) = len from by first | assumption | omega) hl htx hX hp5107 (show (o 5) = 0 from by omega) (show (o 28) = rc from by omega) (show (o 29) = kc from by omega) (show (o 30) = wc from by omega) (by omega) (show 0 ≤ (o 4) ∧ (o 4) ≤ 1 from by omega) (by omega) (by omega) hN1 hN2 hct) (fun v5135 S5136 h5137 => ?_)
          rcases h5137 with ⟨at5138, en5139, tk5140, nu5141, dg5142, nm5143, g5144, c5145, d5146, q5147, wR5148, wL5149, wK5150, wM5151, wH5152, wS5153, sO5154, sN5155, eP5156, eH5157, hK5158, hv5159, hp5160, hp5161, hp5162, hp5163, hp5164, hp5165, hp5166, hp5167, hp5168, hp5169, hp5170, hp5171, hp5172, hp5173, hM5174, ha5175, ha5176, ha5177, ha5178, ha5179, ha5180, ha5181, ha5182, ha5183, ha5184, ha5185, hf5186⟩ | ⟨at5187, en5188, tk5189, nu5190, dg5191, nm5192, wc5193, f5194, g5195, wR5196, wL5197, wK5198, wM5199, wH5200, wS5201, sO5202, sN5203, eP5204, eH5205, hK5206, hv5207, hp5208, hp5209, hp5210, hp5211, hp5212, hp5213, hp5214, hp5215, hp5216, hp5217, hp5218, hp5219, hp5220, hM5221, ha5222, ha5223, ha5224, ha5225, ha5226, ha5227, ha5228, ha5229, ha5230, ha5231, ha5232, hf5233⟩
          · skip
            rw [hv5159]
            have h5234 : S5136.1 530 = .inr (11, [.ref 531, .int (iI (o 1)), .ref 532, .int (iI (o 3)), .int (iI (o 4)), .int (iI (o 5)), .int (iI g5144), .int (iI at5138), .int (iI en5139), .int (iI tk5140), .int (iI nu5141), .int (iI dg5142), .long nm5143, .ref 533, .ref 534, .ref 535, .ref 536, .ref 537, .ref 538, .ref 539, .ref 540, .ref 541, .ref 542, .ref 543, .ref 544, .ref 545, .ref 546, .ref 547, .int (iI (o 28)), .int (iI (o 29)), .int (iI (wc + 1)), .int (iI (o 31)), .int (iI (o 32)), .int (iI (o 33)), .ref 548, .ref 549, .ref 550, .ref 551, .int (iI (o 38)), .ref 552, .ref 553, .ref 554, .ref 555, .ref 556, .ref 557, .ref 558, .ref 559, .ref 560, .ref 561, .int (iI (o 49)), .ref 562, .ref 563, .ref 564, .ref 565, .ref 566, .ref 567, .ref 568, .ref 569, .int (iI (o 58)), .ref 570, .ref 571, .ref 572, .ref 573, .ref 574, .ref 575, .ref 576, .ref 577, .ref 578, .int (iI (o 68)), .int (iI (o 69)), .int (iI (o 70)), .ref 579]) := hM5174
            have hp5162 : R_w (30 * (o 4) + wc) d5146 q5147 wR5148 wL5149 wK5150 wM5151 wH5152 wS5153 sO5154 sN5155 eP5156 eH5157 hK5158 := hp5162
            have hp5163 : R_ob 1 (30 * (o 4) + wc) wR wR5148 := hp5163
            have hp5164 : R_ob 1 (30 * (o 4) + wc) wL wL5149 := hp5164
            have hp5165 : R_ob 1 (30 * (o 4) + wc) wK wK5150 := hp5165
            have hp5166 : R_ob 1 (30 * (o 4) + wc) wM wM5151 := hp5166
            have hp5167 : R_ob 1 (30 * (o 4) + wc) wH wH5152 := hp5167
            have hp5168 : R_ob 1 (30 * (o 4) + wc) wS wS5153 := hp5168
            have hp5169 : R_ob 30 (30 * (o 4) + wc) sO sO5154 := hp5169
            have hp5170 : R_ob 30 (30 * (o 4) + wc) sN sN5155 := hp5170
            have hp5171 : R_ob 8 (30 * (o 4) + wc) eP eP5156 := hp5171
            have hp5172 : R_ob 8 (30 * (o 4) + wc) eH eH5157 := hp5172
            have hp5173 : R_ob 4 (30 * (o 4) + wc) hK hK5158 := hp5173
            obtain ⟨⟨_, _⟩, ⟨_, _⟩, hk5235, ⟨_, _⟩, hk5235e, ⟨_, _⟩, ⟨_, _⟩⟩ := R_tk_f hX hp5160
            show X_T sc 162 (327, [(1, .long (ct c)), (0, .ref 530)], [], S5136) _
            refine T_p xr_162_327 xn_162 (pc' := 113) (ls' := [(1, .long (ct c)), (0, .ref 530)]) (st' := []) rfl ?_
            refine T_sub (ls := [(0, .ref 530)]) ⟨rfl, trivial⟩ rfl rfl ?_
            refine hk _ ?_
            exact Or.inl ⟨at5138, en5139, tk5140, nu5141, dg5142, nm5143, g5144, c5145, d5146, q5147, wR5148, wL5149, wK5150, wM5151, wH5152, wS5153, sO5154, sN5155, eP5156, eH5157, hK5158, hp5160, hp5161, hp5162, hp5163, hp5164, hp5165, hp5166, hp5167, hp5168, hp5169, hp5170, hp5171, hp5172, hp5173, h5234, ha5175, ha5176, ha5177, ha5178, ha5179, ha5180, ha5181, ha5182, ha5183, ha5184, ha5185, ((X_Fr.rf).tr (X_Fr.mono ⟨hf5109.1, hf5109.2⟩ (fun q hq => by first | exact hq | (rcases hq with rfl <;> decide) | (rcases hq with rfl | rfl <;> decide) | (rcases hq with rfl | rfl | rfl <;> decide) | (rcases hq with rfl | rfl | rfl | rfl <;> decide) | (rcases hq with rfl | rfl | rfl | rfl | rfl <;> decide) | (rcases hq with rfl | rfl | rfl | rfl | rfl | rfl <;> decide) | (rcases hq with rfl | rfl | rfl | rfl | rfl | rfl | rfl <;> decide) | omega))).tr (X_Fr.mono ⟨hf5186.1, hf5186.2⟩ (fun q hq => by first | exact hq | (rcases hq with rfl <;> decide) | (rcases hq with rfl | rfl <;> decide) | (rcases hq with rfl | rfl | rfl <;> decide) | (rcases hq with rfl | rfl | rfl | rfl <;> decide) | (rcases hq with rfl | rfl | rfl | rfl | rfl <;> decide) | (rcases hq with rfl | rfl | rfl | rfl | rfl | rfl <;> decide) | (rcases hq with rfl | rfl | rfl | rfl | rfl | rfl | rfl <;> decide) | omega))⟩
          · skip
            rw [hv5207]
            have h5236 : S5136.1 530 = .inr (11, [.ref 531, .int (iI (o 1)), .ref 532, .int (iI (o 3)), .int (iI (o 4)), .int (iI f5194), .int (iI g5195), .int (iI at5187), .int (iI en5188), .int (iI tk5189), .int (iI nu5190), .int (iI dg5191), .long nm5192, .ref 533, .ref 534, .ref 535, .ref 536, .ref 537, .ref 538, .ref 539, .ref 540, .ref 541, .ref 542, .ref 543, .ref 544, .ref 545, .ref 546, .ref 547, .int (iI (o 28)), .int (iI (o 29)), .int (iI wc5193), .int (iI (o 31)), .int (iI (o 32)), .int (iI (o 33)), .ref 548, .ref 549, .ref 550, .ref 551, .int (iI (o 38)), .ref 552, .ref 553, .ref 554, .ref 555, .ref 556, .ref 557, .ref 558, .ref 559, .ref 560, .ref 561, .int (iI (o 49)), .ref 562, .ref 563, .ref 564, .ref 565, .ref 566, .ref 567, .ref 568, .ref 569, .int (iI (o 58)), .ref 570, .ref 571, .ref 572, .ref 573, .ref 574, .ref 575, .ref 576, .ref 577, .ref 578, .int (iI (o 68)), .int (iI (o 69)), .int (iI (o 70)), .ref 579]) := hM5221
            have hp5210 : R_ob 1 (30 * (o 4) + wc) wR wR5196 := hp5210
            have hp5211 : R_ob 1 (30 * (o 4) + wc) wL wL5197 := hp5211
            have hp5212 : R_ob 1 (30 * (o 4) + wc) wK wK5198 := hp5212
            have hp5213 : R_ob 1 (30 * (o 4) + wc) wM wM5199 := hp5213
            have hp5214 : R_ob 1 (30 * (o 4) + wc) wH wH5200 := hp5214
            have hp5215 : R_ob 1 (30 * (o 4) + wc) wS wS5201 := hp5215
            have hp5216 : R_ob 30 (30 * (o 4) + wc) sO sO5202 := hp5216
            have hp5217 : R_ob 30 (30 * (o 4) + wc) sN sN5203 := hp5217
            have hp5218 : R_ob 8 (30 * (o 4) + wc) eP eP5204 := hp5218
            have hp5219 : R_ob 8 (30 * (o 4) + wc) eH eH5205 := hp5219
            have hp5220 : R_ob 4 (30 * (o 4) + wc) hK hK5206 := hp5220
            show X_T sc 162 (327, [(1, .long (ct c)), (0, .ref 530)], [], S5136) _
            refine T_p xr_162_327 xn_162 (pc' := 113) (ls' := [(1, .long (ct c)), (0, .ref 530)]) (st' := []) rfl ?_
            refine T_sub (ls := [(0, .ref 530)]) ⟨rfl, trivial⟩ rfl rfl ?_
            refine hk _ ?_
            exact Or.inr ⟨at5187, en5188, tk5189, nu5190, dg5191, nm5192, f5194, g5195, wc5193, wR5196, wL5197, wK5198, wM5199, wH5200, wS5201, sO5202, sN5203, eP5204, eH5205, hK5206, hp5208, hp5209, hp5210, hp5211, hp5212, hp5213, hp5214, hp5215, hp5216, hp5217, hp5218, hp5219, hp5220, h5236, ha5222, ha5223, ha5224, ha5225, ha5226, ha5227, ha5228, ha5229, ha5230, ha5231, ha5232, ((X_Fr.rf).tr (X_Fr.mono ⟨hf5109.1, hf5109.2⟩ (fun q hq => by first | exact hq | (rcases hq with rfl <;> decide) | (rcases hq with rfl | rfl <;> decide) | (rcases hq with rfl | rfl | rfl <;> decide) | (rcases hq with rfl | rfl | rfl | rfl <;> decide) | (rcases hq with rfl | rfl | rfl | rfl | rfl <;> decide) | (rcases hq with rfl | rfl | rfl | rfl | rfl | rfl <;> decide) | (rcases hq with rfl | rfl | rfl | rfl | rfl | rfl | rfl <;> decide) | omega))).tr (X_Fr.mono ⟨hf5233.1, hf5233.2⟩ (fun q hq => by first | exact hq | (rcases hq with rfl <;> decide) | (rcases hq with rfl | rfl <;> decide) | (rcases hq with rfl | rfl | rfl <;> decide) | (rcases hq with rfl | rfl | rfl | rfl <;> decide) | (rcases hq with rfl | rfl | rfl | rfl | rfl <;> decide) | (rcases hq with rfl | rfl | rfl | rfl | rfl | rfl <;> decide) | (rcases hq with rfl | rfl | rfl | rfl | rfl | rfl | rfl <;> decide) | omega))⟩
        · skip
          have c5120 : ¬ (¬ (ct c) = (Int64.ofNat 1802071652)) := c5120
          exact absurd ((hkw.2).symm.trans (show ct c = Int64.ofNat 1802071652 from (by first | exact c5120 | exact Classical.not_not.mp c5120))) (by decide)
      · skip
        have c5119 : ¬ (¬ (ct c) = (Int64.ofNat 32766990153442674)) := c5119
        exact absurd ((hkw.2).symm.trans (show ct c = Int64.ofNat 32766990153442674 from (by first | exact c5119 | exact Classical.not_not.mp c5119))) (by decide)
    · skip
      have c5118 : ¬ (¬ (ct c) = (Int64.ofNat 1918987883)) := c5118
      exact absurd ((hkw.2).symm.trans (show ct c = Int64.ofNat 1918987883 from (by first | exact c5118 | exact Classical.not_not.mp c5118))) (by decide)
  · skip
    have c5117 : ¬ ((o 5) = 0) := c5117
    exact (show False by first | contradiction | omega).elim
end
