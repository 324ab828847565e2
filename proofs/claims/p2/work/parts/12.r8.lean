theorem xr_157_155 : X_row 157 155 = some (155, (.aload_n 0, 1), (0, 0, 0)) := by decide +kernel
theorem xr_157_156 : X_row 157 156 = some (156, (.invokevirtual 100, 3), (140, 14, 0)) := by decide +kernel
theorem xr_157_159 : X_row 157 159 = some (159, (.ifCond .eq 46, 3), (0, 0, 0)) := by decide +kernel
theorem xr_157_162 : X_row 157 162 = some (162, (.aload_n 0, 1), (0, 0, 0)) := by decide +kernel
theorem xr_157_163 : X_row 157 163 = some (163, (.getfield 27, 3), (11, 9, 18)) := by decide +kernel
theorem xr_157_166 : X_row 157 166 = some (166, (.iconst 5, 1), (0, 0, 0)) := by decide +kernel
theorem xr_157_167 : X_row 157 167 = some (167, (.if_icmp .eq 12, 3), (0, 0, 0)) := by decide +kernel
theorem xr_157_170 : X_row 157 170 = some (170, (.aload_n 0, 1), (0, 0, 0)) := by decide +kernel
theorem xr_157_171 : X_row 157 171 = some (171, (.bipush 95, 2), (0, 0, 0)) := by decide +kernel
theorem xr_157_173 : X_row 157 173 = some (173, (.invokevirtual 75, 3), (145, 26, 0)) := by decide +kernel
theorem xr_157_176 : X_row 157 176 = some (176, (.ifCond .eq 29, 3), (0, 0, 0)) := by decide +kernel
theorem xr_157_179 : X_row 157 179 = some (179, (.iload_n 3, 1), (0, 0, 0)) := by decide +kernel
theorem xr_157_180 : X_row 157 180 = some (180, (.ifCond .ne 11, 3), (0, 0, 0)) := by decide +kernel
theorem xr_157_183 : X_row 157 183 = some (183, (.aload_n 0, 1), (0, 0, 0)) := by decide +kernel
theorem xr_157_184 : X_row 157 184 = some (184, (.getfield 27, 3), (11, 9, 18)) := by decide +kernel
theorem xr_157_187 : X_row 157 187 = some (187, (.iconst 5, 1), (0, 0, 0)) := by decide +kernel
theorem xr_157_188 : X_row 157 188 = some (188, (.if_icmp .ne 7, 3), (0, 0, 0)) := by decide +kernel
theorem xr_157_191 : X_row 157 191 = some (191, (.iconst 1, 1), (0, 0, 0)) := by decide +kernel
theorem xr_157_192 : X_row 157 192 = some (192, (.goto 4, 3), (0, 0, 0)) := by decide +kernel
theorem xr_157_195 : X_row 157 195 = some (195, (.iconst 0, 1), (0, 0, 0)) := by decide +kernel
theorem xr_157_196 : X_row 157 196 = some (196, (.istore_n 3, 1), (0, 0, 0)) := by decide +kernel
theorem xr_157_197 : X_row 157 197 = some (197, (.aload_n 0, 1), (0, 0, 0)) := by decide +kernel
theorem xr_157_198 : X_row 157 198 = some (198, (.iload_n 1, 1), (0, 0, 0)) := by decide +kernel
theorem xr_157_199 : X_row 157 199 = some (199, (.invokevirtual 159, 3), (158, 44, 0)) := by decide +kernel
theorem xr_157_202 : X_row 157 202 = some (202, (.goto (-47), 3), (0, 0, 0)) := by decide +kernel
theorem xr_157_205 : X_row 157 205 = some (205, (.aload_n 0, 1), (0, 0, 0)) := by decide +kernel
theorem xr_157_206 : X_row 157 206 = some (206, (.invokevirtual 100, 3), (140, 14, 0)) := by decide +kernel
theorem xr_157_209 : X_row 157 209 = some (209, (.ifCond .eq 38, 3), (0, 0, 0)) := by decide +kernel
theorem xr_157_212 : X_row 157 212 = some (212, (.aload_n 0, 1), (0, 0, 0)) := by decide +kernel
theorem xr_157_213 : X_row 157 213 = some (213, (.getfield 150, 3), (11, 20, 40)) := by decide +kernel
theorem xr_157_216 : X_row 157 216 = some (216, (.iload_n 1, 1), (0, 0, 0)) := by decide +kernel
theorem xr_157_217 : X_row 157 217 = some (217, (.iaload, 1), (0, 0, 0)) := by decide +kernel
theorem xr_157_218 : X_row 157 218 = some (218, (.ifCond .eq 25, 3), (0, 0, 0)) := by decide +kernel
theorem xr_157_221 : X_row 157 221 = some (221, (.iload_n 3, 1), (0, 0, 0)) := by decide +kernel
theorem xr_157_222 : X_row 157 222 = some (222, (.ifCond .eq 21, 3), (0, 0, 0)) := by decide +kernel
theorem xr_157_225 : X_row 157 225 = some (225, (.aload_n 0, 1), (0, 0, 0)) := by decide +kernel
theorem xr_157_226 : X_row 157 226 = some (226, (.bipush 61, 2), (0, 0, 0)) := by decide +kernel
theorem xr_157_228 : X_row 157 228 = some (228, (.invokevirtual 75, 3), (145, 26, 0)) := by decide +kernel
theorem xr_157_231 : X_row 157 231 = some (231, (.ifCond .ne 16, 3), (0, 0, 0)) := by decide +kernel
theorem xr_157_234 : X_row 157 234 = some (234, (.aload_n 0, 1), (0, 0, 0)) := by decide +kernel
theorem xr_157_235 : X_row 157 235 = some (235, (.bipush 59, 2), (0, 0, 0)) := by decide +kernel
theorem xr_157_237 : X_row 157 237 = some (237, (.invokevirtual 75, 3), (145, 26, 0)) := by decide +kernel
theorem xr_157_240 : X_row 157 240 = some (240, (.ifCond .ne 7, 3), (0, 0, 0)) := by decide +kernel
theorem xr_157_243 : X_row 157 243 = some (243, (.aload_n 0, 1), (0, 0, 0)) := by decide +kernel
theorem xr_157_244 : X_row 157 244 = some (244, (.invokevirtual 81, 3), (147, 16, 0)) := by decide +kernel
theorem xr_157_247 : X_row 157 247 = some (247, (.aload_n 0, 1), (0, 0, 0)) := by decide +kernel
theorem xr_157_248 : X_row 157 248 = some (248, (.invokevirtual 100, 3), (140, 14, 0)) := by decide +kernel
theorem xr_157_251 : X_row 157 251 = some (251, (.ifCond .eq 26, 3), (0, 0, 0)) := by decide +kernel
theorem xr_157_254 : X_row 157 254 = some (254, (.aload_n 0, 1), (0, 0, 0)) := by decide +kernel
theorem xr_157_255 : X_row 157 255 = some (255, (.getfield 144, 3), (11, 18, 36)) := by decide +kernel
theorem xr_157_258 : X_row 157 258 = some (258, (.iload_n 1, 1), (0, 0, 0)) := by decide +kernel
theorem xr_157_259 : X_row 157 259 = some (259, (.iaload, 1), (0, 0, 0)) := by decide +kernel
theorem xr_157_260 : X_row 157 260 = some (260, (.ifCond .le 17, 3), (0, 0, 0)) := by decide +kernel
theorem xr_157_263 : X_row 157 263 = some (263, (.aload_n 0, 1), (0, 0, 0)) := by decide +kernel
theorem xr_157_264 : X_row 157 264 = some (264, (.iload_n 1, 1), (0, 0, 0)) := by decide +kernel
theorem xr_157_265 : X_row 157 265 = some (265, (.invokevirtual 162, 3), (160, 46, 0)) := by decide +kernel
theorem xr_157_268 : X_row 157 268 = some (268, (.ifCond .ne 9, 3), (0, 0, 0)) := by decide +kernel
theorem xr_157_271 : X_row 157 271 = some (271, (.aload_n 0, 1), (0, 0, 0)) := by decide +kernel
theorem xr_157_272 : X_row 157 272 = some (272, (.iconst 2, 1), (0, 0, 0)) := by decide +kernel
theorem xr_157_273 : X_row 157 273 = some (273, (.iload_n 2, 1), (0, 0, 0)) := by decide +kernel
theorem xr_157_274 : X_row 157 274 = some (274, (.invokevirtual 72, 3), (139, 18, 0)) := by decide +kernel
theorem xr_157_277 : X_row 157 277 = some (277, (.aload_n 0, 1), (0, 0, 0)) := by decide +kernel
theorem xr_157_278 : X_row 157 278 = some (278, (.invokevirtual 100, 3), (140, 14, 0)) := by decide +kernel
theorem xr_157_281 : X_row 157 281 = some (281, (.ifCond .eq 21, 3), (0, 0, 0)) := by decide +kernel
theorem xr_157_284 : X_row 157 284 = some (284, (.aload_n 0, 1), (0, 0, 0)) := by decide +kernel
theorem xr_157_285 : X_row 157 285 = some (285, (.bipush 61, 2), (0, 0, 0)) := by decide +kernel
theorem xr_157_287 : X_row 157 287 = some (287, (.invokevirtual 75, 3), (145, 26, 0)) := by decide +kernel
theorem xr_157_290 : X_row 157 290 = some (290, (.ifCond .eq 12, 3), (0, 0, 0)) := by decide +kernel
theorem xr_157_293 : X_row 157 293 = some (293, (.aload_n 0, 1), (0, 0, 0)) := by decide +kernel
theorem xr_157_294 : X_row 157 294 = some (294, (.invokevirtual 78, 3), (141, 0, 0)) := by decide +kernel
theorem xr_157_297 : X_row 157 297 = some (297, (.aload_n 0, 1), (0, 0, 0)) := by decide +kernel
theorem xr_157_298 : X_row 157 298 = some (298, (.iload_n 1, 1), (0, 0, 0)) := by decide +kernel
theorem xr_157_299 : X_row 157 299 = some (299, (.invokevirtual 165, 3), (159, 48, 0)) := by decide +kernel
theorem xr_157_302 : X_row 157 302 = some (302, (.aload_n 0, 1), (0, 0, 0)) := by decide +kernel
theorem xr_157_303 : X_row 157 303 = some (303, (.dup, 1), (0, 0, 0)) := by decide +kernel
theorem xr_157_304 : X_row 157 304 = some (304, (.getfield 138, 3), (11, 30, 60)) := by decide +kernel
theorem xr_157_307 : X_row 157 307 = some (307, (.iconst 1, 1), (0, 0, 0)) := by decide +kernel
theorem xr_157_308 : X_row 157 308 = some (308, (.iadd, 1), (0, 0, 0)) := by decide +kernel
theorem xr_157_309 : X_row 157 309 = some (309, (.putfield 138, 3), (11, 30, 60)) := by decide +kernel
theorem xr_157_312 : X_row 157 312 = some (312, (.aload_n 0, 1), (0, 0, 0)) := by decide +kernel
theorem xr_157_313 : X_row 157 313 = some (313, (.invokevirtual 100, 3), (140, 14, 0)) := by decide +kernel
theorem xr_157_316 : X_row 157 316 = some (316, (.ifCond .eq 9, 3), (0, 0, 0)) := by decide +kernel
theorem xr_157_319 : X_row 157 319 = some (319, (.aload_n 0, 1), (0, 0, 0)) := by decide +kernel
theorem xr_157_320 : X_row 157 320 = some (320, (.bipush 59, 2), (0, 0, 0)) := by decide +kernel
theorem xr_157_322 : X_row 157 322 = some (322, (.invokevirtual 115, 3), (148, 24, 0)) := by decide +kernel
theorem xr_157_325 : X_row 157 325 = some (325, (.return_, 1), (0, 0, 0)) := by decide +kernel
theorem xn_157 : X_nL 157 = 4 := by decide +kernel
theorem xf_157 : X_na 157 = 0 ∧ X_ci 157 = 11 ∧ X_rt 157 = none := by decide +kernel
theorem sp_e1_ok {n : Int} {so : Int → Int} {ct : Int → Int64} {kn : Int → Int64} {kc c : Int} {d : Nat → Int → Int} {q : Int → Int64} {c2 : Int} {d2 : Nat → Int → Int} {q2 : Int → Int64} (hkc : 1 ≤ kc) (hcr : 0 ≤ c ∧ c < n) (hct : so c = 6 → ¬ ct c = 0) (h : sp_e1 n so ct kn kc c d q = some (c2, d2, q2)) (ho : X_eok kc d q) (h4 : d 4 0 ≤ 4) :
    X_eok kc d2 q2 ∧ (∀ f, f ≠ 3 → f ≠ 4 → f ≠ 8 → f ≠ 9 → d2 f = d f) ∧ d2 4 0 ≤ 4 ∧ d2 3 0 = d 3 0 + 1 ∧ d 3 0 < 8 ∧ (0 ≤ c2 ∧ c2 < n) ∧ ((so c = 6 ∧ d2 4 0 = d 4 0) ∨ (so c = 95 ∧ d2 4 0 = d 4 0 + 1)) := by
  have keyP : ∀ f, f ≠ 3 → X_aP d f = d f := fun f f1 => by unfold X_aP X_wu; rw [if_neg f1]
  have key : ∀ kk, (∀ f, f ≠ 3 → f ≠ 4 → f ≠ 8 → f ≠ 9 → X_aH d kk f = d f) := fun kk f f1 f2 f3 f4 => by
    unfold X_aH X_wu
    rw [if_neg f2, if_neg f1, if_neg f4, if_neg f3]
  unfold sp_e1 at h
  split at h
  · rename_i h6
    cases h
    exact ⟨X_eok_P ho h6.2 (hct h6.1), fun f f1 _ _ _ => keyP f f1, h4, rfl, h6.2, X_av_r hcr, Or.inl ⟨h6.1, rfl⟩⟩
  · split at h
    · rename_i h6
      split at h
      · split at h
        · cases h
        · have hr := X_ix_r (g := kn) (n := kc) (x := ct (X_av n c)) (by omega)
          cases h
          exact ⟨X_eok_H ho h6.2.1 (by omega), key _, (show d 4 0 + 1 ≤ 4 by have := h6.2.2.1; omega), rfl, h6.2.1, X_av_r (X_av_r hcr), Or.inr ⟨h6.1, rfl⟩⟩
      · cases h
        exact ⟨X_eok_H ho h6.2.1 (by omega), key _, (show d 4 0 + 1 ≤ 4 by have := h6.2.2.1; omega), rfl, h6.2.1, X_av_r hcr, Or.inr ⟨h6.1, rfl⟩⟩
    · cases h
theorem X_eok.le {kc : Int} {d : Nat → Int → Int} {q : Int → Int64} (h : X_eok kc d q) : 0 ≤ d 4 0 ∧ d 4 0 ≤ d 3 0 := by
  obtain ⟨⟨a1, a2⟩, a3, -, -⟩ := h
  rw [a3]
  exact X_hn_b a1
/-- a word of the reference -/
def R_w (x : Int) (d : Nat → Int → Int) (q : Int → Int64) (wR wL wK wM wH wS sO sN : Int → Int) (eP : Int → Int64) (eH hK : Int → Int) : Prop := wR x = d 0 0 ∧ wL x = d 1 0 ∧ wK x = d 2 0 ∧ R_e x d q wM wH eP eH hK ∧ R_s x d wS sO sN
theorem R_e.cg {x : Int} {d d' : Nat → Int → Int} {q : Int → Int64} {wM wH : Int → Int} {eP : Int → Int64} {eH hK : Int → Int} (h : R_e x d q wM wH eP eH hK) (h3 : d' 3 = d 3) (h4 : d' 4 = d 4) (h8 : d' 8 = d 8) (h9 : d' 9 = d 9) : R_e x d' q wM wH eP eH hK := by
  unfold R_e at h ⊢
  rw [h3, h4, h8, h9]
  exact h
theorem R_w.fr {x y : Int} {d : Nat → Int → Int} {q : Int → Int64} {wR wL wK wM wH wS sO sN wR' wL' wK' wM' wH' wS' sO' sN' : Int → Int} {eP eP' : Int → Int64} {eH hK eH' hK' : Int → Int} (hxy : ¬ x = y) (hd : d 3 0 ≤ 8 ∧ d 4 0 ≤ 4 ∧ d 5 0 ≤ 30)
    (h : R_w x d q wR wL wK wM wH wS sO sN eP eH hK) (o1 : R_ob 1 y wR wR') (o2 : R_ob 1 y wL wL') (o3 : R_ob 1 y wK wK') (o4 : R_ob 1 y wM wM') (o5 : R_ob 1 y wH wH') (o6 : R_ob 1 y wS wS') (o7 : R_ob 30 y sO sO') (o8 : R_ob 30 y sN sN') (o9 : R_ob 8 y eP eP') (o10 : R_ob 8 y eH eH') (o11 : R_ob 4 y hK hK') : R_w x d q wR' wL' wK' wM' wH' wS' sO' sN' eP' eH' hK' := by
  obtain ⟨a1, a2, a3, ⟨b1, b2, b3, b4⟩, ⟨c1, c2⟩⟩ := h
  have k1 : ∀ z : Int, z = x → ¬ (1 * y ≤ z ∧ z < 1 * y + 1) := fun z hz => by omega
  refine ⟨(o1 _ (k1 _ rfl)).trans a1, (o2 _ (k1 _ rfl)).trans a2, (o3 _ (k1 _ rfl)).trans a3, ⟨(o4 _ (k1 _ rfl)).trans b1, (o5 _ (k1 _ rfl)).trans b2, fun e g1 g2 => ?_, fun h g1 g2 => ?_⟩, ⟨(o6 _ (k1 _ rfl)).trans c1, fun k g1 g2 => ?_⟩⟩
  · rw [o9 _ (by omega), o10 _ (by omega)]; exact b3 e g1 g2
  · rw [o11 _ (by omega)]; exact b4 h g1 g2
  · rw [o7 _ (by omega), o8 _ (by omega)]; exact c2 k g1 g2
theorem sp_sl_steps {n : Int} {so : Int → Int} {ct : Int → Int64} {c : Int} {d : Nat → Int → Int} {r : Option (Int × (Nat → Int → Int) × Int)} (h : sp_sl n so ct 30 (X_av n c) (X_wu d 5 (fun _ => 0)) 0 = r) : sp_steps n so ct c d = r.bind fun r => if so r.1 = 59 then (if r.2.2 = 1 then some (X_av n r.1, r.2.1) else none) else none := by
  unfold sp_steps
  rw [h]

theorem R_ob.tr {α : Type} {m b : Int} {g g1 g2 : Int → α} (h1 : R_ob m b g g1) (h2 : R_ob m b g1 g2) : R_ob m b g g2 := fun i hi => (h2 i hi).trans (h1 i hi)
set_option maxHeartbeats 16000000 in
theorem r_rwC (sc : X_Sc) (S : X_S) (o : Nat → Int) (nm : Int64) (tx : Int → Int) (kN : Int → Int64) (wR : Int → Int) (wL : Int → Int) (wK : Int → Int) (wM : Int → Int) (wH : Int → Int) (wS : Int → Int) (sO : Int → Int) (sN : Int → Int) (eP : Int → Int64) (eH : Int → Int) (hK : Int → Int) (tb : Int → Int) (len : Int) (n : Int) (so : Int → Int) (pl : Int → Int) (ct : Int → Int64) (E : Int → Int) (c : Int) (kn : Int → Int64) (kc : Int) (wc : Int) (wi : Int) (d : Nat → Int → Int) (q : Int → Int64) (col : Int) (hM : M_o S o nm) (hA532 : S.1 532 = .inl (.byte, 2000, .inl fun k : Nat => iI (tx (k : Int)))) (hA534 : S.1 534 = .inl (.long, 22, .inr (.inl fun k : Nat => kN (k : Int)))) (hA537 : S.1 537 = .inl (.int, 60, .inl fun k : Nat => iI (wR (k : Int)))) (hA538 : S.1 538 = .inl (.int, 60, .inl fun k : Nat => iI (wL (k : Int)))) (hA539 : S.1 539 = .inl (.int, 60, .inl fun k : Nat => iI (wK (k : Int)))) (hA540 : S.1 540 = .inl (.int, 60, .inl fun k : Nat => iI (wM (k : Int)))) (hA541 : S.1 541 = .inl (.int, 60, .inl fun k : Nat => iI (wH (k : Int)))) (hA542 : S.1 542 = .inl (.int, 60, .inl fun k : Nat => iI (wS (k : Int)))) (hA543 : S.1 543 = .inl (.int, 1800, .inl fun k : Nat => iI (sO (k : Int)))) (hA544 : S.1 544 = .inl (.int, 1800, .inl fun k : Nat => iI (sN (k : Int)))) (hA545 : S.1 545 = .inl (.long, 480, .inr (.inl fun k : Nat => eP (k : Int)))) (hA546 : S.1 546 = .inl (.int, 480, .inl fun k : Nat => iI (eH (k : Int)))) (hA547 : S.1 547 = .inl (.int, 240, .inl fun k : Nat => iI (hK (k : Int)))) (hlen : o 3 = len) (hl : 0 ≤ len ∧ len ≤ 2000) (htx : ∀ k, 0 ≤ k → k < len → tx k = tb k) (hX : X_TxE tb len n so pl ct E) (hT : R_tk n so pl ct E c (o 7) (o 8) (o 9) (o 10) (o 11) nm) (h5 : o 5 = 0) (hkc : o 29 = kc) (hwc : o 30 = wc) (hcr : 1 ≤ kc ∧ kc ≤ 11) (hb : 0 ≤ o 4 ∧ o 4 ≤ 1) (hN : ∀ i, 0 ≤ i → i < kc → kN (11 * o 4 + i) = kn i) (hw : 0 ≤ wi ∧ wi < 60 ∧ 0 ≤ wc ∧ wc < 30) (hW : R_w wi d q wR wL wK wM wH wS sO sN eP eH hK) (hd3 : d 3 0 = 0 ∧ d 4 0 = 0 ∧ d 5 0 = -1) (hd1 : 0 ≤ d 1 0 ∧ d 1 0 ≤ 2) (hct : ∀ i, 0 ≤ i → i < n → so i = 6 → ¬ ct i = 0) : X_T sc 157 (155, [(3, .int (iI (bI (False)))), (2, .int (iI col)), (1, .int (iI wi)), (0, .ref 530)], [], S) (fun v S' => (∃ (at1 : Int) (en1 : Int) (tk1 : Int) (nu1 : Int) (dg1 : Int) (nm1 : Int64) (g1 : Int) (c2 : Int) (d2 : Nat → Int → Int) (q2 : Int → Int64) (wR1 : Int → Int) (wL1 : Int → Int) (wK1 : Int → Int) (wM1 : Int → Int) (wH1 : Int → Int) (wS1 : Int → Int) (sO1 : Int → Int) (sN1 : Int → Int) (eP1 : Int → Int64) (eH1 : Int → Int) (hK1 : Int → Int), v = none ∧ R_tk n so pl ct E c2 at1 en1 tk1 nu1 dg1 nm1 ∧ ((sp_el n so ct kn kc 9 c d q).bind fun r => sp_we n so ct r.1 r.2.1 r.2.2) = some (c2, d2, q2) ∧ R_w wi d2 q2 wR1 wL1 wK1 wM1 wH1 wS1 sO1 sN1 eP1 eH1 hK1 ∧ R_ob 1 wi wR wR1 ∧ R_ob 1 wi wL wL1 ∧ R_ob 1 wi wK wK1 ∧ R_ob 1 wi wM wM1 ∧ R_ob 1 wi wH wH1 ∧ R_ob 1 wi wS wS1 ∧ R_ob 30 wi sO sO1 ∧ R_ob 30 wi sN sN1 ∧ R_ob 8 wi eP eP1 ∧ R_ob 8 wi eH eH1 ∧ R_ob 4 wi hK hK1 ∧ M_o S' (X_ou (X_ou (X_ou (X_ou (X_ou (X_ou (X_ou o 7 at1) 8 en1) 9 tk1) 10 nu1) 11 dg1) 6 g1) 30 (wc + 1)) nm1 ∧ S'.1 537 = .inl (.int, 60, .inl fun k : Nat => iI (wR1 (k : Int))) ∧ S'.1 538 = .inl (.int, 60, .inl fun k : Nat => iI (wL1 (k : Int))) ∧ S'.1 539 = .inl (.int, 60, .inl fun k : Nat => iI (wK1 (k : Int))) ∧ S'.1 540 = .inl (.int, 60, .inl fun k : Nat => iI (wM1 (k : Int))) ∧ S'.1 541 = .inl (.int, 60, .inl fun k : Nat => iI (wH1 (k : Int))) ∧ S'.1 542 = .inl (.int, 60, .inl fun k : Nat => iI (wS1 (k : Int))) ∧ S'.1 543 = .inl (.int, 1800, .inl fun k : Nat => iI (sO1 (k : Int))) ∧ S'.1 544 = .inl (.int, 1800, .inl fun k : Nat => iI (sN1 (k : Int))) ∧ S'.1 545 = .inl (.long, 480, .inr (.inl fun k : Nat => eP1 (k : Int))) ∧ S'.1 546 = .inl (.int, 480, .inl fun k : Nat => iI (eH1 (k : Int))) ∧ S'.1 547 = .inl (.int, 240, .inl fun k : Nat => iI (hK1 (k : Int))) ∧ (X_Fr (fun q => q = 530 ∨ q = 537 ∨ q = 538 ∨ q = 539 ∨ q = 540 ∨ q = 541 ∨ q = 542 ∨ q = 543 ∨ q = 544 ∨ q = 545 ∨ q = 546 ∨ q = 547) S S')) ∨ (∃ (at1 : Int) (en1 : Int) (tk1 : Int) (nu1 : Int) (dg1 : Int) (nm1 : Int64) (wc1 : Int) (f1 : Int) (g1 : Int) (wR1 : Int → Int) (wL1 : Int → Int) (wK1 : Int → Int) (wM1 : Int → Int) (wH1 : Int → Int) (wS1 : Int → Int) (sO1 : Int → Int) (sN1 : Int → Int) (eP1 : Int → Int64) (eH1 : Int → Int) (hK1 : Int → Int), v = none ∧ (1 ≤ f1 ∧ f1 ≤ 5) ∧ ((sp_el n so ct kn kc 9 c d q).bind fun r => sp_we n so ct r.1 r.2.1 r.2.2) = none ∧ R_ob 1 wi wR wR1 ∧ R_ob 1 wi wL wL1 ∧ R_ob 1 wi wK wK1 ∧ R_ob 1 wi wM wM1 ∧ R_ob 1 wi wH wH1 ∧ R_ob 1 wi wS wS1 ∧ R_ob 30 wi sO sO1 ∧ R_ob 30 wi sN sN1 ∧ R_ob 8 wi eP eP1 ∧ R_ob 8 wi eH eH1 ∧ R_ob 4 wi hK hK1 ∧ M_o S' (X_ou (X_ou (X_ou (X_ou (X_ou (X_ou (X_ou (X_ou o 7 at1) 8 en1) 9 tk1) 10 nu1) 11 dg1) 5 f1) 6 g1) 30 wc1) nm1 ∧ S'.1 537 = .inl (.int, 60, .inl fun k : Nat => iI (wR1 (k : Int))) ∧ S'.1 538 = .inl (.int, 60, .inl fun k : Nat => iI (wL1 (k : Int))) ∧ S'.1 539 = .inl (.int, 60, .inl fun k : Nat => iI (wK1 (k : Int))) ∧ S'.1 540 = .inl (.int, 60, .inl fun k : Nat => iI (wM1 (k : Int))) ∧ S'.1 541 = .inl (.int, 60, .inl fun k : Nat => iI (wH1 (k : Int))) ∧ S'.1 542 = .inl (.int, 60, .inl fun k : Nat => iI (wS1 (k : Int))) ∧ S'.1 543 = .inl (.int, 1800, .inl fun k : Nat => iI (sO1 (k : Int))) ∧ S'.1 544 = .inl (.int, 1800, .inl fun k : Nat => iI (sN1 (k : Int))) ∧ S'.1 545 = .inl (.long, 480, .inr (.inl fun k : Nat => eP1 (k : Int))) ∧ S'.1 546 = .inl (.int, 480, .inl fun k : Nat => iI (eH1 (k : Int))) ∧ S'.1 547 = .inl (.int, 240, .inl fun k : Nat => iI (hK1 (k : Int))) ∧ (X_Fr (fun q => q = 530 ∨ q = 537 ∨ q = 538 ∨ q = 539 ∨ q = 540 ∨ q = 541 ∨ q = 542 ∨ q = 543 ∨ q = 544 ∨ q = 545 ∨ q = 546 ∨ q = 547) S S'))) := by
  obtain ⟨⟨hc0, hcn⟩, ⟨hs0, hs1⟩, hk0, ⟨ha0, ha1⟩, hk0e, ⟨_, _⟩, ⟨_, _⟩⟩ := R_tk_f hX hT
  have hn2 := hX.2.1
  refine X_QI (fun Q hQ => ?_)
  have L2665 : ∀ (m2667 : Nat) (S2670 : X_S) (part : Prop) (f1 : Int) (g1 : Int) (at1 : Int) (en1 : Int) (tk1 : Int) (nu1 : Int) (dg1 : Int) (nm1 : Int64) (c1 : Int) (d1 : Nat → Int → Int) (q1 : Int → Int64) (wM1 : Int → Int) (wH1 : Int → Int) (eP1 : Int → Int64) (eH1 : Int → Int) (hK1 : Int → Int) (hM1 : S2670.1 530 = .inr (11, [.ref 531, .int (iI (o 1)), .ref 532, .int (iI (o 3)), .int (iI (o 4)), .int (iI f1), .int (iI g1), .int (iI at1), .int (iI en1), .int (iI tk1), .int (iI nu1), .int (iI dg1), .long nm1, .ref 533, .ref 534, .ref 535, .ref 536, .ref 537, .ref 538, .ref 539, .ref 540, .ref 541, .ref 542, .ref 543, .ref 544, .ref 545, .ref 546, .ref 547, .int (iI (o 28)), .int (iI (o 29)), .int (iI (o 30)), .int (iI (o 31)), .int (iI (o 32)), .int (iI (o 33)), .ref 548, .ref 549, .ref 550, .ref 551, .int (iI (o 38)), .ref 552, .ref 553, .ref 554, .ref 555, .ref 556, .ref 557, .ref 558, .ref 559, .ref 560, .ref 561, .int (iI (o 49)), .ref 562, .ref 563, .ref 564, .ref 565, .ref 566, .ref 567, .ref 568, .ref 569, .int (iI (o 58)), .ref 570, .ref 571, .ref 572, .ref 573, .ref 574, .ref 575, .ref 576, .ref 577, .ref 578, .int (iI (o 68)), .int (iI (o 69)), .int (iI (o 70)), .ref 579])) (hA1 : S2670.1 540 = .inl (.int, 60, .inl fun k : Nat => iI (wM1 (k : Int)))) (hA2 : S2670.1 541 = .inl (.int, 60, .inl fun k : Nat => iI (wH1 (k : Int)))) (hA3 : S2670.1 545 = .inl (.long, 480, .inr (.inl fun k : Nat => eP1 (k : Int)))) (hA4 : S2670.1 546 = .inl (.int, 480, .inl fun k : Nat => iI (eH1 (k : Int)))) (hA5 : S2670.1 547 = .inl (.int, 240, .inl fun k : Nat => iI (hK1 (k : Int)))) (hF2669 : X_Fr (fun q => q = 530 ∨ q = 540 ∨ q = 541 ∨ q = 545 ∨ q = 546 ∨ q = 547) S S2670) (hf1 : 0 ≤ f1 ∧ f1 ≤ 5) (hgd : f1 = 0 → R_tk n so pl ct E c1 at1 en1 tk1 nu1 dg1 nm1 ∧ R_e wi d1 q1 wM1 wH1 eP1 eH1 hK1 ∧ sp_el n so ct kn kc (9 - d1 3 0).toNat c1 d1 q1 = sp_el n so ct kn kc 9 c d q ∧ X_eok kc d1 q1 ∧ d1 4 0 ≤ 4 ∧ (∀ f, f ≠ 3 → f ≠ 4 → f ≠ 8 → f ≠ 9 → d1 f = d f)) (hbd : ¬ f1 = 0 → sp_el n so ct kn kc 9 c d q = none) (hob4 : R_ob 1 wi wM wM1) (hob5 : R_ob 1 wi wH wH1) (hob9 : R_ob 8 wi eP eP1) (hob10 : R_ob 8 wi eH eH1) (hob11 : R_ob 4 wi hK hK1) (hpt : f1 = 0 → (part ↔ ¬ d1 4 0 = d1 3 0)) (hm2668 : (if f1 = 0 then ((10 - d1 3 0).toNat : Int) else 0) < m2667), X_T sc 157 (155, [(3, .int (iI (bI (part)))), (1, .int (iI wi)), (2, .int (iI col)), (0, .ref 530)], [], S2670) Q := by
    intro m2667
    induction m2667 with
    | zero =>
      intro S2670 part f1 g1 at1 en1 tk1 nu1 dg1 nm1 c1 d1 q1 wM1 wH1 eP1 eH1 hK1 hM1 hA1 hA2 hA3 hA4 hA5 hF2669 hf1 hgd hbd hob4 hob5 hob9 hob10 hob11 hpt hm2668
      exact (show False by omega).elim
    | succ m2667 ih2666 =>
      intro S2670 part f1 g1 at1 en1 tk1 nu1 dg1 nm1 c1 d1 q1 wM1 wH1 eP1 eH1 hK1 hM1 hA1 hA2 hA3 hA4 hA5 hF2669 hf1 hgd hbd hob4 hob5 hob9 hob10 hob11 hpt hm2668
      refine T_p xr_157_155 xn_157 (pc' := 156) (ls' := [(3, .int (iI (bI (part)))), (1, .int (iI wi)), (2, .int (iI col)), (0, .ref 530)]) (st' := [.ref 530]) rfl ?_
      refine T_cv (S := S2670) (q := 530) xr_157_156 xf_140.1 xf_140.2.1 xn_140 (as := []) (r := []) rfl hM1 (Nat.le_of_ble_eq_true rfl) (Nat.le_of_ble_eq_true rfl) (pc' := 159) rfl (ls' := [(0, .ref 530)]) rfl ?_
      refine T_mono (r_isGood sc S2670 (X_ou (X_ou (X_ou (X_ou (X_ou (X_ou (X_ou o 5 f1) 6 g1) 7 at1) 8 en1) 9 tk1) 10 nu1) 11 dg1) nm1 hM1 (show 0 ≤ f1 ∧ f1 ≤ 5 from by omega)) (fun v2671 S2672 h2673 => ?_)
      rcases h2673 with ⟨hv2674, hf2675⟩
      rw [hv2674]
      rw [hf2675]
      show X_T sc 157 (159, [(3, .int (iI (bI (part)))), (1, .int (iI wi)), (2, .int (iI col)), (0, .ref 530)], [.int (iI (bI (f1 = 0)))], S2670) _
      refine T_bif_eq xr_157_159 (t := 205) (pc' := 162) rfl rfl (fun c2676 => ?_) (fun c2676 => ?_)
      · skip
        have c2676 : ¬ (f1 = 0) := c2676
        refine T_p xr_157_205 xn_157 (pc' := 206) (ls' := [(3, .int (iI (bI (part)))), (1, .int (iI wi)), (2, .int (iI col)), (0, .ref 530)]) (st' := [.ref 530]) rfl ?_
        refine T_cv (S := S2670) (q := 530) xr_157_206 xf_140.1 xf_140.2.1 xn_140 (as := []) (r := []) rfl hM1 (Nat.le_of_ble_eq_true rfl) (Nat.le_of_ble_eq_true rfl) (pc' := 209) rfl (ls' := [(0, .ref 530)]) rfl ?_
        refine T_mono (r_isGood sc S2670 (X_ou (X_ou (X_ou (X_ou (X_ou (X_ou (X_ou o 5 f1) 6 g1) 7 at1) 8 en1) 9 tk1) 10 nu1) 11 dg1) nm1 hM1 (show 0 ≤ f1 ∧ f1 ≤ 5 from by omega)) (fun v2677 S2678 h2679 => ?_)
        rcases h2679 with ⟨hv2680, hf2681⟩
        rw [hv2680]
        rw [hf2681]
        show X_T sc 157 (209, [(3, .int (iI (bI (part)))), (1, .int (iI wi)), (2, .int (iI col)), (0, .ref 530)], [.int (iI (bI (f1 = 0)))], S2670) _
        refine T_bif_eq xr_157_209 (t := 247) (pc' := 212) rfl rfl (fun c2682 => ?_) (fun c2682 => ?_)
        · skip
          have c2682 : ¬ (f1 = 0) := c2682
          refine T_p xr_157_247 xn_157 (pc' := 248) (ls' := [(3, .int (iI (bI (part)))), (1, .int (iI wi)), (2, .int (iI col)), (0, .ref 530)]) (st' := [.ref 530]) rfl ?_
          refine T_cv (S := S2670) (q := 530) xr_157_248 xf_140.1 xf_140.2.1 xn_140 (as := []) (r := []) rfl hM1 (Nat.le_of_ble_eq_true rfl) (Nat.le_of_ble_eq_true rfl) (pc' := 251) rfl (ls' := [(0, .ref 530)]) rfl ?_
          refine T_mono (r_isGood sc S2670 (X_ou (X_ou (X_ou (X_ou (X_ou (X_ou (X_ou o 5 f1) 6 g1) 7 at1) 8 en1) 9 tk1) 10 nu1) 11 dg1) nm1 hM1 (show 0 ≤ f1 ∧ f1 ≤ 5 from by omega)) (fun v2683 S2684 h2685 => ?_)
          rcases h2685 with ⟨hv2686, hf2687⟩
          rw [hv2686]
          rw [hf2687]
          show X_T sc 157 (251, [(3, .int (iI (bI (part)))), (1, .int (iI wi)), (2, .int (iI col)), (0, .ref 530)], [.int (iI (bI (f1 = 0)))], S2670) _
          refine T_bif_eq xr_157_251 (t := 277) (pc' := 254) rfl rfl (fun c2688 => ?_) (fun c2688 => ?_)
          · skip
            have c2688 : ¬ (f1 = 0) := c2688
            refine T_p xr_157_277 xn_157 (pc' := 278) (ls' := [(3, .int (iI (bI (part)))), (1, .int (iI wi)), (2, .int (iI col)), (0, .ref 530)]) (st' := [.ref 530]) rfl ?_
            refine T_cv (S := S2670) (q := 530) xr_157_278 xf_140.1 xf_140.2.1 xn_140 (as := []) (r := []) rfl hM1 (Nat.le_of_ble_eq_true rfl) (Nat.le_of_ble_eq_true rfl) (pc' := 281) rfl (ls' := [(0, .ref 530)]) rfl ?_
            refine T_mono (r_isGood sc S2670 (X_ou (X_ou (X_ou (X_ou (X_ou (X_ou (X_ou o 5 f1) 6 g1) 7 at1) 8 en1) 9 tk1) 10 nu1) 11 dg1) nm1 hM1 (show 0 ≤ f1 ∧ f1 ≤ 5 from by omega)) (fun v2689 S2690 h2691 => ?_)
            rcases h2691 with ⟨hv2692, hf2693⟩
            rw [hv2692]
            rw [hf2693]
            show X_T sc 157 (281, [(3, .int (iI (bI (part)))), (1, .int (iI wi)), (2, .int (iI col)), (0, .ref 530)], [.int (iI (bI (f1 = 0)))], S2670) _
            refine T_bif_eq xr_157_281 (t := 302) (pc' := 284) rfl rfl (fun c2694 => ?_) (fun c2694 => ?_)
            · skip
              have c2694 : ¬ (f1 = 0) := c2694
              refine T_p xr_157_302 xn_157 (pc' := 303) (ls' := [(3, .int (iI (bI (part)))), (1, .int (iI wi)), (2, .int (iI col)), (0, .ref 530)]) (st' := [.ref 530]) rfl ?_
              refine T_p xr_157_303 xn_157 (pc' := 304) (ls' := [(3, .int (iI (bI (part)))), (1, .int (iI wi)), (2, .int (iI col)), (0, .ref 530)]) (st' := [.ref 530, .ref 530]) rfl ?_
              refine T_get xr_157_304 hM1 rfl (v := .int (iI (o 30))) rfl (pc' := 307) rfl ?_
              refine T_p xr_157_307 xn_157 (pc' := 308) (ls' := [(3, .int (iI (bI (part)))), (1, .int (iI wi)), (2, .int (iI col)), (0, .ref 530)]) (st' := [.int (iI 1), .int (iI (o 30)), .ref 530]) rfl ?_
              refine T_ziadd xr_157_308 (z := (o 30) + 1) rfl (pc' := 309) rfl ?_
              refine T_ie (y := iI (wc + 1)) (by rw [hwc]) ?_
              refine T_put xr_157_309 hM1 rfl (Nat.le_of_ble_eq_true rfl) rfl (fs' := [.ref 531, .int (iI (o 1)), .ref 532, .int (iI (o 3)), .int (iI (o 4)), .int (iI f1), .int (iI g1), .int (iI at1), .int (iI en1), .int (iI tk1), .int (iI nu1), .int (iI dg1), .long nm1, .ref 533, .ref 534, .ref 535, .ref 536, .ref 537, .ref 538, .ref 539, .ref 540, .ref 541, .ref 542, .ref 543, .ref 544, .ref 545, .ref 546, .ref 547, .int (iI (o 28)), .int (iI (o 29)), .int (iI (wc + 1)), .int (iI (o 31)), .int (iI (o 32)), .int (iI (o 33)), .ref 548, .ref 549, .ref 550, .ref 551, .int (iI (o 38)), .ref 552, .ref 553, .ref 554, .ref 555, .ref 556, .ref 557, .ref 558, .ref 559, .ref 560, .ref 561, .int (iI (o 49)), .ref 562, .ref 563, .ref 564, .ref 565, .ref 566, .ref 567, .ref 568, .ref 569, .int (iI (o 58)), .ref 570, .ref 571, .ref 572, .ref 573, .ref 574, .ref 575, .ref 576, .ref 577, .ref 578, .int (iI (o 68)), .int (iI (o 69)), .int (iI (o 70)), .ref 579]) rfl (pc' := 312) rfl (fun S2695 h2696 n2697 e2698 => ?_)
              refine T_p xr_157_312 xn_157 (pc' := 313) (ls' := [(3, .int (iI (bI (part)))), (1, .int (iI wi)), (2, .int (iI col)), (0, .ref 530)]) (st' := [.ref 530]) rfl ?_
              refine T_cv (S := S2695) (q := 530) xr_157_313 xf_140.1 xf_140.2.1 xn_140 (as := []) (r := []) rfl h2696 (Nat.le_of_ble_eq_true rfl) (Nat.le_of_ble_eq_true rfl) (pc' := 316) rfl (ls' := [(0, .ref 530)]) rfl ?_
              refine T_mono (r_isGood sc S2695 (X_ou (X_ou (X_ou (X_ou (X_ou (X_ou (X_ou (X_ou o 5 f1) 6 g1) 7 at1) 8 en1) 9 tk1) 10 nu1) 11 dg1) 30 (wc + 1)) nm1 h2696 (show 0 ≤ f1 ∧ f1 ≤ 5 from by omega)) (fun v2699 S2700 h2701 => ?_)
              rcases h2701 with ⟨hv2702, hf2703⟩
              rw [hv2702]
              rw [hf2703]
              show X_T sc 157 (316, [(3, .int (iI (bI (part)))), (1, .int (iI wi)), (2, .int (iI col)), (0, .ref 530)], [.int (iI (bI (f1 = 0)))], S2695) _
              refine T_bif_eq xr_157_316 (t := 325) (pc' := 319) rfl rfl (fun c2704 => ?_) (fun c2704 => ?_)
              · skip
                have c2704 : ¬ (f1 = 0) := c2704
                refine T_vret xr_157_325 xf_157.2.2 ?_
                refine hQ _ _ ?_
                have h2705 := (n2697 537 (by decide)).trans ((hF2669.1 537 (by omega)).trans (hA537))
                have h2706 := (n2697 538 (by decide)).trans ((hF2669.1 538 (by omega)).trans (hA538))
                have h2707 := (n2697 539 (by decide)).trans ((hF2669.1 539 (by omega)).trans (hA539))
                have h2708 := (n2697 540 (by decide)).trans (hA1)
                have h2709 := (n2697 541 (by decide)).trans (hA2)
                have h2710 := (n2697 542 (by decide)).trans ((hF2669.1 542 (by omega)).trans (hA542))
                have h2711 := (n2697 543 (by decide)).trans ((hF2669.1 543 (by omega)).trans (hA543))
                have h2712 := (n2697 544 (by decide)).trans ((hF2669.1 544 (by omega)).trans (hA544))
                have h2713 := (n2697 545 (by decide)).trans (hA3)
                have h2714 := (n2697 546 (by decide)).trans (hA4)
                have h2715 := (n2697 547 (by decide)).trans (hA5)
                refine Or.inr ⟨at1, en1, tk1, nu1, dg1, nm1, wc + 1, f1, g1, wR, wL, wK, wM1, wH1, wS, sO, sN, eP1, eH1, hK1, rfl, by omega, ?_, R_ob.rf, R_ob.rf, R_ob.rf, by exact hob4, by exact hob5, R_ob.rf, R_ob.rf, R_ob.rf, by exact hob9, by exact hob10, by exact hob11, h2696, h2705, h2706, h2707, h2708, h2709, h2710, h2711, h2712, h2713, h2714, h2715, ((X_Fr.rf).tr (X_Fr.mono ⟨hF2669.1, hF2669.2⟩ (fun q hq => (by omega)))).tr (X_Fr.of n2697 e2698 (by omega))⟩
                rw [hbd (by omega)]
                rfl
              · skip
                have c2704 : (f1 = 0) := c2704
                exact (show False by first | contradiction | omega).elim
            · skip
              have c2694 : (f1 = 0) := c2694
              exact (show False by first | contradiction | omega).elim
          · skip
            have c2688 : (f1 = 0) := c2688
            exact (show False by first | contradiction | omega).elim
        · skip
          have c2682 : (f1 = 0) := c2682
          exact (show False by first | contradiction | omega).elim
      · skip
        have c2676 : (f1 = 0) := c2676
        obtain rfl : f1 = 0 := by omega
        obtain ⟨hT1, hE1, hR, hok, hd14, hfd⟩ := hgd rfl
        obtain ⟨⟨_, _⟩, ⟨_, _⟩, hk1, ⟨_, _⟩, hk1e, ⟨_, _⟩, ⟨_, _⟩⟩ := R_tk_f hX hT1
        have hok3 := hok.1
        have hok4 := hok.le
        have hM2716 : S2670.1 530 = .inr (11, [.ref 531, .int (iI (o 1)), .ref 532, .int (iI (o 3)), .int (iI (o 4)), .int (iI (o 5)), .int (iI g1), .int (iI at1), .int (iI en1), .int (iI tk1), .int (iI nu1), .int (iI dg1), .long nm1, .ref 533, .ref 534, .ref 535, .ref 536, .ref 537, .ref 538, .ref 539, .ref 540, .ref 541, .ref 542, .ref 543, .ref 544, .ref 545, .ref 546, .ref 547, .int (iI (o 28)), .int (iI (o 29)), .int (iI (o 30)), .int (iI (o 31)), .int (iI (o 32)), .int (iI (o 33)), .ref 548, .ref 549, .ref 550, .ref 551, .int (iI (o 38)), .ref 552, .ref 553, .ref 554, .ref 555, .ref 556, .ref 557, .ref 558, .ref 559, .ref 560, .ref 561, .int (iI (o 49)), .ref 562, .ref 563, .ref 564, .ref 565, .ref 566, .ref 567, .ref 568, .ref 569, .int (iI (o 58)), .ref 570, .ref 571, .ref 572, .ref 573, .ref 574, .ref 575, .ref 576, .ref 577, .ref 578, .int (iI (o 68)), .int (iI (o 69)), .int (iI (o 70)), .ref 579]) := by rw [h5]; exact hM1
        refine T_p xr_157_162 xn_157 (pc' := 163) (ls' := [(3, .int (iI (bI (part)))), (1, .int (iI wi)), (2, .int (iI col)), (0, .ref 530)]) (st' := [.ref 530]) rfl ?_
        refine T_get xr_157_163 hM2716 rfl (v := .int (iI tk1)) rfl (pc' := 166) rfl ?_
        refine T_p xr_157_166 xn_157 (pc' := 167) (ls' := [(3, .int (iI (bI (part)))), (1, .int (iI wi)), (2, .int (iI col)), (0, .ref 530)]) (st' := [.int (iI 5), .int (iI tk1)]) rfl ?_
        refine T_zicmp_eq xr_157_167 (t := 179) (pc' := 170) rfl rfl (fun c2717 => ?_) (fun c2717 => ?_)
        · skip
          have c2717 : tk1 = 5 := c2717
          refine T_p xr_157_179 xn_157 (pc' := 180) (ls' := [(3, .int (iI (bI (part)))), (1, .int (iI wi)), (2, .int (iI col)), (0, .ref 530)]) (st' := [.int (iI (bI (part)))]) rfl ?_
          refine T_bif_ne xr_157_180 (t := 191) (pc' := 183) rfl rfl (fun c2718 => ?_) (fun c2718 => ?_)
          · skip
            have c2718 : (part) := c2718
            refine T_p xr_157_191 xn_157 (pc' := 192) (ls' := [(3, .int (iI (bI (part)))), (1, .int (iI wi)), (2, .int (iI col)), (0, .ref 530)]) (st' := [.int (iI 1)]) rfl ?_
            refine T_p xr_157_192 xn_157 (pc' := 196) (ls' := [(3, .int (iI (bI (part)))), (1, .int (iI wi)), (2, .int (iI col)), (0, .ref 530)]) (st' := [.int (iI 1)]) rfl ?_
            refine T_ie (y := iI (bI (True))) (by rw [bI_t trivial]) ?_
            have hpx : ¬ d1 4 0 = d1 3 0 := (hpt rfl).mp (by assumption)
            refine T_p xr_157_196 xn_157 (pc' := 197) (ls' := [(3, .int (iI (bI (True)))), (1, .int (iI wi)), (2, .int (iI col)), (0, .ref 530)]) (st' := []) rfl ?_
            refine T_p xr_157_197 xn_157 (pc' := 198) (ls' := [(3, .int (iI (bI (True)))), (1, .int (iI wi)), (2, .int (iI col)), (0, .ref 530)]) (st' := [.ref 530]) rfl ?_
            refine T_p xr_157_198 xn_157 (pc' := 199) (ls' := [(3, .int (iI (bI (True)))), (1, .int (iI wi)), (2, .int (iI col)), (0, .ref 530)]) (st' := [.int (iI wi), .ref 530]) rfl ?_
            refine T_cv (S := S2670) (q := 530) xr_157_199 xf_158.1 xf_158.2.1 xn_158 (as := [.int (iI wi)]) (r := []) rfl hM2716 (Nat.le_of_ble_eq_true rfl) (Nat.le_of_ble_eq_true rfl) (pc' := 202) rfl (ls' := [(0, .ref 530), (1, .int (iI wi))]) rfl ?_
            have h2719 := (hF2669.1 532 (by omega)).trans (hA532)
            have h2720 := (hF2669.1 534 (by omega)).trans (hA534)
            refine T_mono (r_readElement sc S2670 (X_ou (X_ou (X_ou (X_ou (X_ou (X_ou o 6 g1) 7 at1) 8 en1) 9 tk1) 10 nu1) 11 dg1) nm1 tx kN wM1 wH1 eP1 eH1 hK1 tb len n so pl ct E c1 kn kc wi d1 q1 hM2716 h2719 h2720 hA1 hA2 hA3 hA4 hA5 (show (o 3) = len from by first | assumption | omega) hl htx hX hT1 (show (o 5) = 0 from by omega) (show (o 29) = kc from by omega) (by omega) (show 0 ≤ (o 4) ∧ (o 4) ≤ 1 from by omega) hN (by omega) hE1 (by omega) (by omega) (hct _ (by omega) (by omega))) (fun v2721 S2722 h2723 => ?_)
            rcases h2723 with ⟨at2724, en2725, tk2726, nu2727, dg2728, nm2729, c2730, d2731, q2732, wM2733, wH2734, eP2735, eH2736, hK2737, hv2738, hp2739, hp2740, hp2741, hp2742, hp2743, hp2744, hp2745, hp2746, hM2747, ha2748, ha2749, ha2750, ha2751, ha2752, hf2753⟩ | ⟨at2754, en2755, tk2756, nu2757, dg2758, nm2759, f2760, g2761, wM2762, wH2763, eP2764, eH2765, hK2766, hv2767, hp2768, hp2769, hp2770, hp2771, hp2772, hp2773, hp2774, hM2775, ha2776, ha2777, ha2778, ha2779, ha2780, hf2781⟩
            · skip
              rw [hv2738]
              have h2782 : S2722.1 530 = .inr (11, [.ref 531, .int (iI (o 1)), .ref 532, .int (iI (o 3)), .int (iI (o 4)), .int (iI (o 5)), .int (iI g1), .int (iI at2724), .int (iI en2725), .int (iI tk2726), .int (iI nu2727), .int (iI dg2728), .long nm2729, .ref 533, .ref 534, .ref 535, .ref 536, .ref 537, .ref 538, .ref 539, .ref 540, .ref 541, .ref 542, .ref 543, .ref 544, .ref 545, .ref 546, .ref 547, .int (iI (o 28)), .int (iI (o 29)), .int (iI (o 30)), .int (iI (o 31)), .int (iI (o 32)), .int (iI (o 33)), .ref 548, .ref 549, .ref 550, .ref 551, .int (iI (o 38)), .ref 552, .ref 553, .ref 554, .ref 555, .ref 556, .ref 557, .ref 558, .ref 559, .ref 560, .ref 561, .int (iI (o 49)), .ref 562, .ref 563, .ref 564, .ref 565, .ref 566, .ref 567, .ref 568, .ref 569, .int (iI (o 58)), .ref 570, .ref 571, .ref 572, .ref 573, .ref 574, .ref 575, .ref 576, .ref 577, .ref 578, .int (iI (o 68)), .int (iI (o 69)), .int (iI (o 70)), .ref 579]) := hM2747
              obtain ⟨⟨_, _⟩, ⟨_, _⟩, hk2783, ⟨_, _⟩, hk2783e, ⟨_, _⟩, ⟨_, _⟩⟩ := R_tk_f hX hp2739
              have he1 := sp_e1_ok hcr.1 ⟨by omega, by omega⟩ (hct _ (by omega) (by omega)) hp2740 hok hd14
              obtain ⟨he1a, he1b, he1c, he1d, he1e, he1f, he1g⟩ := he1
              show X_T sc 157 (202, [(3, .int (iI (bI (True)))), (1, .int (iI wi)), (2, .int (iI col)), (0, .ref 530)], [], S2722) _
              refine T_p xr_157_202 xn_157 (pc' := 155) (ls' := [(3, .int (iI (bI (True)))), (1, .int (iI wi)), (2, .int (iI col)), (0, .ref 530)]) (st' := []) rfl ?_
              exact ih2666 S2722 True (o 5) g1 at2724 en2725 tk2726 nu2727 dg2728 nm2729 c2730 d2731 q2732 wM2733 wH2734 eP2735 eH2736 hK2737 h2782 ha2748 ha2749 ha2750 ha2751 ha2752 (hF2669.tr ((X_Fr.rf).tr (X_Fr.mono ⟨hf2753.1, hf2753.2⟩ (fun q hq => (by omega))))) (by omega) (fun _ => ⟨hp2739, hp2741, (by
                    rw [← hR, show (9 - d1 3 0).toNat = (9 - (d1 3 0 + 1)).toNat + 1 by omega, sp_el_e1 _ (by omega) (by omega), hp2740, he1d]
                    rfl), he1a, he1c, fun f f1 f2 f3 f4 => (he1b f f1 f2 f3 f4).trans (hfd f f1 f2 f3 f4)⟩) (fun z => absurd h5 z) (hob4.tr hp2742) (hob5.tr hp2743) (hob9.tr hp2744) (hob10.tr hp2745) (hob11.tr hp2746) (fun _ => ⟨fun _ => by omega, fun _ => trivial⟩) (by omega)
            · skip
              rw [hv2767]
              have h2784 : S2722.1 530 = .inr (11, [.ref 531, .int (iI (o 1)), .ref 532, .int (iI (o 3)), .int (iI (o 4)), .int (iI f2760), .int (iI g2761), .int (iI at2754), .int (iI en2755), .int (iI tk2756), .int (iI nu2757), .int (iI dg2758), .long nm2759, .ref 533, .ref 534, .ref 535, .ref 536, .ref 537, .ref 538, .ref 539, .ref 540, .ref 541, .ref 542, .ref 543, .ref 544, .ref 545, .ref 546, .ref 547, .int (iI (o 28)), .int (iI (o 29)), .int (iI (o 30)), .int (iI (o 31)), .int (iI (o 32)), .int (iI (o 33)), .ref 548, .ref 549, .ref 550, .ref 551, .int (iI (o 38)), .ref 552, .ref 553, .ref 554, .ref 555, .ref 556, .ref 557, .ref 558, .ref 559, .ref 560, .ref 561, .int (iI (o 49)), .ref 562, .ref 563, .ref 564, .ref 565, .ref 566, .ref 567, .ref 568, .ref 569, .int (iI (o 58)), .ref 570, .ref 571, .ref 572, .ref 573, .ref 574, .ref 575, .ref 576, .ref 577, .ref 578, .int (iI (o 68)), .int (iI (o 69)), .int (iI (o 70)), .ref 579]) := hM2775
              show X_T sc 157 (202, [(3, .int (iI (bI (True)))), (1, .int (iI wi)), (2, .int (iI col)), (0, .ref 530)], [], S2722) _
              refine T_p xr_157_202 xn_157 (pc' := 155) (ls' := [(3, .int (iI (bI (True)))), (1, .int (iI wi)), (2, .int (iI col)), (0, .ref 530)]) (st' := []) rfl ?_
              exact ih2666 S2722 True f2760 g2761 at2754 en2755 tk2756 nu2757 dg2758 nm2759 c1 d1 q1 wM2762 wH2763 eP2764 eH2765 hK2766 h2784 ha2776 ha2777 ha2778 ha2779 ha2780 (hF2669.tr ((X_Fr.rf).tr (X_Fr.mono ⟨hf2781.1, hf2781.2⟩ (fun q hq => (by omega))))) (by omega) (fun z => absurd z (by omega)) (fun _ => by
                    rw [← hR, show (9 - d1 3 0).toNat = (9 - (d1 3 0 + 1)).toNat + 1 by omega, sp_el_e1 _ (by omega) (by omega), hp2769]
                    rfl) (hob4.tr hp2770) (hob5.tr hp2771) (hob9.tr hp2772) (hob10.tr hp2773) (hob11.tr hp2774) (fun z => absurd z (by omega)) (by omega)
          · skip
            have c2718 : ¬ (part) := c2718
            refine T_p xr_157_183 xn_157 (pc' := 184) (ls' := [(3, .int (iI (bI (part)))), (1, .int (iI wi)), (2, .int (iI col)), (0, .ref 530)]) (st' := [.ref 530]) rfl ?_
            refine T_get xr_157_184 hM2716 rfl (v := .int (iI tk1)) rfl (pc' := 187) rfl ?_
            refine T_p xr_157_187 xn_157 (pc' := 188) (ls' := [(3, .int (iI (bI (part)))), (1, .int (iI wi)), (2, .int (iI col)), (0, .ref 530)]) (st' := [.int (iI 5), .int (iI tk1)]) rfl ?_
            refine T_zicmp_ne xr_157_188 (t := 195) (pc' := 191) rfl rfl (fun c2785 => ?_) (fun c2785 => ?_)
            · skip
              have c2785 : ¬ tk1 = 5 := c2785
              refine T_p xr_157_195 xn_157 (pc' := 196) (ls' := [(3, .int (iI (bI (part)))), (1, .int (iI wi)), (2, .int (iI col)), (0, .ref 530)]) (st' := [.int (iI 0)]) rfl ?_
              refine T_ie (y := iI (bI (False))) (by rw [bI_f (fun h => h)]) ?_
              have hpx : d1 4 0 = d1 3 0 := Classical.not_not.mp (fun z => absurd ((hpt rfl).mpr z) (by assumption))
              refine T_p xr_157_196 xn_157 (pc' := 197) (ls' := [(3, .int (iI (bI (False)))), (1, .int (iI wi)), (2, .int (iI col)), (0, .ref 530)]) (st' := []) rfl ?_
              refine T_p xr_157_197 xn_157 (pc' := 198) (ls' := [(3, .int (iI (bI (False)))), (1, .int (iI wi)), (2, .int (iI col)), (0, .ref 530)]) (st' := [.ref 530]) rfl ?_
              refine T_p xr_157_198 xn_157 (pc' := 199) (ls' := [(3, .int (iI (bI (False)))), (1, .int (iI wi)), (2, .int (iI col)), (0, .ref 530)]) (st' := [.int (iI wi), .ref 530]) rfl ?_
              refine T_cv (S := S2670) (q := 530) xr_157_199 xf_158.1 xf_158.2.1 xn_158 (as := [.int (iI wi)]) (r := []) rfl hM2716 (Nat.le_of_ble_eq_true rfl) (Nat.le_of_ble_eq_true rfl) (pc' := 202) rfl (ls' := [(0, .ref 530), (1, .int (iI wi))]) rfl ?_
              have h2786 := (hF2669.1 532 (by omega)).trans (hA532)
              have h2787 := (hF2669.1 534 (by omega)).trans (hA534)
              refine T_mono (r_readElement sc S2670 (X_ou (X_ou (X_ou (X_ou (X_ou (X_ou o 6 g1) 7 at1) 8 en1) 9 tk1) 10 nu1) 11 dg1) nm1 tx kN wM1 wH1 eP1 eH1 hK1 tb len n so pl ct E c1 kn kc wi d1 q1 hM2716 h2786 h2787 hA1 hA2 hA3 hA4 hA5 (show (o 3) = len from by first | assumption | omega) hl htx hX hT1 (show (o 5) = 0 from by omega) (show (o 29) = kc from by omega) (by omega) (show 0 ≤ (o 4) ∧ (o 4) ≤ 1 from by omega) hN (by omega) hE1 (by omega) (by omega) (hct _ (by omega) (by omega))) (fun v2788 S2789 h2790 => ?_)
              rcases h2790 with ⟨at2791, en2792, tk2793, nu2794, dg2795, nm2796, c2797, d2798, q2799, wM2800, wH2801, eP2802, eH2803, hK2804, hv2805, hp2806, hp2807, hp2808, hp2809, hp2810, hp2811, hp2812, hp2813, hM2814, ha2815, ha2816, ha2817, ha2818, ha2819, hf2820⟩ | ⟨at2821, en2822, tk2823, nu2824, dg2825, nm2826, f2827, g2828, wM2829, wH2830, eP2831, eH2832, hK2833, hv2834, hp2835, hp2836, hp2837, hp2838, hp2839, hp2840, hp2841, hM2842, ha2843, ha2844, ha2845, ha2846, ha2847, hf2848⟩
              · skip
                rw [hv2805]
                have h2849 : S2789.1 530 = .inr (11, [.ref 531, .int (iI (o 1)), .ref 532, .int (iI (o 3)), .int (iI (o 4)), .int (iI (o 5)), .int (iI g1), .int (iI at2791), .int (iI en2792), .int (iI tk2793), .int (iI nu2794), .int (iI dg2795), .long nm2796, .ref 533, .ref 534, .ref 535, .ref 536, .ref 537, .ref 538, .ref 539, .ref 540, .ref 541, .ref 542, .ref 543, .ref 544, .ref 545, .ref 546, .ref 547, .int (iI (o 28)), .int (iI (o 29)), .int (iI (o 30)), .int (iI (o 31)), .int (iI (o 32)), .int (iI (o 33)), .ref 548, .ref 549, .ref 550, .ref 551, .int (iI (o 38)), .ref 552, .ref 553, .ref 554, .ref 555, .ref 556, .ref 557, .ref 558, .ref 559, .ref 560, .ref 561, .int (iI (o 49)), .ref 562, .ref 563, .ref 564, .ref 565, .ref 566, .ref 567, .ref 568, .ref 569, .int (iI (o 58)), .ref 570, .ref 571, .ref 572, .ref 573, .ref 574, .ref 575, .ref 576, .ref 577, .ref 578, .int (iI (o 68)), .int (iI (o 69)), .int (iI (o 70)), .ref 579]) := hM2814
                obtain ⟨⟨_, _⟩, ⟨_, _⟩, hk2850, ⟨_, _⟩, hk2850e, ⟨_, _⟩, ⟨_, _⟩⟩ := R_tk_f hX hp2806
                have he1 := sp_e1_ok hcr.1 ⟨by omega, by omega⟩ (hct _ (by omega) (by omega)) hp2807 hok hd14
                obtain ⟨he1a, he1b, he1c, he1d, he1e, he1f, he1g⟩ := he1
                show X_T sc 157 (202, [(3, .int (iI (bI (False)))), (1, .int (iI wi)), (2, .int (iI col)), (0, .ref 530)], [], S2789) _
                refine T_p xr_157_202 xn_157 (pc' := 155) (ls' := [(3, .int (iI (bI (False)))), (1, .int (iI wi)), (2, .int (iI col)), (0, .ref 530)]) (st' := []) rfl ?_
                exact ih2666 S2789 False (o 5) g1 at2791 en2792 tk2793 nu2794 dg2795 nm2796 c2797 d2798 q2799 wM2800 wH2801 eP2802 eH2803 hK2804 h2849 ha2815 ha2816 ha2817 ha2818 ha2819 (hF2669.tr ((X_Fr.rf).tr (X_Fr.mono ⟨hf2820.1, hf2820.2⟩ (fun q hq => (by omega))))) (by omega) (fun _ => ⟨hp2806, hp2808, (by
                      rw [← hR, show (9 - d1 3 0).toNat = (9 - (d1 3 0 + 1)).toNat + 1 by omega, sp_el_e1 _ (by omega) (by omega), hp2807, he1d]
                      rfl), he1a, he1c, fun f f1 f2 f3 f4 => (he1b f f1 f2 f3 f4).trans (hfd f f1 f2 f3 f4)⟩) (fun z => absurd h5 z) (hob4.tr hp2809) (hob5.tr hp2810) (hob9.tr hp2811) (hob10.tr hp2812) (hob11.tr hp2813) (fun _ => ⟨fun z => z.elim, fun z => absurd (by omega) z⟩) (by omega)
              · skip
                rw [hv2834]
                have h2851 : S2789.1 530 = .inr (11, [.ref 531, .int (iI (o 1)), .ref 532, .int (iI (o 3)), .int (iI (o 4)), .int (iI f2827), .int (iI g2828), .int (iI at2821), .int (iI en2822), .int (iI tk2823), .int (iI nu2824), .int (iI dg2825), .long nm2826, .ref 533, .ref 534, .ref 535, .ref 536, .ref 537, .ref 538, .ref 539, .ref 540, .ref 541, .ref 542, .ref 543, .ref 544, .ref 545, .ref 546, .ref 547, .int (iI (o 28)), .int (iI (o 29)), .int (iI (o 30)), .int (iI (o 31)), .int (iI (o 32)), .int (iI (o 33)), .ref 548, .ref 549, .ref 550, .ref 551, .int (iI (o 38)), .ref 552, .ref 553, .ref 554, .ref 555, .ref 556, .ref 557, .ref 558, .ref 559, .ref 560, .ref 561, .int (iI (o 49)), .ref 562, .ref 563, .ref 564, .ref 565, .ref 566, .ref 567, .ref 568, .ref 569, .int (iI (o 58)), .ref 570, .ref 571, .ref 572, .ref 573, .ref 574, .ref 575, .ref 576, .ref 577, .ref 578, .int (iI (o 68)), .int (iI (o 69)), .int (iI (o 70)), .ref 579]) := hM2842
                show X_T sc 157 (202, [(3, .int (iI (bI (False)))), (1, .int (iI wi)), (2, .int (iI col)), (0, .ref 530)], [], S2789) _
                refine T_p xr_157_202 xn_157 (pc' := 155) (ls' := [(3, .int (iI (bI (False)))), (1, .int (iI wi)), (2, .int (iI col)), (0, .ref 530)]) (st' := []) rfl ?_
                exact ih2666 S2789 False f2827 g2828 at2821 en2822 tk2823 nu2824 dg2825 nm2826 c1 d1 q1 wM2829 wH2830 eP2831 eH2832 hK2833 h2851 ha2843 ha2844 ha2845 ha2846 ha2847 (hF2669.tr ((X_Fr.rf).tr (X_Fr.mono ⟨hf2848.1, hf2848.2⟩ (fun q hq => (by omega))))) (by omega) (fun z => absurd z (by omega)) (fun _ => by
                      rw [← hR, show (9 - d1 3 0).toNat = (9 - (d1 3 0 + 1)).toNat + 1 by omega, sp_el_e1 _ (by omega) (by omega), hp2836]
                      rfl) (hob4.tr hp2837) (hob5.tr hp2838) (hob9.tr hp2839) (hob10.tr hp2840) (hob11.tr hp2841) (fun z => absurd z (by omega)) (by omega)
            · skip
              have c2785 : ¬ (¬ tk1 = 5) := c2785
              refine T_p xr_157_191 xn_157 (pc' := 192) (ls' := [(3, .int (iI (bI (part)))), (1, .int (iI wi)), (2, .int (iI col)), (0, .ref 530)]) (st' := [.int (iI 1)]) rfl ?_
              refine T_p xr_157_192 xn_157 (pc' := 196) (ls' := [(3, .int (iI (bI (part)))), (1, .int (iI wi)), (2, .int (iI col)), (0, .ref 530)]) (st' := [.int (iI 1)]) rfl ?_
              refine T_ie (y := iI (bI (True))) (by rw [bI_t trivial]) ?_
              have hpx : d1 4 0 = d1 3 0 := Classical.not_not.mp (fun z => absurd ((hpt rfl).mpr z) (by assumption))
              refine T_p xr_157_196 xn_157 (pc' := 197) (ls' := [(3, .int (iI (bI (True)))), (1, .int (iI wi)), (2, .int (iI col)), (0, .ref 530)]) (st' := []) rfl ?_
              refine T_p xr_157_197 xn_157 (pc' := 198) (ls' := [(3, .int (iI (bI (True)))), (1, .int (iI wi)), (2, .int (iI col)), (0, .ref 530)]) (st' := [.ref 530]) rfl ?_
              refine T_p xr_157_198 xn_157 (pc' := 199) (ls' := [(3, .int (iI (bI (True)))), (1, .int (iI wi)), (2, .int (iI col)), (0, .ref 530)]) (st' := [.int (iI wi), .ref 530]) rfl ?_
              refine T_cv (S := S2670) (q := 530) xr_157_199 xf_158.1 xf_158.2.1 xn_158 (as := [.int (iI wi)]) (r := []) rfl hM2716 (Nat.le_of_ble_eq_true rfl) (Nat.le_of_ble_eq_true rfl) (pc' := 202) rfl (ls' := [(0, .ref 530), (1, .int (iI wi))]) rfl ?_
              have h2852 := (hF2669.1 532 (by omega)).trans (hA532)
              have h2853 := (hF2669.1 534 (by omega)).trans (hA534)
              refine T_mono (r_readElement sc S2670 (X_ou (X_ou (X_ou (X_ou (X_ou (X_ou o 6 g1) 7 at1) 8 en1) 9 tk1) 10 nu1) 11 dg1) nm1 tx kN wM1 wH1 eP1 eH1 hK1 tb len n so pl ct E c1 kn kc wi d1 q1 hM2716 h2852 h2853 hA1 hA2 hA3 hA4 hA5 (show (o 3) = len from by first | assumption | omega) hl htx hX hT1 (show (o 5) = 0 from by omega) (show (o 29) = kc from by omega) (by omega) (show 0 ≤ (o 4) ∧ (o 4) ≤ 1 from by omega) hN (by omega) hE1 (by omega) (by omega) (hct _ (by omega) (by omega))) (fun v2854 S2855 h2856 => ?_)
              rcases h2856 with ⟨at2857, en2858, tk2859, nu2860, dg2861, nm2862, c2863, d2864, q2865, wM2866, wH2867, eP2868, eH2869, hK2870, hv2871, hp2872, hp2873, hp2874, hp2875, hp2876, hp2877, hp2878, hp2879, hM2880, ha2881, ha2882, ha2883, ha2884, ha2885, hf2886⟩ | ⟨at2887, en2888, tk2889, nu2890, dg2891, nm2892, f2893, g2894, wM2895, wH2896, eP2897, eH2898, hK2899, hv2900, hp2901, hp2902, hp2903, hp2904, hp2905, hp2906, hp2907, hM2908, ha2909, ha2910, ha2911, ha2912, ha2913, hf2914⟩
              · skip
                rw [hv2871]
                have h2915 : S2855.1 530 = .inr (11, [.ref 531, .int (iI (o 1)), .ref 532, .int (iI (o 3)), .int (iI (o 4)), .int (iI (o 5)), .int (iI g1), .int (iI at2857), .int (iI en2858), .int (iI tk2859), .int (iI nu2860), .int (iI dg2861), .long nm2862, .ref 533, .ref 534, .ref 535, .ref 536, .ref 537, .ref 538, .ref 539, .ref 540, .ref 541, .ref 542, .ref 543, .ref 544, .ref 545, .ref 546, .ref 547, .int (iI (o 28)), .int (iI (o 29)), .int (iI (o 30)), .int (iI (o 31)), .int (iI (o 32)), .int (iI (o 33)), .ref 548, .ref 549, .ref 550, .ref 551, .int (iI (o 38)), .ref 552, .ref 553, .ref 554, .ref 555, .ref 556, .ref 557, .ref 558, .ref 559, .ref 560, .ref 561, .int (iI (o 49)), .ref 562, .ref 563, .ref 564, .ref 565, .ref 566, .ref 567, .ref 568, .ref 569, .int (iI (o 58)), .ref 570, .ref 571, .ref 572, .ref 573, .ref 574, .ref 575, .ref 576, .ref 577, .ref 578, .int (iI (o 68)), .int (iI (o 69)), .int (iI (o 70)), .ref 579]) := hM2880
                obtain ⟨⟨_, _⟩, ⟨_, _⟩, hk2916, ⟨_, _⟩, hk2916e, ⟨_, _⟩, ⟨_, _⟩⟩ := R_tk_f hX hp2872
                have he1 := sp_e1_ok hcr.1 ⟨by omega, by omega⟩ (hct _ (by omega) (by omega)) hp2873 hok hd14
                obtain ⟨he1a, he1b, he1c, he1d, he1e, he1f, he1g⟩ := he1
                show X_T sc 157 (202, [(3, .int (iI (bI (True)))), (1, .int (iI wi)), (2, .int (iI col)), (0, .ref 530)], [], S2855) _
                refine T_p xr_157_202 xn_157 (pc' := 155) (ls' := [(3, .int (iI (bI (True)))), (1, .int (iI wi)), (2, .int (iI col)), (0, .ref 530)]) (st' := []) rfl ?_
                exact ih2666 S2855 True (o 5) g1 at2857 en2858 tk2859 nu2860 dg2861 nm2862 c2863 d2864 q2865 wM2866 wH2867 eP2868 eH2869 hK2870 h2915 ha2881 ha2882 ha2883 ha2884 ha2885 (hF2669.tr ((X_Fr.rf).tr (X_Fr.mono ⟨hf2886.1, hf2886.2⟩ (fun q hq => (by omega))))) (by omega) (fun _ => ⟨hp2872, hp2874, (by
                      rw [← hR, show (9 - d1 3 0).toNat = (9 - (d1 3 0 + 1)).toNat + 1 by omega, sp_el_e1 _ (by omega) (by omega), hp2873, he1d]
                      rfl), he1a, he1c, fun f f1 f2 f3 f4 => (he1b f f1 f2 f3 f4).trans (hfd f f1 f2 f3 f4)⟩) (fun z => absurd h5 z) (hob4.tr hp2875) (hob5.tr hp2876) (hob9.tr hp2877) (hob10.tr hp2878) (hob11.tr hp2879) (fun _ => ⟨fun _ => by omega, fun _ => trivial⟩) (by omega)
              · skip
                rw [hv2900]
                have h2917 : S2855.1 530 = .inr (11, [.ref 531, .int (iI (o 1)), .ref 532, .int (iI (o 3)), .int (iI (o 4)), .int (iI f2893), .int (iI g2894), .int (iI at2887), .int (iI en2888), .int (iI tk2889), .int (iI nu2890), .int (iI dg2891), .long nm2892, .ref 533, .ref 534, .ref 535, .ref 536, .ref 537, .ref 538, .ref 539, .ref 540, .ref 541, .ref 542, .ref 543, .ref 544, .ref 545, .ref 546, .ref 547, .int (iI (o 28)), .int (iI (o 29)), .int (iI (o 30)), .int (iI (o 31)), .int (iI (o 32)), .int (iI (o 33)), .ref 548, .ref 549, .ref 550, .ref 551, .int (iI (o 38)), .ref 552, .ref 553, .ref 554, .ref 555, .ref 556, .ref 557, .ref 558, .ref 559, .ref 560, .ref 561, .int (iI (o 49)), .ref 562, .ref 563, .ref 564, .ref 565, .ref 566, .ref 567, .ref 568, .ref 569, .int (iI (o 58)), .ref 570, .ref 571, .ref 572, .ref 573, .ref 574, .ref 575, .ref 576, .ref 577, .ref 578, .int (iI (o 68)), .int (iI (o 69)), .int (iI (o 70)), .ref 579]) := hM2908
                show X_T sc 157 (202, [(3, .int (iI (bI (True)))), (1, .int (iI wi)), (2, .int (iI col)), (0, .ref 530)], [], S2855) _
                refine T_p xr_157_202 xn_157 (pc' := 155) (ls' := [(3, .int (iI (bI (True)))), (1, .int (iI wi)), (2, .int (iI col)), (0, .ref 530)]) (st' := []) rfl ?_
                exact ih2666 S2855 True f2893 g2894 at2887 en2888 tk2889 nu2890 dg2891 nm2892 c1 d1 q1 wM2895 wH2896 eP2897 eH2898 hK2899 h2917 ha2909 ha2910 ha2911 ha2912 ha2913 (hF2669.tr ((X_Fr.rf).tr (X_Fr.mono ⟨hf2914.1, hf2914.2⟩ (fun q hq => (by omega))))) (by omega) (fun z => absurd z (by omega)) (fun _ => by
                      rw [← hR, show (9 - d1 3 0).toNat = (9 - (d1 3 0 + 1)).toNat + 1 by omega, sp_el_e1 _ (by omega) (by omega), hp2902]
                      rfl) (hob4.tr hp2903) (hob5.tr hp2904) (hob9.tr hp2905) (hob10.tr hp2906) (hob11.tr hp2907) (fun z => absurd z (by omega)) (by omega)
        · skip
          have c2717 : ¬ (tk1 = 5) := c2717
          refine T_p xr_157_170 xn_157 (pc' := 171) (ls' := [(3, .int (iI (bI (part)))), (1, .int (iI wi)), (2, .int (iI col)), (0, .ref 530)]) (st' := [.ref 530]) rfl ?_
          refine T_p xr_157_171 xn_157 (pc' := 173) (ls' := [(3, .int (iI (bI (part)))), (1, .int (iI wi)), (2, .int (iI col)), (0, .ref 530)]) (st' := [.int (iI 95), .ref 530]) rfl ?_
          refine T_cv (S := S2670) (q := 530) xr_157_173 xf_145.1 xf_145.2.1 xn_145 (as := [.int (iI 95)]) (r := []) rfl hM2716 (Nat.le_of_ble_eq_true rfl) (Nat.le_of_ble_eq_true rfl) (pc' := 176) rfl (ls' := [(0, .ref 530), (1, .int (iI 95))]) rfl ?_
          have h2918 := (hF2669.1 532 (by omega)).trans (hA532)
          refine T_mono (r_is sc S2670 (X_ou (X_ou (X_ou (X_ou (X_ou (X_ou o 6 g1) 7 at1) 8 en1) 9 tk1) 10 nu1) 11 dg1) nm1 tx tb len n so pl ct E c1 95 hM2716 h2918 (show (o 3) = len from by first | assumption | omega) hl htx hX hT1 (by omega)) (fun v2919 S2920 h2921 => ?_)
          rcases h2921 with ⟨hv2922, hf2923⟩
          rw [hv2922]
          rw [hf2923]
          show X_T sc 157 (176, [(3, .int (iI (bI (part)))), (1, .int (iI wi)), (2, .int (iI col)), (0, .ref 530)], [.int (iI (bI (so c1 = 95)))], S2670) _
          refine T_bif_eq xr_157_176 (t := 205) (pc' := 179) rfl rfl (fun c2924 => ?_) (fun c2924 => ?_)
          · skip
            have c2924 : ¬ (so c1 = 95) := c2924
            refine T_p xr_157_205 xn_157 (pc' := 206) (ls' := [(3, .int (iI (bI (part)))), (1, .int (iI wi)), (2, .int (iI col)), (0, .ref 530)]) (st' := [.ref 530]) rfl ?_
            refine T_cv (S := S2670) (q := 530) xr_157_206 xf_140.1 xf_140.2.1 xn_140 (as := []) (r := []) rfl hM2716 (Nat.le_of_ble_eq_true rfl) (Nat.le_of_ble_eq_true rfl) (pc' := 209) rfl (ls' := [(0, .ref 530)]) rfl ?_
            refine T_mono (r_isGood sc S2670 (X_ou (X_ou (X_ou (X_ou (X_ou (X_ou o 6 g1) 7 at1) 8 en1) 9 tk1) 10 nu1) 11 dg1) nm1 hM2716 (show 0 ≤ (o 5) ∧ (o 5) ≤ 5 from by omega)) (fun v2925 S2926 h2927 => ?_)
            rcases h2927 with ⟨hv2928, hf2929⟩
            rw [hv2928]
            rw [hf2929]
            show X_T sc 157 (209, [(3, .int (iI (bI (part)))), (1, .int (iI wi)), (2, .int (iI col)), (0, .ref 530)], [.int (iI (bI ((o 5) = 0)))], S2670) _
            refine T_bif_eq xr_157_209 (t := 247) (pc' := 212) rfl rfl (fun c2930 => ?_) (fun c2930 => ?_)
            · skip
              have c2930 : ¬ ((o 5) = 0) := c2930
              exact (show False by first | contradiction | omega).elim
            · skip
              have c2930 : ((o 5) = 0) := c2930
              have hE1w := hE1.1
              have hdl : d1 1 = d 1 := hfd 1 (by decide) (by decide) (by decide) (by decide)
              have hdl0 : d1 1 0 = d 1 0 := by rw [hdl]
              have hWl := hW.2.1
              refine T_p xr_157_212 xn_157 (pc' := 213) (ls' := [(3, .int (iI (bI (part)))), (1, .int (iI wi)), (2, .int (iI col)), (0, .ref 530)]) (st' := [.ref 530]) rfl ?_
              refine T_get xr_157_213 hM2716 rfl (v := .ref 540) rfl (pc' := 216) rfl ?_
              refine T_p xr_157_216 xn_157 (pc' := 217) (ls' := [(3, .int (iI (bI (part)))), (1, .int (iI wi)), (2, .int (iI col)), (0, .ref 530)]) (st' := [.int (iI wi), .ref 540]) rfl ?_
              refine T_ziald xr_157_217 hA1 (pc' := 218) rfl ?_
              refine T_zif_eq xr_157_218 (t := 243) (pc' := 221) rfl rfl (fun c2931 => ?_) (fun c2931 => ?_)
              · skip
                have c2931 : (wM1 wi) = 0 := c2931
                refine T_p xr_157_243 xn_157 (pc' := 244) (ls' := [(3, .int (iI (bI (part)))), (1, .int (iI wi)), (2, .int (iI col)), (0, .ref 530)]) (st' := [.ref 530]) rfl ?_
                refine T_cv (S := S2670) (q := 530) xr_157_244 xf_147.1 xf_147.2.1 xn_147 (as := []) (r := []) rfl hM2716 (Nat.le_of_ble_eq_true rfl) (Nat.le_of_ble_eq_true rfl) (pc' := 247) rfl (ls' := [(0, .ref 530)]) rfl ?_
                refine T_mono (r_wrong sc S2670 (X_ou (X_ou (X_ou (X_ou (X_ou (X_ou o 6 g1) 7 at1) 8 en1) 9 tk1) 10 nu1) 11 dg1) nm1 tx tb len n so pl ct E c1 hM2716 h2918 (show (o 3) = len from by first | assumption | omega) hl htx hX hT1 (show 0 ≤ (o 5) ∧ (o 5) ≤ 5 from by omega)) (fun v2932 S2933 h2934 => ?_)
                rcases h2934 with ⟨f2935, g2936, hv2937, hp2938, hM2939, hf2940⟩
                rw [hv2937]
                have h2941 : S2933.1 530 = .inr (11, [.ref 531, .int (iI (o 1)), .ref 532, .int (iI (o 3)), .int (iI (o 4)), .int (iI f2935), .int (iI g2936), .int (iI at1), .int (iI en1), .int (iI tk1), .int (iI nu1), .int (iI dg1), .long nm1, .ref 533, .ref 534, .ref 535, .ref 536, .ref 537, .ref 538, .ref 539, .ref 540, .ref 541, .ref 542, .ref 543, .ref 544, .ref 545, .ref 546, .ref 547, .int (iI (o 28)), .int (iI (o 29)), .int (iI (o 30)), .int (iI (o 31)), .int (iI (o 32)), .int (iI (o 33)), .ref 548, .ref 549, .ref 550, .ref 551, .int (iI (o 38)), .ref 552, .ref 553, .ref 554, .ref 555, .ref 556, .ref 557, .ref 558, .ref 559, .ref 560, .ref 561, .int (iI (o 49)), .ref 562, .ref 563, .ref 564, .ref 565, .ref 566, .ref 567, .ref 568, .ref 569, .int (iI (o 58)), .ref 570, .ref 571, .ref 572, .ref 573, .ref 574, .ref 575, .ref 576, .ref 577, .ref 578, .int (iI (o 68)), .int (iI (o 69)), .int (iI (o 70)), .ref 579]) := hM2939
                show X_T sc 157 (247, [(3, .int (iI (bI (part)))), (1, .int (iI wi)), (2, .int (iI col)), (0, .ref 530)], [], S2933) _
                refine T_p xr_157_247 xn_157 (pc' := 248) (ls' := [(3, .int (iI (bI (part)))), (1, .int (iI wi)), (2, .int (iI col)), (0, .ref 530)]) (st' := [.ref 530]) rfl ?_
                refine T_cv (S := S2933) (q := 530) xr_157_248 xf_140.1 xf_140.2.1 xn_140 (as := []) (r := []) rfl h2941 (Nat.le_of_ble_eq_true rfl) (Nat.le_of_ble_eq_true rfl) (pc' := 251) rfl (ls' := [(0, .ref 530)]) rfl ?_
                refine T_mono (r_isGood sc S2933 (X_ou (X_ou (X_ou (X_ou (X_ou (X_ou (X_ou o 5 f2935) 6 g2936) 7 at1) 8 en1) 9 tk1) 10 nu1) 11 dg1) nm1 h2941 (show 0 ≤ f2935 ∧ f2935 ≤ 5 from by omega)) (fun v2942 S2943 h2944 => ?_)
                rcases h2944 with ⟨hv2945, hf2946⟩
                rw [hv2945]
                rw [hf2946]
                show X_T sc 157 (251, [(3, .int (iI (bI (part)))), (1, .int (iI wi)), (2, .int (iI col)), (0, .ref 530)], [.int (iI (bI (f2935 = 0)))], S2933) _
                refine T_bif_eq xr_157_251 (t := 277) (pc' := 254) rfl rfl (fun c2947 => ?_) (fun c2947 => ?_)
                · skip
                  have c2947 : ¬ (f2935 = 0) := c2947
                  refine T_p xr_157_277 xn_157 (pc' := 278) (ls' := [(3, .int (iI (bI (part)))), (1, .int (iI wi)), (2, .int (iI col)), (0, .ref 530)]) (st' := [.ref 530]) rfl ?_
                  refine T_cv (S := S2933) (q := 530) xr_157_278 xf_140.1 xf_140.2.1 xn_140 (as := []) (r := []) rfl h2941 (Nat.le_of_ble_eq_true rfl) (Nat.le_of_ble_eq_true rfl) (pc' := 281) rfl (ls' := [(0, .ref 530)]) rfl ?_
                  refine T_mono (r_isGood sc S2933 (X_ou (X_ou (X_ou (X_ou (X_ou (X_ou (X_ou o 5 f2935) 6 g2936) 7 at1) 8 en1) 9 tk1) 10 nu1) 11 dg1) nm1 h2941 (show 0 ≤ f2935 ∧ f2935 ≤ 5 from by omega)) (fun v2948 S2949 h2950 => ?_)
                  rcases h2950 with ⟨hv2951, hf2952⟩
                  rw [hv2951]
                  rw [hf2952]
                  show X_T sc 157 (281, [(3, .int (iI (bI (part)))), (1, .int (iI wi)), (2, .int (iI col)), (0, .ref 530)], [.int (iI (bI (f2935 = 0)))], S2933) _
                  refine T_bif_eq xr_157_281 (t := 302) (pc' := 284) rfl rfl (fun c2953 => ?_) (fun c2953 => ?_)
                  · skip
                    have c2953 : ¬ (f2935 = 0) := c2953
                    refine T_p xr_157_302 xn_157 (pc' := 303) (ls' := [(3, .int (iI (bI (part)))), (1, .int (iI wi)), (2, .int (iI col)), (0, .ref 530)]) (st' := [.ref 530]) rfl ?_
                    refine T_p xr_157_303 xn_157 (pc' := 304) (ls' := [(3, .int (iI (bI (part)))), (1, .int (iI wi)), (2, .int (iI col)), (0, .ref 530)]) (st' := [.ref 530, .ref 530]) rfl ?_
                    refine T_get xr_157_304 h2941 rfl (v := .int (iI (o 30))) rfl (pc' := 307) rfl ?_
                    refine T_p xr_157_307 xn_157 (pc' := 308) (ls' := [(3, .int (iI (bI (part)))), (1, .int (iI wi)), (2, .int (iI col)), (0, .ref 530)]) (st' := [.int (iI 1), .int (iI (o 30)), .ref 530]) rfl ?_
                    refine T_ziadd xr_157_308 (z := (o 30) + 1) rfl (pc' := 309) rfl ?_
                    refine T_ie (y := iI (wc + 1)) (by rw [hwc]) ?_
                    refine T_put xr_157_309 h2941 rfl (Nat.le_of_ble_eq_true rfl) rfl (fs' := [.ref 531, .int (iI (o 1)), .ref 532, .int (iI (o 3)), .int (iI (o 4)), .int (iI f2935), .int (iI g2936), .int (iI at1), .int (iI en1), .int (iI tk1), .int (iI nu1), .int (iI dg1), .long nm1, .ref 533, .ref 534, .ref 535, .ref 536, .ref 537, .ref 538, .ref 539, .ref 540, .ref 541, .ref 542, .ref 543, .ref 544, .ref 545, .ref 546, .ref 547, .int (iI (o 28)), .int (iI (o 29)), .int (iI (wc + 1)), .int (iI (o 31)), .int (iI (o 32)), .int (iI (o 33)), .ref 548, .ref 549, .ref 550, .ref 551, .int (iI (o 38)), .ref 552, .ref 553, .ref 554, .ref 555, .ref 556, .ref 557, .ref 558, .ref 559, .ref 560, .ref 561, .int (iI (o 49)), .ref 562, .ref 563, .ref 564, .ref 565, .ref 566, .ref 567, .ref 568, .ref 569, .int (iI (o 58)), .ref 570, .ref 571, .ref 572, .ref 573, .ref 574, .ref 575, .ref 576, .ref 577, .ref 578, .int (iI (o 68)), .int (iI (o 69)), .int (iI (o 70)), .ref 579]) rfl (pc' := 312) rfl (fun S2954 h2955 n2956 e2957 => ?_)
                    refine T_p xr_157_312 xn_157 (pc' := 313) (ls' := [(3, .int (iI (bI (part)))), (1, .int (iI wi)), (2, .int (iI col)), (0, .ref 530)]) (st' := [.ref 530]) rfl ?_
                    refine T_cv (S := S2954) (q := 530) xr_157_313 xf_140.1 xf_140.2.1 xn_140 (as := []) (r := []) rfl h2955 (Nat.le_of_ble_eq_true rfl) (Nat.le_of_ble_eq_true rfl) (pc' := 316) rfl (ls' := [(0, .ref 530)]) rfl ?_
                    refine T_mono (r_isGood sc S2954 (X_ou (X_ou (X_ou (X_ou (X_ou (X_ou (X_ou (X_ou o 5 f2935) 6 g2936) 7 at1) 8 en1) 9 tk1) 10 nu1) 11 dg1) 30 (wc + 1)) nm1 h2955 (show 0 ≤ f2935 ∧ f2935 ≤ 5 from by omega)) (fun v2958 S2959 h2960 => ?_)
                    rcases h2960 with ⟨hv2961, hf2962⟩
                    rw [hv2961]
                    rw [hf2962]
                    show X_T sc 157 (316, [(3, .int (iI (bI (part)))), (1, .int (iI wi)), (2, .int (iI col)), (0, .ref 530)], [.int (iI (bI (f2935 = 0)))], S2954) _
                    refine T_bif_eq xr_157_316 (t := 325) (pc' := 319) rfl rfl (fun c2963 => ?_) (fun c2963 => ?_)
                    · skip
                      have c2963 : ¬ (f2935 = 0) := c2963
                      refine T_vret xr_157_325 xf_157.2.2 ?_
                      refine hQ _ _ ?_
                      have h2964 := (n2956 537 (by decide)).trans ((hf2940.1 537 (by omega)).trans ((hF2669.1 537 (by omega)).trans (hA537)))
                      have h2965 := (n2956 538 (by decide)).trans ((hf2940.1 538 (by omega)).trans ((hF2669.1 538 (by omega)).trans (hA538)))
                      have h2966 := (n2956 539 (by decide)).trans ((hf2940.1 539 (by omega)).trans ((hF2669.1 539 (by omega)).trans (hA539)))
                      have h2967 := (n2956 540 (by decide)).trans ((hf2940.1 540 (by omega)).trans (hA1))
                      have h2968 := (n2956 541 (by decide)).trans ((hf2940.1 541 (by omega)).trans (hA2))
                      have h2969 := (n2956 542 (by decide)).trans ((hf2940.1 542 (by omega)).trans ((hF2669.1 542 (by omega)).trans (hA542)))
                      have h2970 := (n2956 543 (by decide)).trans ((hf2940.1 543 (by omega)).trans ((hF2669.1 543 (by omega)).trans (hA543)))
                      have h2971 := (n2956 544 (by decide)).trans ((hf2940.1 544 (by omega)).trans ((hF2669.1 544 (by omega)).trans (hA544)))
                      have h2972 := (n2956 545 (by decide)).trans ((hf2940.1 545 (by omega)).trans (hA3))
                      have h2973 := (n2956 546 (by decide)).trans ((hf2940.1 546 (by omega)).trans (hA4))
                      have h2974 := (n2956 547 (by decide)).trans ((hf2940.1 547 (by omega)).trans (hA5))
                      refine Or.inr ⟨at1, en1, tk1, nu1, dg1, nm1, wc + 1, f2935, g2936, wR, wL, wK, wM1, wH1, wS, sO, sN, eP1, eH1, hK1, rfl, by omega, ?_, R_ob.rf, R_ob.rf, R_ob.rf, by exact hob4, by exact hob5, R_ob.rf, R_ob.rf, R_ob.rf, by exact hob9, by exact hob10, by exact hob11, h2955, h2964, h2965, h2966, h2967, h2968, h2969, h2970, h2971, h2972, h2973, h2974, (((X_Fr.rf).tr (X_Fr.mono ⟨hF2669.1, hF2669.2⟩ (fun q hq => (by omega)))).tr (X_Fr.mono ⟨hf2940.1, hf2940.2⟩ (fun q hq => (by omega)))).tr (X_Fr.of n2956 e2957 (by omega))⟩
                      by_cases h61 : so c1 = 61 ∨ so c1 = 59
                      · have hel : sp_el n so ct kn kc 9 c d q = some (c1, d1, q1) := by
                          rw [← hR, show (9 - d1 3 0).toNat = (9 - (d1 3 0 + 1)).toNat + 1 by omega]
                          show (if so c1 = 61 then _ else if so c1 = 59 then _ else _) = _
                          first | rw [if_pos (by omega)] | rw [if_neg (by omega), if_pos (by omega)] | (by_cases hz : so c1 = 61; (rw [if_pos hz]); (rw [if_neg hz, if_pos (by omega)]))
                        rw [hel, Option.bind_some]
                        dsimp only
                        unfold sp_we
                        (repeat (first | rw [if_pos (by assumption)] | rw [if_neg (by assumption)] | rw [if_neg (by omega)] | rw [if_pos (by omega)]))
                        all_goals first | rfl | ((repeat' split) <;> first | rfl | (exfalso; omega) | contradiction)
                      · have hel : sp_el n so ct kn kc 9 c d q = none := by
                          rw [← hR, show (9 - d1 3 0).toNat = (9 - (d1 3 0 + 1)).toNat + 1 by omega, sp_el_e1 _ (by omega) (by omega)]
                          unfold sp_e1
                          rw [if_neg (by omega), if_neg (by omega)]
                          rfl
                        rw [hel]
                        rfl
                    · skip
                      have c2963 : (f2935 = 0) := c2963
                      exact (show False by first | contradiction | omega).elim
                  · skip
                    have c2953 : (f2935 = 0) := c2953
                    exact (show False by first | contradiction | omega).elim
                · skip
                  have c2947 : (f2935 = 0) := c2947
                  exact (show False by first | contradiction | omega).elim
              · skip
                have c2931 : ¬ ((wM1 wi) = 0) := c2931
                refine T_p xr_157_221 xn_157 (pc' := 222) (ls' := [(3, .int (iI (bI (part)))), (1, .int (iI wi)), (2, .int (iI col)), (0, .ref 530)]) (st' := [.int (iI (bI (part)))]) rfl ?_
                refine T_bif_eq xr_157_222 (t := 243) (pc' := 225) rfl rfl (fun c2975 => ?_) (fun c2975 => ?_)
                · skip
                  have c2975 : ¬ (part) := c2975
                  have hpx : d1 4 0 = d1 3 0 := Classical.not_not.mp (fun z => absurd ((hpt rfl).mpr z) (by assumption))
                  refine T_p xr_157_243 xn_157 (pc' := 244) (ls' := [(3, .int (iI (bI (part)))), (1, .int (iI wi)), (2, .int (iI col)), (0, .ref 530)]) (st' := [.ref 530]) rfl ?_
                  refine T_cv (S := S2670) (q := 530) xr_157_244 xf_147.1 xf_147.2.1 xn_147 (as := []) (r := []) rfl hM2716 (Nat.le_of_ble_eq_true rfl) (Nat.le_of_ble_eq_true rfl) (pc' := 247) rfl (ls' := [(0, .ref 530)]) rfl ?_
                  refine T_mono (r_wrong sc S2670 (X_ou (X_ou (X_ou (X_ou (X_ou (X_ou o 6 g1) 7 at1) 8 en1) 9 tk1) 10 nu1) 11 dg1) nm1 tx tb len n so pl ct E c1 hM2716 h2918 (show (o 3) = len from by first | assumption | omega) hl htx hX hT1 (show 0 ≤ (o 5) ∧ (o 5) ≤ 5 from by omega)) (fun v2976 S2977 h2978 => ?_)
                  rcases h2978 with ⟨f2979, g2980, hv2981, hp2982, hM2983, hf2984⟩
                  rw [hv2981]
                  have h2985 : S2977.1 530 = .inr (11, [.ref 531, .int (iI (o 1)), .ref 532, .int (iI (o 3)), .int (iI (o 4)), .int (iI f2979), .int (iI g2980), .int (iI at1), .int (iI en1), .int (iI tk1), .int (iI nu1), .int (iI dg1), .long nm1, .ref 533, .ref 534, .ref 535, .ref 536, .ref 537, .ref 538, .ref 539, .ref 540, .ref 541, .ref 542, .ref 543, .ref 544, .ref 545, .ref 546, .ref 547, .int (iI (o 28)), .int (iI (o 29)), .int (iI (o 30)), .int (iI (o 31)), .int (iI (o 32)), .int (iI (o 33)), .ref 548, .ref 549, .ref 550, .ref 551, .int (iI (o 38)), .ref 552, .ref 553, .ref 554, .ref 555, .ref 556, .ref 557, .ref 558, .ref 559, .ref 560, .ref 561, .int (iI (o 49)), .ref 562, .ref 563, .ref 564, .ref 565, .ref 566, .ref 567, .ref 568, .ref 569, .int (iI (o 58)), .ref 570, .ref 571, .ref 572, .ref 573, .ref 574, .ref 575, .ref 576, .ref 577, .ref 578, .int (iI (o 68)), .int (iI (o 69)), .int (iI (o 70)), .ref 579]) := hM2983
                  show X_T sc 157 (247, [(3, .int (iI (bI (part)))), (1, .int (iI wi)), (2, .int (iI col)), (0, .ref 530)], [], S2977) _
                  refine T_p xr_157_247 xn_157 (pc' := 248) (ls' := [(3, .int (iI (bI (part)))), (1, .int (iI wi)), (2, .int (iI col)), (0, .ref 530)]) (st' := [.ref 530]) rfl ?_
                  refine T_cv (S := S2977) (q := 530) xr_157_248 xf_140.1 xf_140.2.1 xn_140 (as := []) (r := []) rfl h2985 (Nat.le_of_ble_eq_true rfl) (Nat.le_of_ble_eq_true rfl) (pc' := 251) rfl (ls' := [(0, .ref 530)]) rfl ?_
                  refine T_mono (r_isGood sc S2977 (X_ou (X_ou (X_ou (X_ou (X_ou (X_ou (X_ou o 5 f2979) 6 g2980) 7 at1) 8 en1) 9 tk1) 10 nu1) 11 dg1) nm1 h2985 (show 0 ≤ f2979 ∧ f2979 ≤ 5 from by omega)) (fun v2986 S2987 h2988 => ?_)
                  rcases h2988 with ⟨hv2989, hf2990⟩
                  rw [hv2989]
                  rw [hf2990]
                  show X_T sc 157 (251, [(3, .int (iI (bI (part)))), (1, .int (iI wi)), (2, .int (iI col)), (0, .ref 530)], [.int (iI (bI (f2979 = 0)))], S2977) _
                  refine T_bif_eq xr_157_251 (t := 277) (pc' := 254) rfl rfl (fun c2991 => ?_) (fun c2991 => ?_)
                  · skip
                    have c2991 : ¬ (f2979 = 0) := c2991
                    refine T_p xr_157_277 xn_157 (pc' := 278) (ls' := [(3, .int (iI (bI (part)))), (1, .int (iI wi)), (2, .int (iI col)), (0, .ref 530)]) (st' := [.ref 530]) rfl ?_
                    refine T_cv (S := S2977) (q := 530) xr_157_278 xf_140.1 xf_140.2.1 xn_140 (as := []) (r := []) rfl h2985 (Nat.le_of_ble_eq_true rfl) (Nat.le_of_ble_eq_true rfl) (pc' := 281) rfl (ls' := [(0, .ref 530)]) rfl ?_
                    refine T_mono (r_isGood sc S2977 (X_ou (X_ou (X_ou (X_ou (X_ou (X_ou (X_ou o 5 f2979) 6 g2980) 7 at1) 8 en1) 9 tk1) 10 nu1) 11 dg1) nm1 h2985 (show 0 ≤ f2979 ∧ f2979 ≤ 5 from by omega)) (fun v2992 S2993 h2994 => ?_)
                    rcases h2994 with ⟨hv2995, hf2996⟩
                    rw [hv2995]
                    rw [hf2996]
                    show X_T sc 157 (281, [(3, .int (iI (bI (part)))), (1, .int (iI wi)), (2, .int (iI col)), (0, .ref 530)], [.int (iI (bI (f2979 = 0)))], S2977) _
                    refine T_bif_eq xr_157_281 (t := 302) (pc' := 284) rfl rfl (fun c2997 => ?_) (fun c2997 => ?_)
                    · skip
                      have c2997 : ¬ (f2979 = 0) := c2997
                      refine T_p xr_157_302 xn_157 (pc' := 303) (ls' := [(3, .int (iI (bI (part)))), (1, .int (iI wi)), (2, .int (iI col)), (0, .ref 530)]) (st' := [.ref 530]) rfl ?_
                      refine T_p xr_157_303 xn_157 (pc' := 304) (ls' := [(3, .int (iI (bI (part)))), (1, .int (iI wi)), (2, .int (iI col)), (0, .ref 530)]) (st' := [.ref 530, .ref 530]) rfl ?_
                      refine T_get xr_157_304 h2985 rfl (v := .int (iI (o 30))) rfl (pc' := 307) rfl ?_
                      refine T_p xr_157_307 xn_157 (pc' := 308) (ls' := [(3, .int (iI (bI (part)))), (1, .int (iI wi)), (2, .int (iI col)), (0, .ref 530)]) (st' := [.int (iI 1), .int (iI (o 30)), .ref 530]) rfl ?_
                      refine T_ziadd xr_157_308 (z := (o 30) + 1) rfl (pc' := 309) rfl ?_
                      refine T_ie (y := iI (wc + 1)) (by rw [hwc]) ?_
                      refine T_put xr_157_309 h2985 rfl (Nat.le_of_ble_eq_true rfl) rfl (fs' := [.ref 531, .int (iI (o 1)), .ref 532, .int (iI (o 3)), .int (iI (o 4)), .int (iI f2979), .int (iI g2980), .int (iI at1), .int (iI en1), .int (iI tk1), .int (iI nu1), .int (iI dg1), .long nm1, .ref 533, .ref 534, .ref 535, .ref 536, .ref 537, .ref 538, .ref 539, .ref 540, .ref 541, .ref 542, .ref 543, .ref 544, .ref 545, .ref 546, .ref 547, .int (iI (o 28)), .int (iI (o 29)), .int (iI (wc + 1)), .int (iI (o 31)), .int (iI (o 32)), .int (iI (o 33)), .ref 548, .ref 549, .ref 550, .ref 551, .int (iI (o 38)), .ref 552, .ref 553, .ref 554, .ref 555, .ref 556, .ref 557, .ref 558, .ref 559, .ref 560, .ref 561, .int (iI (o 49)), .ref 562, .ref 563, .ref 564, .ref 565, .ref 566, .ref 567, .ref 568, .ref 569, .int (iI (o 58)), .ref 570, .ref 571, .ref 572, .ref 573, .ref 574, .ref 575, .ref 576, .ref 577, .ref 578, .int (iI (o 68)), .int (iI (o 69)), .int (iI (o 70)), .ref 579]) rfl (pc' := 312) rfl (fun S2998 h2999 n3000 e3001 => ?_)
                      refine T_p xr_157_312 xn_157 (pc' := 313) (ls' := [(3, .int (iI (bI (part)))), (1, .int (iI wi)), (2, .int (iI col)), (0, .ref 530)]) (st' := [.ref 530]) rfl ?_
                      refine T_cv (S := S2998) (q := 530) xr_157_313 xf_140.1 xf_140.2.1 xn_140 (as := []) (r := []) rfl h2999 (Nat.le_of_ble_eq_true rfl) (Nat.le_of_ble_eq_true rfl) (pc' := 316) rfl (ls' := [(0, .ref 530)]) rfl ?_
                      refine T_mono (r_isGood sc S2998 (X_ou (X_ou (X_ou (X_ou (X_ou (X_ou (X_ou (X_ou o 5 f2979) 6 g2980) 7 at1) 8 en1) 9 tk1) 10 nu1) 11 dg1) 30 (wc + 1)) nm1 h2999 (show 0 ≤ f2979 ∧ f2979 ≤ 5 from by omega)) (fun v3002 S3003 h3004 => ?_)
                      rcases h3004 with ⟨hv3005, hf3006⟩
                      rw [hv3005]
                      rw [hf3006]
                      show X_T sc 157 (316, [(3, .int (iI (bI (part)))), (1, .int (iI wi)), (2, .int (iI col)), (0, .ref 530)], [.int (iI (bI (f2979 = 0)))], S2998) _
                      refine T_bif_eq xr_157_316 (t := 325) (pc' := 319) rfl rfl (fun c3007 => ?_) (fun c3007 => ?_)
                      · skip
                        have c3007 : ¬ (f2979 = 0) := c3007
                        refine T_vret xr_157_325 xf_157.2.2 ?_
                        refine hQ _ _ ?_
                        have h3008 := (n3000 537 (by decide)).trans ((hf2984.1 537 (by omega)).trans ((hF2669.1 537 (by omega)).trans (hA537)))
                        have h3009 := (n3000 538 (by decide)).trans ((hf2984.1 538 (by omega)).trans ((hF2669.1 538 (by omega)).trans (hA538)))
                        have h3010 := (n3000 539 (by decide)).trans ((hf2984.1 539 (by omega)).trans ((hF2669.1 539 (by omega)).trans (hA539)))
                        have h3011 := (n3000 540 (by decide)).trans ((hf2984.1 540 (by omega)).trans (hA1))
                        have h3012 := (n3000 541 (by decide)).trans ((hf2984.1 541 (by omega)).trans (hA2))
                        have h3013 := (n3000 542 (by decide)).trans ((hf2984.1 542 (by omega)).trans ((hF2669.1 542 (by omega)).trans (hA542)))
                        have h3014 := (n3000 543 (by decide)).trans ((hf2984.1 543 (by omega)).trans ((hF2669.1 543 (by omega)).trans (hA543)))
                        have h3015 := (n3000 544 (by decide)).trans ((hf2984.1 544 (by omega)).trans ((hF2669.1 544 (by omega)).trans (hA544)))
                        have h3016 := (n3000 545 (by decide)).trans ((hf2984.1 545 (by omega)).trans (hA3))
                        have h3017 := (n3000 546 (by decide)).trans ((hf2984.1 546 (by omega)).trans (hA4))
                        have h3018 := (n3000 547 (by decide)).trans ((hf2984.1 547 (by omega)).trans (hA5))
                        refine Or.inr ⟨at1, en1, tk1, nu1, dg1, nm1, wc + 1, f2979, g2980, wR, wL, wK, wM1, wH1, wS, sO, sN, eP1, eH1, hK1, rfl, by omega, ?_, R_ob.rf, R_ob.rf, R_ob.rf, by exact hob4, by exact hob5, R_ob.rf, R_ob.rf, R_ob.rf, by exact hob9, by exact hob10, by exact hob11, h2999, h3008, h3009, h3010, h3011, h3012, h3013, h3014, h3015, h3016, h3017, h3018, (((X_Fr.rf).tr (X_Fr.mono ⟨hF2669.1, hF2669.2⟩ (fun q hq => (by omega)))).tr (X_Fr.mono ⟨hf2984.1, hf2984.2⟩ (fun q hq => (by omega)))).tr (X_Fr.of n3000 e3001 (by omega))⟩
                        by_cases h61 : so c1 = 61 ∨ so c1 = 59
                        · have hel : sp_el n so ct kn kc 9 c d q = some (c1, d1, q1) := by
                            rw [← hR, show (9 - d1 3 0).toNat = (9 - (d1 3 0 + 1)).toNat + 1 by omega]
                            show (if so c1 = 61 then _ else if so c1 = 59 then _ else _) = _
                            first | rw [if_pos (by omega)] | rw [if_neg (by omega), if_pos (by omega)] | (by_cases hz : so c1 = 61; (rw [if_pos hz]); (rw [if_neg hz, if_pos (by omega)]))
                          rw [hel, Option.bind_some]
                          dsimp only
                          unfold sp_we
                          (repeat (first | rw [if_pos (by assumption)] | rw [if_neg (by assumption)] | rw [if_neg (by omega)] | rw [if_pos (by omega)]))
                          all_goals first | rfl | ((repeat' split) <;> first | rfl | (exfalso; omega) | contradiction)
                        · have hel : sp_el n so ct kn kc 9 c d q = none := by
                            rw [← hR, show (9 - d1 3 0).toNat = (9 - (d1 3 0 + 1)).toNat + 1 by omega, sp_el_e1 _ (by omega) (by omega)]
                            unfold sp_e1
                            rw [if_neg (by omega), if_neg (by omega)]
                            rfl
                          rw [hel]
                          rfl
                      · skip
                        have c3007 : (f2979 = 0) := c3007
                        exact (show False by first | contradiction | omega).elim
                    · skip
                      have c2997 : (f2979 = 0) := c2997
                      exact (show False by first | contradiction | omega).elim
                  · skip
                    have c2991 : (f2979 = 0) := c2991
                    exact (show False by first | contradiction | omega).elim
                · skip
                  have c2975 : (part) := c2975
                  have hpx : ¬ d1 4 0 = d1 3 0 := (hpt rfl).mp (by assumption)
                  refine T_p xr_157_225 xn_157 (pc' := 226) (ls' := [(3, .int (iI (bI (part)))), (1, .int (iI wi)), (2, .int (iI col)), (0, .ref 530)]) (st' := [.ref 530]) rfl ?_
                  refine T_p xr_157_226 xn_157 (pc' := 228) (ls' := [(3, .int (iI (bI (part)))), (1, .int (iI wi)), (2, .int (iI col)), (0, .ref 530)]) (st' := [.int (iI 61), .ref 530]) rfl ?_
                  refine T_cv (S := S2670) (q := 530) xr_157_228 xf_145.1 xf_145.2.1 xn_145 (as := [.int (iI 61)]) (r := []) rfl hM2716 (Nat.le_of_ble_eq_true rfl) (Nat.le_of_ble_eq_true rfl) (pc' := 231) rfl (ls' := [(0, .ref 530), (1, .int (iI 61))]) rfl ?_
                  refine T_mono (r_is sc S2670 (X_ou (X_ou (X_ou (X_ou (X_ou (X_ou o 6 g1) 7 at1) 8 en1) 9 tk1) 10 nu1) 11 dg1) nm1 tx tb len n so pl ct E c1 61 hM2716 h2918 (show (o 3) = len from by first | assumption | omega) hl htx hX hT1 (by omega)) (fun v3019 S3020 h3021 => ?_)
                  rcases h3021 with ⟨hv3022, hf3023⟩
                  rw [hv3022]
                  rw [hf3023]
                  show X_T sc 157 (231, [(3, .int (iI (bI (part)))), (1, .int (iI wi)), (2, .int (iI col)), (0, .ref 530)], [.int (iI (bI (so c1 = 61)))], S2670) _
                  refine T_bif_ne xr_157_231 (t := 247) (pc' := 234) rfl rfl (fun c3024 => ?_) (fun c3024 => ?_)
                  · skip
                    have c3024 : (so c1 = 61) := c3024
                    refine T_p xr_157_247 xn_157 (pc' := 248) (ls' := [(3, .int (iI (bI (part)))), (1, .int (iI wi)), (2, .int (iI col)), (0, .ref 530)]) (st' := [.ref 530]) rfl ?_
                    refine T_cv (S := S2670) (q := 530) xr_157_248 xf_140.1 xf_140.2.1 xn_140 (as := []) (r := []) rfl hM2716 (Nat.le_of_ble_eq_true rfl) (Nat.le_of_ble_eq_true rfl) (pc' := 251) rfl (ls' := [(0, .ref 530)]) rfl ?_
                    refine T_mono (r_isGood sc S2670 (X_ou (X_ou (X_ou (X_ou (X_ou (X_ou o 6 g1) 7 at1) 8 en1) 9 tk1) 10 nu1) 11 dg1) nm1 hM2716 (show 0 ≤ (o 5) ∧ (o 5) ≤ 5 from by omega)) (fun v3025 S3026 h3027 => ?_)
                    rcases h3027 with ⟨hv3028, hf3029⟩
                    rw [hv3028]
                    rw [hf3029]
                    show X_T sc 157 (251, [(3, .int (iI (bI (part)))), (1, .int (iI wi)), (2, .int (iI col)), (0, .ref 530)], [.int (iI (bI ((o 5) = 0)))], S2670) _
                    refine T_bif_eq xr_157_251 (t := 277) (pc' := 254) rfl rfl (fun c3030 => ?_) (fun c3030 => ?_)
                    · skip
                      have c3030 : ¬ ((o 5) = 0) := c3030
                      exact (show False by first | contradiction | omega).elim
                    · skip
                      have c3030 : ((o 5) = 0) := c3030
                      refine T_p xr_157_254 xn_157 (pc' := 255) (ls' := [(3, .int (iI (bI (part)))), (1, .int (iI wi)), (2, .int (iI col)), (0, .ref 530)]) (st' := [.ref 530]) rfl ?_
                      refine T_get xr_157_255 hM2716 rfl (v := .ref 538) rfl (pc' := 258) rfl ?_
                      refine T_p xr_157_258 xn_157 (pc' := 259) (ls' := [(3, .int (iI (bI (part)))), (1, .int (iI wi)), (2, .int (iI col)), (0, .ref 530)]) (st' := [.int (iI wi), .ref 538]) rfl ?_
                      have h3031 := (hF2669.1 538 (by omega)).trans (hA538)
                      refine T_ziald xr_157_259 h3031 (pc' := 260) rfl ?_
                      refine T_zif_le xr_157_260 (t := 277) (pc' := 263) rfl rfl (fun c3032 => ?_) (fun c3032 => ?_)
                      · skip
                        have c3032 : (wL wi) ≤ 0 := c3032
                        refine T_p xr_157_277 xn_157 (pc' := 278) (ls' := [(3, .int (iI (bI (part)))), (1, .int (iI wi)), (2, .int (iI col)), (0, .ref 530)]) (st' := [.ref 530]) rfl ?_
                        refine T_cv (S := S2670) (q := 530) xr_157_278 xf_140.1 xf_140.2.1 xn_140 (as := []) (r := []) rfl hM2716 (Nat.le_of_ble_eq_true rfl) (Nat.le_of_ble_eq_true rfl) (pc' := 281) rfl (ls' := [(0, .ref 530)]) rfl ?_
                        refine T_mono (r_isGood sc S2670 (X_ou (X_ou (X_ou (X_ou (X_ou (X_ou o 6 g1) 7 at1) 8 en1) 9 tk1) 10 nu1) 11 dg1) nm1 hM2716 (show 0 ≤ (o 5) ∧ (o 5) ≤ 5 from by omega)) (fun v3033 S3034 h3035 => ?_)
                        rcases h3035 with ⟨hv3036, hf3037⟩
                        rw [hv3036]
                        rw [hf3037]
                        show X_T sc 157 (281, [(3, .int (iI (bI (part)))), (1, .int (iI wi)), (2, .int (iI col)), (0, .ref 530)], [.int (iI (bI ((o 5) = 0)))], S2670) _
                        refine T_bif_eq xr_157_281 (t := 302) (pc' := 284) rfl rfl (fun c3038 => ?_) (fun c3038 => ?_)
                        · skip
                          have c3038 : ¬ ((o 5) = 0) := c3038
                          exact (show False by first | contradiction | omega).elim
                        · skip
                          have c3038 : ((o 5) = 0) := c3038
                          refine T_p xr_157_284 xn_157 (pc' := 285) (ls' := [(3, .int (iI (bI (part)))), (1, .int (iI wi)), (2, .int (iI col)), (0, .ref 530)]) (st' := [.ref 530]) rfl ?_
                          refine T_p xr_157_285 xn_157 (pc' := 287) (ls' := [(3, .int (iI (bI (part)))), (1, .int (iI wi)), (2, .int (iI col)), (0, .ref 530)]) (st' := [.int (iI 61), .ref 530]) rfl ?_
                          refine T_cv (S := S2670) (q := 530) xr_157_287 xf_145.1 xf_145.2.1 xn_145 (as := [.int (iI 61)]) (r := []) rfl hM2716 (Nat.le_of_ble_eq_true rfl) (Nat.le_of_ble_eq_true rfl) (pc' := 290) rfl (ls' := [(0, .ref 530), (1, .int (iI 61))]) rfl ?_
                          refine T_mono (r_is sc S2670 (X_ou (X_ou (X_ou (X_ou (X_ou (X_ou o 6 g1) 7 at1) 8 en1) 9 tk1) 10 nu1) 11 dg1) nm1 tx tb len n so pl ct E c1 61 hM2716 h2918 (show (o 3) = len from by first | assumption | omega) hl htx hX hT1 (by omega)) (fun v3039 S3040 h3041 => ?_)
                          rcases h3041 with ⟨hv3042, hf3043⟩
                          rw [hv3042]
                          rw [hf3043]
                          show X_T sc 157 (290, [(3, .int (iI (bI (part)))), (1, .int (iI wi)), (2, .int (iI col)), (0, .ref 530)], [.int (iI (bI (so c1 = 61)))], S2670) _
                          refine T_bif_eq xr_157_290 (t := 302) (pc' := 293) rfl rfl (fun c3044 => ?_) (fun c3044 => ?_)
                          · skip
                            have c3044 : ¬ (so c1 = 61) := c3044
                            exact (show False by first | contradiction | omega).elim
                          · skip
                            have c3044 : (so c1 = 61) := c3044
                            refine T_p xr_157_293 xn_157 (pc' := 294) (ls' := [(3, .int (iI (bI (part)))), (1, .int (iI wi)), (2, .int (iI col)), (0, .ref 530)]) (st' := [.ref 530]) rfl ?_
                            refine T_cv (S := S2670) (q := 530) xr_157_294 xf_141.1 xf_141.2.1 xn_141 (as := []) (r := []) rfl hM2716 (Nat.le_of_ble_eq_true rfl) (Nat.le_of_ble_eq_true rfl) (pc' := 297) rfl (ls' := [(0, .ref 530)]) rfl ?_
                            refine T_mono (r_nx sc S2670 (X_ou (X_ou (X_ou (X_ou (X_ou (X_ou o 6 g1) 7 at1) 8 en1) 9 tk1) 10 nu1) 11 dg1) nm1 tx tb len n so pl ct E c1 hM2716 h2918 (show (o 3) = len from by first | assumption | omega) hl htx hX hT1 (by omega)) (fun v3045 S3046 h3047 => ?_)
                            rcases h3047 with ⟨at3048, en3049, tk3050, nu3051, dg3052, nm3053, hv3054, hp3055, hM3056, hf3057⟩
                            rw [hv3054]
                            have h3058 : S3046.1 530 = .inr (11, [.ref 531, .int (iI (o 1)), .ref 532, .int (iI (o 3)), .int (iI (o 4)), .int (iI (o 5)), .int (iI g1), .int (iI at3048), .int (iI en3049), .int (iI tk3050), .int (iI nu3051), .int (iI dg3052), .long nm3053, .ref 533, .ref 534, .ref 535, .ref 536, .ref 537, .ref 538, .ref 539, .ref 540, .ref 541, .ref 542, .ref 543, .ref 544, .ref 545, .ref 546, .ref 547, .int (iI (o 28)), .int (iI (o 29)), .int (iI (o 30)), .int (iI (o 31)), .int (iI (o 32)), .int (iI (o 33)), .ref 548, .ref 549, .ref 550, .ref 551, .int (iI (o 38)), .ref 552, .ref 553, .ref 554, .ref 555, .ref 556, .ref 557, .ref 558, .ref 559, .ref 560, .ref 561, .int (iI (o 49)), .ref 562, .ref 563, .ref 564, .ref 565, .ref 566, .ref 567, .ref 568, .ref 569, .int (iI (o 58)), .ref 570, .ref 571, .ref 572, .ref 573, .ref 574, .ref 575, .ref 576, .ref 577, .ref 578, .int (iI (o 68)), .int (iI (o 69)), .int (iI (o 70)), .ref 579]) := hM3056
                            obtain ⟨⟨_, _⟩, ⟨_, _⟩, hk3059, ⟨_, _⟩, hk3059e, ⟨_, _⟩, ⟨_, _⟩⟩ := R_tk_f hX hp3055
                            show X_T sc 157 (297, [(3, .int (iI (bI (part)))), (1, .int (iI wi)), (2, .int (iI col)), (0, .ref 530)], [], S3046) _
                            refine T_p xr_157_297 xn_157 (pc' := 298) (ls' := [(3, .int (iI (bI (part)))), (1, .int (iI wi)), (2, .int (iI col)), (0, .ref 530)]) (st' := [.ref 530]) rfl ?_
                            refine T_p xr_157_298 xn_157 (pc' := 299) (ls' := [(3, .int (iI (bI (part)))), (1, .int (iI wi)), (2, .int (iI col)), (0, .ref 530)]) (st' := [.int (iI wi), .ref 530]) rfl ?_
                            refine T_cv (S := S3046) (q := 530) xr_157_299 xf_159.1 xf_159.2.1 xn_159 (as := [.int (iI wi)]) (r := []) rfl h3058 (Nat.le_of_ble_eq_true rfl) (Nat.le_of_ble_eq_true rfl) (pc' := 302) rfl (ls' := [(0, .ref 530), (1, .int (iI wi))]) rfl ?_
                            have h3060 := (hf3057.1 532 (by omega)).trans (h2918)
                            have h3061 := (hf3057.1 541 (by omega)).trans (hA2)
                            have h3062 := (hf3057.1 542 (by omega)).trans ((hF2669.1 542 (by omega)).trans (hA542))
                            have h3063 := (hf3057.1 543 (by omega)).trans ((hF2669.1 543 (by omega)).trans (hA543))
                            have h3064 := (hf3057.1 544 (by omega)).trans ((hF2669.1 544 (by omega)).trans (hA544))
                            refine T_mono (r_readSteps sc S3046 (X_ou (X_ou (X_ou (X_ou (X_ou (X_ou o 6 g1) 7 at3048) 8 en3049) 9 tk3050) 10 nu3051) 11 dg3052) nm3053 tx wH1 wS sO sN tb len n so pl ct E (X_av n c1) wi d1 h3058 h3060 h3061 h3062 h3063 h3064 (show (o 3) = len from by first | assumption | omega) hl htx hX hp3055 (show (o 5) = 0 from by omega) (by omega) hE1.2.1 (by omega)) (fun v3065 S3066 h3067 => ?_)
                            rcases h3067 with ⟨at3068, en3069, tk3070, nu3071, dg3072, nm3073, g3074, c3075, d3076, wS3077, sO3078, sN3079, hv3080, hp3081, hp3082, hp3083, hp3084, hp3085, hp3086, hp3087, hM3088, ha3089, ha3090, ha3091, hf3092⟩ | ⟨at3093, en3094, tk3095, nu3096, dg3097, nm3098, f3099, g3100, wS3101, sO3102, sN3103, hv3104, hp3105, hp3106, hp3107, hp3108, hp3109, hM3110, ha3111, ha3112, ha3113, hf3114⟩
                            · skip
                              rw [hv3080]
                              have h3115 : S3066.1 530 = .inr (11, [.ref 531, .int (iI (o 1)), .ref 532, .int (iI (o 3)), .int (iI (o 4)), .int (iI (o 5)), .int (iI g3074), .int (iI at3068), .int (iI en3069), .int (iI tk3070), .int (iI nu3071), .int (iI dg3072), .long nm3073, .ref 533, .ref 534, .ref 535, .ref 536, .ref 537, .ref 538, .ref 539, .ref 540, .ref 541, .ref 542, .ref 543, .ref 544, .ref 545, .ref 546, .ref 547, .int (iI (o 28)), .int (iI (o 29)), .int (iI (o 30)), .int (iI (o 31)), .int (iI (o 32)), .int (iI (o 33)), .ref 548, .ref 549, .ref 550, .ref 551, .int (iI (o 38)), .ref 552, .ref 553, .ref 554, .ref 555, .ref 556, .ref 557, .ref 558, .ref 559, .ref 560, .ref 561, .int (iI (o 49)), .ref 562, .ref 563, .ref 564, .ref 565, .ref 566, .ref 567, .ref 568, .ref 569, .int (iI (o 58)), .ref 570, .ref 571, .ref 572, .ref 573, .ref 574, .ref 575, .ref 576, .ref 577, .ref 578, .int (iI (o 68)), .int (iI (o 69)), .int (iI (o 70)), .ref 579]) := hM3088
                              obtain ⟨⟨_, _⟩, ⟨_, _⟩, hk3116, ⟨_, _⟩, hk3116e, ⟨_, _⟩, ⟨_, _⟩⟩ := R_tk_f hX hp3081
                              show X_T sc 157 (302, [(3, .int (iI (bI (part)))), (1, .int (iI wi)), (2, .int (iI col)), (0, .ref 530)], [], S3066) _
                              refine T_p xr_157_302 xn_157 (pc' := 303) (ls' := [(3, .int (iI (bI (part)))), (1, .int (iI wi)), (2, .int (iI col)), (0, .ref 530)]) (st' := [.ref 530]) rfl ?_
                              refine T_p xr_157_303 xn_157 (pc' := 304) (ls' := [(3, .int (iI (bI (part)))), (1, .int (iI wi)), (2, .int (iI col)), (0, .ref 530)]) (st' := [.ref 530, .ref 530]) rfl ?_
                              refine T_get xr_157_304 h3115 rfl (v := .int (iI (o 30))) rfl (pc' := 307) rfl ?_
                              refine T_p xr_157_307 xn_157 (pc' := 308) (ls' := [(3, .int (iI (bI (part)))), (1, .int (iI wi)), (2, .int (iI col)), (0, .ref 530)]) (st' := [.int (iI 1), .int (iI (o 30)), .ref 530]) rfl ?_
                              refine T_ziadd xr_157_308 (z := (o 30) + 1) rfl (pc' := 309) rfl ?_
                              refine T_ie (y := iI (wc + 1)) (by rw [hwc]) ?_
                              refine T_put xr_157_309 h3115 rfl (Nat.le_of_ble_eq_true rfl) rfl (fs' := [.ref 531, .int (iI (o 1)), .ref 532, .int (iI (o 3)), .int (iI (o 4)), .int (iI (o 5)), .int (iI g3074), .int (iI at3068), .int (iI en3069), .int (iI tk3070), .int (iI nu3071), .int (iI dg3072), .long nm3073, .ref 533, .ref 534, .ref 535, .ref 536, .ref 537, .ref 538, .ref 539, .ref 540, .ref 541, .ref 542, .ref 543, .ref 544, .ref 545, .ref 546, .ref 547, .int (iI (o 28)), .int (iI (o 29)), .int (iI (wc + 1)), .int (iI (o 31)), .int (iI (o 32)), .int (iI (o 33)), .ref 548, .ref 549, .ref 550, .ref 551, .int (iI (o 38)), .ref 552, .ref 553, .ref 554, .ref 555, .ref 556, .ref 557, .ref 558, .ref 559, .ref 560, .ref 561, .int (iI (o 49)), .ref 562, .ref 563, .ref 564, .ref 565, .ref 566, .ref 567, .ref 568, .ref 569, .int (iI (o 58)), .ref 570, .ref 571, .ref 572, .ref 573, .ref 574, .ref 575, .ref 576, .ref 577, .ref 578, .int (iI (o 68)), .int (iI (o 69)), .int (iI (o 70)), .ref 579]) rfl (pc' := 312) rfl (fun S3118 h3119 n3120 e3121 => ?_)
                              refine T_p xr_157_312 xn_157 (pc' := 313) (ls' := [(3, .int (iI (bI (part)))), (1, .int (iI wi)), (2, .int (iI col)), (0, .ref 530)]) (st' := [.ref 530]) rfl ?_
                              refine T_cv (S := S3118) (q := 530) xr_157_313 xf_140.1 xf_140.2.1 xn_140 (as := []) (r := []) rfl h3119 (Nat.le_of_ble_eq_true rfl) (Nat.le_of_ble_eq_true rfl) (pc' := 316) rfl (ls' := [(0, .ref 530)]) rfl ?_
                              refine T_mono (r_isGood sc S3118 (X_ou (X_ou (X_ou (X_ou (X_ou (X_ou (X_ou o 6 g3074) 7 at3068) 8 en3069) 9 tk3070) 10 nu3071) 11 dg3072) 30 (wc + 1)) nm3073 h3119 (show 0 ≤ (o 5) ∧ (o 5) ≤ 5 from by omega)) (fun v3122 S3123 h3124 => ?_)
                              rcases h3124 with ⟨hv3125, hf3126⟩
                              rw [hv3125]
                              rw [hf3126]
                              show X_T sc 157 (316, [(3, .int (iI (bI (part)))), (1, .int (iI wi)), (2, .int (iI col)), (0, .ref 530)], [.int (iI (bI ((o 5) = 0)))], S3118) _
                              refine T_bif_eq xr_157_316 (t := 325) (pc' := 319) rfl rfl (fun c3127 => ?_) (fun c3127 => ?_)
                              · skip
                                have c3127 : ¬ ((o 5) = 0) := c3127
                                exact (show False by first | contradiction | omega).elim
                              · skip
                                have c3127 : ((o 5) = 0) := c3127
                                refine T_p xr_157_319 xn_157 (pc' := 320) (ls' := [(3, .int (iI (bI (part)))), (1, .int (iI wi)), (2, .int (iI col)), (0, .ref 530)]) (st' := [.ref 530]) rfl ?_
                                refine T_p xr_157_320 xn_157 (pc' := 322) (ls' := [(3, .int (iI (bI (part)))), (1, .int (iI wi)), (2, .int (iI col)), (0, .ref 530)]) (st' := [.int (iI 59), .ref 530]) rfl ?_
                                refine T_cv (S := S3118) (q := 530) xr_157_322 xf_148.1 xf_148.2.1 xn_148 (as := [.int (iI 59)]) (r := []) rfl h3119 (Nat.le_of_ble_eq_true rfl) (Nat.le_of_ble_eq_true rfl) (pc' := 325) rfl (ls' := [(0, .ref 530), (1, .int (iI 59))]) rfl ?_
                                have h3128 := (n3120 532 (by decide)).trans ((hf3092.1 532 (by omega)).trans (h3060))
                                refine T_mono (r_must sc S3118 (X_ou (X_ou (X_ou (X_ou (X_ou (X_ou (X_ou o 6 g3074) 7 at3068) 8 en3069) 9 tk3070) 10 nu3071) 11 dg3072) 30 (wc + 1)) nm3073 tx tb len n so pl ct E c3075 59 h3119 h3128 (show (o 3) = len from by first | assumption | omega) hl htx hX hp3081 (show (o 5) = 0 from by omega) (by omega)) (fun v3129 S3130 h3131 => ?_)
                                rcases h3131 with ⟨at3132, en3133, tk3134, nu3135, dg3136, nm3137, hv3138, hp3139, hp3140, hM3141, hf3142⟩ | ⟨f3143, g3144, hv3145, hp3146, hp3147, hM3148, hf3149⟩
                                · skip
                                  rw [hv3138]
                                  have h3150 : S3130.1 530 = .inr (11, [.ref 531, .int (iI (o 1)), .ref 532, .int (iI (o 3)), .int (iI (o 4)), .int (iI (o 5)), .int (iI g3074), .int (iI at3132), .int (iI en3133), .int (iI tk3134), .int (iI nu3135), .int (iI dg3136), .long nm3137, .ref 533, .ref 534, .ref 535, .ref 536, .ref 537, .ref 538, .ref 539, .ref 540, .ref 541, .ref 542, .ref 543, .ref 544, .ref 545, .ref 546, .ref 547, .int (iI (o 28)), .int (iI (o 29)), .int (iI (wc + 1)), .int (iI (o 31)), .int (iI (o 32)), .int (iI (o 33)), .ref 548, .ref 549, .ref 550, .ref 551, .int (iI (o 38)), .ref 552, .ref 553, .ref 554, .ref 555, .ref 556, .ref 557, .ref 558, .ref 559, .ref 560, .ref 561, .int (iI (o 49)), .ref 562, .ref 563, .ref 564, .ref 565, .ref 566, .ref 567, .ref 568, .ref 569, .int (iI (o 58)), .ref 570, .ref 571, .ref 572, .ref 573, .ref 574, .ref 575, .ref 576, .ref 577, .ref 578, .int (iI (o 68)), .int (iI (o 69)), .int (iI (o 70)), .ref 579]) := hM3141
                                  obtain ⟨⟨_, _⟩, ⟨_, _⟩, hk3151, ⟨_, _⟩, hk3151e, ⟨_, _⟩, ⟨_, _⟩⟩ := R_tk_f hX hp3139
                                  show X_T sc 157 (325, [(3, .int (iI (bI (part)))), (1, .int (iI wi)), (2, .int (iI col)), (0, .ref 530)], [], S3130) _
                                  refine T_vret xr_157_325 xf_157.2.2 ?_
                                  refine hQ _ _ ?_
                                  have h3153 := (hf3142.1 537 (by omega)).trans ((n3120 537 (by decide)).trans ((hf3092.1 537 (by omega)).trans ((hf3057.1 537 (by omega)).trans ((hF2669.1 537 (by omega)).trans (hA537)))))
                                  have h3154 := (hf3142.1 538 (by omega)).trans ((n3120 538 (by decide)).trans ((hf3092.1 538 (by omega)).trans ((hf3057.1 538 (by omega)).trans (h3031))))
                                  have h3155 := (hf3142.1 539 (by omega)).trans ((n3120 539 (by decide)).trans ((hf3092.1 539 (by omega)).trans ((hf3057.1 539 (by omega)).trans ((hF2669.1 539 (by omega)).trans (hA539)))))
                                  have h3156 := (hf3142.1 540 (by omega)).trans ((n3120 540 (by decide)).trans ((hf3092.1 540 (by omega)).trans ((hf3057.1 540 (by omega)).trans (hA1))))
                                  have h3157 := (hf3142.1 541 (by omega)).trans ((n3120 541 (by decide)).trans ((hf3092.1 541 (by omega)).trans (h3061)))
                                  have h3158 := (hf3142.1 542 (by omega)).trans ((n3120 542 (by decide)).trans (ha3089))
                                  have h3159 := (hf3142.1 543 (by omega)).trans ((n3120 543 (by decide)).trans (ha3090))
                                  have h3160 := (hf3142.1 544 (by omega)).trans ((n3120 544 (by decide)).trans (ha3091))
                                  have h3161 := (hf3142.1 545 (by omega)).trans ((n3120 545 (by decide)).trans ((hf3092.1 545 (by omega)).trans ((hf3057.1 545 (by omega)).trans (hA3))))
                                  have h3162 := (hf3142.1 546 (by omega)).trans ((n3120 546 (by decide)).trans ((hf3092.1 546 (by omega)).trans ((hf3057.1 546 (by omega)).trans (hA4))))
                                  have h3163 := (hf3142.1 547 (by omega)).trans ((n3120 547 (by decide)).trans ((hf3092.1 547 (by omega)).trans ((hf3057.1 547 (by omega)).trans (hA5))))
                                  have hst := sp_sl_ok _ _ _ _ _ (X_av_r ⟨by omega, by omega⟩) hp3082 ⟨(show (0 : Int) ≤ 0 by omega), ⟨(show (0 : Int) ≤ 0 by omega), (show (0 : Int) ≤ 16 by omega)⟩, fun k h1 h2 => absurd (show k < 0 from h2) (by omega)⟩ rfl
                                  obtain ⟨-, -, hst3, -, -⟩ := hst
                                  have hst4 : ∀ f, f ≠ 5 → f ≠ 12 → f ≠ 13 → d3076 f = d1 f := fun f f1 f2 f3 => (hst3 f f1 f2 f3).trans (by unfold X_wu; rw [if_neg f1])
                                  refine Or.inl ⟨at3132, en3133, tk3134, nu3135, dg3136, nm3137, g3074, X_av n c3075, d3076, q1, wR, wL, wK, wM1, wH1, wS3077, sO3078, sN3079, eP1, eH1, hK1, rfl, hp3139, ?_, ⟨by rw [hst4 0 (by decide) (by decide) (by decide), hfd 0 (by decide) (by decide) (by decide) (by decide)]; exact hW.1, by rw [hst4 1 (by decide) (by decide) (by decide), hfd 1 (by decide) (by decide) (by decide) (by decide)]; exact hW.2.1, by rw [hst4 2 (by decide) (by decide) (by decide), hfd 2 (by decide) (by decide) (by decide) (by decide)]; exact hW.2.2.1, hE1.cg (hst4 3 (by decide) (by decide) (by decide)) (hst4 4 (by decide) (by decide) (by decide)) (hst4 8 (by decide) (by decide) (by decide)) (hst4 9 (by decide) (by decide) (by decide)), hp3084⟩, R_ob.rf, R_ob.rf, R_ob.rf, by exact hob4, by exact hob5, hp3085, hp3086, hp3087, by exact hob9, by exact hob10, by exact hob11, h3150, h3153, h3154, h3155, h3156, h3157, h3158, h3159, h3160, h3161, h3162, h3163, (((((X_Fr.rf).tr (X_Fr.mono ⟨hF2669.1, hF2669.2⟩ (fun q hq => (by omega)))).tr (X_Fr.mono ⟨hf3057.1, hf3057.2⟩ (fun q hq => (by omega)))).tr (X_Fr.mono ⟨hf3092.1, hf3092.2⟩ (fun q hq => (by omega)))).tr (X_Fr.of n3120 e3121 (by omega))).tr (X_Fr.mono ⟨hf3142.1, hf3142.2⟩ (fun q hq => (by omega)))⟩
                                  have hel : sp_el n so ct kn kc 9 c d q = some (c1, d1, q1) := by
                                    rw [← hR, show (9 - d1 3 0).toNat = (9 - (d1 3 0 + 1)).toNat + 1 by omega]
                                    show (if so c1 = 61 then _ else if so c1 = 59 then _ else _) = _
                                    first | rw [if_pos (by omega)] | rw [if_neg (by omega), if_pos (by omega)] | (by_cases hz : so c1 = 61; (rw [if_pos hz]); (rw [if_neg hz, if_pos (by omega)]))
                                  rw [hel, Option.bind_some]
                                  dsimp only
                                  unfold sp_we
                                  (repeat (first | rw [if_pos (by assumption)] | rw [if_neg (by assumption)] | rw [if_neg (by omega)] | rw [if_pos (by omega)]))
                                  all_goals (rw [sp_sl_steps hp3082, Option.bind_some]; dsimp only; rw [if_pos (by omega), if_pos rfl]; rfl)
                                · skip
                                  rw [hv3145]
                                  have h3152 : S3130.1 530 = .inr (11, [.ref 531, .int (iI (o 1)), .ref 532, .int (iI (o 3)), .int (iI (o 4)), .int (iI f3143), .int (iI g3144), .int (iI at3068), .int (iI en3069), .int (iI tk3070), .int (iI nu3071), .int (iI dg3072), .long nm3073, .ref 533, .ref 534, .ref 535, .ref 536, .ref 537, .ref 538, .ref 539, .ref 540, .ref 541, .ref 542, .ref 543, .ref 544, .ref 545, .ref 546, .ref 547, .int (iI (o 28)), .int (iI (o 29)), .int (iI (wc + 1)), .int (iI (o 31)), .int (iI (o 32)), .int (iI (o 33)), .ref 548, .ref 549, .ref 550, .ref 551, .int (iI (o 38)), .ref 552, .ref 553, .ref 554, .ref 555, .ref 556, .ref 557, .ref 558, .ref 559, .ref 560, .ref 561, .int (iI (o 49)), .ref 562, .ref 563, .ref 564, .ref 565, .ref 566, .ref 567, .ref 568, .ref 569, .int (iI (o 58)), .ref 570, .ref 571, .ref 572, .ref 573, .ref 574, .ref 575, .ref 576, .ref 577, .ref 578, .int (iI (o 68)), .int (iI (o 69)), .int (iI (o 70)), .ref 579]) := hM3148
                                  show X_T sc 157 (325, [(3, .int (iI (bI (part)))), (1, .int (iI wi)), (2, .int (iI col)), (0, .ref 530)], [], S3130) _
                                  refine T_vret xr_157_325 xf_157.2.2 ?_
                                  refine hQ _ _ ?_
                                  have h3164 := (hf3149.1 537 (by omega)).trans ((n3120 537 (by decide)).trans ((hf3092.1 537 (by omega)).trans ((hf3057.1 537 (by omega)).trans ((hF2669.1 537 (by omega)).trans (hA537)))))
                                  have h3165 := (hf3149.1 538 (by omega)).trans ((n3120 538 (by decide)).trans ((hf3092.1 538 (by omega)).trans ((hf3057.1 538 (by omega)).trans (h3031))))
                                  have h3166 := (hf3149.1 539 (by omega)).trans ((n3120 539 (by decide)).trans ((hf3092.1 539 (by omega)).trans ((hf3057.1 539 (by omega)).trans ((hF2669.1 539 (by omega)).trans (hA539)))))
                                  have h3167 := (hf3149.1 540 (by omega)).trans ((n3120 540 (by decide)).trans ((hf3092.1 540 (by omega)).trans ((hf3057.1 540 (by omega)).trans (hA1))))
                                  have h3168 := (hf3149.1 541 (by omega)).trans ((n3120 541 (by decide)).trans ((hf3092.1 541 (by omega)).trans (h3061)))
                                  have h3169 := (hf3149.1 542 (by omega)).trans ((n3120 542 (by decide)).trans (ha3089))
                                  have h3170 := (hf3149.1 543 (by omega)).trans ((n3120 543 (by decide)).trans (ha3090))
                                  have h3171 := (hf3149.1 544 (by omega)).trans ((n3120 544 (by decide)).trans (ha3091))
                                  have h3172 := (hf3149.1 545 (by omega)).trans ((n3120 545 (by decide)).trans ((hf3092.1 545 (by omega)).trans ((hf3057.1 545 (by omega)).trans (hA3))))
                                  have h3173 := (hf3149.1 546 (by omega)).trans ((n3120 546 (by decide)).trans ((hf3092.1 546 (by omega)).trans ((hf3057.1 546 (by omega)).trans (hA4))))
                                  have h3174 := (hf3149.1 547 (by omega)).trans ((n3120 547 (by decide)).trans ((hf3092.1 547 (by omega)).trans ((hf3057.1 547 (by omega)).trans (hA5))))
                                  refine Or.inr ⟨at3068, en3069, tk3070, nu3071, dg3072, nm3073, wc + 1, f3143, g3144, wR, wL, wK, wM1, wH1, wS3077, sO3078, sN3079, eP1, eH1, hK1, rfl, by omega, ?_, R_ob.rf, R_ob.rf, R_ob.rf, by exact hob4, by exact hob5, hp3085, hp3086, hp3087, by exact hob9, by exact hob10, by exact hob11, h3152, h3164, h3165, h3166, h3167, h3168, h3169, h3170, h3171, h3172, h3173, h3174, (((((X_Fr.rf).tr (X_Fr.mono ⟨hF2669.1, hF2669.2⟩ (fun q hq => (by omega)))).tr (X_Fr.mono ⟨hf3057.1, hf3057.2⟩ (fun q hq => (by omega)))).tr (X_Fr.mono ⟨hf3092.1, hf3092.2⟩ (fun q hq => (by omega)))).tr (X_Fr.of n3120 e3121 (by omega))).tr (X_Fr.mono ⟨hf3149.1, hf3149.2⟩ (fun q hq => (by omega)))⟩
                                  by_cases h61 : so c1 = 61 ∨ so c1 = 59
                                  · have hel : sp_el n so ct kn kc 9 c d q = some (c1, d1, q1) := by
                                      rw [← hR, show (9 - d1 3 0).toNat = (9 - (d1 3 0 + 1)).toNat + 1 by omega]
                                      show (if so c1 = 61 then _ else if so c1 = 59 then _ else _) = _
                                      first | rw [if_pos (by omega)] | rw [if_neg (by omega), if_pos (by omega)] | (by_cases hz : so c1 = 61; (rw [if_pos hz]); (rw [if_neg hz, if_pos (by omega)]))
                                    rw [hel, Option.bind_some]
                                    dsimp only
                                    unfold sp_we
                                    (repeat (first | rw [if_pos (by assumption)] | rw [if_neg (by assumption)] | rw [if_neg (by omega)] | rw [if_pos (by omega)]))
                                    all_goals first | rfl | ((repeat' split) <;> first | rfl | (exfalso; omega) | contradiction)
                                  · have hel : sp_el n so ct kn kc 9 c d q = none := by
                                      rw [← hR, show (9 - d1 3 0).toNat = (9 - (d1 3 0 + 1)).toNat + 1 by omega, sp_el_e1 _ (by omega) (by omega)]
                                      unfold sp_e1
                                      rw [if_neg (by omega), if_neg (by omega)]
                                      rfl
                                    rw [hel]
                                    rfl
                            · skip
                              rw [hv3104]
                              have h3117 : S3066.1 530 = .inr (11, [.ref 531, .int (iI (o 1)), .ref 532, .int (iI (o 3)), .int (iI (o 4)), .int (iI f3099), .int (iI g3100), .int (iI at3093), .int (iI en3094), .int (iI tk3095), .int (iI nu3096), .int (iI dg3097), .long nm3098, .ref 533, .ref 534, .ref 535, .ref 536, .ref 537, .ref 538, .ref 539, .ref 540, .ref 541, .ref 542, .ref 543, .ref 544, .ref 545, .ref 546, .ref 547, .int (iI (o 28)), .int (iI (o 29)), .int (iI (o 30)), .int (iI (o 31)), .int (iI (o 32)), .int (iI (o 33)), .ref 548, .ref 549, .ref 550, .ref 551, .int (iI (o 38)), .ref 552, .ref 553, .ref 554, .ref 555, .ref 556, .ref 557, .ref 558, .ref 559, .ref 560, .ref 561, .int (iI (o 49)), .ref 562, .ref 563, .ref 564, .ref 565, .ref 566, .ref 567, .ref 568, .ref 569, .int (iI (o 58)), .ref 570, .ref 571, .ref 572, .ref 573, .ref 574, .ref 575, .ref 576, .ref 577, .ref 578, .int (iI (o 68)), .int (iI (o 69)), .int (iI (o 70)), .ref 579]) := hM3110
                              show X_T sc 157 (302, [(3, .int (iI (bI (part)))), (1, .int (iI wi)), (2, .int (iI col)), (0, .ref 530)], [], S3066) _
                              refine T_p xr_157_302 xn_157 (pc' := 303) (ls' := [(3, .int (iI (bI (part)))), (1, .int (iI wi)), (2, .int (iI col)), (0, .ref 530)]) (st' := [.ref 530]) rfl ?_
                              refine T_p xr_157_303 xn_157 (pc' := 304) (ls' := [(3, .int (iI (bI (part)))), (1, .int (iI wi)), (2, .int (iI col)), (0, .ref 530)]) (st' := [.ref 530, .ref 530]) rfl ?_
                              refine T_get xr_157_304 h3117 rfl (v := .int (iI (o 30))) rfl (pc' := 307) rfl ?_
                              refine T_p xr_157_307 xn_157 (pc' := 308) (ls' := [(3, .int (iI (bI (part)))), (1, .int (iI wi)), (2, .int (iI col)), (0, .ref 530)]) (st' := [.int (iI 1), .int (iI (o 30)), .ref 530]) rfl ?_
                              refine T_ziadd xr_157_308 (z := (o 30) + 1) rfl (pc' := 309) rfl ?_
                              refine T_ie (y := iI (wc + 1)) (by rw [hwc]) ?_
                              refine T_put xr_157_309 h3117 rfl (Nat.le_of_ble_eq_true rfl) rfl (fs' := [.ref 531, .int (iI (o 1)), .ref 532, .int (iI (o 3)), .int (iI (o 4)), .int (iI f3099), .int (iI g3100), .int (iI at3093), .int (iI en3094), .int (iI tk3095), .int (iI nu3096), .int (iI dg3097), .long nm3098, .ref 533, .ref 534, .ref 535, .ref 536, .ref 537, .ref 538, .ref 539, .ref 540, .ref 541, .ref 542, .ref 543, .ref 544, .ref 545, .ref 546, .ref 547, .int (iI (o 28)), .int (iI (o 29)), .int (iI (wc + 1)), .int (iI (o 31)), .int (iI (o 32)), .int (iI (o 33)), .ref 548, .ref 549, .ref 550, .ref 551, .int (iI (o 38)), .ref 552, .ref 553, .ref 554, .ref 555, .ref 556, .ref 557, .ref 558, .ref 559, .ref 560, .ref 561, .int (iI (o 49)), .ref 562, .ref 563, .ref 564, .ref 565, .ref 566, .ref 567, .ref 568, .ref 569, .int (iI (o 58)), .ref 570, .ref 571, .ref 572, .ref 573, .ref 574, .ref 575, .ref 576, .ref 577, .ref 578, .int (iI (o 68)), .int (iI (o 69)), .int (iI (o 70)), .ref 579]) rfl (pc' := 312) rfl (fun S3175 h3176 n3177 e3178 => ?_)
                              refine T_p xr_157_312 xn_157 (pc' := 313) (ls' := [(3, .int (iI (bI (part)))), (1, .int (iI wi)), (2, .int (iI col)), (0, .ref 530)]) (st' := [.ref 530]) rfl ?_
                              refine T_cv (S := S3175) (q := 530) xr_157_313 xf_140.1 xf_140.2.1 xn_140 (as := []) (r := []) rfl h3176 (Nat.le_of_ble_eq_true rfl) (Nat.le_of_ble_eq_true rfl) (pc' := 316) rfl (ls' := [(0, .ref 530)]) rfl ?_
                              refine T_mono (r_isGood sc S3175 (X_ou (X_ou (X_ou (X_ou (X_ou (X_ou (X_ou (X_ou o 5 f3099) 6 g3100) 7 at3093) 8 en3094) 9 tk3095) 10 nu3096) 11 dg3097) 30 (wc + 1)) nm3098 h3176 (show 0 ≤ f3099 ∧ f3099 ≤ 5 from by omega)) (fun v3179 S3180 h3181 => ?_)
                              rcases h3181 with ⟨hv3182, hf3183⟩
                              rw [hv3182]
                              rw [hf3183]
                              show X_T sc 157 (316, [(3, .int (iI (bI (part)))), (1, .int (iI wi)), (2, .int (iI col)), (0, .ref 530)], [.int (iI (bI (f3099 = 0)))], S3175) _
                              refine T_bif_eq xr_157_316 (t := 325) (pc' := 319) rfl rfl (fun c3184 => ?_) (fun c3184 => ?_)
                              · skip
                                have c3184 : ¬ (f3099 = 0) := c3184
                                refine T_vret xr_157_325 xf_157.2.2 ?_
                                refine hQ _ _ ?_
                                have h3185 := (n3177 537 (by decide)).trans ((hf3114.1 537 (by omega)).trans ((hf3057.1 537 (by omega)).trans ((hF2669.1 537 (by omega)).trans (hA537))))
                                have h3186 := (n3177 538 (by decide)).trans ((hf3114.1 538 (by omega)).trans ((hf3057.1 538 (by omega)).trans (h3031)))
                                have h3187 := (n3177 539 (by decide)).trans ((hf3114.1 539 (by omega)).trans ((hf3057.1 539 (by omega)).trans ((hF2669.1 539 (by omega)).trans (hA539))))
                                have h3188 := (n3177 540 (by decide)).trans ((hf3114.1 540 (by omega)).trans ((hf3057.1 540 (by omega)).trans (hA1)))
                                have h3189 := (n3177 541 (by decide)).trans ((hf3114.1 541 (by omega)).trans (h3061))
                                have h3190 := (n3177 542 (by decide)).trans (ha3111)
                                have h3191 := (n3177 543 (by decide)).trans (ha3112)
                                have h3192 := (n3177 544 (by decide)).trans (ha3113)
                                have h3193 := (n3177 545 (by decide)).trans ((hf3114.1 545 (by omega)).trans ((hf3057.1 545 (by omega)).trans (hA3)))
                                have h3194 := (n3177 546 (by decide)).trans ((hf3114.1 546 (by omega)).trans ((hf3057.1 546 (by omega)).trans (hA4)))
                                have h3195 := (n3177 547 (by decide)).trans ((hf3114.1 547 (by omega)).trans ((hf3057.1 547 (by omega)).trans (hA5)))
                                refine Or.inr ⟨at3093, en3094, tk3095, nu3096, dg3097, nm3098, wc + 1, f3099, g3100, wR, wL, wK, wM1, wH1, wS3101, sO3102, sN3103, eP1, eH1, hK1, rfl, by omega, ?_, R_ob.rf, R_ob.rf, R_ob.rf, by exact hob4, by exact hob5, hp3107, hp3108, hp3109, by exact hob9, by exact hob10, by exact hob11, h3176, h3185, h3186, h3187, h3188, h3189, h3190, h3191, h3192, h3193, h3194, h3195, ((((X_Fr.rf).tr (X_Fr.mono ⟨hF2669.1, hF2669.2⟩ (fun q hq => (by omega)))).tr (X_Fr.mono ⟨hf3057.1, hf3057.2⟩ (fun q hq => (by omega)))).tr (X_Fr.mono ⟨hf3114.1, hf3114.2⟩ (fun q hq => (by omega)))).tr (X_Fr.of n3177 e3178 (by omega))⟩
                                have hel : sp_el n so ct kn kc 9 c d q = some (c1, d1, q1) := by
                                  rw [← hR, show (9 - d1 3 0).toNat = (9 - (d1 3 0 + 1)).toNat + 1 by omega]
                                  show (if so c1 = 61 then _ else if so c1 = 59 then _ else _) = _
                                  first | rw [if_pos (by omega)] | rw [if_neg (by omega), if_pos (by omega)] | (by_cases hz : so c1 = 61; (rw [if_pos hz]); (rw [if_neg hz, if_pos (by omega)]))
                                rw [hel, Option.bind_some]
                                dsimp only
                                unfold sp_we
                                rcases hp3106 with hs | ⟨e1, e2, e3, hs, hs2⟩
                                · (repeat (first | rw [if_pos (by assumption)] | rw [if_neg (by assumption)] | rw [if_neg (by omega)] | rw [if_pos (by omega)]))
                                  all_goals (rw [sp_sl_steps hs]; rfl)
                                · (repeat (first | rw [if_pos (by assumption)] | rw [if_neg (by assumption)] | rw [if_neg (by omega)] | rw [if_pos (by omega)]))
                                  all_goals (rw [sp_sl_steps hs, Option.bind_some]; dsimp only; (rcases hs2 with hs2 | hs2); (rw [if_neg hs2]; rfl); (by_cases hq9 : so e1 = 59; (rw [if_pos hq9, if_neg hs2]; rfl); (rw [if_neg hq9]; rfl)))
                              · skip
                                have c3184 : (f3099 = 0) := c3184
                                exact (show False by first | contradiction | omega).elim
                      · skip
                        have c3032 : ¬ ((wL wi) ≤ 0) := c3032
                        refine T_p xr_157_263 xn_157 (pc' := 264) (ls' := [(3, .int (iI (bI (part)))), (1, .int (iI wi)), (2, .int (iI col)), (0, .ref 530)]) (st' := [.ref 530]) rfl ?_
                        refine T_p xr_157_264 xn_157 (pc' := 265) (ls' := [(3, .int (iI (bI (part)))), (1, .int (iI wi)), (2, .int (iI col)), (0, .ref 530)]) (st' := [.int (iI wi), .ref 530]) rfl ?_
                        refine T_cv (S := S2670) (q := 530) xr_157_265 xf_160.1 xf_160.2.1 xn_160 (as := [.int (iI wi)]) (r := []) rfl hM2716 (Nat.le_of_ble_eq_true rfl) (Nat.le_of_ble_eq_true rfl) (pc' := 268) rfl (ls' := [(0, .ref 530), (1, .int (iI wi))]) rfl ?_
                        refine T_mono (r_ends sc S2670 (X_ou (X_ou (X_ou (X_ou (X_ou (X_ou o 6 g1) 7 at1) 8 en1) 9 tk1) 10 nu1) 11 dg1) nm1 wM1 eP1 wi d1 q1 hM2716 hA1 hA3 (by omega) hE1.1 (by omega) (fun e h1 h2 => (hE1.2.2.1 e h1 h2).1)) (fun v3196 S3197 h3198 => ?_)
                        rcases h3198 with ⟨hv3199, hf3200⟩
                        rw [hv3199]
                        rw [hf3200]
                        have hen3201 := X_en_r d1 q1
                        show X_T sc 157 (268, [(3, .int (iI (bI (part)))), (1, .int (iI wi)), (2, .int (iI col)), (0, .ref 530)], [.int (iI (X_en d1 q1))], S2670) _
                        refine T_zif_ne xr_157_268 (t := 277) (pc' := 271) rfl rfl (fun c3202 => ?_) (fun c3202 => ?_)
                        · skip
                          have c3202 : ¬ (X_en d1 q1) = 0 := c3202
                          refine T_p xr_157_277 xn_157 (pc' := 278) (ls' := [(3, .int (iI (bI (part)))), (1, .int (iI wi)), (2, .int (iI col)), (0, .ref 530)]) (st' := [.ref 530]) rfl ?_
                          refine T_cv (S := S2670) (q := 530) xr_157_278 xf_140.1 xf_140.2.1 xn_140 (as := []) (r := []) rfl hM2716 (Nat.le_of_ble_eq_true rfl) (Nat.le_of_ble_eq_true rfl) (pc' := 281) rfl (ls' := [(0, .ref 530)]) rfl ?_
                          refine T_mono (r_isGood sc S2670 (X_ou (X_ou (X_ou (X_ou (X_ou (X_ou o 6 g1) 7 at1) 8 en1) 9 tk1) 10 nu1) 11 dg1) nm1 hM2716 (show 0 ≤ (o 5) ∧ (o 5) ≤ 5 from by omega)) (fun v3203 S3204 h3205 => ?_)
                          rcases h3205 with ⟨hv3206, hf3207⟩
                          rw [hv3206]
                          rw [hf3207]
                          show X_T sc 157 (281, [(3, .int (iI (bI (part)))), (1, .int (iI wi)), (2, .int (iI col)), (0, .ref 530)], [.int (iI (bI ((o 5) = 0)))], S2670) _
                          refine T_bif_eq xr_157_281 (t := 302) (pc' := 284) rfl rfl (fun c3208 => ?_) (fun c3208 => ?_)
                          · skip
                            have c3208 : ¬ ((o 5) = 0) := c3208
                            exact (show False by first | contradiction | omega).elim
                          · skip
                            have c3208 : ((o 5) = 0) := c3208
                            refine T_p xr_157_284 xn_157 (pc' := 285) (ls' := [(3, .int (iI (bI (part)))), (1, .int (iI wi)), (2, .int (iI col)), (0, .ref 530)]) (st' := [.ref 530]) rfl ?_
                            refine T_p xr_157_285 xn_157 (pc' := 287) (ls' := [(3, .int (iI (bI (part)))), (1, .int (iI wi)), (2, .int (iI col)), (0, .ref 530)]) (st' := [.int (iI 61), .ref 530]) rfl ?_
                            refine T_cv (S := S2670) (q := 530) xr_157_287 xf_145.1 xf_145.2.1 xn_145 (as := [.int (iI 61)]) (r := []) rfl hM2716 (Nat.le_of_ble_eq_true rfl) (Nat.le_of_ble_eq_true rfl) (pc' := 290) rfl (ls' := [(0, .ref 530), (1, .int (iI 61))]) rfl ?_
                            refine T_mono (r_is sc S2670 (X_ou (X_ou (X_ou (X_ou (X_ou (X_ou o 6 g1) 7 at1) 8 en1) 9 tk1) 10 nu1) 11 dg1) nm1 tx tb len n so pl ct E c1 61 hM2716 h2918 (show (o 3) = len from by first | assumption | omega) hl htx hX hT1 (by omega)) (fun v3209 S3210 h3211 => ?_)
                            rcases h3211 with ⟨hv3212, hf3213⟩
                            rw [hv3212]
                            rw [hf3213]
                            show X_T sc 157 (290, [(3, .int (iI (bI (part)))), (1, .int (iI wi)), (2, .int (iI col)), (0, .ref 530)], [.int (iI (bI (so c1 = 61)))], S2670) _
                            refine T_bif_eq xr_157_290 (t := 302) (pc' := 293) rfl rfl (fun c3214 => ?_) (fun c3214 => ?_)
                            · skip
                              have c3214 : ¬ (so c1 = 61) := c3214
                              exact (show False by first | contradiction | omega).elim
                            · skip
                              have c3214 : (so c1 = 61) := c3214
                              refine T_p xr_157_293 xn_157 (pc' := 294) (ls' := [(3, .int (iI (bI (part)))), (1, .int (iI wi)), (2, .int (iI col)), (0, .ref 530)]) (st' := [.ref 530]) rfl ?_
                              refine T_cv (S := S2670) (q := 530) xr_157_294 xf_141.1 xf_141.2.1 xn_141 (as := []) (r := []) rfl hM2716 (Nat.le_of_ble_eq_true rfl) (Nat.le_of_ble_eq_true rfl) (pc' := 297) rfl (ls' := [(0, .ref 530)]) rfl ?_
                              refine T_mono (r_nx sc S2670 (X_ou (X_ou (X_ou (X_ou (X_ou (X_ou o 6 g1) 7 at1) 8 en1) 9 tk1) 10 nu1) 11 dg1) nm1 tx tb len n so pl ct E c1 hM2716 h2918 (show (o 3) = len from by first | assumption | omega) hl htx hX hT1 (by omega)) (fun v3215 S3216 h3217 => ?_)
                              rcases h3217 with ⟨at3218, en3219, tk3220, nu3221, dg3222, nm3223, hv3224, hp3225, hM3226, hf3227⟩
                              rw [hv3224]
                              have h3228 : S3216.1 530 = .inr (11, [.ref 531, .int (iI (o 1)), .ref 532, .int (iI (o 3)), .int (iI (o 4)), .int (iI (o 5)), .int (iI g1), .int (iI at3218), .int (iI en3219), .int (iI tk3220), .int (iI nu3221), .int (iI dg3222), .long nm3223, .ref 533, .ref 534, .ref 535, .ref 536, .ref 537, .ref 538, .ref 539, .ref 540, .ref 541, .ref 542, .ref 543, .ref 544, .ref 545, .ref 546, .ref 547, .int (iI (o 28)), .int (iI (o 29)), .int (iI (o 30)), .int (iI (o 31)), .int (iI (o 32)), .int (iI (o 33)), .ref 548, .ref 549, .ref 550, .ref 551, .int (iI (o 38)), .ref 552, .ref 553, .ref 554, .ref 555, .ref 556, .ref 557, .ref 558, .ref 559, .ref 560, .ref 561, .int (iI (o 49)), .ref 562, .ref 563, .ref 564, .ref 565, .ref 566, .ref 567, .ref 568, .ref 569, .int (iI (o 58)), .ref 570, .ref 571, .ref 572, .ref 573, .ref 574, .ref 575, .ref 576, .ref 577, .ref 578, .int (iI (o 68)), .int (iI (o 69)), .int (iI (o 70)), .ref 579]) := hM3226
                              obtain ⟨⟨_, _⟩, ⟨_, _⟩, hk3229, ⟨_, _⟩, hk3229e, ⟨_, _⟩, ⟨_, _⟩⟩ := R_tk_f hX hp3225
                              show X_T sc 157 (297, [(3, .int (iI (bI (part)))), (1, .int (iI wi)), (2, .int (iI col)), (0, .ref 530)], [], S3216) _
                              refine T_p xr_157_297 xn_157 (pc' := 298) (ls' := [(3, .int (iI (bI (part)))), (1, .int (iI wi)), (2, .int (iI col)), (0, .ref 530)]) (st' := [.ref 530]) rfl ?_
                              refine T_p xr_157_298 xn_157 (pc' := 299) (ls' := [(3, .int (iI (bI (part)))), (1, .int (iI wi)), (2, .int (iI col)), (0, .ref 530)]) (st' := [.int (iI wi), .ref 530]) rfl ?_
                              refine T_cv (S := S3216) (q := 530) xr_157_299 xf_159.1 xf_159.2.1 xn_159 (as := [.int (iI wi)]) (r := []) rfl h3228 (Nat.le_of_ble_eq_true rfl) (Nat.le_of_ble_eq_true rfl) (pc' := 302) rfl (ls' := [(0, .ref 530), (1, .int (iI wi))]) rfl ?_
                              have h3230 := (hf3227.1 532 (by omega)).trans (h2918)
                              have h3231 := (hf3227.1 541 (by omega)).trans (hA2)
                              have h3232 := (hf3227.1 542 (by omega)).trans ((hF2669.1 542 (by omega)).trans (hA542))
                              have h3233 := (hf3227.1 543 (by omega)).trans ((hF2669.1 543 (by omega)).trans (hA543))
                              have h3234 := (hf3227.1 544 (by omega)).trans ((hF2669.1 544 (by omega)).trans (hA544))
                              refine T_mono (r_readSteps sc S3216 (X_ou (X_ou (X_ou (X_ou (X_ou (X_ou o 6 g1) 7 at3218) 8 en3219) 9 tk3220) 10 nu3221) 11 dg3222) nm3223 tx wH1 wS sO sN tb len n so pl ct E (X_av n c1) wi d1 h3228 h3230 h3231 h3232 h3233 h3234 (show (o 3) = len from by first | assumption | omega) hl htx hX hp3225 (show (o 5) = 0 from by omega) (by omega) hE1.2.1 (by omega)) (fun v3235 S3236 h3237 => ?_)
                              rcases h3237 with ⟨at3238, en3239, tk3240, nu3241, dg3242, nm3243, g3244, c3245, d3246, wS3247, sO3248, sN3249, hv3250, hp3251, hp3252, hp3253, hp3254, hp3255, hp3256, hp3257, hM3258, ha3259, ha3260, ha3261, hf3262⟩ | ⟨at3263, en3264, tk3265, nu3266, dg3267, nm3268, f3269, g3270, wS3271, sO3272, sN3273, hv3274, hp3275, hp3276, hp3277, hp3278, hp3279, hM3280, ha3281, ha3282, ha3283, hf3284⟩
                              · skip
                                rw [hv3250]
                                have h3285 : S3236.1 530 = .inr (11, [.ref 531, .int (iI (o 1)), .ref 532, .int (iI (o 3)), .int (iI (o 4)), .int (iI (o 5)), .int (iI g3244), .int (iI at3238), .int (iI en3239), .int (iI tk3240), .int (iI nu3241), .int (iI dg3242), .long nm3243, .ref 533, .ref 534, .ref 535, .ref 536, .ref 537, .ref 538, .ref 539, .ref 540, .ref 541, .ref 542, .ref 543, .ref 544, .ref 545, .ref 546, .ref 547, .int (iI (o 28)), .int (iI (o 29)), .int (iI (o 30)), .int (iI (o 31)), .int (iI (o 32)), .int (iI (o 33)), .ref 548, .ref 549, .ref 550, .ref 551, .int (iI (o 38)), .ref 552, .ref 553, .ref 554, .ref 555, .ref 556, .ref 557, .ref 558, .ref 559, .ref 560, .ref 561, .int (iI (o 49)), .ref 562, .ref 563, .ref 564, .ref 565, .ref 566, .ref 567, .ref 568, .ref 569, .int (iI (o 58)), .ref 570, .ref 571, .ref 572, .ref 573, .ref 574, .ref 575, .ref 576, .ref 577, .ref 578, .int (iI (o 68)), .int (iI (o 69)), .int (iI (o 70)), .ref 579]) := hM3258
                                obtain ⟨⟨_, _⟩, ⟨_, _⟩, hk3286, ⟨_, _⟩, hk3286e, ⟨_, _⟩, ⟨_, _⟩⟩ := R_tk_f hX hp3251
                                show X_T sc 157 (302, [(3, .int (iI (bI (part)))), (1, .int (iI wi)), (2, .int (iI col)), (0, .ref 530)], [], S3236) _
                                refine T_p xr_157_302 xn_157 (pc' := 303) (ls' := [(3, .int (iI (bI (part)))), (1, .int (iI wi)), (2, .int (iI col)), (0, .ref 530)]) (st' := [.ref 530]) rfl ?_
                                refine T_p xr_157_303 xn_157 (pc' := 304) (ls' := [(3, .int (iI (bI (part)))), (1, .int (iI wi)), (2, .int (iI col)), (0, .ref 530)]) (st' := [.ref 530, .ref 530]) rfl ?_
                                refine T_get xr_157_304 h3285 rfl (v := .int (iI (o 30))) rfl (pc' := 307) rfl ?_
                                refine T_p xr_157_307 xn_157 (pc' := 308) (ls' := [(3, .int (iI (bI (part)))), (1, .int (iI wi)), (2, .int (iI col)), (0, .ref 530)]) (st' := [.int (iI 1), .int (iI (o 30)), .ref 530]) rfl ?_
                                refine T_ziadd xr_157_308 (z := (o 30) + 1) rfl (pc' := 309) rfl ?_
                                refine T_ie (y := iI (wc + 1)) (by rw [hwc]) ?_
                                refine T_put xr_157_309 h3285 rfl (Nat.le_of_ble_eq_true rfl) rfl (fs' := [.ref 531, .int (iI (o 1)), .ref 532, .int (iI (o 3)), .int (iI (o 4)), .int (iI (o 5)), .int (iI g3244), .int (iI at3238), .int (iI en3239), .int (iI tk3240), .int (iI nu3241), .int (iI dg3242), .long nm3243, .ref 533, .ref 534, .ref 535, .ref 536, .ref 537, .ref 538, .ref 539, .ref 540, .ref 541, .ref 542, .ref 543, .ref 544, .ref 545, .ref 546, .ref 547, .int (iI (o 28)), .int (iI (o 29)), .int (iI (wc + 1)), .int (iI (o 31)), .int (iI (o 32)), .int (iI (o 33)), .ref 548, .ref 549, .ref 550, .ref 551, .int (iI (o 38)), .ref 552, .ref 553, .ref 554, .ref 555, .ref 556, .ref 557, .ref 558, .ref 559, .ref 560, .ref 561, .int (iI (o 49)), .ref 562, .ref 563, .ref 564, .ref 565, .ref 566, .ref 567, .ref 568, .ref 569, .int (iI (o 58)), .ref 570, .ref 571, .ref 572, .ref 573, .ref 574, .ref 575, .ref 576, .ref 577, .ref 578, .int (iI (o 68)), .int (iI (o 69)), .int (iI (o 70)), .ref 579]) rfl (pc' := 312) rfl (fun S3288 h3289 n3290 e3291 => ?_)
                                refine T_p xr_157_312 xn_157 (pc' := 313) (ls' := [(3, .int (iI (bI (part)))), (1, .int (iI wi)), (2, .int (iI col)), (0, .ref 530)]) (st' := [.ref 530]) rfl ?_
                                refine T_cv (S := S3288) (q := 530) xr_157_313 xf_140.1 xf_140.2.1 xn_140 (as := []) (r := []) rfl h3289 (Nat.le_of_ble_eq_true rfl) (Nat.le_of_ble_eq_true rfl) (pc' := 316) rfl (ls' := [(0, .ref 530)]) rfl ?_
                                refine T_mono (r_isGood sc S3288 (X_ou (X_ou (X_ou (X_ou (X_ou (X_ou (X_ou o 6 g3244) 7 at3238) 8 en3239) 9 tk3240) 10 nu3241) 11 dg3242) 30 (wc + 1)) nm3243 h3289 (show 0 ≤ (o 5) ∧ (o 5) ≤ 5 from by omega)) (fun v3292 S3293 h3294 => ?_)
                                rcases h3294 with ⟨hv3295, hf3296⟩
                                rw [hv3295]
                                rw [hf3296]
                                show X_T sc 157 (316, [(3, .int (iI (bI (part)))), (1, .int (iI wi)), (2, .int (iI col)), (0, .ref 530)], [.int (iI (bI ((o 5) = 0)))], S3288) _
                                refine T_bif_eq xr_157_316 (t := 325) (pc' := 319) rfl rfl (fun c3297 => ?_) (fun c3297 => ?_)
                                · skip
                                  have c3297 : ¬ ((o 5) = 0) := c3297
                                  exact (show False by first | contradiction | omega).elim
                                · skip
                                  have c3297 : ((o 5) = 0) := c3297
                                  refine T_p xr_157_319 xn_157 (pc' := 320) (ls' := [(3, .int (iI (bI (part)))), (1, .int (iI wi)), (2, .int (iI col)), (0, .ref 530)]) (st' := [.ref 530]) rfl ?_
                                  refine T_p xr_157_320 xn_157 (pc' := 322) (ls' := [(3, .int (iI (bI (part)))), (1, .int (iI wi)), (2, .int (iI col)), (0, .ref 530)]) (st' := [.int (iI 59), .ref 530]) rfl ?_
                                  refine T_cv (S := S3288) (q := 530) xr_157_322 xf_148.1 xf_148.2.1 xn_148 (as := [.int (iI 59)]) (r := []) rfl h3289 (Nat.le_of_ble_eq_true rfl) (Nat.le_of_ble_eq_true rfl) (pc' := 325) rfl (ls' := [(0, .ref 530), (1, .int (iI 59))]) rfl ?_
                                  have h3298 := (n3290 532 (by decide)).trans ((hf3262.1 532 (by omega)).trans (h3230))
                                  refine T_mono (r_must sc S3288 (X_ou (X_ou (X_ou (X_ou (X_ou (X_ou (X_ou o 6 g3244) 7 at3238) 8 en3239) 9 tk3240) 10 nu3241) 11 dg3242) 30 (wc + 1)) nm3243 tx tb len n so pl ct E c3245 59 h3289 h3298 (show (o 3) = len from by first | assumption | omega) hl htx hX hp3251 (show (o 5) = 0 from by omega) (by omega)) (fun v3299 S3300 h3301 => ?_)
                                  rcases h3301 with ⟨at3302, en3303, tk3304, nu3305, dg3306, nm3307, hv3308, hp3309, hp3310, hM3311, hf3312⟩ | ⟨f3313, g3314, hv3315, hp3316, hp3317, hM3318, hf3319⟩
                                  · skip
                                    rw [hv3308]
                                    have h3320 : S3300.1 530 = .inr (11, [.ref 531, .int (iI (o 1)), .ref 532, .int (iI (o 3)), .int (iI (o 4)), .int (iI (o 5)), .int (iI g3244), .int (iI at3302), .int (iI en3303), .int (iI tk3304), .int (iI nu3305), .int (iI dg3306), .long nm3307, .ref 533, .ref 534, .ref 535, .ref 536, .ref 537, .ref 538, .ref 539, .ref 540, .ref 541, .ref 542, .ref 543, .ref 544, .ref 545, .ref 546, .ref 547, .int (iI (o 28)), .int (iI (o 29)), .int (iI (wc + 1)), .int (iI (o 31)), .int (iI (o 32)), .int (iI (o 33)), .ref 548, .ref 549, .ref 550, .ref 551, .int (iI (o 38)), .ref 552, .ref 553, .ref 554, .ref 555, .ref 556, .ref 557, .ref 558, .ref 559, .ref 560, .ref 561, .int (iI (o 49)), .ref 562, .ref 563, .ref 564, .ref 565, .ref 566, .ref 567, .ref 568, .ref 569, .int (iI (o 58)), .ref 570, .ref 571, .ref 572, .ref 573, .ref 574, .ref 575, .ref 576, .ref 577, .ref 578, .int (iI (o 68)), .int (iI (o 69)), .int (iI (o 70)), .ref 579]) := hM3311
                                    obtain ⟨⟨_, _⟩, ⟨_, _⟩, hk3321, ⟨_, _⟩, hk3321e, ⟨_, _⟩, ⟨_, _⟩⟩ := R_tk_f hX hp3309
                                    show X_T sc 157 (325, [(3, .int (iI (bI (part)))), (1, .int (iI wi)), (2, .int (iI col)), (0, .ref 530)], [], S3300) _
                                    refine T_vret xr_157_325 xf_157.2.2 ?_
                                    refine hQ _ _ ?_
                                    have h3323 := (hf3312.1 537 (by omega)).trans ((n3290 537 (by decide)).trans ((hf3262.1 537 (by omega)).trans ((hf3227.1 537 (by omega)).trans ((hF2669.1 537 (by omega)).trans (hA537)))))
                                    have h3324 := (hf3312.1 538 (by omega)).trans ((n3290 538 (by decide)).trans ((hf3262.1 538 (by omega)).trans ((hf3227.1 538 (by omega)).trans (h3031))))
                                    have h3325 := (hf3312.1 539 (by omega)).trans ((n3290 539 (by decide)).trans ((hf3262.1 539 (by omega)).trans ((hf3227.1 539 (by omega)).trans ((hF2669.1 539 (by omega)).trans (hA539)))))
                                    have h3326 := (hf3312.1 540 (by omega)).trans ((n3290 540 (by decide)).trans ((hf3262.1 540 (by omega)).trans ((hf3227.1 540 (by omega)).trans (hA1))))
                                    have h3327 := (hf3312.1 541 (by omega)).trans ((n3290 541 (by decide)).trans ((hf3262.1 541 (by omega)).trans (h3231)))
                                    have h3328 := (hf3312.1 542 (by omega)).trans ((n3290 542 (by decide)).trans (ha3259))
                                    have h3329 := (hf3312.1 543 (by omega)).trans ((n3290 543 (by decide)).trans (ha3260))
                                    have h3330 := (hf3312.1 544 (by omega)).trans ((n3290 544 (by decide)).trans (ha3261))
                                    have h3331 := (hf3312.1 545 (by omega)).trans ((n3290 545 (by decide)).trans ((hf3262.1 545 (by omega)).trans ((hf3227.1 545 (by omega)).trans (hA3))))
                                    have h3332 := (hf3312.1 546 (by omega)).trans ((n3290 546 (by decide)).trans ((hf3262.1 546 (by omega)).trans ((hf3227.1 546 (by omega)).trans (hA4))))
                                    have h3333 := (hf3312.1 547 (by omega)).trans ((n3290 547 (by decide)).trans ((hf3262.1 547 (by omega)).trans ((hf3227.1 547 (by omega)).trans (hA5))))
                                    have hst := sp_sl_ok _ _ _ _ _ (X_av_r ⟨by omega, by omega⟩) hp3252 ⟨(show (0 : Int) ≤ 0 by omega), ⟨(show (0 : Int) ≤ 0 by omega), (show (0 : Int) ≤ 16 by omega)⟩, fun k h1 h2 => absurd (show k < 0 from h2) (by omega)⟩ rfl
                                    obtain ⟨-, -, hst3, -, -⟩ := hst
                                    have hst4 : ∀ f, f ≠ 5 → f ≠ 12 → f ≠ 13 → d3246 f = d1 f := fun f f1 f2 f3 => (hst3 f f1 f2 f3).trans (by unfold X_wu; rw [if_neg f1])
                                    refine Or.inl ⟨at3302, en3303, tk3304, nu3305, dg3306, nm3307, g3244, X_av n c3245, d3246, q1, wR, wL, wK, wM1, wH1, wS3247, sO3248, sN3249, eP1, eH1, hK1, rfl, hp3309, ?_, ⟨by rw [hst4 0 (by decide) (by decide) (by decide), hfd 0 (by decide) (by decide) (by decide) (by decide)]; exact hW.1, by rw [hst4 1 (by decide) (by decide) (by decide), hfd 1 (by decide) (by decide) (by decide) (by decide)]; exact hW.2.1, by rw [hst4 2 (by decide) (by decide) (by decide), hfd 2 (by decide) (by decide) (by decide) (by decide)]; exact hW.2.2.1, hE1.cg (hst4 3 (by decide) (by decide) (by decide)) (hst4 4 (by decide) (by decide) (by decide)) (hst4 8 (by decide) (by decide) (by decide)) (hst4 9 (by decide) (by decide) (by decide)), hp3254⟩, R_ob.rf, R_ob.rf, R_ob.rf, by exact hob4, by exact hob5, hp3255, hp3256, hp3257, by exact hob9, by exact hob10, by exact hob11, h3320, h3323, h3324, h3325, h3326, h3327, h3328, h3329, h3330, h3331, h3332, h3333, (((((X_Fr.rf).tr (X_Fr.mono ⟨hF2669.1, hF2669.2⟩ (fun q hq => (by omega)))).tr (X_Fr.mono ⟨hf3227.1, hf3227.2⟩ (fun q hq => (by omega)))).tr (X_Fr.mono ⟨hf3262.1, hf3262.2⟩ (fun q hq => (by omega)))).tr (X_Fr.of n3290 e3291 (by omega))).tr (X_Fr.mono ⟨hf3312.1, hf3312.2⟩ (fun q hq => (by omega)))⟩
                                    have hel : sp_el n so ct kn kc 9 c d q = some (c1, d1, q1) := by
                                      rw [← hR, show (9 - d1 3 0).toNat = (9 - (d1 3 0 + 1)).toNat + 1 by omega]
                                      show (if so c1 = 61 then _ else if so c1 = 59 then _ else _) = _
                                      first | rw [if_pos (by omega)] | rw [if_neg (by omega), if_pos (by omega)] | (by_cases hz : so c1 = 61; (rw [if_pos hz]); (rw [if_neg hz, if_pos (by omega)]))
                                    rw [hel, Option.bind_some]
                                    dsimp only
                                    unfold sp_we
                                    (repeat (first | rw [if_pos (by assumption)] | rw [if_neg (by assumption)] | rw [if_neg (by omega)] | rw [if_pos (by omega)]))
                                    all_goals (rw [sp_sl_steps hp3252, Option.bind_some]; dsimp only; rw [if_pos (by omega), if_pos rfl]; rfl)
                                  · skip
                                    rw [hv3315]
                                    have h3322 : S3300.1 530 = .inr (11, [.ref 531, .int (iI (o 1)), .ref 532, .int (iI (o 3)), .int (iI (o 4)), .int (iI f3313), .int (iI g3314), .int (iI at3238), .int (iI en3239), .int (iI tk3240), .int (iI nu3241), .int (iI dg3242), .long nm3243, .ref 533, .ref 534, .ref 535, .ref 536, .ref 537, .ref 538, .ref 539, .ref 540, .ref 541, .ref 542, .ref 543, .ref 544, .ref 545, .ref 546, .ref 547, .int (iI (o 28)), .int (iI (o 29)), .int (iI (wc + 1)), .int (iI (o 31)), .int (iI (o 32)), .int (iI (o 33)), .ref 548, .ref 549, .ref 550, .ref 551, .int (iI (o 38)), .ref 552, .ref 553, .ref 554, .ref 555, .ref 556, .ref 557, .ref 558, .ref 559, .ref 560, .ref 561, .int (iI (o 49)), .ref 562, .ref 563, .ref 564, .ref 565, .ref 566, .ref 567, .ref 568, .ref 569, .int (iI (o 58)), .ref 570, .ref 571, .ref 572, .ref 573, .ref 574, .ref 575, .ref 576, .ref 577, .ref 578, .int (iI (o 68)), .int (iI (o 69)), .int (iI (o 70)), .ref 579]) := hM3318
                                    show X_T sc 157 (325, [(3, .int (iI (bI (part)))), (1, .int (iI wi)), (2, .int (iI col)), (0, .ref 530)], [], S3300) _
                                    refine T_vret xr_157_325 xf_157.2.2 ?_
                                    refine hQ _ _ ?_
                                    have h3334 := (hf3319.1 537 (by omega)).trans ((n3290 537 (by decide)).trans ((hf3262.1 537 (by omega)).trans ((hf3227.1 537 (by omega)).trans ((hF2669.1 537 (by omega)).trans (hA537)))))
                                    have h3335 := (hf3319.1 538 (by omega)).trans ((n3290 538 (by decide)).trans ((hf3262.1 538 (by omega)).trans ((hf3227.1 538 (by omega)).trans (h3031))))
                                    have h3336 := (hf3319.1 539 (by omega)).trans ((n3290 539 (by decide)).trans ((hf3262.1 539 (by omega)).trans ((hf3227.1 539 (by omega)).trans ((hF2669.1 539 (by omega)).trans (hA539)))))
                                    have h3337 := (hf3319.1 540 (by omega)).trans ((n3290 540 (by decide)).trans ((hf3262.1 540 (by omega)).trans ((hf3227.1 540 (by omega)).trans (hA1))))
                                    have h3338 := (hf3319.1 541 (by omega)).trans ((n3290 541 (by decide)).trans ((hf3262.1 541 (by omega)).trans (h3231)))
                                    have h3339 := (hf3319.1 542 (by omega)).trans ((n3290 542 (by decide)).trans (ha3259))
                                    have h3340 := (hf3319.1 543 (by omega)).trans ((n3290 543 (by decide)).trans (ha3260))
                                    have h3341 := (hf3319.1 544 (by omega)).trans ((n3290 544 (by decide)).trans (ha3261))
                                    have h3342 := (hf3319.1 545 (by omega)).trans ((n3290 545 (by decide)).trans ((hf3262.1 545 (by omega)).trans ((hf3227.1 545 (by omega)).trans (hA3))))
                                    have h3343 := (hf3319.1 546 (by omega)).trans ((n3290 546 (by decide)).trans ((hf3262.1 546 (by omega)).trans ((hf3227.1 546 (by omega)).trans (hA4))))
                                    have h3344 := (hf3319.1 547 (by omega)).trans ((n3290 547 (by decide)).trans ((hf3262.1 547 (by omega)).trans ((hf3227.1 547 (by omega)).trans (hA5))))
                                    refine Or.inr ⟨at3238, en3239, tk3240, nu3241, dg3242, nm3243, wc + 1, f3313, g3314, wR, wL, wK, wM1, wH1, wS3247, sO3248, sN3249, eP1, eH1, hK1, rfl, by omega, ?_, R_ob.rf, R_ob.rf, R_ob.rf, by exact hob4, by exact hob5, hp3255, hp3256, hp3257, by exact hob9, by exact hob10, by exact hob11, h3322, h3334, h3335, h3336, h3337, h3338, h3339, h3340, h3341, h3342, h3343, h3344, (((((X_Fr.rf).tr (X_Fr.mono ⟨hF2669.1, hF2669.2⟩ (fun q hq => (by omega)))).tr (X_Fr.mono ⟨hf3227.1, hf3227.2⟩ (fun q hq => (by omega)))).tr (X_Fr.mono ⟨hf3262.1, hf3262.2⟩ (fun q hq => (by omega)))).tr (X_Fr.of n3290 e3291 (by omega))).tr (X_Fr.mono ⟨hf3319.1, hf3319.2⟩ (fun q hq => (by omega)))⟩
                                    by_cases h61 : so c1 = 61 ∨ so c1 = 59
                                    · have hel : sp_el n so ct kn kc 9 c d q = some (c1, d1, q1) := by
                                        rw [← hR, show (9 - d1 3 0).toNat = (9 - (d1 3 0 + 1)).toNat + 1 by omega]
                                        show (if so c1 = 61 then _ else if so c1 = 59 then _ else _) = _
                                        first | rw [if_pos (by omega)] | rw [if_neg (by omega), if_pos (by omega)] | (by_cases hz : so c1 = 61; (rw [if_pos hz]); (rw [if_neg hz, if_pos (by omega)]))
                                      rw [hel, Option.bind_some]
                                      dsimp only
                                      unfold sp_we
                                      (repeat (first | rw [if_pos (by assumption)] | rw [if_neg (by assumption)] | rw [if_neg (by omega)] | rw [if_pos (by omega)]))
                                      all_goals first | rfl | ((repeat' split) <;> first | rfl | (exfalso; omega) | contradiction)
                                    · have hel : sp_el n so ct kn kc 9 c d q = none := by
                                        rw [← hR, show (9 - d1 3 0).toNat = (9 - (d1 3 0 + 1)).toNat + 1 by omega, sp_el_e1 _ (by omega) (by omega)]
                                        unfold sp_e1
                                        rw [if_neg (by omega), if_neg (by omega)]
                                        rfl
                                      rw [hel]
                                      rfl
                              · skip
                                rw [hv3274]
                                have h3287 : S3236.1 530 = .inr (11, [.ref 531, .int (iI (o 1)), .ref 532, .int (iI (o 3)), .int (iI (o 4)), .int (iI f3269), .int (iI g3270), .int (iI at3263), .int (iI en3264), .int (iI tk3265), .int (iI nu3266), .int (iI dg3267), .long nm3268, .ref 533, .ref 534, .ref 535, .ref 536, .ref 537, .ref 538, .ref 539, .ref 540, .ref 541, .ref 542, .ref 543, .ref 544, .ref 545, .ref 546, .ref 547, .int (iI (o 28)), .int (iI (o 29)), .int (iI (o 30)), .int (iI (o 31)), .int (iI (o 32)), .int (iI (o 33)), .ref 548, .ref 549, .ref 550, .ref 551, .int (iI (o 38)), .ref 552, .ref 553, .ref 554, .ref 555, .ref 556, .ref 557, .ref 558, .ref 559, .ref 560, .ref 561, .int (iI (o 49)), .ref 562, .ref 563, .ref 564, .ref 565, .ref 566, .ref 567, .ref 568, .ref 569, .int (iI (o 58)), .ref 570, .ref 571, .ref 572, .ref 573, .ref 574, .ref 575, .ref 576, .ref 577, .ref 578, .int (iI (o 68)), .int (iI (o 69)), .int (iI (o 70)), .ref 579]) := hM3280
                                show X_T sc 157 (302, [(3, .int (iI (bI (part)))), (1, .int (iI wi)), (2, .int (iI col)), (0, .ref 530)], [], S3236) _
                                refine T_p xr_157_302 xn_157 (pc' := 303) (ls' := [(3, .int (iI (bI (part)))), (1, .int (iI wi)), (2, .int (iI col)), (0, .ref 530)]) (st' := [.ref 530]) rfl ?_
                                refine T_p xr_157_303 xn_157 (pc' := 304) (ls' := [(3, .int (iI (bI (part)))), (1, .int (iI wi)), (2, .int (iI col)), (0, .ref 530)]) (st' := [.ref 530, .ref 530]) rfl ?_
                                refine T_get xr_157_304 h3287 rfl (v := .int (iI (o 30))) rfl (pc' := 307) rfl ?_
                                refine T_p xr_157_307 xn_157 (pc' := 308) (ls' := [(3, .int (iI (bI (part)))), (1, .int (iI wi)), (2, .int (iI col)), (0, .ref 530)]) (st' := [.int (iI 1), .int (iI (o 30)), .ref 530]) rfl ?_
                                refine T_ziadd xr_157_308 (z := (o 30) + 1) rfl (pc' := 309) rfl ?_
                                refine T_ie (y := iI (wc + 1)) (by rw [hwc]) ?_
                                refine T_put xr_157_309 h3287 rfl (Nat.le_of_ble_eq_true rfl) rfl (fs' := [.ref 531, .int (iI (o 1)), .ref 532, .int (iI (o 3)), .int (iI (o 4)), .int (iI f3269), .int (iI g3270), .int (iI at3263), .int (iI en3264), .int (iI tk3265), .int (iI nu3266), .int (iI dg3267), .long nm3268, .ref 533, .ref 534, .ref 535, .ref 536, .ref 537, .ref 538, .ref 539, .ref 540, .ref 541, .ref 542, .ref 543, .ref 544, .ref 545, .ref 546, .ref 547, .int (iI (o 28)), .int (iI (o 29)), .int (iI (wc + 1)), .int (iI (o 31)), .int (iI (o 32)), .int (iI (o 33)), .ref 548, .ref 549, .ref 550, .ref 551, .int (iI (o 38)), .ref 552, .ref 553, .ref 554, .ref 555, .ref 556, .ref 557, .ref 558, .ref 559, .ref 560, .ref 561, .int (iI (o 49)), .ref 562, .ref 563, .ref 564, .ref 565, .ref 566, .ref 567, .ref 568, .ref 569, .int (iI (o 58)), .ref 570, .ref 571, .ref 572, .ref 573, .ref 574, .ref 575, .ref 576, .ref 577, .ref 578, .int (iI (o 68)), .int (iI (o 69)), .int (iI (o 70)), .ref 579]) rfl (pc' := 312) rfl (fun S3345 h3346 n3347 e3348 => ?_)
                                refine T_p xr_157_312 xn_157 (pc' := 313) (ls' := [(3, .int (iI (bI (part)))), (1, .int (iI wi)), (2, .int (iI col)), (0, .ref 530)]) (st' := [.ref 530]) rfl ?_
                                refine T_cv (S := S3345) (q := 530) xr_157_313 xf_140.1 xf_140.2.1 xn_140 (as := []) (r := []) rfl h3346 (Nat.le_of_ble_eq_true rfl) (Nat.le_of_ble_eq_true rfl) (pc' := 316) rfl (ls' := [(0, .ref 530)]) rfl ?_
                                refine T_mono (r_isGood sc S3345 (X_ou (X_ou (X_ou (X_ou (X_ou (X_ou (X_ou (X_ou o 5 f3269) 6 g3270) 7 at3263) 8 en3264) 9 tk3265) 10 nu3266) 11 dg3267) 30 (wc + 1)) nm3268 h3346 (show 0 ≤ f3269 ∧ f3269 ≤ 5 from by omega)) (fun v3349 S3350 h3351 => ?_)
                                rcases h3351 with ⟨hv3352, hf3353⟩
                                rw [hv3352]
                                rw [hf3353]
                                show X_T sc 157 (316, [(3, .int (iI (bI (part)))), (1, .int (iI wi)), (2, .int (iI col)), (0, .ref 530)], [.int (iI (bI (f3269 = 0)))], S3345) _
                                refine T_bif_eq xr_157_316 (t := 325) (pc' := 319) rfl rfl (fun c3354 => ?_) (fun c3354 => ?_)
                                · skip
                                  have c3354 : ¬ (f3269 = 0) := c3354
                                  refine T_vret xr_157_325 xf_157.2.2 ?_
                                  refine hQ _ _ ?_
                                  have h3355 := (n3347 537 (by decide)).trans ((hf3284.1 537 (by omega)).trans ((hf3227.1 537 (by omega)).trans ((hF2669.1 537 (by omega)).trans (hA537))))
                                  have h3356 := (n3347 538 (by decide)).trans ((hf3284.1 538 (by omega)).trans ((hf3227.1 538 (by omega)).trans (h3031)))
                                  have h3357 := (n3347 539 (by decide)).trans ((hf3284.1 539 (by omega)).trans ((hf3227.1 539 (by omega)).trans ((hF2669.1 539 (by omega)).trans (hA539))))
                                  have h3358 := (n3347 540 (by decide)).trans ((hf3284.1 540 (by omega)).trans ((hf3227.1 540 (by omega)).trans (hA1)))
                                  have h3359 := (n3347 541 (by decide)).trans ((hf3284.1 541 (by omega)).trans (h3231))
                                  have h3360 := (n3347 542 (by decide)).trans (ha3281)
                                  have h3361 := (n3347 543 (by decide)).trans (ha3282)
                                  have h3362 := (n3347 544 (by decide)).trans (ha3283)
                                  have h3363 := (n3347 545 (by decide)).trans ((hf3284.1 545 (by omega)).trans ((hf3227.1 545 (by omega)).trans (hA3)))
                                  have h3364 := (n3347 546 (by decide)).trans ((hf3284.1 546 (by omega)).trans ((hf3227.1 546 (by omega)).trans (hA4)))
                                  have h3365 := (n3347 547 (by decide)).trans ((hf3284.1 547 (by omega)).trans ((hf3227.1 547 (by omega)).trans (hA5)))
                                  refine Or.inr ⟨at3263, en3264, tk3265, nu3266, dg3267, nm3268, wc + 1, f3269, g3270, wR, wL, wK, wM1, wH1, wS3271, sO3272, sN3273, eP1, eH1, hK1, rfl, by omega, ?_, R_ob.rf, R_ob.rf, R_ob.rf, by exact hob4, by exact hob5, hp3277, hp3278, hp3279, by exact hob9, by exact hob10, by exact hob11, h3346, h3355, h3356, h3357, h3358, h3359, h3360, h3361, h3362, h3363, h3364, h3365, ((((X_Fr.rf).tr (X_Fr.mono ⟨hF2669.1, hF2669.2⟩ (fun q hq => (by omega)))).tr (X_Fr.mono ⟨hf3227.1, hf3227.2⟩ (fun q hq => (by omega)))).tr (X_Fr.mono ⟨hf3284.1, hf3284.2⟩ (fun q hq => (by omega)))).tr (X_Fr.of n3347 e3348 (by omega))⟩
                                  have hel : sp_el n so ct kn kc 9 c d q = some (c1, d1, q1) := by
                                    rw [← hR, show (9 - d1 3 0).toNat = (9 - (d1 3 0 + 1)).toNat + 1 by omega]
                                    show (if so c1 = 61 then _ else if so c1 = 59 then _ else _) = _
                                    first | rw [if_pos (by omega)] | rw [if_neg (by omega), if_pos (by omega)] | (by_cases hz : so c1 = 61; (rw [if_pos hz]); (rw [if_neg hz, if_pos (by omega)]))
                                  rw [hel, Option.bind_some]
                                  dsimp only
                                  unfold sp_we
                                  rcases hp3276 with hs | ⟨e1, e2, e3, hs, hs2⟩
                                  · (repeat (first | rw [if_pos (by assumption)] | rw [if_neg (by assumption)] | rw [if_neg (by omega)] | rw [if_pos (by omega)]))
                                    all_goals (rw [sp_sl_steps hs]; rfl)
                                  · (repeat (first | rw [if_pos (by assumption)] | rw [if_neg (by assumption)] | rw [if_neg (by omega)] | rw [if_pos (by omega)]))
                                    all_goals (rw [sp_sl_steps hs, Option.bind_some]; dsimp only; (rcases hs2 with hs2 | hs2); (rw [if_neg hs2]; rfl); (by_cases hq9 : so e1 = 59; (rw [if_pos hq9, if_neg hs2]; rfl); (rw [if_neg hq9]; rfl)))
                                · skip
                                  have c3354 : (f3269 = 0) := c3354
                                  exact (show False by first | contradiction | omega).elim
                        · skip
                          have c3202 : ¬ (¬ (X_en d1 q1) = 0) := c3202
                          refine T_p xr_157_271 xn_157 (pc' := 272) (ls' := [(3, .int (iI (bI (part)))), (1, .int (iI wi)), (2, .int (iI col)), (0, .ref 530)]) (st' := [.ref 530]) rfl ?_
                          refine T_p xr_157_272 xn_157 (pc' := 273) (ls' := [(3, .int (iI (bI (part)))), (1, .int (iI wi)), (2, .int (iI col)), (0, .ref 530)]) (st' := [.int (iI 2), .ref 530]) rfl ?_
                          refine T_p xr_157_273 xn_157 (pc' := 274) (ls' := [(3, .int (iI (bI (part)))), (1, .int (iI wi)), (2, .int (iI col)), (0, .ref 530)]) (st' := [.int (iI col), .int (iI 2), .ref 530]) rfl ?_
                          refine T_cv (S := S2670) (q := 530) xr_157_274 xf_139.1 xf_139.2.1 xn_139 (as := [.int (iI 2), .int (iI col)]) (r := []) rfl hM2716 (Nat.le_of_ble_eq_true rfl) (Nat.le_of_ble_eq_true rfl) (pc' := 277) rfl (ls' := [(0, .ref 530), (1, .int (iI 2)), (2, .int (iI col))]) rfl ?_
                          refine T_mono (r_fails sc S2670 (X_ou (X_ou (X_ou (X_ou (X_ou (X_ou o 6 g1) 7 at1) 8 en1) 9 tk1) 10 nu1) 11 dg1) nm1 2 col hM2716 (show 0 ≤ (o 5) ∧ (o 5) ≤ 5 from by omega) (by omega)) (fun v3366 S3367 h3368 => ?_)
                          rcases h3368 with ⟨f3369, g3370, hv3371, hp3372, hM3373, hf3374⟩
                          rw [hv3371]
                          have h3375 : S3367.1 530 = .inr (11, [.ref 531, .int (iI (o 1)), .ref 532, .int (iI (o 3)), .int (iI (o 4)), .int (iI f3369), .int (iI g3370), .int (iI at1), .int (iI en1), .int (iI tk1), .int (iI nu1), .int (iI dg1), .long nm1, .ref 533, .ref 534, .ref 535, .ref 536, .ref 537, .ref 538, .ref 539, .ref 540, .ref 541, .ref 542, .ref 543, .ref 544, .ref 545, .ref 546, .ref 547, .int (iI (o 28)), .int (iI (o 29)), .int (iI (o 30)), .int (iI (o 31)), .int (iI (o 32)), .int (iI (o 33)), .ref 548, .ref 549, .ref 550, .ref 551, .int (iI (o 38)), .ref 552, .ref 553, .ref 554, .ref 555, .ref 556, .ref 557, .ref 558, .ref 559, .ref 560, .ref 561, .int (iI (o 49)), .ref 562, .ref 563, .ref 564, .ref 565, .ref 566, .ref 567, .ref 568, .ref 569, .int (iI (o 58)), .ref 570, .ref 571, .ref 572, .ref 573, .ref 574, .ref 575, .ref 576, .ref 577, .ref 578, .int (iI (o 68)), .int (iI (o 69)), .int (iI (o 70)), .ref 579]) := hM3373
                          have hp3372 : ((o 5) = 0 → f3369 = 2) ∧ (¬ (o 5) = 0 → f3369 = (o 5)) := hp3372
                          have hf3376 : f3369 = 2 := hp3372.1 h5
                          show X_T sc 157 (277, [(3, .int (iI (bI (part)))), (1, .int (iI wi)), (2, .int (iI col)), (0, .ref 530)], [], S3367) _
                          refine T_p xr_157_277 xn_157 (pc' := 278) (ls' := [(3, .int (iI (bI (part)))), (1, .int (iI wi)), (2, .int (iI col)), (0, .ref 530)]) (st' := [.ref 530]) rfl ?_
                          refine T_cv (S := S3367) (q := 530) xr_157_278 xf_140.1 xf_140.2.1 xn_140 (as := []) (r := []) rfl h3375 (Nat.le_of_ble_eq_true rfl) (Nat.le_of_ble_eq_true rfl) (pc' := 281) rfl (ls' := [(0, .ref 530)]) rfl ?_
                          refine T_mono (r_isGood sc S3367 (X_ou (X_ou (X_ou (X_ou (X_ou (X_ou (X_ou o 5 f3369) 6 g3370) 7 at1) 8 en1) 9 tk1) 10 nu1) 11 dg1) nm1 h3375 (show 0 ≤ f3369 ∧ f3369 ≤ 5 from by omega)) (fun v3377 S3378 h3379 => ?_)
                          rcases h3379 with ⟨hv3380, hf3381⟩
                          rw [hv3380]
                          rw [hf3381]
                          show X_T sc 157 (281, [(3, .int (iI (bI (part)))), (1, .int (iI wi)), (2, .int (iI col)), (0, .ref 530)], [.int (iI (bI (f3369 = 0)))], S3367) _
                          refine T_bif_eq xr_157_281 (t := 302) (pc' := 284) rfl rfl (fun c3382 => ?_) (fun c3382 => ?_)
                          · skip
                            have c3382 : ¬ (f3369 = 0) := c3382
                            refine T_p xr_157_302 xn_157 (pc' := 303) (ls' := [(3, .int (iI (bI (part)))), (1, .int (iI wi)), (2, .int (iI col)), (0, .ref 530)]) (st' := [.ref 530]) rfl ?_
                            refine T_p xr_157_303 xn_157 (pc' := 304) (ls' := [(3, .int (iI (bI (part)))), (1, .int (iI wi)), (2, .int (iI col)), (0, .ref 530)]) (st' := [.ref 530, .ref 530]) rfl ?_
                            refine T_get xr_157_304 h3375 rfl (v := .int (iI (o 30))) rfl (pc' := 307) rfl ?_
                            refine T_p xr_157_307 xn_157 (pc' := 308) (ls' := [(3, .int (iI (bI (part)))), (1, .int (iI wi)), (2, .int (iI col)), (0, .ref 530)]) (st' := [.int (iI 1), .int (iI (o 30)), .ref 530]) rfl ?_
                            refine T_ziadd xr_157_308 (z := (o 30) + 1) rfl (pc' := 309) rfl ?_
                            refine T_ie (y := iI (wc + 1)) (by rw [hwc]) ?_
                            refine T_put xr_157_309 h3375 rfl (Nat.le_of_ble_eq_true rfl) rfl (fs' := [.ref 531, .int (iI (o 1)), .ref 532, .int (iI (o 3)), .int (iI (o 4)), .int (iI f3369), .int (iI g3370), .int (iI at1), .int (iI en1), .int (iI tk1), .int (iI nu1), .int (iI dg1), .long nm1, .ref 533, .ref 534, .ref 535, .ref 536, .ref 537, .ref 538, .ref 539, .ref 540, .ref 541, .ref 542, .ref 543, .ref 544, .ref 545, .ref 546, .ref 547, .int (iI (o 28)), .int (iI (o 29)), .int (iI (wc + 1)), .int (iI (o 31)), .int (iI (o 32)), .int (iI (o 33)), .ref 548, .ref 549, .ref 550, .ref 551, .int (iI (o 38)), .ref 552, .ref 553, .ref 554, .ref 555, .ref 556, .ref 557, .ref 558, .ref 559, .ref 560, .ref 561, .int (iI (o 49)), .ref 562, .ref 563, .ref 564, .ref 565, .ref 566, .ref 567, .ref 568, .ref 569, .int (iI (o 58)), .ref 570, .ref 571, .ref 572, .ref 573, .ref 574, .ref 575, .ref 576, .ref 577, .ref 578, .int (iI (o 68)), .int (iI (o 69)), .int (iI (o 70)), .ref 579]) rfl (pc' := 312) rfl (fun S3383 h3384 n3385 e3386 => ?_)
                            refine T_p xr_157_312 xn_157 (pc' := 313) (ls' := [(3, .int (iI (bI (part)))), (1, .int (iI wi)), (2, .int (iI col)), (0, .ref 530)]) (st' := [.ref 530]) rfl ?_
                            refine T_cv (S := S3383) (q := 530) xr_157_313 xf_140.1 xf_140.2.1 xn_140 (as := []) (r := []) rfl h3384 (Nat.le_of_ble_eq_true rfl) (Nat.le_of_ble_eq_true rfl) (pc' := 316) rfl (ls' := [(0, .ref 530)]) rfl ?_
                            refine T_mono (r_isGood sc S3383 (X_ou (X_ou (X_ou (X_ou (X_ou (X_ou (X_ou (X_ou o 5 f3369) 6 g3370) 7 at1) 8 en1) 9 tk1) 10 nu1) 11 dg1) 30 (wc + 1)) nm1 h3384 (show 0 ≤ f3369 ∧ f3369 ≤ 5 from by omega)) (fun v3387 S3388 h3389 => ?_)
                            rcases h3389 with ⟨hv3390, hf3391⟩
                            rw [hv3390]
                            rw [hf3391]
                            show X_T sc 157 (316, [(3, .int (iI (bI (part)))), (1, .int (iI wi)), (2, .int (iI col)), (0, .ref 530)], [.int (iI (bI (f3369 = 0)))], S3383) _
                            refine T_bif_eq xr_157_316 (t := 325) (pc' := 319) rfl rfl (fun c3392 => ?_) (fun c3392 => ?_)
                            · skip
                              have c3392 : ¬ (f3369 = 0) := c3392
                              refine T_vret xr_157_325 xf_157.2.2 ?_
                              refine hQ _ _ ?_
                              have h3393 := (n3385 537 (by decide)).trans ((hf3374.1 537 (by omega)).trans ((hF2669.1 537 (by omega)).trans (hA537)))
                              have h3394 := (n3385 538 (by decide)).trans ((hf3374.1 538 (by omega)).trans (h3031))
                              have h3395 := (n3385 539 (by decide)).trans ((hf3374.1 539 (by omega)).trans ((hF2669.1 539 (by omega)).trans (hA539)))
                              have h3396 := (n3385 540 (by decide)).trans ((hf3374.1 540 (by omega)).trans (hA1))
                              have h3397 := (n3385 541 (by decide)).trans ((hf3374.1 541 (by omega)).trans (hA2))
                              have h3398 := (n3385 542 (by decide)).trans ((hf3374.1 542 (by omega)).trans ((hF2669.1 542 (by omega)).trans (hA542)))
                              have h3399 := (n3385 543 (by decide)).trans ((hf3374.1 543 (by omega)).trans ((hF2669.1 543 (by omega)).trans (hA543)))
                              have h3400 := (n3385 544 (by decide)).trans ((hf3374.1 544 (by omega)).trans ((hF2669.1 544 (by omega)).trans (hA544)))
                              have h3401 := (n3385 545 (by decide)).trans ((hf3374.1 545 (by omega)).trans (hA3))
                              have h3402 := (n3385 546 (by decide)).trans ((hf3374.1 546 (by omega)).trans (hA4))
                              have h3403 := (n3385 547 (by decide)).trans ((hf3374.1 547 (by omega)).trans (hA5))
                              refine Or.inr ⟨at1, en1, tk1, nu1, dg1, nm1, wc + 1, f3369, g3370, wR, wL, wK, wM1, wH1, wS, sO, sN, eP1, eH1, hK1, rfl, by omega, ?_, R_ob.rf, R_ob.rf, R_ob.rf, by exact hob4, by exact hob5, R_ob.rf, R_ob.rf, R_ob.rf, by exact hob9, by exact hob10, by exact hob11, h3384, h3393, h3394, h3395, h3396, h3397, h3398, h3399, h3400, h3401, h3402, h3403, (((X_Fr.rf).tr (X_Fr.mono ⟨hF2669.1, hF2669.2⟩ (fun q hq => (by omega)))).tr (X_Fr.mono ⟨hf3374.1, hf3374.2⟩ (fun q hq => (by omega)))).tr (X_Fr.of n3385 e3386 (by omega))⟩
                              by_cases h61 : so c1 = 61 ∨ so c1 = 59
                              · have hel : sp_el n so ct kn kc 9 c d q = some (c1, d1, q1) := by
                                  rw [← hR, show (9 - d1 3 0).toNat = (9 - (d1 3 0 + 1)).toNat + 1 by omega]
                                  show (if so c1 = 61 then _ else if so c1 = 59 then _ else _) = _
                                  first | rw [if_pos (by omega)] | rw [if_neg (by omega), if_pos (by omega)] | (by_cases hz : so c1 = 61; (rw [if_pos hz]); (rw [if_neg hz, if_pos (by omega)]))
                                rw [hel, Option.bind_some]
                                dsimp only
                                unfold sp_we
                                (repeat (first | rw [if_pos (by assumption)] | rw [if_neg (by assumption)] | rw [if_neg (by omega)] | rw [if_pos (by omega)]))
                                all_goals first | rfl | ((repeat' split) <;> first | rfl | (exfalso; omega) | contradiction)
                              · have hel : sp_el n so ct kn kc 9 c d q = none := by
                                  rw [← hR, show (9 - d1 3 0).toNat = (9 - (d1 3 0 + 1)).toNat + 1 by omega, sp_el_e1 _ (by omega) (by omega)]
                                  unfold sp_e1
                                  rw [if_neg (by omega), if_neg (by omega)]
                                  rfl
                                rw [hel]
                                rfl
                            · skip
                              have c3392 : (f3369 = 0) := c3392
                              exact (show False by first | contradiction | omega).elim
                          · skip
                            have c3382 : (f3369 = 0) := c3382
                            exact (show False by first | contradiction | omega).elim
                  · skip
                    have c3024 : ¬ (so c1 = 61) := c3024
                    refine T_p xr_157_234 xn_157 (pc' := 235) (ls' := [(3, .int (iI (bI (part)))), (1, .int (iI wi)), (2, .int (iI col)), (0, .ref 530)]) (st' := [.ref 530]) rfl ?_
                    refine T_p xr_157_235 xn_157 (pc' := 237) (ls' := [(3, .int (iI (bI (part)))), (1, .int (iI wi)), (2, .int (iI col)), (0, .ref 530)]) (st' := [.int (iI 59), .ref 530]) rfl ?_
                    refine T_cv (S := S2670) (q := 530) xr_157_237 xf_145.1 xf_145.2.1 xn_145 (as := [.int (iI 59)]) (r := []) rfl hM2716 (Nat.le_of_ble_eq_true rfl) (Nat.le_of_ble_eq_true rfl) (pc' := 240) rfl (ls' := [(0, .ref 530), (1, .int (iI 59))]) rfl ?_
                    refine T_mono (r_is sc S2670 (X_ou (X_ou (X_ou (X_ou (X_ou (X_ou o 6 g1) 7 at1) 8 en1) 9 tk1) 10 nu1) 11 dg1) nm1 tx tb len n so pl ct E c1 59 hM2716 h2918 (show (o 3) = len from by first | assumption | omega) hl htx hX hT1 (by omega)) (fun v3404 S3405 h3406 => ?_)
                    rcases h3406 with ⟨hv3407, hf3408⟩
                    rw [hv3407]
                    rw [hf3408]
                    show X_T sc 157 (240, [(3, .int (iI (bI (part)))), (1, .int (iI wi)), (2, .int (iI col)), (0, .ref 530)], [.int (iI (bI (so c1 = 59)))], S2670) _
                    refine T_bif_ne xr_157_240 (t := 247) (pc' := 243) rfl rfl (fun c3409 => ?_) (fun c3409 => ?_)
                    · skip
                      have c3409 : (so c1 = 59) := c3409
                      refine T_p xr_157_247 xn_157 (pc' := 248) (ls' := [(3, .int (iI (bI (part)))), (1, .int (iI wi)), (2, .int (iI col)), (0, .ref 530)]) (st' := [.ref 530]) rfl ?_
                      refine T_cv (S := S2670) (q := 530) xr_157_248 xf_140.1 xf_140.2.1 xn_140 (as := []) (r := []) rfl hM2716 (Nat.le_of_ble_eq_true rfl) (Nat.le_of_ble_eq_true rfl) (pc' := 251) rfl (ls' := [(0, .ref 530)]) rfl ?_
                      refine T_mono (r_isGood sc S2670 (X_ou (X_ou (X_ou (X_ou (X_ou (X_ou o 6 g1) 7 at1) 8 en1) 9 tk1) 10 nu1) 11 dg1) nm1 hM2716 (show 0 ≤ (o 5) ∧ (o 5) ≤ 5 from by omega)) (fun v3410 S3411 h3412 => ?_)
                      rcases h3412 with ⟨hv3413, hf3414⟩
                      rw [hv3413]
                      rw [hf3414]
                      show X_T sc 157 (251, [(3, .int (iI (bI (part)))), (1, .int (iI wi)), (2, .int (iI col)), (0, .ref 530)], [.int (iI (bI ((o 5) = 0)))], S2670) _
                      refine T_bif_eq xr_157_251 (t := 277) (pc' := 254) rfl rfl (fun c3415 => ?_) (fun c3415 => ?_)
                      · skip
                        have c3415 : ¬ ((o 5) = 0) := c3415
                        exact (show False by first | contradiction | omega).elim
                      · skip
                        have c3415 : ((o 5) = 0) := c3415
                        refine T_p xr_157_254 xn_157 (pc' := 255) (ls' := [(3, .int (iI (bI (part)))), (1, .int (iI wi)), (2, .int (iI col)), (0, .ref 530)]) (st' := [.ref 530]) rfl ?_
                        refine T_get xr_157_255 hM2716 rfl (v := .ref 538) rfl (pc' := 258) rfl ?_
                        refine T_p xr_157_258 xn_157 (pc' := 259) (ls' := [(3, .int (iI (bI (part)))), (1, .int (iI wi)), (2, .int (iI col)), (0, .ref 530)]) (st' := [.int (iI wi), .ref 538]) rfl ?_
                        have h3416 := (hF2669.1 538 (by omega)).trans (hA538)
                        refine T_ziald xr_157_259 h3416 (pc' := 260) rfl ?_
                        refine T_zif_le xr_157_260 (t := 277) (pc' := 263) rfl rfl (fun c3417 => ?_) (fun c3417 => ?_)
                        · skip
                          have c3417 : (wL wi) ≤ 0 := c3417
                          refine T_p xr_157_277 xn_157 (pc' := 278) (ls' := [(3, .int (iI (bI (part)))), (1, .int (iI wi)), (2, .int (iI col)), (0, .ref 530)]) (st' := [.ref 530]) rfl ?_
                          refine T_cv (S := S2670) (q := 530) xr_157_278 xf_140.1 xf_140.2.1 xn_140 (as := []) (r := []) rfl hM2716 (Nat.le_of_ble_eq_true rfl) (Nat.le_of_ble_eq_true rfl) (pc' := 281) rfl (ls' := [(0, .ref 530)]) rfl ?_
                          refine T_mono (r_isGood sc S2670 (X_ou (X_ou (X_ou (X_ou (X_ou (X_ou o 6 g1) 7 at1) 8 en1) 9 tk1) 10 nu1) 11 dg1) nm1 hM2716 (show 0 ≤ (o 5) ∧ (o 5) ≤ 5 from by omega)) (fun v3418 S3419 h3420 => ?_)
                          rcases h3420 with ⟨hv3421, hf3422⟩
                          rw [hv3421]
                          rw [hf3422]
                          show X_T sc 157 (281, [(3, .int (iI (bI (part)))), (1, .int (iI wi)), (2, .int (iI col)), (0, .ref 530)], [.int (iI (bI ((o 5) = 0)))], S2670) _
                          refine T_bif_eq xr_157_281 (t := 302) (pc' := 284) rfl rfl (fun c3423 => ?_) (fun c3423 => ?_)
                          · skip
                            have c3423 : ¬ ((o 5) = 0) := c3423
                            exact (show False by first | contradiction | omega).elim
                          · skip
                            have c3423 : ((o 5) = 0) := c3423
                            refine T_p xr_157_284 xn_157 (pc' := 285) (ls' := [(3, .int (iI (bI (part)))), (1, .int (iI wi)), (2, .int (iI col)), (0, .ref 530)]) (st' := [.ref 530]) rfl ?_
                            refine T_p xr_157_285 xn_157 (pc' := 287) (ls' := [(3, .int (iI (bI (part)))), (1, .int (iI wi)), (2, .int (iI col)), (0, .ref 530)]) (st' := [.int (iI 61), .ref 530]) rfl ?_
                            refine T_cv (S := S2670) (q := 530) xr_157_287 xf_145.1 xf_145.2.1 xn_145 (as := [.int (iI 61)]) (r := []) rfl hM2716 (Nat.le_of_ble_eq_true rfl) (Nat.le_of_ble_eq_true rfl) (pc' := 290) rfl (ls' := [(0, .ref 530), (1, .int (iI 61))]) rfl ?_
                            refine T_mono (r_is sc S2670 (X_ou (X_ou (X_ou (X_ou (X_ou (X_ou o 6 g1) 7 at1) 8 en1) 9 tk1) 10 nu1) 11 dg1) nm1 tx tb len n so pl ct E c1 61 hM2716 h2918 (show (o 3) = len from by first | assumption | omega) hl htx hX hT1 (by omega)) (fun v3424 S3425 h3426 => ?_)
                            rcases h3426 with ⟨hv3427, hf3428⟩
                            rw [hv3427]
                            rw [hf3428]
                            show X_T sc 157 (290, [(3, .int (iI (bI (part)))), (1, .int (iI wi)), (2, .int (iI col)), (0, .ref 530)], [.int (iI (bI (so c1 = 61)))], S2670) _
                            refine T_bif_eq xr_157_290 (t := 302) (pc' := 293) rfl rfl (fun c3429 => ?_) (fun c3429 => ?_)
                            · skip
                              have c3429 : ¬ (so c1 = 61) := c3429
                              refine T_p xr_157_302 xn_157 (pc' := 303) (ls' := [(3, .int (iI (bI (part)))), (1, .int (iI wi)), (2, .int (iI col)), (0, .ref 530)]) (st' := [.ref 530]) rfl ?_
                              refine T_p xr_157_303 xn_157 (pc' := 304) (ls' := [(3, .int (iI (bI (part)))), (1, .int (iI wi)), (2, .int (iI col)), (0, .ref 530)]) (st' := [.ref 530, .ref 530]) rfl ?_
                              refine T_get xr_157_304 hM2716 rfl (v := .int (iI (o 30))) rfl (pc' := 307) rfl ?_
                              refine T_p xr_157_307 xn_157 (pc' := 308) (ls' := [(3, .int (iI (bI (part)))), (1, .int (iI wi)), (2, .int (iI col)), (0, .ref 530)]) (st' := [.int (iI 1), .int (iI (o 30)), .ref 530]) rfl ?_
                              refine T_ziadd xr_157_308 (z := (o 30) + 1) rfl (pc' := 309) rfl ?_
                              refine T_ie (y := iI (wc + 1)) (by rw [hwc]) ?_
                              refine T_put xr_157_309 hM2716 rfl (Nat.le_of_ble_eq_true rfl) rfl (fs' := [.ref 531, .int (iI (o 1)), .ref 532, .int (iI (o 3)), .int (iI (o 4)), .int (iI (o 5)), .int (iI g1), .int (iI at1), .int (iI en1), .int (iI tk1), .int (iI nu1), .int (iI dg1), .long nm1, .ref 533, .ref 534, .ref 535, .ref 536, .ref 537, .ref 538, .ref 539, .ref 540, .ref 541, .ref 542, .ref 543, .ref 544, .ref 545, .ref 546, .ref 547, .int (iI (o 28)), .int (iI (o 29)), .int (iI (wc + 1)), .int (iI (o 31)), .int (iI (o 32)), .int (iI (o 33)), .ref 548, .ref 549, .ref 550, .ref 551, .int (iI (o 38)), .ref 552, .ref 553, .ref 554, .ref 555, .ref 556, .ref 557, .ref 558, .ref 559, .ref 560, .ref 561, .int (iI (o 49)), .ref 562, .ref 563, .ref 564, .ref 565, .ref 566, .ref 567, .ref 568, .ref 569, .int (iI (o 58)), .ref 570, .ref 571, .ref 572, .ref 573, .ref 574, .ref 575, .ref 576, .ref 577, .ref 578, .int (iI (o 68)), .int (iI (o 69)), .int (iI (o 70)), .ref 579]) rfl (pc' := 312) rfl (fun S3430 h3431 n3432 e3433 => ?_)
                              refine T_p xr_157_312 xn_157 (pc' := 313) (ls' := [(3, .int (iI (bI (part)))), (1, .int (iI wi)), (2, .int (iI col)), (0, .ref 530)]) (st' := [.ref 530]) rfl ?_
                              refine T_cv (S := S3430) (q := 530) xr_157_313 xf_140.1 xf_140.2.1 xn_140 (as := []) (r := []) rfl h3431 (Nat.le_of_ble_eq_true rfl) (Nat.le_of_ble_eq_true rfl) (pc' := 316) rfl (ls' := [(0, .ref 530)]) rfl ?_
                              refine T_mono (r_isGood sc S3430 (X_ou (X_ou (X_ou (X_ou (X_ou (X_ou (X_ou o 6 g1) 7 at1) 8 en1) 9 tk1) 10 nu1) 11 dg1) 30 (wc + 1)) nm1 h3431 (show 0 ≤ (o 5) ∧ (o 5) ≤ 5 from by omega)) (fun v3434 S3435 h3436 => ?_)
                              rcases h3436 with ⟨hv3437, hf3438⟩
                              rw [hv3437]
                              rw [hf3438]
                              show X_T sc 157 (316, [(3, .int (iI (bI (part)))), (1, .int (iI wi)), (2, .int (iI col)), (0, .ref 530)], [.int (iI (bI ((o 5) = 0)))], S3430) _
                              refine T_bif_eq xr_157_316 (t := 325) (pc' := 319) rfl rfl (fun c3439 => ?_) (fun c3439 => ?_)
                              · skip
                                have c3439 : ¬ ((o 5) = 0) := c3439
                                exact (show False by first | contradiction | omega).elim
                              · skip
                                have c3439 : ((o 5) = 0) := c3439
                                refine T_p xr_157_319 xn_157 (pc' := 320) (ls' := [(3, .int (iI (bI (part)))), (1, .int (iI wi)), (2, .int (iI col)), (0, .ref 530)]) (st' := [.ref 530]) rfl ?_
                                refine T_p xr_157_320 xn_157 (pc' := 322) (ls' := [(3, .int (iI (bI (part)))), (1, .int (iI wi)), (2, .int (iI col)), (0, .ref 530)]) (st' := [.int (iI 59), .ref 530]) rfl ?_
                                refine T_cv (S := S3430) (q := 530) xr_157_322 xf_148.1 xf_148.2.1 xn_148 (as := [.int (iI 59)]) (r := []) rfl h3431 (Nat.le_of_ble_eq_true rfl) (Nat.le_of_ble_eq_true rfl) (pc' := 325) rfl (ls' := [(0, .ref 530), (1, .int (iI 59))]) rfl ?_
                                have h3440 := (n3432 532 (by decide)).trans (h2918)
                                refine T_mono (r_must sc S3430 (X_ou (X_ou (X_ou (X_ou (X_ou (X_ou (X_ou o 6 g1) 7 at1) 8 en1) 9 tk1) 10 nu1) 11 dg1) 30 (wc + 1)) nm1 tx tb len n so pl ct E c1 59 h3431 h3440 (show (o 3) = len from by first | assumption | omega) hl htx hX hT1 (show (o 5) = 0 from by omega) (by omega)) (fun v3441 S3442 h3443 => ?_)
                                rcases h3443 with ⟨at3444, en3445, tk3446, nu3447, dg3448, nm3449, hv3450, hp3451, hp3452, hM3453, hf3454⟩ | ⟨f3455, g3456, hv3457, hp3458, hp3459, hM3460, hf3461⟩
                                · skip
                                  rw [hv3450]
                                  have h3462 : S3442.1 530 = .inr (11, [.ref 531, .int (iI (o 1)), .ref 532, .int (iI (o 3)), .int (iI (o 4)), .int (iI (o 5)), .int (iI g1), .int (iI at3444), .int (iI en3445), .int (iI tk3446), .int (iI nu3447), .int (iI dg3448), .long nm3449, .ref 533, .ref 534, .ref 535, .ref 536, .ref 537, .ref 538, .ref 539, .ref 540, .ref 541, .ref 542, .ref 543, .ref 544, .ref 545, .ref 546, .ref 547, .int (iI (o 28)), .int (iI (o 29)), .int (iI (wc + 1)), .int (iI (o 31)), .int (iI (o 32)), .int (iI (o 33)), .ref 548, .ref 549, .ref 550, .ref 551, .int (iI (o 38)), .ref 552, .ref 553, .ref 554, .ref 555, .ref 556, .ref 557, .ref 558, .ref 559, .ref 560, .ref 561, .int (iI (o 49)), .ref 562, .ref 563, .ref 564, .ref 565, .ref 566, .ref 567, .ref 568, .ref 569, .int (iI (o 58)), .ref 570, .ref 571, .ref 572, .ref 573, .ref 574, .ref 575, .ref 576, .ref 577, .ref 578, .int (iI (o 68)), .int (iI (o 69)), .int (iI (o 70)), .ref 579]) := hM3453
                                  obtain ⟨⟨_, _⟩, ⟨_, _⟩, hk3463, ⟨_, _⟩, hk3463e, ⟨_, _⟩, ⟨_, _⟩⟩ := R_tk_f hX hp3451
                                  show X_T sc 157 (325, [(3, .int (iI (bI (part)))), (1, .int (iI wi)), (2, .int (iI col)), (0, .ref 530)], [], S3442) _
                                  refine T_vret xr_157_325 xf_157.2.2 ?_
                                  refine hQ _ _ ?_
                                  have h3465 := (hf3454.1 537 (by omega)).trans ((n3432 537 (by decide)).trans ((hF2669.1 537 (by omega)).trans (hA537)))
                                  have h3466 := (hf3454.1 538 (by omega)).trans ((n3432 538 (by decide)).trans (h3416))
                                  have h3467 := (hf3454.1 539 (by omega)).trans ((n3432 539 (by decide)).trans ((hF2669.1 539 (by omega)).trans (hA539)))
                                  have h3468 := (hf3454.1 540 (by omega)).trans ((n3432 540 (by decide)).trans (hA1))
                                  have h3469 := (hf3454.1 541 (by omega)).trans ((n3432 541 (by decide)).trans (hA2))
                                  have h3470 := (hf3454.1 542 (by omega)).trans ((n3432 542 (by decide)).trans ((hF2669.1 542 (by omega)).trans (hA542)))
                                  have h3471 := (hf3454.1 543 (by omega)).trans ((n3432 543 (by decide)).trans ((hF2669.1 543 (by omega)).trans (hA543)))
                                  have h3472 := (hf3454.1 544 (by omega)).trans ((n3432 544 (by decide)).trans ((hF2669.1 544 (by omega)).trans (hA544)))
                                  have h3473 := (hf3454.1 545 (by omega)).trans ((n3432 545 (by decide)).trans (hA3))
                                  have h3474 := (hf3454.1 546 (by omega)).trans ((n3432 546 (by decide)).trans (hA4))
                                  have h3475 := (hf3454.1 547 (by omega)).trans ((n3432 547 (by decide)).trans (hA5))
                                  refine Or.inl ⟨at3444, en3445, tk3446, nu3447, dg3448, nm3449, g1, X_av n c1, d1, q1, wR, wL, wK, wM1, wH1, wS, sO, sN, eP1, eH1, hK1, rfl, hp3451, ?_, ⟨by rw [hfd 0 (by decide) (by decide) (by decide) (by decide)]; exact hW.1, by rw [hfd 1 (by decide) (by decide) (by decide) (by decide)]; exact hW.2.1, by rw [hfd 2 (by decide) (by decide) (by decide) (by decide)]; exact hW.2.2.1, hE1, ⟨by rw [hfd 5 (by decide) (by decide) (by decide) (by decide)]; exact hW.2.2.2.2.1, fun k k1 k2 => by rw [hfd 5 (by decide) (by decide) (by decide) (by decide)] at k2; omega⟩⟩, R_ob.rf, R_ob.rf, R_ob.rf, by exact hob4, by exact hob5, R_ob.rf, R_ob.rf, R_ob.rf, by exact hob9, by exact hob10, by exact hob11, h3462, h3465, h3466, h3467, h3468, h3469, h3470, h3471, h3472, h3473, h3474, h3475, (((X_Fr.rf).tr (X_Fr.mono ⟨hF2669.1, hF2669.2⟩ (fun q hq => (by omega)))).tr (X_Fr.of n3432 e3433 (by omega))).tr (X_Fr.mono ⟨hf3454.1, hf3454.2⟩ (fun q hq => (by omega)))⟩
                                  have hel : sp_el n so ct kn kc 9 c d q = some (c1, d1, q1) := by
                                    rw [← hR, show (9 - d1 3 0).toNat = (9 - (d1 3 0 + 1)).toNat + 1 by omega]
                                    show (if so c1 = 61 then _ else if so c1 = 59 then _ else _) = _
                                    first | rw [if_pos (by omega)] | rw [if_neg (by omega), if_pos (by omega)] | (by_cases hz : so c1 = 61; (rw [if_pos hz]); (rw [if_neg hz, if_pos (by omega)]))
                                  rw [hel, Option.bind_some]
                                  dsimp only
                                  unfold sp_we
                                  (repeat (first | rw [if_pos (by assumption)] | rw [if_neg (by assumption)] | rw [if_neg (by omega)] | rw [if_pos (by omega)]))
                                  all_goals rfl
                                · skip
                                  rw [hv3457]
                                  have h3464 : S3442.1 530 = .inr (11, [.ref 531, .int (iI (o 1)), .ref 532, .int (iI (o 3)), .int (iI (o 4)), .int (iI f3455), .int (iI g3456), .int (iI at1), .int (iI en1), .int (iI tk1), .int (iI nu1), .int (iI dg1), .long nm1, .ref 533, .ref 534, .ref 535, .ref 536, .ref 537, .ref 538, .ref 539, .ref 540, .ref 541, .ref 542, .ref 543, .ref 544, .ref 545, .ref 546, .ref 547, .int (iI (o 28)), .int (iI (o 29)), .int (iI (wc + 1)), .int (iI (o 31)), .int (iI (o 32)), .int (iI (o 33)), .ref 548, .ref 549, .ref 550, .ref 551, .int (iI (o 38)), .ref 552, .ref 553, .ref 554, .ref 555, .ref 556, .ref 557, .ref 558, .ref 559, .ref 560, .ref 561, .int (iI (o 49)), .ref 562, .ref 563, .ref 564, .ref 565, .ref 566, .ref 567, .ref 568, .ref 569, .int (iI (o 58)), .ref 570, .ref 571, .ref 572, .ref 573, .ref 574, .ref 575, .ref 576, .ref 577, .ref 578, .int (iI (o 68)), .int (iI (o 69)), .int (iI (o 70)), .ref 579]) := hM3460
                                  show X_T sc 157 (325, [(3, .int (iI (bI (part)))), (1, .int (iI wi)), (2, .int (iI col)), (0, .ref 530)], [], S3442) _
                                  refine T_vret xr_157_325 xf_157.2.2 ?_
                                  refine hQ _ _ ?_
                                  have h3476 := (hf3461.1 537 (by omega)).trans ((n3432 537 (by decide)).trans ((hF2669.1 537 (by omega)).trans (hA537)))
                                  have h3477 := (hf3461.1 538 (by omega)).trans ((n3432 538 (by decide)).trans (h3416))
                                  have h3478 := (hf3461.1 539 (by omega)).trans ((n3432 539 (by decide)).trans ((hF2669.1 539 (by omega)).trans (hA539)))
                                  have h3479 := (hf3461.1 540 (by omega)).trans ((n3432 540 (by decide)).trans (hA1))
                                  have h3480 := (hf3461.1 541 (by omega)).trans ((n3432 541 (by decide)).trans (hA2))
                                  have h3481 := (hf3461.1 542 (by omega)).trans ((n3432 542 (by decide)).trans ((hF2669.1 542 (by omega)).trans (hA542)))
                                  have h3482 := (hf3461.1 543 (by omega)).trans ((n3432 543 (by decide)).trans ((hF2669.1 543 (by omega)).trans (hA543)))
                                  have h3483 := (hf3461.1 544 (by omega)).trans ((n3432 544 (by decide)).trans ((hF2669.1 544 (by omega)).trans (hA544)))
                                  have h3484 := (hf3461.1 545 (by omega)).trans ((n3432 545 (by decide)).trans (hA3))
                                  have h3485 := (hf3461.1 546 (by omega)).trans ((n3432 546 (by decide)).trans (hA4))
                                  have h3486 := (hf3461.1 547 (by omega)).trans ((n3432 547 (by decide)).trans (hA5))
                                  refine Or.inr ⟨at1, en1, tk1, nu1, dg1, nm1, wc + 1, f3455, g3456, wR, wL, wK, wM1, wH1, wS, sO, sN, eP1, eH1, hK1, rfl, by omega, ?_, R_ob.rf, R_ob.rf, R_ob.rf, by exact hob4, by exact hob5, R_ob.rf, R_ob.rf, R_ob.rf, by exact hob9, by exact hob10, by exact hob11, h3464, h3476, h3477, h3478, h3479, h3480, h3481, h3482, h3483, h3484, h3485, h3486, (((X_Fr.rf).tr (X_Fr.mono ⟨hF2669.1, hF2669.2⟩ (fun q hq => (by omega)))).tr (X_Fr.of n3432 e3433 (by omega))).tr (X_Fr.mono ⟨hf3461.1, hf3461.2⟩ (fun q hq => (by omega)))⟩
                                  by_cases h61 : so c1 = 61 ∨ so c1 = 59
                                  · have hel : sp_el n so ct kn kc 9 c d q = some (c1, d1, q1) := by
                                      rw [← hR, show (9 - d1 3 0).toNat = (9 - (d1 3 0 + 1)).toNat + 1 by omega]
                                      show (if so c1 = 61 then _ else if so c1 = 59 then _ else _) = _
                                      first | rw [if_pos (by omega)] | rw [if_neg (by omega), if_pos (by omega)] | (by_cases hz : so c1 = 61; (rw [if_pos hz]); (rw [if_neg hz, if_pos (by omega)]))
                                    rw [hel, Option.bind_some]
                                    dsimp only
                                    unfold sp_we
                                    (repeat (first | rw [if_pos (by assumption)] | rw [if_neg (by assumption)] | rw [if_neg (by omega)] | rw [if_pos (by omega)]))
                                    all_goals first | rfl | ((repeat' split) <;> first | rfl | (exfalso; omega) | contradiction)
                                  · have hel : sp_el n so ct kn kc 9 c d q = none := by
                                      rw [← hR, show (9 - d1 3 0).toNat = (9 - (d1 3 0 + 1)).toNat + 1 by omega, sp_el_e1 _ (by omega) (by omega)]
                                      unfold sp_e1
                                      rw [if_neg (by omega), if_neg (by omega)]
                                      rfl
                                    rw [hel]
                                    rfl
                            · skip
                              have c3429 : (so c1 = 61) := c3429
                              exact (show False by first | contradiction | omega).elim
                        · skip
                          have c3417 : ¬ ((wL wi) ≤ 0) := c3417
                          refine T_p xr_157_263 xn_157 (pc' := 264) (ls' := [(3, .int (iI (bI (part)))), (1, .int (iI wi)), (2, .int (iI col)), (0, .ref 530)]) (st' := [.ref 530]) rfl ?_
                          refine T_p xr_157_264 xn_157 (pc' := 265) (ls' := [(3, .int (iI (bI (part)))), (1, .int (iI wi)), (2, .int (iI col)), (0, .ref 530)]) (st' := [.int (iI wi), .ref 530]) rfl ?_
                          refine T_cv (S := S2670) (q := 530) xr_157_265 xf_160.1 xf_160.2.1 xn_160 (as := [.int (iI wi)]) (r := []) rfl hM2716 (Nat.le_of_ble_eq_true rfl) (Nat.le_of_ble_eq_true rfl) (pc' := 268) rfl (ls' := [(0, .ref 530), (1, .int (iI wi))]) rfl ?_
                          refine T_mono (r_ends sc S2670 (X_ou (X_ou (X_ou (X_ou (X_ou (X_ou o 6 g1) 7 at1) 8 en1) 9 tk1) 10 nu1) 11 dg1) nm1 wM1 eP1 wi d1 q1 hM2716 hA1 hA3 (by omega) hE1.1 (by omega) (fun e h1 h2 => (hE1.2.2.1 e h1 h2).1)) (fun v3487 S3488 h3489 => ?_)
                          rcases h3489 with ⟨hv3490, hf3491⟩
                          rw [hv3490]
                          rw [hf3491]
                          have hen3492 := X_en_r d1 q1
                          show X_T sc 157 (268, [(3, .int (iI (bI (part)))), (1, .int (iI wi)), (2, .int (iI col)), (0, .ref 530)], [.int (iI (X_en d1 q1))], S2670) _
                          refine T_zif_ne xr_157_268 (t := 277) (pc' := 271) rfl rfl (fun c3493 => ?_) (fun c3493 => ?_)
                          · skip
                            have c3493 : ¬ (X_en d1 q1) = 0 := c3493
                            refine T_p xr_157_277 xn_157 (pc' := 278) (ls' := [(3, .int (iI (bI (part)))), (1, .int (iI wi)), (2, .int (iI col)), (0, .ref 530)]) (st' := [.ref 530]) rfl ?_
                            refine T_cv (S := S2670) (q := 530) xr_157_278 xf_140.1 xf_140.2.1 xn_140 (as := []) (r := []) rfl hM2716 (Nat.le_of_ble_eq_true rfl) (Nat.le_of_ble_eq_true rfl) (pc' := 281) rfl (ls' := [(0, .ref 530)]) rfl ?_
                            refine T_mono (r_isGood sc S2670 (X_ou (X_ou (X_ou (X_ou (X_ou (X_ou o 6 g1) 7 at1) 8 en1) 9 tk1) 10 nu1) 11 dg1) nm1 hM2716 (show 0 ≤ (o 5) ∧ (o 5) ≤ 5 from by omega)) (fun v3494 S3495 h3496 => ?_)
                            rcases h3496 with ⟨hv3497, hf3498⟩
                            rw [hv3497]
                            rw [hf3498]
                            show X_T sc 157 (281, [(3, .int (iI (bI (part)))), (1, .int (iI wi)), (2, .int (iI col)), (0, .ref 530)], [.int (iI (bI ((o 5) = 0)))], S2670) _
                            refine T_bif_eq xr_157_281 (t := 302) (pc' := 284) rfl rfl (fun c3499 => ?_) (fun c3499 => ?_)
                            · skip
                              have c3499 : ¬ ((o 5) = 0) := c3499
                              exact (show False by first | contradiction | omega).elim
                            · skip
                              have c3499 : ((o 5) = 0) := c3499
                              refine T_p xr_157_284 xn_157 (pc' := 285) (ls' := [(3, .int (iI (bI (part)))), (1, .int (iI wi)), (2, .int (iI col)), (0, .ref 530)]) (st' := [.ref 530]) rfl ?_
                              refine T_p xr_157_285 xn_157 (pc' := 287) (ls' := [(3, .int (iI (bI (part)))), (1, .int (iI wi)), (2, .int (iI col)), (0, .ref 530)]) (st' := [.int (iI 61), .ref 530]) rfl ?_
                              refine T_cv (S := S2670) (q := 530) xr_157_287 xf_145.1 xf_145.2.1 xn_145 (as := [.int (iI 61)]) (r := []) rfl hM2716 (Nat.le_of_ble_eq_true rfl) (Nat.le_of_ble_eq_true rfl) (pc' := 290) rfl (ls' := [(0, .ref 530), (1, .int (iI 61))]) rfl ?_
                              refine T_mono (r_is sc S2670 (X_ou (X_ou (X_ou (X_ou (X_ou (X_ou o 6 g1) 7 at1) 8 en1) 9 tk1) 10 nu1) 11 dg1) nm1 tx tb len n so pl ct E c1 61 hM2716 h2918 (show (o 3) = len from by first | assumption | omega) hl htx hX hT1 (by omega)) (fun v3500 S3501 h3502 => ?_)
                              rcases h3502 with ⟨hv3503, hf3504⟩
                              rw [hv3503]
                              rw [hf3504]
                              show X_T sc 157 (290, [(3, .int (iI (bI (part)))), (1, .int (iI wi)), (2, .int (iI col)), (0, .ref 530)], [.int (iI (bI (so c1 = 61)))], S2670) _
                              refine T_bif_eq xr_157_290 (t := 302) (pc' := 293) rfl rfl (fun c3505 => ?_) (fun c3505 => ?_)
                              · skip
                                have c3505 : ¬ (so c1 = 61) := c3505
                                refine T_p xr_157_302 xn_157 (pc' := 303) (ls' := [(3, .int (iI (bI (part)))), (1, .int (iI wi)), (2, .int (iI col)), (0, .ref 530)]) (st' := [.ref 530]) rfl ?_
                                refine T_p xr_157_303 xn_157 (pc' := 304) (ls' := [(3, .int (iI (bI (part)))), (1, .int (iI wi)), (2, .int (iI col)), (0, .ref 530)]) (st' := [.ref 530, .ref 530]) rfl ?_
                                refine T_get xr_157_304 hM2716 rfl (v := .int (iI (o 30))) rfl (pc' := 307) rfl ?_
                                refine T_p xr_157_307 xn_157 (pc' := 308) (ls' := [(3, .int (iI (bI (part)))), (1, .int (iI wi)), (2, .int (iI col)), (0, .ref 530)]) (st' := [.int (iI 1), .int (iI (o 30)), .ref 530]) rfl ?_
                                refine T_ziadd xr_157_308 (z := (o 30) + 1) rfl (pc' := 309) rfl ?_
                                refine T_ie (y := iI (wc + 1)) (by rw [hwc]) ?_
                                refine T_put xr_157_309 hM2716 rfl (Nat.le_of_ble_eq_true rfl) rfl (fs' := [.ref 531, .int (iI (o 1)), .ref 532, .int (iI (o 3)), .int (iI (o 4)), .int (iI (o 5)), .int (iI g1), .int (iI at1), .int (iI en1), .int (iI tk1), .int (iI nu1), .int (iI dg1), .long nm1, .ref 533, .ref 534, .ref 535, .ref 536, .ref 537, .ref 538, .ref 539, .ref 540, .ref 541, .ref 542, .ref 543, .ref 544, .ref 545, .ref 546, .ref 547, .int (iI (o 28)), .int (iI (o 29)), .int (iI (wc + 1)), .int (iI (o 31)), .int (iI (o 32)), .int (iI (o 33)), .ref 548, .ref 549, .ref 550, .ref 551, .int (iI (o 38)), .ref 552, .ref 553, .ref 554, .ref 555, .ref 556, .ref 557, .ref 558, .ref 559, .ref 560, .ref 561, .int (iI (o 49)), .ref 562, .ref 563, .ref 564, .ref 565, .ref 566, .ref 567, .ref 568, .ref 569, .int (iI (o 58)), .ref 570, .ref 571, .ref 572, .ref 573, .ref 574, .ref 575, .ref 576, .ref 577, .ref 578, .int (iI (o 68)), .int (iI (o 69)), .int (iI (o 70)), .ref 579]) rfl (pc' := 312) rfl (fun S3506 h3507 n3508 e3509 => ?_)
                                refine T_p xr_157_312 xn_157 (pc' := 313) (ls' := [(3, .int (iI (bI (part)))), (1, .int (iI wi)), (2, .int (iI col)), (0, .ref 530)]) (st' := [.ref 530]) rfl ?_
                                refine T_cv (S := S3506) (q := 530) xr_157_313 xf_140.1 xf_140.2.1 xn_140 (as := []) (r := []) rfl h3507 (Nat.le_of_ble_eq_true rfl) (Nat.le_of_ble_eq_true rfl) (pc' := 316) rfl (ls' := [(0, .ref 530)]) rfl ?_
                                refine T_mono (r_isGood sc S3506 (X_ou (X_ou (X_ou (X_ou (X_ou (X_ou (X_ou o 6 g1) 7 at1) 8 en1) 9 tk1) 10 nu1) 11 dg1) 30 (wc + 1)) nm1 h3507 (show 0 ≤ (o 5) ∧ (o 5) ≤ 5 from by omega)) (fun v3510 S3511 h3512 => ?_)
                                rcases h3512 with ⟨hv3513, hf3514⟩
                                rw [hv3513]
                                rw [hf3514]
                                show X_T sc 157 (316, [(3, .int (iI (bI (part)))), (1, .int (iI wi)), (2, .int (iI col)), (0, .ref 530)], [.int (iI (bI ((o 5) = 0)))], S3506) _
                                refine T_bif_eq xr_157_316 (t := 325) (pc' := 319) rfl rfl (fun c3515 => ?_) (fun c3515 => ?_)
                                · skip
                                  have c3515 : ¬ ((o 5) = 0) := c3515
                                  exact (show False by first | contradiction | omega).elim
                                · skip
                                  have c3515 : ((o 5) = 0) := c3515
                                  refine T_p xr_157_319 xn_157 (pc' := 320) (ls' := [(3, .int (iI (bI (part)))), (1, .int (iI wi)), (2, .int (iI col)), (0, .ref 530)]) (st' := [.ref 530]) rfl ?_
                                  refine T_p xr_157_320 xn_157 (pc' := 322) (ls' := [(3, .int (iI (bI (part)))), (1, .int (iI wi)), (2, .int (iI col)), (0, .ref 530)]) (st' := [.int (iI 59), .ref 530]) rfl ?_
                                  refine T_cv (S := S3506) (q := 530) xr_157_322 xf_148.1 xf_148.2.1 xn_148 (as := [.int (iI 59)]) (r := []) rfl h3507 (Nat.le_of_ble_eq_true rfl) (Nat.le_of_ble_eq_true rfl) (pc' := 325) rfl (ls' := [(0, .ref 530), (1, .int (iI 59))]) rfl ?_
                                  have h3516 := (n3508 532 (by decide)).trans (h2918)
                                  refine T_mono (r_must sc S3506 (X_ou (X_ou (X_ou (X_ou (X_ou (X_ou (X_ou o 6 g1) 7 at1) 8 en1) 9 tk1) 10 nu1) 11 dg1) 30 (wc + 1)) nm1 tx tb len n so pl ct E c1 59 h3507 h3516 (show (o 3) = len from by first | assumption | omega) hl htx hX hT1 (show (o 5) = 0 from by omega) (by omega)) (fun v3517 S3518 h3519 => ?_)
                                  rcases h3519 with ⟨at3520, en3521, tk3522, nu3523, dg3524, nm3525, hv3526, hp3527, hp3528, hM3529, hf3530⟩ | ⟨f3531, g3532, hv3533, hp3534, hp3535, hM3536, hf3537⟩
                                  · skip
                                    rw [hv3526]
                                    have h3538 : S3518.1 530 = .inr (11, [.ref 531, .int (iI (o 1)), .ref 532, .int (iI (o 3)), .int (iI (o 4)), .int (iI (o 5)), .int (iI g1), .int (iI at3520), .int (iI en3521), .int (iI tk3522), .int (iI nu3523), .int (iI dg3524), .long nm3525, .ref 533, .ref 534, .ref 535, .ref 536, .ref 537, .ref 538, .ref 539, .ref 540, .ref 541, .ref 542, .ref 543, .ref 544, .ref 545, .ref 546, .ref 547, .int (iI (o 28)), .int (iI (o 29)), .int (iI (wc + 1)), .int (iI (o 31)), .int (iI (o 32)), .int (iI (o 33)), .ref 548, .ref 549, .ref 550, .ref 551, .int (iI (o 38)), .ref 552, .ref 553, .ref 554, .ref 555, .ref 556, .ref 557, .ref 558, .ref 559, .ref 560, .ref 561, .int (iI (o 49)), .ref 562, .ref 563, .ref 564, .ref 565, .ref 566, .ref 567, .ref 568, .ref 569, .int (iI (o 58)), .ref 570, .ref 571, .ref 572, .ref 573, .ref 574, .ref 575, .ref 576, .ref 577, .ref 578, .int (iI (o 68)), .int (iI (o 69)), .int (iI (o 70)), .ref 579]) := hM3529
                                    obtain ⟨⟨_, _⟩, ⟨_, _⟩, hk3539, ⟨_, _⟩, hk3539e, ⟨_, _⟩, ⟨_, _⟩⟩ := R_tk_f hX hp3527
                                    show X_T sc 157 (325, [(3, .int (iI (bI (part)))), (1, .int (iI wi)), (2, .int (iI col)), (0, .ref 530)], [], S3518) _
                                    refine T_vret xr_157_325 xf_157.2.2 ?_
                                    refine hQ _ _ ?_
                                    have h3541 := (hf3530.1 537 (by omega)).trans ((n3508 537 (by decide)).trans ((hF2669.1 537 (by omega)).trans (hA537)))
                                    have h3542 := (hf3530.1 538 (by omega)).trans ((n3508 538 (by decide)).trans (h3416))
                                    have h3543 := (hf3530.1 539 (by omega)).trans ((n3508 539 (by decide)).trans ((hF2669.1 539 (by omega)).trans (hA539)))
                                    have h3544 := (hf3530.1 540 (by omega)).trans ((n3508 540 (by decide)).trans (hA1))
                                    have h3545 := (hf3530.1 541 (by omega)).trans ((n3508 541 (by decide)).trans (hA2))
                                    have h3546 := (hf3530.1 542 (by omega)).trans ((n3508 542 (by decide)).trans ((hF2669.1 542 (by omega)).trans (hA542)))
                                    have h3547 := (hf3530.1 543 (by omega)).trans ((n3508 543 (by decide)).trans ((hF2669.1 543 (by omega)).trans (hA543)))
                                    have h3548 := (hf3530.1 544 (by omega)).trans ((n3508 544 (by decide)).trans ((hF2669.1 544 (by omega)).trans (hA544)))
                                    have h3549 := (hf3530.1 545 (by omega)).trans ((n3508 545 (by decide)).trans (hA3))
                                    have h3550 := (hf3530.1 546 (by omega)).trans ((n3508 546 (by decide)).trans (hA4))
                                    have h3551 := (hf3530.1 547 (by omega)).trans ((n3508 547 (by decide)).trans (hA5))
                                    refine Or.inl ⟨at3520, en3521, tk3522, nu3523, dg3524, nm3525, g1, X_av n c1, d1, q1, wR, wL, wK, wM1, wH1, wS, sO, sN, eP1, eH1, hK1, rfl, hp3527, ?_, ⟨by rw [hfd 0 (by decide) (by decide) (by decide) (by decide)]; exact hW.1, by rw [hfd 1 (by decide) (by decide) (by decide) (by decide)]; exact hW.2.1, by rw [hfd 2 (by decide) (by decide) (by decide) (by decide)]; exact hW.2.2.1, hE1, ⟨by rw [hfd 5 (by decide) (by decide) (by decide) (by decide)]; exact hW.2.2.2.2.1, fun k k1 k2 => by rw [hfd 5 (by decide) (by decide) (by decide) (by decide)] at k2; omega⟩⟩, R_ob.rf, R_ob.rf, R_ob.rf, by exact hob4, by exact hob5, R_ob.rf, R_ob.rf, R_ob.rf, by exact hob9, by exact hob10, by exact hob11, h3538, h3541, h3542, h3543, h3544, h3545, h3546, h3547, h3548, h3549, h3550, h3551, (((X_Fr.rf).tr (X_Fr.mono ⟨hF2669.1, hF2669.2⟩ (fun q hq => (by omega)))).tr (X_Fr.of n3508 e3509 (by omega))).tr (X_Fr.mono ⟨hf3530.1, hf3530.2⟩ (fun q hq => (by omega)))⟩
                                    have hel : sp_el n so ct kn kc 9 c d q = some (c1, d1, q1) := by
                                      rw [← hR, show (9 - d1 3 0).toNat = (9 - (d1 3 0 + 1)).toNat + 1 by omega]
                                      show (if so c1 = 61 then _ else if so c1 = 59 then _ else _) = _
                                      first | rw [if_pos (by omega)] | rw [if_neg (by omega), if_pos (by omega)] | (by_cases hz : so c1 = 61; (rw [if_pos hz]); (rw [if_neg hz, if_pos (by omega)]))
                                    rw [hel, Option.bind_some]
                                    dsimp only
                                    unfold sp_we
                                    (repeat (first | rw [if_pos (by assumption)] | rw [if_neg (by assumption)] | rw [if_neg (by omega)] | rw [if_pos (by omega)]))
                                    all_goals rfl
                                  · skip
                                    rw [hv3533]
                                    have h3540 : S3518.1 530 = .inr (11, [.ref 531, .int (iI (o 1)), .ref 532, .int (iI (o 3)), .int (iI (o 4)), .int (iI f3531), .int (iI g3532), .int (iI at1), .int (iI en1), .int (iI tk1), .int (iI nu1), .int (iI dg1), .long nm1, .ref 533, .ref 534, .ref 535, .ref 536, .ref 537, .ref 538, .ref 539, .ref 540, .ref 541, .ref 542, .ref 543, .ref 544, .ref 545, .ref 546, .ref 547, .int (iI (o 28)), .int (iI (o 29)), .int (iI (wc + 1)), .int (iI (o 31)), .int (iI (o 32)), .int (iI (o 33)), .ref 548, .ref 549, .ref 550, .ref 551, .int (iI (o 38)), .ref 552, .ref 553, .ref 554, .ref 555, .ref 556, .ref 557, .ref 558, .ref 559, .ref 560, .ref 561, .int (iI (o 49)), .ref 562, .ref 563, .ref 564, .ref 565, .ref 566, .ref 567, .ref 568, .ref 569, .int (iI (o 58)), .ref 570, .ref 571, .ref 572, .ref 573, .ref 574, .ref 575, .ref 576, .ref 577, .ref 578, .int (iI (o 68)), .int (iI (o 69)), .int (iI (o 70)), .ref 579]) := hM3536
                                    show X_T sc 157 (325, [(3, .int (iI (bI (part)))), (1, .int (iI wi)), (2, .int (iI col)), (0, .ref 530)], [], S3518) _
                                    refine T_vret xr_157_325 xf_157.2.2 ?_
                                    refine hQ _ _ ?_
                                    have h3552 := (hf3537.1 537 (by omega)).trans ((n3508 537 (by decide)).trans ((hF2669.1 537 (by omega)).trans (hA537)))
                                    have h3553 := (hf3537.1 538 (by omega)).trans ((n3508 538 (by decide)).trans (h3416))
                                    have h3554 := (hf3537.1 539 (by omega)).trans ((n3508 539 (by decide)).trans ((hF2669.1 539 (by omega)).trans (hA539)))
                                    have h3555 := (hf3537.1 540 (by omega)).trans ((n3508 540 (by decide)).trans (hA1))
                                    have h3556 := (hf3537.1 541 (by omega)).trans ((n3508 541 (by decide)).trans (hA2))
                                    have h3557 := (hf3537.1 542 (by omega)).trans ((n3508 542 (by decide)).trans ((hF2669.1 542 (by omega)).trans (hA542)))
                                    have h3558 := (hf3537.1 543 (by omega)).trans ((n3508 543 (by decide)).trans ((hF2669.1 543 (by omega)).trans (hA543)))
                                    have h3559 := (hf3537.1 544 (by omega)).trans ((n3508 544 (by decide)).trans ((hF2669.1 544 (by omega)).trans (hA544)))
                                    have h3560 := (hf3537.1 545 (by omega)).trans ((n3508 545 (by decide)).trans (hA3))
                                    have h3561 := (hf3537.1 546 (by omega)).trans ((n3508 546 (by decide)).trans (hA4))
                                    have h3562 := (hf3537.1 547 (by omega)).trans ((n3508 547 (by decide)).trans (hA5))
                                    refine Or.inr ⟨at1, en1, tk1, nu1, dg1, nm1, wc + 1, f3531, g3532, wR, wL, wK, wM1, wH1, wS, sO, sN, eP1, eH1, hK1, rfl, by omega, ?_, R_ob.rf, R_ob.rf, R_ob.rf, by exact hob4, by exact hob5, R_ob.rf, R_ob.rf, R_ob.rf, by exact hob9, by exact hob10, by exact hob11, h3540, h3552, h3553, h3554, h3555, h3556, h3557, h3558, h3559, h3560, h3561, h3562, (((X_Fr.rf).tr (X_Fr.mono ⟨hF2669.1, hF2669.2⟩ (fun q hq => (by omega)))).tr (X_Fr.of n3508 e3509 (by omega))).tr (X_Fr.mono ⟨hf3537.1, hf3537.2⟩ (fun q hq => (by omega)))⟩
                                    by_cases h61 : so c1 = 61 ∨ so c1 = 59
                                    · have hel : sp_el n so ct kn kc 9 c d q = some (c1, d1, q1) := by
                                        rw [← hR, show (9 - d1 3 0).toNat = (9 - (d1 3 0 + 1)).toNat + 1 by omega]
                                        show (if so c1 = 61 then _ else if so c1 = 59 then _ else _) = _
                                        first | rw [if_pos (by omega)] | rw [if_neg (by omega), if_pos (by omega)] | (by_cases hz : so c1 = 61; (rw [if_pos hz]); (rw [if_neg hz, if_pos (by omega)]))
                                      rw [hel, Option.bind_some]
                                      dsimp only
                                      unfold sp_we
                                      (repeat (first | rw [if_pos (by assumption)] | rw [if_neg (by assumption)] | rw [if_neg (by omega)] | rw [if_pos (by omega)]))
                                      all_goals first | rfl | ((repeat' split) <;> first | rfl | (exfalso; omega) | contradiction)
                                    · have hel : sp_el n so ct kn kc 9 c d q = none := by
                                        rw [← hR, show (9 - d1 3 0).toNat = (9 - (d1 3 0 + 1)).toNat + 1 by omega, sp_el_e1 _ (by omega) (by omega)]
                                        unfold sp_e1
                                        rw [if_neg (by omega), if_neg (by omega)]
                                        rfl
                                      rw [hel]
                                      rfl
                              · skip
                                have c3505 : (so c1 = 61) := c3505
                                exact (show False by first | contradiction | omega).elim
                          · skip
                            have c3493 : ¬ (¬ (X_en d1 q1) = 0) := c3493
                            refine T_p xr_157_271 xn_157 (pc' := 272) (ls' := [(3, .int (iI (bI (part)))), (1, .int (iI wi)), (2, .int (iI col)), (0, .ref 530)]) (st' := [.ref 530]) rfl ?_
                            refine T_p xr_157_272 xn_157 (pc' := 273) (ls' := [(3, .int (iI (bI (part)))), (1, .int (iI wi)), (2, .int (iI col)), (0, .ref 530)]) (st' := [.int (iI 2), .ref 530]) rfl ?_
                            refine T_p xr_157_273 xn_157 (pc' := 274) (ls' := [(3, .int (iI (bI (part)))), (1, .int (iI wi)), (2, .int (iI col)), (0, .ref 530)]) (st' := [.int (iI col), .int (iI 2), .ref 530]) rfl ?_
                            refine T_cv (S := S2670) (q := 530) xr_157_274 xf_139.1 xf_139.2.1 xn_139 (as := [.int (iI 2), .int (iI col)]) (r := []) rfl hM2716 (Nat.le_of_ble_eq_true rfl) (Nat.le_of_ble_eq_true rfl) (pc' := 277) rfl (ls' := [(0, .ref 530), (1, .int (iI 2)), (2, .int (iI col))]) rfl ?_
                            refine T_mono (r_fails sc S2670 (X_ou (X_ou (X_ou (X_ou (X_ou (X_ou o 6 g1) 7 at1) 8 en1) 9 tk1) 10 nu1) 11 dg1) nm1 2 col hM2716 (show 0 ≤ (o 5) ∧ (o 5) ≤ 5 from by omega) (by omega)) (fun v3563 S3564 h3565 => ?_)
                            rcases h3565 with ⟨f3566, g3567, hv3568, hp3569, hM3570, hf3571⟩
                            rw [hv3568]
                            have h3572 : S3564.1 530 = .inr (11, [.ref 531, .int (iI (o 1)), .ref 532, .int (iI (o 3)), .int (iI (o 4)), .int (iI f3566), .int (iI g3567), .int (iI at1), .int (iI en1), .int (iI tk1), .int (iI nu1), .int (iI dg1), .long nm1, .ref 533, .ref 534, .ref 535, .ref 536, .ref 537, .ref 538, .ref 539, .ref 540, .ref 541, .ref 542, .ref 543, .ref 544, .ref 545, .ref 546, .ref 547, .int (iI (o 28)), .int (iI (o 29)), .int (iI (o 30)), .int (iI (o 31)), .int (iI (o 32)), .int (iI (o 33)), .ref 548, .ref 549, .ref 550, .ref 551, .int (iI (o 38)), .ref 552, .ref 553, .ref 554, .ref 555, .ref 556, .ref 557, .ref 558, .ref 559, .ref 560, .ref 561, .int (iI (o 49)), .ref 562, .ref 563, .ref 564, .ref 565, .ref 566, .ref 567, .ref 568, .ref 569, .int (iI (o 58)), .ref 570, .ref 571, .ref 572, .ref 573, .ref 574, .ref 575, .ref 576, .ref 577, .ref 578, .int (iI (o 68)), .int (iI (o 69)), .int (iI (o 70)), .ref 579]) := hM3570
                            have hp3569 : ((o 5) = 0 → f3566 = 2) ∧ (¬ (o 5) = 0 → f3566 = (o 5)) := hp3569
                            have hf3573 : f3566 = 2 := hp3569.1 h5
                            show X_T sc 157 (277, [(3, .int (iI (bI (part)))), (1, .int (iI wi)), (2, .int (iI col)), (0, .ref 530)], [], S3564) _
                            refine T_p xr_157_277 xn_157 (pc' := 278) (ls' := [(3, .int (iI (bI (part)))), (1, .int (iI wi)), (2, .int (iI col)), (0, .ref 530)]) (st' := [.ref 530]) rfl ?_
                            refine T_cv (S := S3564) (q := 530) xr_157_278 xf_140.1 xf_140.2.1 xn_140 (as := []) (r := []) rfl h3572 (Nat.le_of_ble_eq_true rfl) (Nat.le_of_ble_eq_true rfl) (pc' := 281) rfl (ls' := [(0, .ref 530)]) rfl ?_
                            refine T_mono (r_isGood sc S3564 (X_ou (X_ou (X_ou (X_ou (X_ou (X_ou (X_ou o 5 f3566) 6 g3567) 7 at1) 8 en1) 9 tk1) 10 nu1) 11 dg1) nm1 h3572 (show 0 ≤ f3566 ∧ f3566 ≤ 5 from by omega)) (fun v3574 S3575 h3576 => ?_)
                            rcases h3576 with ⟨hv3577, hf3578⟩
                            rw [hv3577]
                            rw [hf3578]
                            show X_T sc 157 (281, [(3, .int (iI (bI (part)))), (1, .int (iI wi)), (2, .int (iI col)), (0, .ref 530)], [.int (iI (bI (f3566 = 0)))], S3564) _
                            refine T_bif_eq xr_157_281 (t := 302) (pc' := 284) rfl rfl (fun c3579 => ?_) (fun c3579 => ?_)
                            · skip
                              have c3579 : ¬ (f3566 = 0) := c3579
                              refine T_p xr_157_302 xn_157 (pc' := 303) (ls' := [(3, .int (iI (bI (part)))), (1, .int (iI wi)), (2, .int (iI col)), (0, .ref 530)]) (st' := [.ref 530]) rfl ?_
                              refine T_p xr_157_303 xn_157 (pc' := 304) (ls' := [(3, .int (iI (bI (part)))), (1, .int (iI wi)), (2, .int (iI col)), (0, .ref 530)]) (st' := [.ref 530, .ref 530]) rfl ?_
                              refine T_get xr_157_304 h3572 rfl (v := .int (iI (o 30))) rfl (pc' := 307) rfl ?_
                              refine T_p xr_157_307 xn_157 (pc' := 308) (ls' := [(3, .int (iI (bI (part)))), (1, .int (iI wi)), (2, .int (iI col)), (0, .ref 530)]) (st' := [.int (iI 1), .int (iI (o 30)), .ref 530]) rfl ?_
                              refine T_ziadd xr_157_308 (z := (o 30) + 1) rfl (pc' := 309) rfl ?_
                              refine T_ie (y := iI (wc + 1)) (by rw [hwc]) ?_
                              refine T_put xr_157_309 h3572 rfl (Nat.le_of_ble_eq_true rfl) rfl (fs' := [.ref 531, .int (iI (o 1)), .ref 532, .int (iI (o 3)), .int (iI (o 4)), .int (iI f3566), .int (iI g3567), .int (iI at1), .int (iI en1), .int (iI tk1), .int (iI nu1), .int (iI dg1), .long nm1, .ref 533, .ref 534, .ref 535, .ref 536, .ref 537, .ref 538, .ref 539, .ref 540, .ref 541, .ref 542, .ref 543, .ref 544, .ref 545, .ref 546, .ref 547, .int (iI (o 28)), .int (iI (o 29)), .int (iI (wc + 1)), .int (iI (o 31)), .int (iI (o 32)), .int (iI (o 33)), .ref 548, .ref 549, .ref 550, .ref 551, .int (iI (o 38)), .ref 552, .ref 553, .ref 554, .ref 555, .ref 556, .ref 557, .ref 558, .ref 559, .ref 560, .ref 561, .int (iI (o 49)), .ref 562, .ref 563, .ref 564, .ref 565, .ref 566, .ref 567, .ref 568, .ref 569, .int (iI (o 58)), .ref 570, .ref 571, .ref 572, .ref 573, .ref 574, .ref 575, .ref 576, .ref 577, .ref 578, .int (iI (o 68)), .int (iI (o 69)), .int (iI (o 70)), .ref 579]) rfl (pc' := 312) rfl (fun S3580 h3581 n3582 e3583 => ?_)
                              refine T_p xr_157_312 xn_157 (pc' := 313) (ls' := [(3, .int (iI (bI (part)))), (1, .int (iI wi)), (2, .int (iI col)), (0, .ref 530)]) (st' := [.ref 530]) rfl ?_
                              refine T_cv (S := S3580) (q := 530) xr_157_313 xf_140.1 xf_140.2.1 xn_140 (as := []) (r := []) rfl h3581 (Nat.le_of_ble_eq_true rfl) (Nat.le_of_ble_eq_true rfl) (pc' := 316) rfl (ls' := [(0, .ref 530)]) rfl ?_
                              refine T_mono (r_isGood sc S3580 (X_ou (X_ou (X_ou (X_ou (X_ou (X_ou (X_ou (X_ou o 5 f3566) 6 g3567) 7 at1) 8 en1) 9 tk1) 10 nu1) 11 dg1) 30 (wc + 1)) nm1 h3581 (show 0 ≤ f3566 ∧ f3566 ≤ 5 from by omega)) (fun v3584 S3585 h3586 => ?_)
                              rcases h3586 with ⟨hv3587, hf3588⟩
                              rw [hv3587]
                              rw [hf3588]
                              show X_T sc 157 (316, [(3, .int (iI (bI (part)))), (1, .int (iI wi)), (2, .int (iI col)), (0, .ref 530)], [.int (iI (bI (f3566 = 0)))], S3580) _
                              refine T_bif_eq xr_157_316 (t := 325) (pc' := 319) rfl rfl (fun c3589 => ?_) (fun c3589 => ?_)
                              · skip
                                have c3589 : ¬ (f3566 = 0) := c3589
                                refine T_vret xr_157_325 xf_157.2.2 ?_
                                refine hQ _ _ ?_
                                have h3590 := (n3582 537 (by decide)).trans ((hf3571.1 537 (by omega)).trans ((hF2669.1 537 (by omega)).trans (hA537)))
                                have h3591 := (n3582 538 (by decide)).trans ((hf3571.1 538 (by omega)).trans (h3416))
                                have h3592 := (n3582 539 (by decide)).trans ((hf3571.1 539 (by omega)).trans ((hF2669.1 539 (by omega)).trans (hA539)))
                                have h3593 := (n3582 540 (by decide)).trans ((hf3571.1 540 (by omega)).trans (hA1))
                                have h3594 := (n3582 541 (by decide)).trans ((hf3571.1 541 (by omega)).trans (hA2))
                                have h3595 := (n3582 542 (by decide)).trans ((hf3571.1 542 (by omega)).trans ((hF2669.1 542 (by omega)).trans (hA542)))
                                have h3596 := (n3582 543 (by decide)).trans ((hf3571.1 543 (by omega)).trans ((hF2669.1 543 (by omega)).trans (hA543)))
                                have h3597 := (n3582 544 (by decide)).trans ((hf3571.1 544 (by omega)).trans ((hF2669.1 544 (by omega)).trans (hA544)))
                                have h3598 := (n3582 545 (by decide)).trans ((hf3571.1 545 (by omega)).trans (hA3))
                                have h3599 := (n3582 546 (by decide)).trans ((hf3571.1 546 (by omega)).trans (hA4))
                                have h3600 := (n3582 547 (by decide)).trans ((hf3571.1 547 (by omega)).trans (hA5))
                                refine Or.inr ⟨at1, en1, tk1, nu1, dg1, nm1, wc + 1, f3566, g3567, wR, wL, wK, wM1, wH1, wS, sO, sN, eP1, eH1, hK1, rfl, by omega, ?_, R_ob.rf, R_ob.rf, R_ob.rf, by exact hob4, by exact hob5, R_ob.rf, R_ob.rf, R_ob.rf, by exact hob9, by exact hob10, by exact hob11, h3581, h3590, h3591, h3592, h3593, h3594, h3595, h3596, h3597, h3598, h3599, h3600, (((X_Fr.rf).tr (X_Fr.mono ⟨hF2669.1, hF2669.2⟩ (fun q hq => (by omega)))).tr (X_Fr.mono ⟨hf3571.1, hf3571.2⟩ (fun q hq => (by omega)))).tr (X_Fr.of n3582 e3583 (by omega))⟩
                                by_cases h61 : so c1 = 61 ∨ so c1 = 59
                                · have hel : sp_el n so ct kn kc 9 c d q = some (c1, d1, q1) := by
                                    rw [← hR, show (9 - d1 3 0).toNat = (9 - (d1 3 0 + 1)).toNat + 1 by omega]
                                    show (if so c1 = 61 then _ else if so c1 = 59 then _ else _) = _
                                    first | rw [if_pos (by omega)] | rw [if_neg (by omega), if_pos (by omega)] | (by_cases hz : so c1 = 61; (rw [if_pos hz]); (rw [if_neg hz, if_pos (by omega)]))
                                  rw [hel, Option.bind_some]
                                  dsimp only
                                  unfold sp_we
                                  (repeat (first | rw [if_pos (by assumption)] | rw [if_neg (by assumption)] | rw [if_neg (by omega)] | rw [if_pos (by omega)]))
                                  all_goals first | rfl | ((repeat' split) <;> first | rfl | (exfalso; omega) | contradiction)
                                · have hel : sp_el n so ct kn kc 9 c d q = none := by
                                    rw [← hR, show (9 - d1 3 0).toNat = (9 - (d1 3 0 + 1)).toNat + 1 by omega, sp_el_e1 _ (by omega) (by omega)]
                                    unfold sp_e1
                                    rw [if_neg (by omega), if_neg (by omega)]
                                    rfl
                                  rw [hel]
                                  rfl
                              · skip
                                have c3589 : (f3566 = 0) := c3589
                                exact (show False by first | contradiction | omega).elim
                            · skip
                              have c3579 : (f3566 = 0) := c3579
                              exact (show False by first | contradiction | omega).elim
                    · skip
                      have c3409 : ¬ (so c1 = 59) := c3409
                      refine T_p xr_157_243 xn_157 (pc' := 244) (ls' := [(3, .int (iI (bI (part)))), (1, .int (iI wi)), (2, .int (iI col)), (0, .ref 530)]) (st' := [.ref 530]) rfl ?_
                      refine T_cv (S := S2670) (q := 530) xr_157_244 xf_147.1 xf_147.2.1 xn_147 (as := []) (r := []) rfl hM2716 (Nat.le_of_ble_eq_true rfl) (Nat.le_of_ble_eq_true rfl) (pc' := 247) rfl (ls' := [(0, .ref 530)]) rfl ?_
                      refine T_mono (r_wrong sc S2670 (X_ou (X_ou (X_ou (X_ou (X_ou (X_ou o 6 g1) 7 at1) 8 en1) 9 tk1) 10 nu1) 11 dg1) nm1 tx tb len n so pl ct E c1 hM2716 h2918 (show (o 3) = len from by first | assumption | omega) hl htx hX hT1 (show 0 ≤ (o 5) ∧ (o 5) ≤ 5 from by omega)) (fun v3601 S3602 h3603 => ?_)
                      rcases h3603 with ⟨f3604, g3605, hv3606, hp3607, hM3608, hf3609⟩
                      rw [hv3606]
                      have h3610 : S3602.1 530 = .inr (11, [.ref 531, .int (iI (o 1)), .ref 532, .int (iI (o 3)), .int (iI (o 4)), .int (iI f3604), .int (iI g3605), .int (iI at1), .int (iI en1), .int (iI tk1), .int (iI nu1), .int (iI dg1), .long nm1, .ref 533, .ref 534, .ref 535, .ref 536, .ref 537, .ref 538, .ref 539, .ref 540, .ref 541, .ref 542, .ref 543, .ref 544, .ref 545, .ref 546, .ref 547, .int (iI (o 28)), .int (iI (o 29)), .int (iI (o 30)), .int (iI (o 31)), .int (iI (o 32)), .int (iI (o 33)), .ref 548, .ref 549, .ref 550, .ref 551, .int (iI (o 38)), .ref 552, .ref 553, .ref 554, .ref 555, .ref 556, .ref 557, .ref 558, .ref 559, .ref 560, .ref 561, .int (iI (o 49)), .ref 562, .ref 563, .ref 564, .ref 565, .ref 566, .ref 567, .ref 568, .ref 569, .int (iI (o 58)), .ref 570, .ref 571, .ref 572, .ref 573, .ref 574, .ref 575, .ref 576, .ref 577, .ref 578, .int (iI (o 68)), .int (iI (o 69)), .int (iI (o 70)), .ref 579]) := hM3608
                      show X_T sc 157 (247, [(3, .int (iI (bI (part)))), (1, .int (iI wi)), (2, .int (iI col)), (0, .ref 530)], [], S3602) _
                      refine T_p xr_157_247 xn_157 (pc' := 248) (ls' := [(3, .int (iI (bI (part)))), (1, .int (iI wi)), (2, .int (iI col)), (0, .ref 530)]) (st' := [.ref 530]) rfl ?_
                      refine T_cv (S := S3602) (q := 530) xr_157_248 xf_140.1 xf_140.2.1 xn_140 (as := []) (r := []) rfl h3610 (Nat.le_of_ble_eq_true rfl) (Nat.le_of_ble_eq_true rfl) (pc' := 251) rfl (ls' := [(0, .ref 530)]) rfl ?_
                      refine T_mono (r_isGood sc S3602 (X_ou (X_ou (X_ou (X_ou (X_ou (X_ou (X_ou o 5 f3604) 6 g3605) 7 at1) 8 en1) 9 tk1) 10 nu1) 11 dg1) nm1 h3610 (show 0 ≤ f3604 ∧ f3604 ≤ 5 from by omega)) (fun v3611 S3612 h3613 => ?_)
                      rcases h3613 with ⟨hv3614, hf3615⟩
                      rw [hv3614]
                      rw [hf3615]
                      show X_T sc 157 (251, [(3, .int (iI (bI (part)))), (1, .int (iI wi)), (2, .int (iI col)), (0, .ref 530)], [.int (iI (bI (f3604 = 0)))], S3602) _
                      refine T_bif_eq xr_157_251 (t := 277) (pc' := 254) rfl rfl (fun c3616 => ?_) (fun c3616 => ?_)
                      · skip
                        have c3616 : ¬ (f3604 = 0) := c3616
                        refine T_p xr_157_277 xn_157 (pc' := 278) (ls' := [(3, .int (iI (bI (part)))), (1, .int (iI wi)), (2, .int (iI col)), (0, .ref 530)]) (st' := [.ref 530]) rfl ?_
                        refine T_cv (S := S3602) (q := 530) xr_157_278 xf_140.1 xf_140.2.1 xn_140 (as := []) (r := []) rfl h3610 (Nat.le_of_ble_eq_true rfl) (Nat.le_of_ble_eq_true rfl) (pc' := 281) rfl (ls' := [(0, .ref 530)]) rfl ?_
                        refine T_mono (r_isGood sc S3602 (X_ou (X_ou (X_ou (X_ou (X_ou (X_ou (X_ou o 5 f3604) 6 g3605) 7 at1) 8 en1) 9 tk1) 10 nu1) 11 dg1) nm1 h3610 (show 0 ≤ f3604 ∧ f3604 ≤ 5 from by omega)) (fun v3617 S3618 h3619 => ?_)
                        rcases h3619 with ⟨hv3620, hf3621⟩
                        rw [hv3620]
                        rw [hf3621]
                        show X_T sc 157 (281, [(3, .int (iI (bI (part)))), (1, .int (iI wi)), (2, .int (iI col)), (0, .ref 530)], [.int (iI (bI (f3604 = 0)))], S3602) _
                        refine T_bif_eq xr_157_281 (t := 302) (pc' := 284) rfl rfl (fun c3622 => ?_) (fun c3622 => ?_)
                        · skip
                          have c3622 : ¬ (f3604 = 0) := c3622
                          refine T_p xr_157_302 xn_157 (pc' := 303) (ls' := [(3, .int (iI (bI (part)))), (1, .int (iI wi)), (2, .int (iI col)), (0, .ref 530)]) (st' := [.ref 530]) rfl ?_
                          refine T_p xr_157_303 xn_157 (pc' := 304) (ls' := [(3, .int (iI (bI (part)))), (1, .int (iI wi)), (2, .int (iI col)), (0, .ref 530)]) (st' := [.ref 530, .ref 530]) rfl ?_
                          refine T_get xr_157_304 h3610 rfl (v := .int (iI (o 30))) rfl (pc' := 307) rfl ?_
                          refine T_p xr_157_307 xn_157 (pc' := 308) (ls' := [(3, .int (iI (bI (part)))), (1, .int (iI wi)), (2, .int (iI col)), (0, .ref 530)]) (st' := [.int (iI 1), .int (iI (o 30)), .ref 530]) rfl ?_
                          refine T_ziadd xr_157_308 (z := (o 30) + 1) rfl (pc' := 309) rfl ?_
                          refine T_ie (y := iI (wc + 1)) (by rw [hwc]) ?_
                          refine T_put xr_157_309 h3610 rfl (Nat.le_of_ble_eq_true rfl) rfl (fs' := [.ref 531, .int (iI (o 1)), .ref 532, .int (iI (o 3)), .int (iI (o 4)), .int (iI f3604), .int (iI g3605), .int (iI at1), .int (iI en1), .int (iI tk1), .int (iI nu1), .int (iI dg1), .long nm1, .ref 533, .ref 534, .ref 535, .ref 536, .ref 537, .ref 538, .ref 539, .ref 540, .ref 541, .ref 542, .ref 543, .ref 544, .ref 545, .ref 546, .ref 547, .int (iI (o 28)), .int (iI (o 29)), .int (iI (wc + 1)), .int (iI (o 31)), .int (iI (o 32)), .int (iI (o 33)), .ref 548, .ref 549, .ref 550, .ref 551, .int (iI (o 38)), .ref 552, .ref 553, .ref 554, .ref 555, .ref 556, .ref 557, .ref 558, .ref 559, .ref 560, .ref 561, .int (iI (o 49)), .ref 562, .ref 563, .ref 564, .ref 565, .ref 566, .ref 567, .ref 568, .ref 569, .int (iI (o 58)), .ref 570, .ref 571, .ref 572, .ref 573, .ref 574, .ref 575, .ref 576, .ref 577, .ref 578, .int (iI (o 68)), .int (iI (o 69)), .int (iI (o 70)), .ref 579]) rfl (pc' := 312) rfl (fun S3623 h3624 n3625 e3626 => ?_)
                          refine T_p xr_157_312 xn_157 (pc' := 313) (ls' := [(3, .int (iI (bI (part)))), (1, .int (iI wi)), (2, .int (iI col)), (0, .ref 530)]) (st' := [.ref 530]) rfl ?_
                          refine T_cv (S := S3623) (q := 530) xr_157_313 xf_140.1 xf_140.2.1 xn_140 (as := []) (r := []) rfl h3624 (Nat.le_of_ble_eq_true rfl) (Nat.le_of_ble_eq_true rfl) (pc' := 316) rfl (ls' := [(0, .ref 530)]) rfl ?_
                          refine T_mono (r_isGood sc S3623 (X_ou (X_ou (X_ou (X_ou (X_ou (X_ou (X_ou (X_ou o 5 f3604) 6 g3605) 7 at1) 8 en1) 9 tk1) 10 nu1) 11 dg1) 30 (wc + 1)) nm1 h3624 (show 0 ≤ f3604 ∧ f3604 ≤ 5 from by omega)) (fun v3627 S3628 h3629 => ?_)
                          rcases h3629 with ⟨hv3630, hf3631⟩
                          rw [hv3630]
                          rw [hf3631]
                          show X_T sc 157 (316, [(3, .int (iI (bI (part)))), (1, .int (iI wi)), (2, .int (iI col)), (0, .ref 530)], [.int (iI (bI (f3604 = 0)))], S3623) _
                          refine T_bif_eq xr_157_316 (t := 325) (pc' := 319) rfl rfl (fun c3632 => ?_) (fun c3632 => ?_)
                          · skip
                            have c3632 : ¬ (f3604 = 0) := c3632
                            refine T_vret xr_157_325 xf_157.2.2 ?_
                            refine hQ _ _ ?_
                            have h3633 := (n3625 537 (by decide)).trans ((hf3609.1 537 (by omega)).trans ((hF2669.1 537 (by omega)).trans (hA537)))
                            have h3634 := (n3625 538 (by decide)).trans ((hf3609.1 538 (by omega)).trans ((hF2669.1 538 (by omega)).trans (hA538)))
                            have h3635 := (n3625 539 (by decide)).trans ((hf3609.1 539 (by omega)).trans ((hF2669.1 539 (by omega)).trans (hA539)))
                            have h3636 := (n3625 540 (by decide)).trans ((hf3609.1 540 (by omega)).trans (hA1))
                            have h3637 := (n3625 541 (by decide)).trans ((hf3609.1 541 (by omega)).trans (hA2))
                            have h3638 := (n3625 542 (by decide)).trans ((hf3609.1 542 (by omega)).trans ((hF2669.1 542 (by omega)).trans (hA542)))
                            have h3639 := (n3625 543 (by decide)).trans ((hf3609.1 543 (by omega)).trans ((hF2669.1 543 (by omega)).trans (hA543)))
                            have h3640 := (n3625 544 (by decide)).trans ((hf3609.1 544 (by omega)).trans ((hF2669.1 544 (by omega)).trans (hA544)))
                            have h3641 := (n3625 545 (by decide)).trans ((hf3609.1 545 (by omega)).trans (hA3))
                            have h3642 := (n3625 546 (by decide)).trans ((hf3609.1 546 (by omega)).trans (hA4))
                            have h3643 := (n3625 547 (by decide)).trans ((hf3609.1 547 (by omega)).trans (hA5))
                            refine Or.inr ⟨at1, en1, tk1, nu1, dg1, nm1, wc + 1, f3604, g3605, wR, wL, wK, wM1, wH1, wS, sO, sN, eP1, eH1, hK1, rfl, by omega, ?_, R_ob.rf, R_ob.rf, R_ob.rf, by exact hob4, by exact hob5, R_ob.rf, R_ob.rf, R_ob.rf, by exact hob9, by exact hob10, by exact hob11, h3624, h3633, h3634, h3635, h3636, h3637, h3638, h3639, h3640, h3641, h3642, h3643, (((X_Fr.rf).tr (X_Fr.mono ⟨hF2669.1, hF2669.2⟩ (fun q hq => (by omega)))).tr (X_Fr.mono ⟨hf3609.1, hf3609.2⟩ (fun q hq => (by omega)))).tr (X_Fr.of n3625 e3626 (by omega))⟩
                            by_cases h61 : so c1 = 61 ∨ so c1 = 59
                            · have hel : sp_el n so ct kn kc 9 c d q = some (c1, d1, q1) := by
                                rw [← hR, show (9 - d1 3 0).toNat = (9 - (d1 3 0 + 1)).toNat + 1 by omega]
                                show (if so c1 = 61 then _ else if so c1 = 59 then _ else _) = _
                                first | rw [if_pos (by omega)] | rw [if_neg (by omega), if_pos (by omega)] | (by_cases hz : so c1 = 61; (rw [if_pos hz]); (rw [if_neg hz, if_pos (by omega)]))
                              rw [hel, Option.bind_some]
                              dsimp only
                              unfold sp_we
                              (repeat (first | rw [if_pos (by assumption)] | rw [if_neg (by assumption)] | rw [if_neg (by omega)] | rw [if_pos (by omega)]))
                              all_goals first | rfl | ((repeat' split) <;> first | rfl | (exfalso; omega) | contradiction)
                            · have hel : sp_el n so ct kn kc 9 c d q = none := by
                                rw [← hR, show (9 - d1 3 0).toNat = (9 - (d1 3 0 + 1)).toNat + 1 by omega, sp_el_e1 _ (by omega) (by omega)]
                                unfold sp_e1
                                rw [if_neg (by omega), if_neg (by omega)]
                                rfl
                              rw [hel]
                              rfl
                          · skip
                            have c3632 : (f3604 = 0) := c3632
                            exact (show False by first | contradiction | omega).elim
                        · skip
                          have c3622 : (f3604 = 0) := c3622
                          exact (show False by first | contradiction | omega).elim
                      · skip
                        have c3616 : (f3604 = 0) := c3616
                        exact (show False by first | contradiction | omega).elim
          · skip
            have c2924 : (so c1 = 95) := c2924
            refine T_p xr_157_179 xn_157 (pc' := 180) (ls' := [(3, .int (iI (bI (part)))), (1, .int (iI wi)), (2, .int (iI col)), (0, .ref 530)]) (st' := [.int (iI (bI (part)))]) rfl ?_
            refine T_bif_ne xr_157_180 (t := 191) (pc' := 183) rfl rfl (fun c3644 => ?_) (fun c3644 => ?_)
            · skip
              have c3644 : (part) := c3644
              refine T_p xr_157_191 xn_157 (pc' := 192) (ls' := [(3, .int (iI (bI (part)))), (1, .int (iI wi)), (2, .int (iI col)), (0, .ref 530)]) (st' := [.int (iI 1)]) rfl ?_
              refine T_p xr_157_192 xn_157 (pc' := 196) (ls' := [(3, .int (iI (bI (part)))), (1, .int (iI wi)), (2, .int (iI col)), (0, .ref 530)]) (st' := [.int (iI 1)]) rfl ?_
              refine T_ie (y := iI (bI (True))) (by rw [bI_t trivial]) ?_
              have hpx : ¬ d1 4 0 = d1 3 0 := (hpt rfl).mp (by assumption)
              refine T_p xr_157_196 xn_157 (pc' := 197) (ls' := [(3, .int (iI (bI (True)))), (1, .int (iI wi)), (2, .int (iI col)), (0, .ref 530)]) (st' := []) rfl ?_
              refine T_p xr_157_197 xn_157 (pc' := 198) (ls' := [(3, .int (iI (bI (True)))), (1, .int (iI wi)), (2, .int (iI col)), (0, .ref 530)]) (st' := [.ref 530]) rfl ?_
              refine T_p xr_157_198 xn_157 (pc' := 199) (ls' := [(3, .int (iI (bI (True)))), (1, .int (iI wi)), (2, .int (iI col)), (0, .ref 530)]) (st' := [.int (iI wi), .ref 530]) rfl ?_
              refine T_cv (S := S2670) (q := 530) xr_157_199 xf_158.1 xf_158.2.1 xn_158 (as := [.int (iI wi)]) (r := []) rfl hM2716 (Nat.le_of_ble_eq_true rfl) (Nat.le_of_ble_eq_true rfl) (pc' := 202) rfl (ls' := [(0, .ref 530), (1, .int (iI wi))]) rfl ?_
              have h3645 := (hF2669.1 534 (by omega)).trans (hA534)
              refine T_mono (r_readElement sc S2670 (X_ou (X_ou (X_ou (X_ou (X_ou (X_ou o 6 g1) 7 at1) 8 en1) 9 tk1) 10 nu1) 11 dg1) nm1 tx kN wM1 wH1 eP1 eH1 hK1 tb len n so pl ct E c1 kn kc wi d1 q1 hM2716 h2918 h3645 hA1 hA2 hA3 hA4 hA5 (show (o 3) = len from by first | assumption | omega) hl htx hX hT1 (show (o 5) = 0 from by omega) (show (o 29) = kc from by omega) (by omega) (show 0 ≤ (o 4) ∧ (o 4) ≤ 1 from by omega) hN (by omega) hE1 (by omega) (by omega) (hct _ (by omega) (by omega))) (fun v3646 S3647 h3648 => ?_)
              rcases h3648 with ⟨at3649, en3650, tk3651, nu3652, dg3653, nm3654, c3655, d3656, q3657, wM3658, wH3659, eP3660, eH3661, hK3662, hv3663, hp3664, hp3665, hp3666, hp3667, hp3668, hp3669, hp3670, hp3671, hM3672, ha3673, ha3674, ha3675, ha3676, ha3677, hf3678⟩ | ⟨at3679, en3680, tk3681, nu3682, dg3683, nm3684, f3685, g3686, wM3687, wH3688, eP3689, eH3690, hK3691, hv3692, hp3693, hp3694, hp3695, hp3696, hp3697, hp3698, hp3699, hM3700, ha3701, ha3702, ha3703, ha3704, ha3705, hf3706⟩
              · skip
                rw [hv3663]
                have h3707 : S3647.1 530 = .inr (11, [.ref 531, .int (iI (o 1)), .ref 532, .int (iI (o 3)), .int (iI (o 4)), .int (iI (o 5)), .int (iI g1), .int (iI at3649), .int (iI en3650), .int (iI tk3651), .int (iI nu3652), .int (iI dg3653), .long nm3654, .ref 533, .ref 534, .ref 535, .ref 536, .ref 537, .ref 538, .ref 539, .ref 540, .ref 541, .ref 542, .ref 543, .ref 544, .ref 545, .ref 546, .ref 547, .int (iI (o 28)), .int (iI (o 29)), .int (iI (o 30)), .int (iI (o 31)), .int (iI (o 32)), .int (iI (o 33)), .ref 548, .ref 549, .ref 550, .ref 551, .int (iI (o 38)), .ref 552, .ref 553, .ref 554, .ref 555, .ref 556, .ref 557, .ref 558, .ref 559, .ref 560, .ref 561, .int (iI (o 49)), .ref 562, .ref 563, .ref 564, .ref 565, .ref 566, .ref 567, .ref 568, .ref 569, .int (iI (o 58)), .ref 570, .ref 571, .ref 572, .ref 573, .ref 574, .ref 575, .ref 576, .ref 577, .ref 578, .int (iI (o 68)), .int (iI (o 69)), .int (iI (o 70)), .ref 579]) := hM3672
                obtain ⟨⟨_, _⟩, ⟨_, _⟩, hk3708, ⟨_, _⟩, hk3708e, ⟨_, _⟩, ⟨_, _⟩⟩ := R_tk_f hX hp3664
                have he1 := sp_e1_ok hcr.1 ⟨by omega, by omega⟩ (hct _ (by omega) (by omega)) hp3665 hok hd14
                obtain ⟨he1a, he1b, he1c, he1d, he1e, he1f, he1g⟩ := he1
                show X_T sc 157 (202, [(3, .int (iI (bI (True)))), (1, .int (iI wi)), (2, .int (iI col)), (0, .ref 530)], [], S3647) _
                refine T_p xr_157_202 xn_157 (pc' := 155) (ls' := [(3, .int (iI (bI (True)))), (1, .int (iI wi)), (2, .int (iI col)), (0, .ref 530)]) (st' := []) rfl ?_
                exact ih2666 S3647 True (o 5) g1 at3649 en3650 tk3651 nu3652 dg3653 nm3654 c3655 d3656 q3657 wM3658 wH3659 eP3660 eH3661 hK3662 h3707 ha3673 ha3674 ha3675 ha3676 ha3677 (hF2669.tr ((X_Fr.rf).tr (X_Fr.mono ⟨hf3678.1, hf3678.2⟩ (fun q hq => (by omega))))) (by omega) (fun _ => ⟨hp3664, hp3666, (by
                      rw [← hR, show (9 - d1 3 0).toNat = (9 - (d1 3 0 + 1)).toNat + 1 by omega, sp_el_e1 _ (by omega) (by omega), hp3665, he1d]
                      rfl), he1a, he1c, fun f f1 f2 f3 f4 => (he1b f f1 f2 f3 f4).trans (hfd f f1 f2 f3 f4)⟩) (fun z => absurd h5 z) (hob4.tr hp3667) (hob5.tr hp3668) (hob9.tr hp3669) (hob10.tr hp3670) (hob11.tr hp3671) (fun _ => ⟨fun _ => by omega, fun _ => trivial⟩) (by omega)
              · skip
                rw [hv3692]
                have h3709 : S3647.1 530 = .inr (11, [.ref 531, .int (iI (o 1)), .ref 532, .int (iI (o 3)), .int (iI (o 4)), .int (iI f3685), .int (iI g3686), .int (iI at3679), .int (iI en3680), .int (iI tk3681), .int (iI nu3682), .int (iI dg3683), .long nm3684, .ref 533, .ref 534, .ref 535, .ref 536, .ref 537, .ref 538, .ref 539, .ref 540, .ref 541, .ref 542, .ref 543, .ref 544, .ref 545, .ref 546, .ref 547, .int (iI (o 28)), .int (iI (o 29)), .int (iI (o 30)), .int (iI (o 31)), .int (iI (o 32)), .int (iI (o 33)), .ref 548, .ref 549, .ref 550, .ref 551, .int (iI (o 38)), .ref 552, .ref 553, .ref 554, .ref 555, .ref 556, .ref 557, .ref 558, .ref 559, .ref 560, .ref 561, .int (iI (o 49)), .ref 562, .ref 563, .ref 564, .ref 565, .ref 566, .ref 567, .ref 568, .ref 569, .int (iI (o 58)), .ref 570, .ref 571, .ref 572, .ref 573, .ref 574, .ref 575, .ref 576, .ref 577, .ref 578, .int (iI (o 68)), .int (iI (o 69)), .int (iI (o 70)), .ref 579]) := hM3700
                show X_T sc 157 (202, [(3, .int (iI (bI (True)))), (1, .int (iI wi)), (2, .int (iI col)), (0, .ref 530)], [], S3647) _
                refine T_p xr_157_202 xn_157 (pc' := 155) (ls' := [(3, .int (iI (bI (True)))), (1, .int (iI wi)), (2, .int (iI col)), (0, .ref 530)]) (st' := []) rfl ?_
                exact ih2666 S3647 True f3685 g3686 at3679 en3680 tk3681 nu3682 dg3683 nm3684 c1 d1 q1 wM3687 wH3688 eP3689 eH3690 hK3691 h3709 ha3701 ha3702 ha3703 ha3704 ha3705 (hF2669.tr ((X_Fr.rf).tr (X_Fr.mono ⟨hf3706.1, hf3706.2⟩ (fun q hq => (by omega))))) (by omega) (fun z => absurd z (by omega)) (fun _ => by
                      rw [← hR, show (9 - d1 3 0).toNat = (9 - (d1 3 0 + 1)).toNat + 1 by omega, sp_el_e1 _ (by omega) (by omega), hp3694]
                      rfl) (hob4.tr hp3695) (hob5.tr hp3696) (hob9.tr hp3697) (hob10.tr hp3698) (hob11.tr hp3699) (fun z => absurd z (by omega)) (by omega)
            · skip
              have c3644 : ¬ (part) := c3644
              refine T_p xr_157_183 xn_157 (pc' := 184) (ls' := [(3, .int (iI (bI (part)))), (1, .int (iI wi)), (2, .int (iI col)), (0, .ref 530)]) (st' := [.ref 530]) rfl ?_
              refine T_get xr_157_184 hM2716 rfl (v := .int (iI tk1)) rfl (pc' := 187) rfl ?_
              refine T_p xr_157_187 xn_157 (pc' := 188) (ls' := [(3, .int (iI (bI (part)))), (1, .int (iI wi)), (2, .int (iI col)), (0, .ref 530)]) (st' := [.int (iI 5), .int (iI tk1)]) rfl ?_
              refine T_zicmp_ne xr_157_188 (t := 195) (pc' := 191) rfl rfl (fun c3710 => ?_) (fun c3710 => ?_)
              · skip
                have c3710 : ¬ tk1 = 5 := c3710
                refine T_p xr_157_195 xn_157 (pc' := 196) (ls' := [(3, .int (iI (bI (part)))), (1, .int (iI wi)), (2, .int (iI col)), (0, .ref 530)]) (st' := [.int (iI 0)]) rfl ?_
                refine T_ie (y := iI (bI (False))) (by rw [bI_f (fun h => h)]) ?_
                have hpx : d1 4 0 = d1 3 0 := Classical.not_not.mp (fun z => absurd ((hpt rfl).mpr z) (by assumption))
                refine T_p xr_157_196 xn_157 (pc' := 197) (ls' := [(3, .int (iI (bI (False)))), (1, .int (iI wi)), (2, .int (iI col)), (0, .ref 530)]) (st' := []) rfl ?_
                refine T_p xr_157_197 xn_157 (pc' := 198) (ls' := [(3, .int (iI (bI (False)))), (1, .int (iI wi)), (2, .int (iI col)), (0, .ref 530)]) (st' := [.ref 530]) rfl ?_
                refine T_p xr_157_198 xn_157 (pc' := 199) (ls' := [(3, .int (iI (bI (False)))), (1, .int (iI wi)), (2, .int (iI col)), (0, .ref 530)]) (st' := [.int (iI wi), .ref 530]) rfl ?_
                refine T_cv (S := S2670) (q := 530) xr_157_199 xf_158.1 xf_158.2.1 xn_158 (as := [.int (iI wi)]) (r := []) rfl hM2716 (Nat.le_of_ble_eq_true rfl) (Nat.le_of_ble_eq_true rfl) (pc' := 202) rfl (ls' := [(0, .ref 530), (1, .int (iI wi))]) rfl ?_
                have h3711 := (hF2669.1 534 (by omega)).trans (hA534)
                refine T_mono (r_readElement sc S2670 (X_ou (X_ou (X_ou (X_ou (X_ou (X_ou o 6 g1) 7 at1) 8 en1) 9 tk1) 10 nu1) 11 dg1) nm1 tx kN wM1 wH1 eP1 eH1 hK1 tb len n so pl ct E c1 kn kc wi d1 q1 hM2716 h2918 h3711 hA1 hA2 hA3 hA4 hA5 (show (o 3) = len from by first | assumption | omega) hl htx hX hT1 (show (o 5) = 0 from by omega) (show (o 29) = kc from by omega) (by omega) (show 0 ≤ (o 4) ∧ (o 4) ≤ 1 from by omega) hN (by omega) hE1 (by omega) (by omega) (hct _ (by omega) (by omega))) (fun v3712 S3713 h3714 => ?_)
                rcases h3714 with ⟨at3715, en3716, tk3717, nu3718, dg3719, nm3720, c3721, d3722, q3723, wM3724, wH3725, eP3726, eH3727, hK3728, hv3729, hp3730, hp3731, hp3732, hp3733, hp3734, hp3735, hp3736, hp3737, hM3738, ha3739, ha3740, ha3741, ha3742, ha3743, hf3744⟩ | ⟨at3745, en3746, tk3747, nu3748, dg3749, nm3750, f3751, g3752, wM3753, wH3754, eP3755, eH3756, hK3757, hv3758, hp3759, hp3760, hp3761, hp3762, hp3763, hp3764, hp3765, hM3766, ha3767, ha3768, ha3769, ha3770, ha3771, hf3772⟩
                · skip
                  rw [hv3729]
                  have h3773 : S3713.1 530 = .inr (11, [.ref 531, .int (iI (o 1)), .ref 532, .int (iI (o 3)), .int (iI (o 4)), .int (iI (o 5)), .int (iI g1), .int (iI at3715), .int (iI en3716), .int (iI tk3717), .int (iI nu3718), .int (iI dg3719), .long nm3720, .ref 533, .ref 534, .ref 535, .ref 536, .ref 537, .ref 538, .ref 539, .ref 540, .ref 541, .ref 542, .ref 543, .ref 544, .ref 545, .ref 546, .ref 547, .int (iI (o 28)), .int (iI (o 29)), .int (iI (o 30)), .int (iI (o 31)), .int (iI (o 32)), .int (iI (o 33)), .ref 548, .ref 549, .ref 550, .ref 551, .int (iI (o 38)), .ref 552, .ref 553, .ref 554, .ref 555, .ref 556, .ref 557, .ref 558, .ref 559, .ref 560, .ref 561, .int (iI (o 49)), .ref 562, .ref 563, .ref 564, .ref 565, .ref 566, .ref 567, .ref 568, .ref 569, .int (iI (o 58)), .ref 570, .ref 571, .ref 572, .ref 573, .ref 574, .ref 575, .ref 576, .ref 577, .ref 578, .int (iI (o 68)), .int (iI (o 69)), .int (iI (o 70)), .ref 579]) := hM3738
                  obtain ⟨⟨_, _⟩, ⟨_, _⟩, hk3774, ⟨_, _⟩, hk3774e, ⟨_, _⟩, ⟨_, _⟩⟩ := R_tk_f hX hp3730
                  have he1 := sp_e1_ok hcr.1 ⟨by omega, by omega⟩ (hct _ (by omega) (by omega)) hp3731 hok hd14
                  obtain ⟨he1a, he1b, he1c, he1d, he1e, he1f, he1g⟩ := he1
                  show X_T sc 157 (202, [(3, .int (iI (bI (False)))), (1, .int (iI wi)), (2, .int (iI col)), (0, .ref 530)], [], S3713) _
                  refine T_p xr_157_202 xn_157 (pc' := 155) (ls' := [(3, .int (iI (bI (False)))), (1, .int (iI wi)), (2, .int (iI col)), (0, .ref 530)]) (st' := []) rfl ?_
                  exact ih2666 S3713 False (o 5) g1 at3715 en3716 tk3717 nu3718 dg3719 nm3720 c3721 d3722 q3723 wM3724 wH3725 eP3726 eH3727 hK3728 h3773 ha3739 ha3740 ha3741 ha3742 ha3743 (hF2669.tr ((X_Fr.rf).tr (X_Fr.mono ⟨hf3744.1, hf3744.2⟩ (fun q hq => (by omega))))) (by omega) (fun _ => ⟨hp3730, hp3732, (by
                        rw [← hR, show (9 - d1 3 0).toNat = (9 - (d1 3 0 + 1)).toNat + 1 by omega, sp_el_e1 _ (by omega) (by omega), hp3731, he1d]
                        rfl), he1a, he1c, fun f f1 f2 f3 f4 => (he1b f f1 f2 f3 f4).trans (hfd f f1 f2 f3 f4)⟩) (fun z => absurd h5 z) (hob4.tr hp3733) (hob5.tr hp3734) (hob9.tr hp3735) (hob10.tr hp3736) (hob11.tr hp3737) (fun _ => ⟨fun z => z.elim, fun z => absurd (by omega) z⟩) (by omega)
                · skip
                  rw [hv3758]
                  have h3775 : S3713.1 530 = .inr (11, [.ref 531, .int (iI (o 1)), .ref 532, .int (iI (o 3)), .int (iI (o 4)), .int (iI f3751), .int (iI g3752), .int (iI at3745), .int (iI en3746), .int (iI tk3747), .int (iI nu3748), .int (iI dg3749), .long nm3750, .ref 533, .ref 534, .ref 535, .ref 536, .ref 537, .ref 538, .ref 539, .ref 540, .ref 541, .ref 542, .ref 543, .ref 544, .ref 545, .ref 546, .ref 547, .int (iI (o 28)), .int (iI (o 29)), .int (iI (o 30)), .int (iI (o 31)), .int (iI (o 32)), .int (iI (o 33)), .ref 548, .ref 549, .ref 550, .ref 551, .int (iI (o 38)), .ref 552, .ref 553, .ref 554, .ref 555, .ref 556, .ref 557, .ref 558, .ref 559, .ref 560, .ref 561, .int (iI (o 49)), .ref 562, .ref 563, .ref 564, .ref 565, .ref 566, .ref 567, .ref 568, .ref 569, .int (iI (o 58)), .ref 570, .ref 571, .ref 572, .ref 573, .ref 574, .ref 575, .ref 576, .ref 577, .ref 578, .int (iI (o 68)), .int (iI (o 69)), .int (iI (o 70)), .ref 579]) := hM3766
                  show X_T sc 157 (202, [(3, .int (iI (bI (False)))), (1, .int (iI wi)), (2, .int (iI col)), (0, .ref 530)], [], S3713) _
                  refine T_p xr_157_202 xn_157 (pc' := 155) (ls' := [(3, .int (iI (bI (False)))), (1, .int (iI wi)), (2, .int (iI col)), (0, .ref 530)]) (st' := []) rfl ?_
                  exact ih2666 S3713 False f3751 g3752 at3745 en3746 tk3747 nu3748 dg3749 nm3750 c1 d1 q1 wM3753 wH3754 eP3755 eH3756 hK3757 h3775 ha3767 ha3768 ha3769 ha3770 ha3771 (hF2669.tr ((X_Fr.rf).tr (X_Fr.mono ⟨hf3772.1, hf3772.2⟩ (fun q hq => (by omega))))) (by omega) (fun z => absurd z (by omega)) (fun _ => by
                        rw [← hR, show (9 - d1 3 0).toNat = (9 - (d1 3 0 + 1)).toNat + 1 by omega, sp_el_e1 _ (by omega) (by omega), hp3760]
                        rfl) (hob4.tr hp3761) (hob5.tr hp3762) (hob9.tr hp3763) (hob10.tr hp3764) (hob11.tr hp3765) (fun z => absurd z (by omega)) (by omega)
              · skip
                have c3710 : ¬ (¬ tk1 = 5) := c3710
                refine T_p xr_157_191 xn_157 (pc' := 192) (ls' := [(3, .int (iI (bI (part)))), (1, .int (iI wi)), (2, .int (iI col)), (0, .ref 530)]) (st' := [.int (iI 1)]) rfl ?_
                refine T_p xr_157_192 xn_157 (pc' := 196) (ls' := [(3, .int (iI (bI (part)))), (1, .int (iI wi)), (2, .int (iI col)), (0, .ref 530)]) (st' := [.int (iI 1)]) rfl ?_
                refine T_ie (y := iI (bI (True))) (by rw [bI_t trivial]) ?_
                have hpx : d1 4 0 = d1 3 0 := Classical.not_not.mp (fun z => absurd ((hpt rfl).mpr z) (by assumption))
                refine T_p xr_157_196 xn_157 (pc' := 197) (ls' := [(3, .int (iI (bI (True)))), (1, .int (iI wi)), (2, .int (iI col)), (0, .ref 530)]) (st' := []) rfl ?_
                refine T_p xr_157_197 xn_157 (pc' := 198) (ls' := [(3, .int (iI (bI (True)))), (1, .int (iI wi)), (2, .int (iI col)), (0, .ref 530)]) (st' := [.ref 530]) rfl ?_
                refine T_p xr_157_198 xn_157 (pc' := 199) (ls' := [(3, .int (iI (bI (True)))), (1, .int (iI wi)), (2, .int (iI col)), (0, .ref 530)]) (st' := [.int (iI wi), .ref 530]) rfl ?_
                refine T_cv (S := S2670) (q := 530) xr_157_199 xf_158.1 xf_158.2.1 xn_158 (as := [.int (iI wi)]) (r := []) rfl hM2716 (Nat.le_of_ble_eq_true rfl) (Nat.le_of_ble_eq_true rfl) (pc' := 202) rfl (ls' := [(0, .ref 530), (1, .int (iI wi))]) rfl ?_
                have h3776 := (hF2669.1 534 (by omega)).trans (hA534)
                refine T_mono (r_readElement sc S2670 (X_ou (X_ou (X_ou (X_ou (X_ou (X_ou o 6 g1) 7 at1) 8 en1) 9 tk1) 10 nu1) 11 dg1) nm1 tx kN wM1 wH1 eP1 eH1 hK1 tb len n so pl ct E c1 kn kc wi d1 q1 hM2716 h2918 h3776 hA1 hA2 hA3 hA4 hA5 (show (o 3) = len from by first | assumption | omega) hl htx hX hT1 (show (o 5) = 0 from by omega) (show (o 29) = kc from by omega) (by omega) (show 0 ≤ (o 4) ∧ (o 4) ≤ 1 from by omega) hN (by omega) hE1 (by omega) (by omega) (hct _ (by omega) (by omega))) (fun v3777 S3778 h3779 => ?_)
                rcases h3779 with ⟨at3780, en3781, tk3782, nu3783, dg3784, nm3785, c3786, d3787, q3788, wM3789, wH3790, eP3791, eH3792, hK3793, hv3794, hp3795, hp3796, hp3797, hp3798, hp3799, hp3800, hp3801, hp3802, hM3803, ha3804, ha3805, ha3806, ha3807, ha3808, hf3809⟩ | ⟨at3810, en3811, tk3812, nu3813, dg3814, nm3815, f3816, g3817, wM3818, wH3819, eP3820, eH3821, hK3822, hv3823, hp3824, hp3825, hp3826, hp3827, hp3828, hp3829, hp3830, hM3831, ha3832, ha3833, ha3834, ha3835, ha3836, hf3837⟩
                · skip
                  rw [hv3794]
                  have h3838 : S3778.1 530 = .inr (11, [.ref 531, .int (iI (o 1)), .ref 532, .int (iI (o 3)), .int (iI (o 4)), .int (iI (o 5)), .int (iI g1), .int (iI at3780), .int (iI en3781), .int (iI tk3782), .int (iI nu3783), .int (iI dg3784), .long nm3785, .ref 533, .ref 534, .ref 535, .ref 536, .ref 537, .ref 538, .ref 539, .ref 540, .ref 541, .ref 542, .ref 543, .ref 544, .ref 545, .ref 546, .ref 547, .int (iI (o 28)), .int (iI (o 29)), .int (iI (o 30)), .int (iI (o 31)), .int (iI (o 32)), .int (iI (o 33)), .ref 548, .ref 549, .ref 550, .ref 551, .int (iI (o 38)), .ref 552, .ref 553, .ref 554, .ref 555, .ref 556, .ref 557, .ref 558, .ref 559, .ref 560, .ref 561, .int (iI (o 49)), .ref 562, .ref 563, .ref 564, .ref 565, .ref 566, .ref 567, .ref 568, .ref 569, .int (iI (o 58)), .ref 570, .ref 571, .ref 572, .ref 573, .ref 574, .ref 575, .ref 576, .ref 577, .ref 578, .int (iI (o 68)), .int (iI (o 69)), .int (iI (o 70)), .ref 579]) := hM3803
                  obtain ⟨⟨_, _⟩, ⟨_, _⟩, hk3839, ⟨_, _⟩, hk3839e, ⟨_, _⟩, ⟨_, _⟩⟩ := R_tk_f hX hp3795
                  have he1 := sp_e1_ok hcr.1 ⟨by omega, by omega⟩ (hct _ (by omega) (by omega)) hp3796 hok hd14
                  obtain ⟨he1a, he1b, he1c, he1d, he1e, he1f, he1g⟩ := he1
                  show X_T sc 157 (202, [(3, .int (iI (bI (True)))), (1, .int (iI wi)), (2, .int (iI col)), (0, .ref 530)], [], S3778) _
                  refine T_p xr_157_202 xn_157 (pc' := 155) (ls' := [(3, .int (iI (bI (True)))), (1, .int (iI wi)), (2, .int (iI col)), (0, .ref 530)]) (st' := []) rfl ?_
                  exact ih2666 S3778 True (o 5) g1 at3780 en3781 tk3782 nu3783 dg3784 nm3785 c3786 d3787 q3788 wM3789 wH3790 eP3791 eH3792 hK3793 h3838 ha3804 ha3805 ha3806 ha3807 ha3808 (hF2669.tr ((X_Fr.rf).tr (X_Fr.mono ⟨hf3809.1, hf3809.2⟩ (fun q hq => (by omega))))) (by omega) (fun _ => ⟨hp3795, hp3797, (by
                        rw [← hR, show (9 - d1 3 0).toNat = (9 - (d1 3 0 + 1)).toNat + 1 by omega, sp_el_e1 _ (by omega) (by omega), hp3796, he1d]
                        rfl), he1a, he1c, fun f f1 f2 f3 f4 => (he1b f f1 f2 f3 f4).trans (hfd f f1 f2 f3 f4)⟩) (fun z => absurd h5 z) (hob4.tr hp3798) (hob5.tr hp3799) (hob9.tr hp3800) (hob10.tr hp3801) (hob11.tr hp3802) (fun _ => ⟨fun _ => by omega, fun _ => trivial⟩) (by omega)
                · skip
                  rw [hv3823]
                  have h3840 : S3778.1 530 = .inr (11, [.ref 531, .int (iI (o 1)), .ref 532, .int (iI (o 3)), .int (iI (o 4)), .int (iI f3816), .int (iI g3817), .int (iI at3810), .int (iI en3811), .int (iI tk3812), .int (iI nu3813), .int (iI dg3814), .long nm3815, .ref 533, .ref 534, .ref 535, .ref 536, .ref 537, .ref 538, .ref 539, .ref 540, .ref 541, .ref 542, .ref 543, .ref 544, .ref 545, .ref 546, .ref 547, .int (iI (o 28)), .int (iI (o 29)), .int (iI (o 30)), .int (iI (o 31)), .int (iI (o 32)), .int (iI (o 33)), .ref 548, .ref 549, .ref 550, .ref 551, .int (iI (o 38)), .ref 552, .ref 553, .ref 554, .ref 555, .ref 556, .ref 557, .ref 558, .ref 559, .ref 560, .ref 561, .int (iI (o 49)), .ref 562, .ref 563, .ref 564, .ref 565, .ref 566, .ref 567, .ref 568, .ref 569, .int (iI (o 58)), .ref 570, .ref 571, .ref 572, .ref 573, .ref 574, .ref 575, .ref 576, .ref 577, .ref 578, .int (iI (o 68)), .int (iI (o 69)), .int (iI (o 70)), .ref 579]) := hM3831
                  show X_T sc 157 (202, [(3, .int (iI (bI (True)))), (1, .int (iI wi)), (2, .int (iI col)), (0, .ref 530)], [], S3778) _
                  refine T_p xr_157_202 xn_157 (pc' := 155) (ls' := [(3, .int (iI (bI (True)))), (1, .int (iI wi)), (2, .int (iI col)), (0, .ref 530)]) (st' := []) rfl ?_
                  exact ih2666 S3778 True f3816 g3817 at3810 en3811 tk3812 nu3813 dg3814 nm3815 c1 d1 q1 wM3818 wH3819 eP3820 eH3821 hK3822 h3840 ha3832 ha3833 ha3834 ha3835 ha3836 (hF2669.tr ((X_Fr.rf).tr (X_Fr.mono ⟨hf3837.1, hf3837.2⟩ (fun q hq => (by omega))))) (by omega) (fun z => absurd z (by omega)) (fun _ => by
                        rw [← hR, show (9 - d1 3 0).toNat = (9 - (d1 3 0 + 1)).toNat + 1 by omega, sp_el_e1 _ (by omega) (by omega), hp3825]
                        rfl) (hob4.tr hp3826) (hob5.tr hp3827) (hob9.tr hp3828) (hob10.tr hp3829) (hob11.tr hp3830) (fun z => absurd z (by omega)) (by omega)
  refine T_sub (ls := [(3, .int (iI (bI (False)))), (1, .int (iI wi)), (2, .int (iI col)), (0, .ref 530)]) ⟨rfl, rfl, rfl, rfl, trivial⟩ rfl rfl ?_
  exact L2665 ((10 : Int) + 1).toNat S False (o 5) (o 6) (o 7) (o 8) (o 9) (o 10) (o 11) nm c d q wM wH eP eH hK hM hA540 hA541 hA545 hA546 hA547 ((X_Fr.rf)) (by omega) (fun _ => ⟨hT, hW.2.2.2.1, by rw [hd3.1]; rfl, X_eok_0 hd3.1 hd3.2.1, by omega, fun _ _ _ _ _ => rfl⟩) (fun z => absurd h5 z) R_ob.rf R_ob.rf R_ob.rf R_ob.rf R_ob.rf (fun _ => ⟨fun z => z.elim, fun z => absurd (by omega) z⟩) (by omega)
