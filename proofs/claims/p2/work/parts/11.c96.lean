theorem xr_75_0 : X_row 75 0 = some (0, (.aload_n 0, 1), (0, 0, 0)) := by decide +kernel
theorem xr_75_1 : X_row 75 1 = some (1, (.getfield 27, 3), (4, 1, 20)) := by decide +kernel
theorem xr_75_4 : X_row 75 4 = some (4, (.getfield 131, 3), (0, 2, 15)) := by decide +kernel
theorem xr_75_7 : X_row 75 7 = some (7, (.bipush 30, 2), (0, 0, 0)) := by decide +kernel
theorem xr_75_9 : X_row 75 9 = some (9, (.if_icmp .ne 8, 3), (0, 0, 0)) := by decide +kernel
theorem xr_75_12 : X_row 75 12 = some (12, (.aload_n 0, 1), (0, 0, 0)) := by decide +kernel
theorem xr_75_13 : X_row 75 13 = some (13, (.invokevirtual 67, 3), (67, 12, 0)) := by decide +kernel
theorem xr_75_16 : X_row 75 16 = some (16, (.return_, 1), (0, 0, 0)) := by decide +kernel
theorem xr_75_17 : X_row 75 17 = some (17, (.aload_n 0, 1), (0, 0, 0)) := by decide +kernel
theorem xr_75_18 : X_row 75 18 = some (18, (.getfield 23, 3), (4, 0, 18)) := by decide +kernel
theorem xr_75_21 : X_row 75 21 = some (21, (.invokevirtual 80, 3), (52, 18, 0)) := by decide +kernel
theorem xr_75_24 : X_row 75 24 = some (24, (.aload_n 0, 1), (0, 0, 0)) := by decide +kernel
theorem xr_75_25 : X_row 75 25 = some (25, (.invokevirtual 102, 3), (72, 30, 0)) := by decide +kernel
theorem xr_75_28 : X_row 75 28 = some (28, (.istore_n 1, 1), (0, 0, 0)) := by decide +kernel
theorem xr_75_29 : X_row 75 29 = some (29, (.iload_n 1, 1), (0, 0, 0)) := by decide +kernel
theorem xr_75_30 : X_row 75 30 = some (30, (.iconst (-1), 1), (0, 0, 0)) := by decide +kernel
theorem xr_75_31 : X_row 75 31 = some (31, (.if_icmp .ne 4, 3), (0, 0, 0)) := by decide +kernel
theorem xr_75_34 : X_row 75 34 = some (34, (.return_, 1), (0, 0, 0)) := by decide +kernel
theorem xr_75_35 : X_row 75 35 = some (35, (.aload_n 0, 1), (0, 0, 0)) := by decide +kernel
theorem xr_75_36 : X_row 75 36 = some (36, (.getfield 27, 3), (4, 1, 20)) := by decide +kernel
theorem xr_75_39 : X_row 75 39 = some (39, (.getfield 134, 3), (0, 7, 17)) := by decide +kernel
theorem xr_75_42 : X_row 75 42 = some (42, (.aload_n 0, 1), (0, 0, 0)) := by decide +kernel
theorem xr_75_43 : X_row 75 43 = some (43, (.getfield 27, 3), (4, 1, 20)) := by decide +kernel
theorem xr_75_46 : X_row 75 46 = some (46, (.getfield 131, 3), (0, 2, 15)) := by decide +kernel
theorem xr_75_49 : X_row 75 49 = some (49, (.aaload, 1), (0, 0, 0)) := by decide +kernel
theorem xr_75_50 : X_row 75 50 = some (50, (.astore_n 2, 1), (0, 0, 0)) := by decide +kernel
theorem xr_75_51 : X_row 75 51 = some (51, (.aload_n 2, 1), (0, 0, 0)) := by decide +kernel
theorem xr_75_52 : X_row 75 52 = some (52, (.iload_n 1, 1), (0, 0, 0)) := by decide +kernel
theorem xr_75_53 : X_row 75 53 = some (53, (.invokevirtual 138, 3), (95, 48, 0)) := by decide +kernel
theorem xr_75_56 : X_row 75 56 = some (56, (.aload_n 0, 1), (0, 0, 0)) := by decide +kernel
theorem xr_75_57 : X_row 75 57 = some (57, (.aload_n 2, 1), (0, 0, 0)) := by decide +kernel
theorem xr_75_58 : X_row 75 58 = some (58, (.invokevirtual 143, 3), (76, 50, 0)) := by decide +kernel
theorem xr_75_61 : X_row 75 61 = some (61, (.aload_n 2, 1), (0, 0, 0)) := by decide +kernel
theorem xr_75_62 : X_row 75 62 = some (62, (.aload_n 0, 1), (0, 0, 0)) := by decide +kernel
theorem xr_75_63 : X_row 75 63 = some (63, (.getfield 23, 3), (4, 0, 18)) := by decide +kernel
theorem xr_75_66 : X_row 75 66 = some (66, (.invokevirtual 39, 3), (48, 6, 0)) := by decide +kernel
theorem xr_75_69 : X_row 75 69 = some (69, (.iconst 2, 1), (0, 0, 0)) := by decide +kernel
theorem xr_75_70 : X_row 75 70 = some (70, (.if_icmp .ne 10, 3), (0, 0, 0)) := by decide +kernel
theorem xr_75_73 : X_row 75 73 = some (73, (.aload_n 0, 1), (0, 0, 0)) := by decide +kernel
theorem xr_75_74 : X_row 75 74 = some (74, (.invokevirtual 120, 3), (73, 42, 0)) := by decide +kernel
theorem xr_75_77 : X_row 75 77 = some (77, (.goto 4, 3), (0, 0, 0)) := by decide +kernel
theorem xr_75_80 : X_row 75 80 = some (80, (.iconst 0, 1), (0, 0, 0)) := by decide +kernel
theorem xr_75_81 : X_row 75 81 = some (81, (.putfield 147, 3), (8, 2, 3)) := by decide +kernel
theorem xr_75_84 : X_row 75 84 = some (84, (.aload_n 0, 1), (0, 0, 0)) := by decide +kernel
theorem xr_75_85 : X_row 75 85 = some (85, (.getfield 23, 3), (4, 0, 18)) := by decide +kernel
theorem xr_75_88 : X_row 75 88 = some (88, (.invokevirtual 73, 3), (49, 14, 0)) := by decide +kernel
theorem xr_75_91 : X_row 75 91 = some (91, (.istore_n 3, 1), (0, 0, 0)) := by decide +kernel
theorem xr_75_92 : X_row 75 92 = some (92, (.aload_n 2, 1), (0, 0, 0)) := by decide +kernel
theorem xr_75_93 : X_row 75 93 = some (93, (.getfield 147, 3), (8, 2, 3)) := by decide +kernel
theorem xr_75_96 : X_row 75 96 = some (96, (.iconst (-1), 1), (0, 0, 0)) := by decide +kernel
theorem xr_75_97 : X_row 75 97 = some (97, (.if_icmp .eq 20, 3), (0, 0, 0)) := by decide +kernel
theorem xr_75_100 : X_row 75 100 = some (100, (.aload_n 0, 1), (0, 0, 0)) := by decide +kernel
theorem xr_75_101 : X_row 75 101 = some (101, (.bipush 58, 2), (0, 0, 0)) := by decide +kernel
theorem xr_75_103 : X_row 75 103 = some (103, (.invokevirtual 98, 3), (68, 26, 0)) := by decide +kernel
theorem xr_75_106 : X_row 75 106 = some (106, (.ifCond .eq 11, 3), (0, 0, 0)) := by decide +kernel
theorem xr_75_109 : X_row 75 109 = some (109, (.aload_n 0, 1), (0, 0, 0)) := by decide +kernel
theorem xr_75_110 : X_row 75 110 = some (110, (.aload_n 2, 1), (0, 0, 0)) := by decide +kernel
theorem xr_75_111 : X_row 75 111 = some (111, (.invokevirtual 150, 3), (77, 52, 0)) := by decide +kernel
theorem xr_75_114 : X_row 75 114 = some (114, (.ifCond .ne 4, 3), (0, 0, 0)) := by decide +kernel
theorem xr_75_117 : X_row 75 117 = some (117, (.return_, 1), (0, 0, 0)) := by decide +kernel
theorem xr_75_118 : X_row 75 118 = some (118, (.aload_n 2, 1), (0, 0, 0)) := by decide +kernel
theorem xr_75_119 : X_row 75 119 = some (119, (.getfield 154, 3), (8, 1, 1)) := by decide +kernel
theorem xr_75_122 : X_row 75 122 = some (122, (.ifCond .eq 19, 3), (0, 0, 0)) := by decide +kernel
theorem xr_75_125 : X_row 75 125 = some (125, (.aload_n 2, 1), (0, 0, 0)) := by decide +kernel
theorem xr_75_126 : X_row 75 126 = some (126, (.invokevirtual 157, 3), (102, 60, 0)) := by decide +kernel
theorem xr_75_129 : X_row 75 129 = some (129, (.ifCond .eq 12, 3), (0, 0, 0)) := by decide +kernel
theorem xr_75_132 : X_row 75 132 = some (132, (.aload_n 0, 1), (0, 0, 0)) := by decide +kernel
theorem xr_75_133 : X_row 75 133 = some (133, (.iconst 2, 1), (0, 0, 0)) := by decide +kernel
theorem xr_75_134 : X_row 75 134 = some (134, (.iload_n 3, 1), (0, 0, 0)) := by decide +kernel
theorem xr_75_135 : X_row 75 135 = some (135, (.invokevirtual 76, 3), (66, 16, 0)) := by decide +kernel
theorem xr_75_138 : X_row 75 138 = some (138, (.goto 66, 3), (0, 0, 0)) := by decide +kernel
theorem xr_75_141 : X_row 75 141 = some (141, (.aload_n 2, 1), (0, 0, 0)) := by decide +kernel
theorem xr_75_142 : X_row 75 142 = some (142, (.getfield 161, 3), (8, 4, 7)) := by decide +kernel
theorem xr_75_145 : X_row 75 145 = some (145, (.aload_n 2, 1), (0, 0, 0)) := by decide +kernel
theorem xr_75_146 : X_row 75 146 = some (146, (.getfield 164, 3), (8, 3, 5)) := by decide +kernel
theorem xr_75_149 : X_row 75 149 = some (149, (.if_icmp .ne 10, 3), (0, 0, 0)) := by decide +kernel
theorem xr_75_152 : X_row 75 152 = some (152, (.aload_n 0, 1), (0, 0, 0)) := by decide +kernel
theorem xr_75_153 : X_row 75 153 = some (153, (.invokevirtual 67, 3), (67, 12, 0)) := by decide +kernel
theorem xr_75_156 : X_row 75 156 = some (156, (.goto 48, 3), (0, 0, 0)) := by decide +kernel
theorem xr_75_159 : X_row 75 159 = some (159, (.aload_n 0, 1), (0, 0, 0)) := by decide +kernel
theorem xr_75_160 : X_row 75 160 = some (160, (.getfield 23, 3), (4, 0, 18)) := by decide +kernel
theorem xr_75_163 : X_row 75 163 = some (163, (.invokevirtual 39, 3), (48, 6, 0)) := by decide +kernel
theorem xr_75_166 : X_row 75 166 = some (166, (.bipush 61, 2), (0, 0, 0)) := by decide +kernel
theorem xr_75_168 : X_row 75 168 = some (168, (.if_icmp .ne 14, 3), (0, 0, 0)) := by decide +kernel
theorem xr_75_171 : X_row 75 171 = some (171, (.aload_n 0, 1), (0, 0, 0)) := by decide +kernel
theorem xr_75_172 : X_row 75 172 = some (172, (.aload_n 2, 1), (0, 0, 0)) := by decide +kernel
theorem xr_75_173 : X_row 75 173 = some (173, (.invokevirtual 167, 3), (78, 62, 0)) := by decide +kernel
theorem xr_75_176 : X_row 75 176 = some (176, (.ifCond .eq 28, 3), (0, 0, 0)) := by decide +kernel
theorem xr_75_179 : X_row 75 179 = some (179, (.goto 12, 3), (0, 0, 0)) := by decide +kernel
theorem xr_75_182 : X_row 75 182 = some (182, (.aload_n 0, 1), (0, 0, 0)) := by decide +kernel
theorem xr_75_183 : X_row 75 183 = some (183, (.bipush 59, 2), (0, 0, 0)) := by decide +kernel
theorem xr_75_185 : X_row 75 185 = some (185, (.invokevirtual 98, 3), (68, 26, 0)) := by decide +kernel
theorem xr_75_188 : X_row 75 188 = some (188, (.ifCond .eq 16, 3), (0, 0, 0)) := by decide +kernel
theorem xr_75_191 : X_row 75 191 = some (191, (.aload_n 0, 1), (0, 0, 0)) := by decide +kernel
theorem xr_75_192 : X_row 75 192 = some (192, (.getfield 27, 3), (4, 1, 20)) := by decide +kernel
theorem xr_75_195 : X_row 75 195 = some (195, (.dup, 1), (0, 0, 0)) := by decide +kernel
theorem xr_75_196 : X_row 75 196 = some (196, (.getfield 131, 3), (0, 2, 15)) := by decide +kernel
theorem xr_75_199 : X_row 75 199 = some (199, (.iconst 1, 1), (0, 0, 0)) := by decide +kernel
theorem xr_75_200 : X_row 75 200 = some (200, (.iadd, 1), (0, 0, 0)) := by decide +kernel
theorem xr_75_201 : X_row 75 201 = some (201, (.putfield 131, 3), (0, 2, 15)) := by decide +kernel
theorem xr_75_204 : X_row 75 204 = some (204, (.return_, 1), (0, 0, 0)) := by decide +kernel
theorem xn_75 : X_nL 75 = 4 := by decide +kernel
theorem xf_75 : X_na 75 = 0 ∧ X_ci 75 = 4 ∧ X_rt 75 = none := by decide +kernel
def X_clr (d : Nat → Int → Int) (rk : Int) : Nat → Int → Int := X_wu (X_wu (X_wu (X_wu (X_wu (X_wu (X_wu (X_wu d 0 (fun _ => rk)) 1 (fun _ => 0)) 2 (fun _ => 0)) 3 (fun _ => 0)) 4 (fun _ => 0)) 5 (fun _ => -1)) 6 (fun _ => 0)) 7 (fun _ => 0)
theorem X_wr_clr {d : Nat → Int → Int} {rk : Int} (h : 0 ≤ rk ∧ rk ≤ 11) : X_wr (X_clr d rk) := ⟨h, (show (0 : Int) ≤ 0 ∧ (0 : Int) ≤ 2 by omega), (show (-1 : Int) ≤ 0 ∧ (0 : Int) ≤ 10 by omega), (show (0 : Int) ≤ 0 ∧ (0 : Int) ≤ 8 by omega), (show (0 : Int) ≤ 0 ∧ (0 : Int) ≤ 4 by omega), (show (-1 : Int) ≤ -1 ∧ (-1 : Int) ≤ 30 by omega), (show (0 : Int) ≤ 0 ∧ (0 : Int) ≤ 1 by omega), (show (-2147483648 : Int) ≤ 0 ∧ (0 : Int) ≤ 2147483647 by omega)⟩
theorem X_ug_ug {α : Type} (g : Int → α) (z : Int) (x y : α) : X_ug (X_ug g z x) z y = X_ug g z y := by
  funext k
  unfold X_ug
  split <;> rfl
theorem C_ws.upd2 {S S' : X_S} {B a : Nat} {D : Int → Nat → Int → Int} {W : Int → Int → Int64} {w : Int} {d' : Nat → Int → Int} {q' : Int → Int64} {P : Nat → Prop} (h : C_ws S B D W) (hf : X_Fr P S S') (ha : a = B + 6 + 8 * w.toNat) (hP : ∀ r, P r → B + 6 ≤ r → r < B + 246 → a ≤ r ∧ r ≤ a + 7) (h0 : 0 ≤ w) (hd : C_wd S' a d' q') (hr : X_wr d') : C_ws S' B (X_ug D w d') (X_ug W w q') := by
  intro v h1 h2
  by_cases hv : v = w
  · subst hv
    rw [X_ug_s, X_ug_s, ← ha]
    exact ⟨hd, hr⟩
  · rw [X_ug_n _ _ hv, X_ug_n _ _ hv]
    exact ⟨(h v h1 h2).1.fr hf (fun k hk z => by have := hP _ z (by omega) (by omega); omega), (h v h1 h2).2⟩
noncomputable def sp_we (n : Int) (so : Int → Int) (ct : Int → Int64) (c : Int) (d : Nat → Int → Int) (q : Int → Int64) : Option (Int × (Nat → Int → Int) × (Int → Int64)) :=
  if ¬ d 1 0 = 0 then (if X_en d q = 0 then none else if d 4 0 = d 3 0 then none else if so c = 61 then (sp_steps n so ct c d).bind fun r => some (r.1, r.2, q) else if so c = 59 then some (X_av n c, d, q) else none)
  else if d 4 0 = d 3 0 then none else if so c = 61 then (sp_steps n so ct c d).bind fun r => some (r.1, r.2, q) else if so c = 59 then some (X_av n c, d, q) else none
noncomputable def sp_wb (n : Int) (so : Int → Int) (ct : Int → Int64) (kn : Int → Int64) (kc : Int) (c : Int) (d : Nat → Int → Int) (q : Int → Int64) : Option (Int × (Nat → Int → Int) × (Int → Int64)) :=
  if so c = 58 then (sp_el n so ct kn kc 9 (X_av n c) d q).bind fun r => sp_we n so ct r.1 r.2.1 r.2.2 else none
noncomputable def sp_wk (n : Int) (so : Int → Int) (ct : Int → Int64) (kn : Int → Int64) (kc : Int) (c : Int) (d : Nat → Int → Int) (q : Int → Int64) : Option (Int × (Nat → Int → Int) × (Int → Int64)) :=
  if so c = 2 then (if X_ix kn kc (ct c) = -1 then none else sp_wb n so ct kn kc (X_av n c) (X_wu d 2 (fun _ => X_ix kn kc (ct c))) q) else sp_wb n so ct kn kc c (X_wu d 2 (fun _ => 0)) q
noncomputable def sp_word (n : Int) (so : Int → Int) (ct : Int → Int64) : X_Kp → Option X_Kp
  | (c, rc, kc, wc, rn, lo, kn, ab, D, W) =>
    if wc = 30 then none else if so (X_av n c) = 2 then (if X_ix rn rc (ct (X_av n c)) = -1 then none else
      (sp_wk n so ct kn kc (X_lnC n so ct (X_av n (X_av n c))) (X_wu (X_clr (D wc) (X_ix rn rc (ct (X_av n c)))) 1 (fun _ => X_lnV so ct (X_av n (X_av n c)) 0)) (W wc)).bind fun r =>
        some (r.1, rc, kc, wc + 1, rn, lo, kn, ab, X_ug D wc r.2.1, X_ug W wc r.2.2)) else none
theorem c_pwT (sc : X_Sc) (S : X_S) (B : Nat) (fp at_ n : Int) (so pl : Int → Int) (ct : Int → Int64) (cur rc kc wc : Int) (rn : Int → Int64) (lo : Int → Int) (kn : Int → Int64) (ab : Int → Int) (D : Int → Nat → Int → Int) (W : Int → Int → Int64) (a : Nat) (rk kd : Int) (hB : 4 ≤ B ∧ B + 246 ≤ 496) (hn : n ≤ 2001) (hso : ∀ i, 0 ≤ i → i < n → 0 ≤ so i ∧ so i ≤ 255) (hK : C_K S B 0 fp at_ n so pl ct (cur, rc, kc, wc, rn, lo, kn, ab, D, W)) (hkd : 0 ≤ kd ∧ kd < kc) (hwl : wc < 30) (haa : a = B + 6 + 8 * wc.toNat) : X_T sc 75 (81, [(2, .ref a), (1, .int (iI rk)), (0, .ref 496)], [.int (iI kd), .ref a], S) (fun v S' => (∃ r, sp_wb n so ct kn kc cur (X_wu (D wc) 2 (fun _ => kd)) (W wc) = some r ∧ ∃ fp', C_K S' B 0 fp' at_ n so pl ct (r.1, rc, kc, wc + 1, rn, lo, kn, ab, X_ug D wc r.2.1, X_ug W wc r.2.2) ∧ X_Fr (fun q => q = 496 ∨ q = 497 ∨ (B ≤ q ∧ q < B + 246)) S S') ∨ (sp_wb n so ct kn kc cur (X_wu (D wc) 2 (fun _ => kd)) (W wc) = none ∧ ∃ fl' fp' K, (¬ fl' = 0 ∧ 0 ≤ fl' ∧ fl' ≤ 5) ∧ C_K S' B fl' fp' at_ n so pl ct K ∧ X_Fr (fun q => q = 496 ∨ q = 497 ∨ (B ≤ q ∧ q < B + 246)) S S')) := by
  obtain ⟨hp, hx, hb, hs, hcu⟩ := id hK
  simp only at hx hb hs hcu
  obtain ⟨hb0, hb1, hb2, hb3, hb4, ⟨f, hb5, hf⟩, ⟨hrc, hrcb⟩, ⟨hkc, hkcb⟩, ⟨hwc, hwcb⟩⟩ := id hb
  have hwa := hs wc (by omega) (by omega)
  rw [← haa] at hwa
  obtain ⟨⟨_, _⟩, ⟨_, _⟩, ⟨_, _⟩, ⟨_, _⟩, ⟨_, _⟩, ⟨_, _⟩, ⟨_, _⟩, ⟨_, _⟩⟩ := id hwa.2
  refine X_QI (fun Q hQ => ?_)
  refine T_put xr_75_81 hwa.1.1 rfl (Nat.le_of_ble_eq_true rfl) rfl (fs' := [.int (iI ((D wc) 0 0)), .int (iI ((D wc) 1 0)), .int (iI kd), .int (iI ((D wc) 3 0)), .int (iI ((D wc) 4 0)), .int (iI ((D wc) 5 0)), .int (iI ((D wc) 6 0)), .int (iI ((D wc) 7 0)), .ref (a + 1), .ref (a + 2), .ref (a + 3), .ref (a + 4), .ref (a + 5), .ref (a + 6), .ref (a + 7)]) rfl (pc' := 84) rfl (fun S2523 h2524 n2525 e2526 => ?_)
  have hr2527 : X_wr (X_wu (D wc) 2 (fun _ => kd)) := X_wr_2 hwa.2 (by omega)
  have h2529 := (n2525 (a + 1) (by omega)).trans (hwa.1.2.1)
  have h2530 := (n2525 (a + 2) (by omega)).trans (hwa.1.2.2.1)
  have h2531 := (n2525 (a + 3) (by omega)).trans (hwa.1.2.2.2.1)
  have h2532 := (n2525 (a + 4) (by omega)).trans (hwa.1.2.2.2.2.1)
  have h2533 := (n2525 (a + 5) (by omega)).trans (hwa.1.2.2.2.2.2.1)
  have h2534 := (n2525 (a + 6) (by omega)).trans (hwa.1.2.2.2.2.2.2.1)
  have h2535 := (n2525 (a + 7) (by omega)).trans (hwa.1.2.2.2.2.2.2.2)
  have hw2528 : C_wd S2523 a (X_wu (D wc) 2 (fun _ => kd)) (W wc) := ⟨h2524, h2529, h2530, h2531, h2532, h2533, h2534, h2535⟩
  have h2536 : S2523.1 a = .inr (8, [.int (iI ((X_wu (D wc) 2 (fun _ => kd)) 0 0)), .int (iI ((X_wu (D wc) 2 (fun _ => kd)) 1 0)), .int (iI kd), .int (iI ((X_wu (D wc) 2 (fun _ => kd)) 3 0)), .int (iI ((X_wu (D wc) 2 (fun _ => kd)) 4 0)), .int (iI ((X_wu (D wc) 2 (fun _ => kd)) 5 0)), .int (iI ((X_wu (D wc) 2 (fun _ => kd)) 6 0)), .int (iI ((X_wu (D wc) 2 (fun _ => kd)) 7 0)), .ref (a + 1), .ref (a + 2), .ref (a + 3), .ref (a + 4), .ref (a + 5), .ref (a + 6), .ref (a + 7)]) := hw2528.1
  refine T_p xr_75_84 xn_75 (pc' := 85) (ls' := [(2, .ref a), (1, .int (iI rk)), (0, .ref 496)]) (st' := [.ref 496]) rfl ?_
  have h2537 := (n2525 496 (by omega)).trans (hp)
  refine T_get xr_75_85 h2537 rfl (v := .ref 497) rfl (pc' := 88) rfl ?_
  have h2538 := (n2525 497 (by omega)).trans (hx.1)
  refine T_cv (S := S2523) (q := 497) xr_75_88 xf_49.1 xf_49.2.1 xn_49 (as := []) (r := []) rfl h2538 (Nat.le_of_ble_eq_true rfl) (Nat.le_of_ble_eq_true rfl) (pc' := 91) rfl (ls' := [(0, .ref 497)]) rfl ?_
  have h2539 := (n2525 498 (by omega)).trans (hx.2.1)
  have h2540 := (n2525 499 (by omega)).trans (hx.2.2.1)
  have h2541 := (n2525 500 (by omega)).trans (hx.2.2.2)
  refine T_mono (c_place sc S2523 at_ n cur so pl ct ⟨h2538, h2539, h2540, h2541⟩ (by omega)) (fun v2543 S2544 h2542 => ?_)
  obtain ⟨h2545, h2546⟩ := h2542
  rw [h2545, h2546]
  show X_T sc 75 (91, [(2, .ref a), (1, .int (iI rk)), (0, .ref 496)], [.int (iI (pl cur))], S2523) _
  refine T_p xr_75_91 xn_75 (pc' := 92) (ls' := [(3, .int (iI (pl cur))), (2, .ref a), (1, .int (iI rk)), (0, .ref 496)]) (st' := []) rfl ?_
  refine T_p xr_75_92 xn_75 (pc' := 93) (ls' := [(3, .int (iI (pl cur))), (2, .ref a), (1, .int (iI rk)), (0, .ref 496)]) (st' := [.ref a]) rfl ?_
  refine T_get xr_75_93 h2536 rfl (v := .int (iI kd)) rfl (pc' := 96) rfl ?_
  refine T_p xr_75_96 xn_75 (pc' := 97) (ls' := [(3, .int (iI (pl cur))), (2, .ref a), (1, .int (iI rk)), (0, .ref 496)]) (st' := [.int (iI (-1)), .int (iI kd)]) rfl ?_
  refine T_zicmp_eq xr_75_97 (t := 117) (pc' := 100) rfl rfl (fun c2547 => ?_) (fun c2547 => ?_)
  · skip
    have c2547 : kd = (-1) := c2547
    exact (show False by omega).elim
  · skip
    have c2547 : ¬ (kd = (-1)) := c2547
    refine T_p xr_75_100 xn_75 (pc' := 101) (ls' := [(3, .int (iI (pl cur))), (2, .ref a), (1, .int (iI rk)), (0, .ref 496)]) (st' := [.ref 496]) rfl ?_
    refine T_p xr_75_101 xn_75 (pc' := 103) (ls' := [(3, .int (iI (pl cur))), (2, .ref a), (1, .int (iI rk)), (0, .ref 496)]) (st' := [.int (iI 58), .ref 496]) rfl ?_
    refine T_cv (S := S2523) (q := 496) xr_75_103 xf_68.1 xf_68.2.1 xn_68 (as := [.int (iI 58)]) (r := []) rfl h2537 (Nat.le_of_ble_eq_true rfl) (Nat.le_of_ble_eq_true rfl) (pc' := 106) rfl (ls' := [(0, .ref 496), (1, .int (iI 58))]) rfl ?_
    refine T_mono (c_pass sc S2523 B 0 fp at_ n cur so pl ct 58 h2537 ⟨h2538, h2539, h2540, h2541⟩ (by omega) hso (by omega)) (fun v2551 S2552 h2553 => ?_)
    rcases h2553 with ⟨hv2548, hc2549, hp2554, hl2555, hf2556⟩ | ⟨hv2548, hc2549, ⟨fl2557, fp2558, hn2559, hp2554⟩, hl2555, hf2556⟩
    · skip
      rw [hv2548]
      have hv2550 := X_av_r (n := n) (c := cur) (by omega)
      show X_T sc 75 (106, [(3, .int (iI (pl cur))), (2, .ref a), (1, .int (iI rk)), (0, .ref 496)], [.int (iI 1)], S2552) _
      refine T_zif_eqf xr_75_106 (t := 117) (pc' := 109) rfl rfl (by decide) ?_
      refine T_p xr_75_109 xn_75 (pc' := 110) (ls' := [(3, .int (iI (pl cur))), (2, .ref a), (1, .int (iI rk)), (0, .ref 496)]) (st' := [.ref 496]) rfl ?_
      refine T_p xr_75_110 xn_75 (pc' := 111) (ls' := [(3, .int (iI (pl cur))), (2, .ref a), (1, .int (iI rk)), (0, .ref 496)]) (st' := [.ref a, .ref 496]) rfl ?_
      refine T_cv (S := S2552) (q := 496) xr_75_111 xf_77.1 xf_77.2.1 xn_77 (as := [.ref a]) (r := []) rfl hp2554 (Nat.le_of_ble_eq_true rfl) (Nat.le_of_ble_eq_true rfl) (pc' := 114) rfl (ls' := [(0, .ref 496), (1, .ref a)]) rfl ?_
      have h2577 := (hf2556.1 498 (by omega)).trans (h2539)
      have h2578 := (hf2556.1 499 (by omega)).trans (h2540)
      have h2579 := (hf2556.1 500 (by omega)).trans (h2541)
      have h2580 := (hf2556.1 B (by omega)).trans ((n2525 B (by omega)).trans (hb0))
      have h2581 := (hf2556.1 (B + 1) (by omega)).trans ((n2525 (B + 1) (by omega)).trans (hb1))
      have h2582 := (hf2556.1 (B + 2) (by omega)).trans ((n2525 (B + 2) (by omega)).trans (hb2))
      have h2583 := (hf2556.1 (B + 3) (by omega)).trans ((n2525 (B + 3) (by omega)).trans (hb3))
      have h2584 := (hf2556.1 (B + 4) (by omega)).trans ((n2525 (B + 4) (by omega)).trans (hb4))
      have h2585 := (hf2556.1 (B + 5) (by omega)).trans ((n2525 (B + 5) (by omega)).trans (hb5))
      have hb2586 : C_bk S2552 B rc kc wc rn lo kn ab := ⟨h2580, h2581, h2582, h2583, h2584, ⟨f, h2585, hf⟩, ⟨by omega, by omega⟩, ⟨by omega, by omega⟩, ⟨by omega, by omega⟩⟩
      have h2587 := (hf2556.1 a (by omega)).trans (h2536)
      have h2588 := (hf2556.1 (a + 1) (by omega)).trans (hw2528.2.1)
      have h2589 := (hf2556.1 (a + 2) (by omega)).trans (hw2528.2.2.1)
      have h2590 := (hf2556.1 (a + 3) (by omega)).trans (hw2528.2.2.2.1)
      have h2591 := (hf2556.1 (a + 4) (by omega)).trans (hw2528.2.2.2.2.1)
      have h2592 := (hf2556.1 (a + 5) (by omega)).trans (hw2528.2.2.2.2.2.1)
      have h2593 := (hf2556.1 (a + 6) (by omega)).trans (hw2528.2.2.2.2.2.2.1)
      have h2594 := (hf2556.1 (a + 7) (by omega)).trans (hw2528.2.2.2.2.2.2.2)
      refine T_mono (c_parseElements sc S2552 B 0 fp at_ n (X_av n cur) so pl ct rc kc wc rn lo kn ab a (X_wu (D wc) 2 (fun _ => kd)) (W wc) hB (by omega) hp2554 ⟨hl2555, h2577, h2578, h2579⟩ (by omega) hso hb2586 ⟨h2587, h2588, h2589, h2590, h2591, h2592, h2593, h2594⟩ hr2527) (fun v2560 S2561 h2562 => ?_)
      rcases h2562 with ⟨hv2563, c2571, d2572, q2573, hsp2569, hp2564, hl2565, hc2570, hw2566, hr2568, hf2567⟩ | ⟨hv2563, hsp2569, ⟨fl2574, fp2575, hn2576, hp2564⟩, ⟨c2571, d2572, q2573, hl2565, hc2570, hw2566, hr2568⟩, hf2567⟩
      · skip
        rw [hv2563]
        have hs_c2571 := hso c2571 (by omega) (by omega)
        obtain ⟨⟨_, _⟩, ⟨_, _⟩, ⟨_, _⟩, ⟨_, _⟩, ⟨_, _⟩, ⟨_, _⟩, ⟨_, _⟩, ⟨_, _⟩⟩ := id hr2568
        show X_T sc 75 (114, [(3, .int (iI (pl cur))), (2, .ref a), (1, .int (iI rk)), (0, .ref 496)], [.int (iI 1)], S2561) _
        refine T_zif_net xr_75_114 (t := 118) rfl (by decide) ?_
        refine T_p xr_75_118 xn_75 (pc' := 119) (ls' := [(3, .int (iI (pl cur))), (2, .ref a), (1, .int (iI rk)), (0, .ref 496)]) (st' := [.ref a]) rfl ?_
        refine T_get xr_75_119 hw2566.1 rfl (v := .int (iI (d2572 1 0))) rfl (pc' := 122) rfl ?_
        refine T_zif_eq xr_75_122 (t := 141) (pc' := 125) rfl rfl (fun c2595 => ?_) (fun c2595 => ?_)
        · skip
          have c2595 : (d2572 1 0) = 0 := c2595
          refine T_p xr_75_141 xn_75 (pc' := 142) (ls' := [(3, .int (iI (pl cur))), (2, .ref a), (1, .int (iI rk)), (0, .ref 496)]) (st' := [.ref a]) rfl ?_
          refine T_get xr_75_142 hw2566.1 rfl (v := .int (iI (d2572 4 0))) rfl (pc' := 145) rfl ?_
          refine T_p xr_75_145 xn_75 (pc' := 146) (ls' := [(3, .int (iI (pl cur))), (2, .ref a), (1, .int (iI rk)), (0, .ref 496)]) (st' := [.ref a, .int (iI (d2572 4 0))]) rfl ?_
          refine T_get xr_75_146 hw2566.1 rfl (v := .int (iI (d2572 3 0))) rfl (pc' := 149) rfl ?_
          refine T_zicmp_ne xr_75_149 (t := 159) (pc' := 152) rfl rfl (fun c2596 => ?_) (fun c2596 => ?_)
          · skip
            have c2596 : ¬ (d2572 4 0) = (d2572 3 0) := c2596
            refine T_p xr_75_159 xn_75 (pc' := 160) (ls' := [(3, .int (iI (pl cur))), (2, .ref a), (1, .int (iI rk)), (0, .ref 496)]) (st' := [.ref 496]) rfl ?_
            refine T_get xr_75_160 hp2564 rfl (v := .ref 497) rfl (pc' := 163) rfl ?_
            refine T_cv (S := S2561) (q := 497) xr_75_163 xf_48.1 xf_48.2.1 xn_48 (as := []) (r := []) rfl hl2565 (Nat.le_of_ble_eq_true rfl) (Nat.le_of_ble_eq_true rfl) (pc' := 166) rfl (ls' := [(0, .ref 497)]) rfl ?_
            have h2597 := (hf2567.1 498 (by omega)).trans (h2577)
            have h2598 := (hf2567.1 499 (by omega)).trans (h2578)
            have h2599 := (hf2567.1 500 (by omega)).trans (h2579)
            refine T_mono (c_sort sc S2561 at_ n c2571 so pl ct ⟨hl2565, h2597, h2598, h2599⟩ (by omega)) (fun v2601 S2602 h2600 => ?_)
            obtain ⟨h2603, h2604⟩ := h2600
            rw [h2603, h2604]
            show X_T sc 75 (166, [(3, .int (iI (pl cur))), (2, .ref a), (1, .int (iI rk)), (0, .ref 496)], [.int (iI (so c2571))], S2561) _
            have hs2605 := hso c2571 (by omega) (by omega)
            refine T_p xr_75_166 xn_75 (pc' := 168) (ls' := [(3, .int (iI (pl cur))), (2, .ref a), (1, .int (iI rk)), (0, .ref 496)]) (st' := [.int (iI 61), .int (iI (so c2571))]) rfl ?_
            refine T_zicmp_ne xr_75_168 (t := 182) (pc' := 171) rfl rfl (fun c2606 => ?_) (fun c2606 => ?_)
            · skip
              have c2606 : ¬ (so c2571) = 61 := c2606
              refine T_p xr_75_182 xn_75 (pc' := 183) (ls' := [(3, .int (iI (pl cur))), (2, .ref a), (1, .int (iI rk)), (0, .ref 496)]) (st' := [.ref 496]) rfl ?_
              refine T_p xr_75_183 xn_75 (pc' := 185) (ls' := [(3, .int (iI (pl cur))), (2, .ref a), (1, .int (iI rk)), (0, .ref 496)]) (st' := [.int (iI 59), .ref 496]) rfl ?_
              refine T_cv (S := S2561) (q := 496) xr_75_185 xf_68.1 xf_68.2.1 xn_68 (as := [.int (iI 59)]) (r := []) rfl hp2564 (Nat.le_of_ble_eq_true rfl) (Nat.le_of_ble_eq_true rfl) (pc' := 188) rfl (ls' := [(0, .ref 496), (1, .int (iI 59))]) rfl ?_
              refine T_mono (c_pass sc S2561 B 0 fp at_ n c2571 so pl ct 59 hp2564 ⟨hl2565, h2597, h2598, h2599⟩ (by omega) hso (by omega)) (fun v2610 S2611 h2612 => ?_)
              rcases h2612 with ⟨hv2607, hc2608, hp2613, hl2614, hf2615⟩ | ⟨hv2607, hc2608, ⟨fl2616, fp2617, hn2618, hp2613⟩, hl2614, hf2615⟩
              · skip
                rw [hv2607]
                have hv2609 := X_av_r (n := n) (c := c2571) (by omega)
                show X_T sc 75 (188, [(3, .int (iI (pl cur))), (2, .ref a), (1, .int (iI rk)), (0, .ref 496)], [.int (iI 1)], S2611) _
                refine T_zif_eqf xr_75_188 (t := 204) (pc' := 191) rfl rfl (by decide) ?_
                refine T_p xr_75_191 xn_75 (pc' := 192) (ls' := [(3, .int (iI (pl cur))), (2, .ref a), (1, .int (iI rk)), (0, .ref 496)]) (st' := [.ref 496]) rfl ?_
                refine T_get xr_75_192 hp2613 rfl (v := .ref B) rfl (pc' := 195) rfl ?_
                refine T_p xr_75_195 xn_75 (pc' := 196) (ls' := [(3, .int (iI (pl cur))), (2, .ref a), (1, .int (iI rk)), (0, .ref 496)]) (st' := [.ref B, .ref B]) rfl ?_
                have h2619 := (hf2615.1 B (by omega)).trans ((hf2567.1 B (by omega)).trans (h2580))
                refine T_get xr_75_196 h2619 rfl (v := .int (iI wc)) rfl (pc' := 199) rfl ?_
                refine T_p xr_75_199 xn_75 (pc' := 200) (ls' := [(3, .int (iI (pl cur))), (2, .ref a), (1, .int (iI rk)), (0, .ref 496)]) (st' := [.int (iI 1), .int (iI wc), .ref B]) rfl ?_
                refine T_ziadd xr_75_200 (z := wc + 1) rfl (pc' := 201) rfl ?_
                refine T_put xr_75_201 h2619 rfl (Nat.le_of_ble_eq_true rfl) rfl (fs' := [.int (iI rc), .int (iI kc), .int (iI (wc + 1)), .ref (B + 1), .ref (B + 2), .ref (B + 3), .ref (B + 4), .ref (B + 5)]) rfl (pc' := 204) rfl (fun S2620 h2621 n2622 e2623 => ?_)
                refine T_vret xr_75_204 xf_75.2.2 ?_
                refine hQ _ _ ?_
                have h2624 := (n2622 496 (by omega)).trans (hp2613)
                have h2626 := (n2622 a (by omega)).trans ((hf2615.1 a (by omega)).trans (hw2566.1))
                have h2627 := (n2622 (a + 1) (by omega)).trans ((hf2615.1 (a + 1) (by omega)).trans (hw2566.2.1))
                have h2628 := (n2622 (a + 2) (by omega)).trans ((hf2615.1 (a + 2) (by omega)).trans (hw2566.2.2.1))
                have h2629 := (n2622 (a + 3) (by omega)).trans ((hf2615.1 (a + 3) (by omega)).trans (hw2566.2.2.2.1))
                have h2630 := (n2622 (a + 4) (by omega)).trans ((hf2615.1 (a + 4) (by omega)).trans (hw2566.2.2.2.2.1))
                have h2631 := (n2622 (a + 5) (by omega)).trans ((hf2615.1 (a + 5) (by omega)).trans (hw2566.2.2.2.2.2.1))
                have h2632 := (n2622 (a + 6) (by omega)).trans ((hf2615.1 (a + 6) (by omega)).trans (hw2566.2.2.2.2.2.2.1))
                have h2633 := (n2622 (a + 7) (by omega)).trans ((hf2615.1 (a + 7) (by omega)).trans (hw2566.2.2.2.2.2.2.2))
                have hs2625 : C_ws S2620 B (X_ug D wc d2572) (X_ug W wc q2573) := C_ws.upd2 (P := fun r => r = 496 ∨ r = 497 ∨ r = B ∨ (a ≤ r ∧ r ≤ a + 7)) hs ((((((X_Fr.rf).tr (X_Fr.of n2525 e2526 (by omega))).tr (X_Fr.mono ⟨hf2556.1, hf2556.2⟩ (fun q hq => (by omega)))).tr (X_Fr.mono ⟨hf2567.1, hf2567.2⟩ (fun q hq => (by omega)))).tr (X_Fr.mono ⟨hf2615.1, hf2615.2⟩ (fun q hq => (by omega)))).tr (X_Fr.of n2622 e2623 (by omega))) haa (fun r h1 h2 h3 => by omega) (by omega) ⟨h2626, h2627, h2628, h2629, h2630, h2631, h2632, h2633⟩ hr2568
                have h2634 := (n2622 497 (by omega)).trans (hl2614)
                have h2635 := (n2622 (B + 1) (by omega)).trans ((hf2615.1 (B + 1) (by omega)).trans ((hf2567.1 (B + 1) (by omega)).trans (h2581)))
                have h2636 := (n2622 (B + 2) (by omega)).trans ((hf2615.1 (B + 2) (by omega)).trans ((hf2567.1 (B + 2) (by omega)).trans (h2582)))
                have h2637 := (n2622 (B + 3) (by omega)).trans ((hf2615.1 (B + 3) (by omega)).trans ((hf2567.1 (B + 3) (by omega)).trans (h2583)))
                have h2638 := (n2622 (B + 4) (by omega)).trans ((hf2615.1 (B + 4) (by omega)).trans ((hf2567.1 (B + 4) (by omega)).trans (h2584)))
                have h2641 := (n2622 (B + 5) (by omega)).trans ((hf2615.1 (B + 5) (by omega)).trans ((hf2567.1 (B + 5) (by omega)).trans (h2585)))
                have h2642 := (n2622 498 (by omega)).trans ((hf2615.1 498 (by omega)).trans (h2597))
                have h2643 := (n2622 499 (by omega)).trans ((hf2615.1 499 (by omega)).trans (h2598))
                have h2644 := (n2622 500 (by omega)).trans ((hf2615.1 500 (by omega)).trans (h2599))
                have hb2639 : C_bk S2620 B rc kc (wc + 1) rn lo kn ab := ⟨h2621, h2635, h2636, h2637, h2638, ⟨f, h2641, hf⟩, ⟨by omega, by omega⟩, ⟨by omega, by omega⟩, ⟨by omega, by omega⟩⟩
                have hc2640 : 0 ≤ (X_av n c2571) ∧ (X_av n c2571) < n := by omega
                refine Or.inl ⟨(X_av n c2571, d2572, q2573), ?_, fp, ⟨h2624, ⟨h2634, h2642, h2643, h2644⟩, hb2639, hs2625, hc2640⟩, (((((X_Fr.rf).tr (X_Fr.of n2525 e2526 (by omega))).tr (X_Fr.mono ⟨hf2556.1, hf2556.2⟩ (fun q hq => (by omega)))).tr (X_Fr.mono ⟨hf2567.1, hf2567.2⟩ (fun q hq => (by omega)))).tr (X_Fr.mono ⟨hf2615.1, hf2615.2⟩ (fun q hq => (by omega)))).tr (X_Fr.of n2622 e2623 (by omega))⟩
                (repeat (first | unfold sp_wk | unfold sp_wb | unfold sp_we | rw [hsp2569] | (rw [Option.bind_some]; dsimp only) | rw [Option.bind_none] | rw [if_pos (by assumption)] | rw [if_neg (by assumption)]))
                all_goals first | rfl | ((repeat' split) <;> first | rfl | (exfalso; omega))
              · skip
                rw [hv2607]
                show X_T sc 75 (188, [(3, .int (iI (pl cur))), (2, .ref a), (1, .int (iI rk)), (0, .ref 496)], [.int (iI 0)], S2611) _
                refine T_zif_eqt xr_75_188 (t := 204) rfl (by decide) ?_
                refine T_vret xr_75_204 xf_75.2.2 ?_
                refine hQ _ _ ?_
                have h2645 := (hf2615.1 B (by omega)).trans ((hf2567.1 B (by omega)).trans (h2580))
                have h2647 := (hf2615.1 a (by omega)).trans (hw2566.1)
                have h2648 := (hf2615.1 (a + 1) (by omega)).trans (hw2566.2.1)
                have h2649 := (hf2615.1 (a + 2) (by omega)).trans (hw2566.2.2.1)
                have h2650 := (hf2615.1 (a + 3) (by omega)).trans (hw2566.2.2.2.1)
                have h2651 := (hf2615.1 (a + 4) (by omega)).trans (hw2566.2.2.2.2.1)
                have h2652 := (hf2615.1 (a + 5) (by omega)).trans (hw2566.2.2.2.2.2.1)
                have h2653 := (hf2615.1 (a + 6) (by omega)).trans (hw2566.2.2.2.2.2.2.1)
                have h2654 := (hf2615.1 (a + 7) (by omega)).trans (hw2566.2.2.2.2.2.2.2)
                have hs2646 : C_ws S2611 B (X_ug D wc d2572) (X_ug W wc q2573) := C_ws.upd2 (P := fun r => r = 496 ∨ r = 497 ∨ r = B ∨ (a ≤ r ∧ r ≤ a + 7)) hs (((((X_Fr.rf).tr (X_Fr.of n2525 e2526 (by omega))).tr (X_Fr.mono ⟨hf2556.1, hf2556.2⟩ (fun q hq => (by omega)))).tr (X_Fr.mono ⟨hf2567.1, hf2567.2⟩ (fun q hq => (by omega)))).tr (X_Fr.mono ⟨hf2615.1, hf2615.2⟩ (fun q hq => (by omega)))) haa (fun r h1 h2 h3 => by omega) (by omega) ⟨h2647, h2648, h2649, h2650, h2651, h2652, h2653, h2654⟩ hr2568
                have h2655 := (hf2615.1 (B + 1) (by omega)).trans ((hf2567.1 (B + 1) (by omega)).trans (h2581))
                have h2656 := (hf2615.1 (B + 2) (by omega)).trans ((hf2567.1 (B + 2) (by omega)).trans (h2582))
                have h2657 := (hf2615.1 (B + 3) (by omega)).trans ((hf2567.1 (B + 3) (by omega)).trans (h2583))
                have h2658 := (hf2615.1 (B + 4) (by omega)).trans ((hf2567.1 (B + 4) (by omega)).trans (h2584))
                have h2661 := (hf2615.1 (B + 5) (by omega)).trans ((hf2567.1 (B + 5) (by omega)).trans (h2585))
                have h2662 := (hf2615.1 498 (by omega)).trans (h2597)
                have h2663 := (hf2615.1 499 (by omega)).trans (h2598)
                have h2664 := (hf2615.1 500 (by omega)).trans (h2599)
                have hb2659 : C_bk S2611 B rc kc wc rn lo kn ab := ⟨h2645, h2655, h2656, h2657, h2658, ⟨f, h2661, hf⟩, ⟨by omega, by omega⟩, ⟨by omega, by omega⟩, ⟨by omega, by omega⟩⟩
                have hc2660 : 0 ≤ c2571 ∧ c2571 < n := by omega
                refine Or.inr ⟨?_, fl2616, fp2617, (c2571, rc, kc, wc, rn, lo, kn, ab, (X_ug D wc d2572), (X_ug W wc q2573)), by omega, ⟨hp2613, ⟨hl2614, h2662, h2663, h2664⟩, hb2659, hs2646, hc2660⟩, ((((X_Fr.rf).tr (X_Fr.of n2525 e2526 (by omega))).tr (X_Fr.mono ⟨hf2556.1, hf2556.2⟩ (fun q hq => (by omega)))).tr (X_Fr.mono ⟨hf2567.1, hf2567.2⟩ (fun q hq => (by omega)))).tr (X_Fr.mono ⟨hf2615.1, hf2615.2⟩ (fun q hq => (by omega)))⟩
                (repeat (first | unfold sp_wk | unfold sp_wb | unfold sp_we | rw [hsp2569] | (rw [Option.bind_some]; dsimp only) | rw [Option.bind_none] | rw [if_pos (by assumption)] | rw [if_neg (by assumption)]))
                all_goals first | rfl | ((repeat' split) <;> first | rfl | (exfalso; omega))
            · skip
              have c2606 : ¬ (¬ (so c2571) = 61) := c2606
              refine T_p xr_75_171 xn_75 (pc' := 172) (ls' := [(3, .int (iI (pl cur))), (2, .ref a), (1, .int (iI rk)), (0, .ref 496)]) (st' := [.ref 496]) rfl ?_
              refine T_p xr_75_172 xn_75 (pc' := 173) (ls' := [(3, .int (iI (pl cur))), (2, .ref a), (1, .int (iI rk)), (0, .ref 496)]) (st' := [.ref a, .ref 496]) rfl ?_
              refine T_cv (S := S2561) (q := 496) xr_75_173 xf_78.1 xf_78.2.1 xn_78 (as := [.ref a]) (r := []) rfl hp2564 (Nat.le_of_ble_eq_true rfl) (Nat.le_of_ble_eq_true rfl) (pc' := 176) rfl (ls' := [(0, .ref 496), (1, .ref a)]) rfl ?_
              have h2682 := (hf2567.1 B (by omega)).trans (h2580)
              have h2683 := (hf2567.1 (B + 1) (by omega)).trans (h2581)
              have h2684 := (hf2567.1 (B + 2) (by omega)).trans (h2582)
              have h2685 := (hf2567.1 (B + 3) (by omega)).trans (h2583)
              have h2686 := (hf2567.1 (B + 4) (by omega)).trans (h2584)
              have h2687 := (hf2567.1 (B + 5) (by omega)).trans (h2585)
              have hb2688 : C_bk S2561 B rc kc wc rn lo kn ab := ⟨h2682, h2683, h2684, h2685, h2686, ⟨f, h2687, hf⟩, ⟨by omega, by omega⟩, ⟨by omega, by omega⟩, ⟨by omega, by omega⟩⟩
              refine T_mono (c_parseSteps sc S2561 B 0 fp at_ n c2571 so pl ct rc kc wc rn lo kn ab a d2572 q2573 hB (by omega) hp2564 ⟨hl2565, h2597, h2598, h2599⟩ (by omega) hso hb2688 ⟨hw2566.1, hw2566.2.1, hw2566.2.2.1, hw2566.2.2.2.1, hw2566.2.2.2.2.1, hw2566.2.2.2.2.2.1, hw2566.2.2.2.2.2.2.1, hw2566.2.2.2.2.2.2.2⟩ hr2568 rfl) (fun v2665 S2666 h2667 => ?_)
              rcases h2667 with ⟨hv2668, c2676, d2677, hsp2674, hp2669, hl2670, hc2675, hw2671, hr2673, hf2672⟩ | ⟨hv2668, hsp2674, ⟨fl2679, fp2680, hn2681, hp2669⟩, ⟨c2676, hl2670, hc2675⟩, ⟨d2677, hw2671, hr2673⟩, hf2672⟩
              · skip
                rw [hv2668]
                have hs_c2676 := hso c2676 (by omega) (by omega)
                obtain ⟨⟨_, _⟩, ⟨_, _⟩, ⟨_, _⟩, ⟨_, _⟩, ⟨_, _⟩, ⟨_, _⟩, ⟨_, _⟩, ⟨_, _⟩⟩ := id hr2673
                show X_T sc 75 (176, [(3, .int (iI (pl cur))), (2, .ref a), (1, .int (iI rk)), (0, .ref 496)], [.int (iI 1)], S2666) _
                refine T_zif_eqf xr_75_176 (t := 204) (pc' := 179) rfl rfl (by decide) ?_
                refine T_p xr_75_179 xn_75 (pc' := 191) (ls' := [(3, .int (iI (pl cur))), (2, .ref a), (1, .int (iI rk)), (0, .ref 496)]) (st' := []) rfl ?_
                refine T_p xr_75_191 xn_75 (pc' := 192) (ls' := [(3, .int (iI (pl cur))), (2, .ref a), (1, .int (iI rk)), (0, .ref 496)]) (st' := [.ref 496]) rfl ?_
                refine T_get xr_75_192 hp2669 rfl (v := .ref B) rfl (pc' := 195) rfl ?_
                refine T_p xr_75_195 xn_75 (pc' := 196) (ls' := [(3, .int (iI (pl cur))), (2, .ref a), (1, .int (iI rk)), (0, .ref 496)]) (st' := [.ref B, .ref B]) rfl ?_
                have h2689 := (hf2672.1 B (by omega)).trans (h2682)
                refine T_get xr_75_196 h2689 rfl (v := .int (iI wc)) rfl (pc' := 199) rfl ?_
                refine T_p xr_75_199 xn_75 (pc' := 200) (ls' := [(3, .int (iI (pl cur))), (2, .ref a), (1, .int (iI rk)), (0, .ref 496)]) (st' := [.int (iI 1), .int (iI wc), .ref B]) rfl ?_
                refine T_ziadd xr_75_200 (z := wc + 1) rfl (pc' := 201) rfl ?_
                refine T_put xr_75_201 h2689 rfl (Nat.le_of_ble_eq_true rfl) rfl (fs' := [.int (iI rc), .int (iI kc), .int (iI (wc + 1)), .ref (B + 1), .ref (B + 2), .ref (B + 3), .ref (B + 4), .ref (B + 5)]) rfl (pc' := 204) rfl (fun S2690 h2691 n2692 e2693 => ?_)
                refine T_vret xr_75_204 xf_75.2.2 ?_
                refine hQ _ _ ?_
                have h2694 := (n2692 496 (by omega)).trans (hp2669)
                have h2696 := (n2692 a (by omega)).trans (hw2671.1)
                have h2697 := (n2692 (a + 1) (by omega)).trans (hw2671.2.1)
                have h2698 := (n2692 (a + 2) (by omega)).trans (hw2671.2.2.1)
                have h2699 := (n2692 (a + 3) (by omega)).trans (hw2671.2.2.2.1)
                have h2700 := (n2692 (a + 4) (by omega)).trans (hw2671.2.2.2.2.1)
                have h2701 := (n2692 (a + 5) (by omega)).trans (hw2671.2.2.2.2.2.1)
                have h2702 := (n2692 (a + 6) (by omega)).trans (hw2671.2.2.2.2.2.2.1)
                have h2703 := (n2692 (a + 7) (by omega)).trans (hw2671.2.2.2.2.2.2.2)
                have hs2695 : C_ws S2690 B (X_ug D wc d2677) (X_ug W wc q2573) := C_ws.upd2 (P := fun r => r = 496 ∨ r = 497 ∨ r = B ∨ (a ≤ r ∧ r ≤ a + 7)) hs ((((((X_Fr.rf).tr (X_Fr.of n2525 e2526 (by omega))).tr (X_Fr.mono ⟨hf2556.1, hf2556.2⟩ (fun q hq => (by omega)))).tr (X_Fr.mono ⟨hf2567.1, hf2567.2⟩ (fun q hq => (by omega)))).tr (X_Fr.mono ⟨hf2672.1, hf2672.2⟩ (fun q hq => (by omega)))).tr (X_Fr.of n2692 e2693 (by omega))) haa (fun r h1 h2 h3 => by omega) (by omega) ⟨h2696, h2697, h2698, h2699, h2700, h2701, h2702, h2703⟩ hr2673
                have h2704 := (n2692 497 (by omega)).trans (hl2670)
                have h2705 := (n2692 (B + 1) (by omega)).trans ((hf2672.1 (B + 1) (by omega)).trans (h2683))
                have h2706 := (n2692 (B + 2) (by omega)).trans ((hf2672.1 (B + 2) (by omega)).trans (h2684))
                have h2707 := (n2692 (B + 3) (by omega)).trans ((hf2672.1 (B + 3) (by omega)).trans (h2685))
                have h2708 := (n2692 (B + 4) (by omega)).trans ((hf2672.1 (B + 4) (by omega)).trans (h2686))
                have h2711 := (n2692 (B + 5) (by omega)).trans ((hf2672.1 (B + 5) (by omega)).trans (h2687))
                have h2712 := (n2692 498 (by omega)).trans ((hf2672.1 498 (by omega)).trans (h2597))
                have h2713 := (n2692 499 (by omega)).trans ((hf2672.1 499 (by omega)).trans (h2598))
                have h2714 := (n2692 500 (by omega)).trans ((hf2672.1 500 (by omega)).trans (h2599))
                have hb2709 : C_bk S2690 B rc kc (wc + 1) rn lo kn ab := ⟨h2691, h2705, h2706, h2707, h2708, ⟨f, h2711, hf⟩, ⟨by omega, by omega⟩, ⟨by omega, by omega⟩, ⟨by omega, by omega⟩⟩
                have hc2710 : 0 ≤ c2676 ∧ c2676 < n := by omega
                refine Or.inl ⟨(c2676, d2677, q2573), ?_, fp, ⟨h2694, ⟨h2704, h2712, h2713, h2714⟩, hb2709, hs2695, hc2710⟩, (((((X_Fr.rf).tr (X_Fr.of n2525 e2526 (by omega))).tr (X_Fr.mono ⟨hf2556.1, hf2556.2⟩ (fun q hq => (by omega)))).tr (X_Fr.mono ⟨hf2567.1, hf2567.2⟩ (fun q hq => (by omega)))).tr (X_Fr.mono ⟨hf2672.1, hf2672.2⟩ (fun q hq => (by omega)))).tr (X_Fr.of n2692 e2693 (by omega))⟩
                (repeat (first | unfold sp_wk | unfold sp_wb | unfold sp_we | rw [hsp2569] | rw [hsp2674] | (rw [Option.bind_some]; dsimp only) | rw [Option.bind_none] | rw [if_pos (by assumption)] | rw [if_neg (by assumption)]))
                all_goals first | rfl | ((repeat' split) <;> first | rfl | (exfalso; omega))
              · skip
                rw [hv2668]
                have hs_c2676 := hso c2676 (by omega) (by omega)
                obtain ⟨⟨_, _⟩, ⟨_, _⟩, ⟨_, _⟩, ⟨_, _⟩, ⟨_, _⟩, ⟨_, _⟩, ⟨_, _⟩, ⟨_, _⟩⟩ := id hr2673
                show X_T sc 75 (176, [(3, .int (iI (pl cur))), (2, .ref a), (1, .int (iI rk)), (0, .ref 496)], [.int (iI 0)], S2666) _
                refine T_zif_eqt xr_75_176 (t := 204) rfl (by decide) ?_
                refine T_vret xr_75_204 xf_75.2.2 ?_
                refine hQ _ _ ?_
                have h2715 := (hf2672.1 B (by omega)).trans (h2682)
                have hs2716 : C_ws S2666 B (X_ug D wc d2677) (X_ug W wc q2573) := C_ws.upd2 (P := fun r => r = 496 ∨ r = 497 ∨ r = B ∨ (a ≤ r ∧ r ≤ a + 7)) hs (((((X_Fr.rf).tr (X_Fr.of n2525 e2526 (by omega))).tr (X_Fr.mono ⟨hf2556.1, hf2556.2⟩ (fun q hq => (by omega)))).tr (X_Fr.mono ⟨hf2567.1, hf2567.2⟩ (fun q hq => (by omega)))).tr (X_Fr.mono ⟨hf2672.1, hf2672.2⟩ (fun q hq => (by omega)))) haa (fun r h1 h2 h3 => by omega) (by omega) ⟨hw2671.1, hw2671.2.1, hw2671.2.2.1, hw2671.2.2.2.1, hw2671.2.2.2.2.1, hw2671.2.2.2.2.2.1, hw2671.2.2.2.2.2.2.1, hw2671.2.2.2.2.2.2.2⟩ hr2673
                have h2717 := (hf2672.1 (B + 1) (by omega)).trans (h2683)
                have h2718 := (hf2672.1 (B + 2) (by omega)).trans (h2684)
                have h2719 := (hf2672.1 (B + 3) (by omega)).trans (h2685)
                have h2720 := (hf2672.1 (B + 4) (by omega)).trans (h2686)
                have h2723 := (hf2672.1 (B + 5) (by omega)).trans (h2687)
                have h2724 := (hf2672.1 498 (by omega)).trans (h2597)
                have h2725 := (hf2672.1 499 (by omega)).trans (h2598)
                have h2726 := (hf2672.1 500 (by omega)).trans (h2599)
                have hb2721 : C_bk S2666 B rc kc wc rn lo kn ab := ⟨h2715, h2717, h2718, h2719, h2720, ⟨f, h2723, hf⟩, ⟨by omega, by omega⟩, ⟨by omega, by omega⟩, ⟨by omega, by omega⟩⟩
                have hc2722 : 0 ≤ c2676 ∧ c2676 < n := by omega
                refine Or.inr ⟨?_, fl2679, fp2680, (c2676, rc, kc, wc, rn, lo, kn, ab, (X_ug D wc d2677), (X_ug W wc q2573)), by omega, ⟨hp2669, ⟨hl2670, h2724, h2725, h2726⟩, hb2721, hs2716, hc2722⟩, ((((X_Fr.rf).tr (X_Fr.of n2525 e2526 (by omega))).tr (X_Fr.mono ⟨hf2556.1, hf2556.2⟩ (fun q hq => (by omega)))).tr (X_Fr.mono ⟨hf2567.1, hf2567.2⟩ (fun q hq => (by omega)))).tr (X_Fr.mono ⟨hf2672.1, hf2672.2⟩ (fun q hq => (by omega)))⟩
                (repeat (first | unfold sp_wk | unfold sp_wb | unfold sp_we | rw [hsp2569] | rw [hsp2674] | (rw [Option.bind_some]; dsimp only) | rw [Option.bind_none] | rw [if_pos (by assumption)] | rw [if_neg (by assumption)]))
                all_goals first | rfl | ((repeat' split) <;> first | rfl | (exfalso; omega))
          · skip
            have c2596 : ¬ (¬ (d2572 4 0) = (d2572 3 0)) := c2596
            refine T_p xr_75_152 xn_75 (pc' := 153) (ls' := [(3, .int (iI (pl cur))), (2, .ref a), (1, .int (iI rk)), (0, .ref 496)]) (st' := [.ref 496]) rfl ?_
            refine T_cv (S := S2561) (q := 496) xr_75_153 xf_67.1 xf_67.2.1 xn_67 (as := []) (r := []) rfl hp2564 (Nat.le_of_ble_eq_true rfl) (Nat.le_of_ble_eq_true rfl) (pc' := 156) rfl (ls' := [(0, .ref 496)]) rfl ?_
            have h2736 := (hf2567.1 498 (by omega)).trans (h2577)
            have h2737 := (hf2567.1 499 (by omega)).trans (h2578)
            have h2738 := (hf2567.1 500 (by omega)).trans (h2579)
            refine T_mono (c_refuse sc S2561 B 0 fp at_ n c2571 so pl ct hp2564 ⟨hl2565, h2736, h2737, h2738⟩ (by omega) hso) (fun v2727 S2728 h2729 => ?_)
            obtain ⟨h2730, ⟨fl2731, fp2732, hn2733, hp2734⟩, hf2735⟩ := h2729
            rw [h2730]
            show X_T sc 75 (156, [(3, .int (iI (pl cur))), (2, .ref a), (1, .int (iI rk)), (0, .ref 496)], [], S2728) _
            refine T_p xr_75_156 xn_75 (pc' := 204) (ls' := [(3, .int (iI (pl cur))), (2, .ref a), (1, .int (iI rk)), (0, .ref 496)]) (st' := []) rfl ?_
            refine T_vret xr_75_204 xf_75.2.2 ?_
            refine hQ _ _ ?_
            have h2739 := (hf2735.1 B (by omega)).trans ((hf2567.1 B (by omega)).trans (h2580))
            have h2741 := (hf2735.1 a (by omega)).trans (hw2566.1)
            have h2742 := (hf2735.1 (a + 1) (by omega)).trans (hw2566.2.1)
            have h2743 := (hf2735.1 (a + 2) (by omega)).trans (hw2566.2.2.1)
            have h2744 := (hf2735.1 (a + 3) (by omega)).trans (hw2566.2.2.2.1)
            have h2745 := (hf2735.1 (a + 4) (by omega)).trans (hw2566.2.2.2.2.1)
            have h2746 := (hf2735.1 (a + 5) (by omega)).trans (hw2566.2.2.2.2.2.1)
            have h2747 := (hf2735.1 (a + 6) (by omega)).trans (hw2566.2.2.2.2.2.2.1)
            have h2748 := (hf2735.1 (a + 7) (by omega)).trans (hw2566.2.2.2.2.2.2.2)
            have hs2740 : C_ws S2728 B (X_ug D wc d2572) (X_ug W wc q2573) := C_ws.upd2 (P := fun r => r = 496 ∨ r = 497 ∨ r = B ∨ (a ≤ r ∧ r ≤ a + 7)) hs (((((X_Fr.rf).tr (X_Fr.of n2525 e2526 (by omega))).tr (X_Fr.mono ⟨hf2556.1, hf2556.2⟩ (fun q hq => (by omega)))).tr (X_Fr.mono ⟨hf2567.1, hf2567.2⟩ (fun q hq => (by omega)))).tr (X_Fr.mono ⟨hf2735.1, hf2735.2⟩ (fun q hq => (by omega)))) haa (fun r h1 h2 h3 => by omega) (by omega) ⟨h2741, h2742, h2743, h2744, h2745, h2746, h2747, h2748⟩ hr2568
            have h2749 := (hf2735.1 497 (by omega)).trans (hl2565)
            have h2750 := (hf2735.1 (B + 1) (by omega)).trans ((hf2567.1 (B + 1) (by omega)).trans (h2581))
            have h2751 := (hf2735.1 (B + 2) (by omega)).trans ((hf2567.1 (B + 2) (by omega)).trans (h2582))
            have h2752 := (hf2735.1 (B + 3) (by omega)).trans ((hf2567.1 (B + 3) (by omega)).trans (h2583))
            have h2753 := (hf2735.1 (B + 4) (by omega)).trans ((hf2567.1 (B + 4) (by omega)).trans (h2584))
            have h2756 := (hf2735.1 (B + 5) (by omega)).trans ((hf2567.1 (B + 5) (by omega)).trans (h2585))
            have h2757 := (hf2735.1 498 (by omega)).trans (h2736)
            have h2758 := (hf2735.1 499 (by omega)).trans (h2737)
            have h2759 := (hf2735.1 500 (by omega)).trans (h2738)
            have hb2754 : C_bk S2728 B rc kc wc rn lo kn ab := ⟨h2739, h2750, h2751, h2752, h2753, ⟨f, h2756, hf⟩, ⟨by omega, by omega⟩, ⟨by omega, by omega⟩, ⟨by omega, by omega⟩⟩
            have hc2755 : 0 ≤ c2571 ∧ c2571 < n := by omega
            refine Or.inr ⟨?_, fl2731, fp2732, (c2571, rc, kc, wc, rn, lo, kn, ab, (X_ug D wc d2572), (X_ug W wc q2573)), by omega, ⟨hp2734, ⟨h2749, h2757, h2758, h2759⟩, hb2754, hs2740, hc2755⟩, ((((X_Fr.rf).tr (X_Fr.of n2525 e2526 (by omega))).tr (X_Fr.mono ⟨hf2556.1, hf2556.2⟩ (fun q hq => (by omega)))).tr (X_Fr.mono ⟨hf2567.1, hf2567.2⟩ (fun q hq => (by omega)))).tr (X_Fr.mono ⟨hf2735.1, hf2735.2⟩ (fun q hq => (by omega)))⟩
            (repeat (first | unfold sp_wk | unfold sp_wb | unfold sp_we | rw [hsp2569] | (rw [Option.bind_some]; dsimp only) | rw [Option.bind_none] | rw [if_pos (by assumption)] | rw [if_neg (by assumption)]))
            all_goals first | rfl | ((repeat' split) <;> first | rfl | (exfalso; omega))
        · skip
          have c2595 : ¬ ((d2572 1 0) = 0) := c2595
          refine T_p xr_75_125 xn_75 (pc' := 126) (ls' := [(3, .int (iI (pl cur))), (2, .ref a), (1, .int (iI rk)), (0, .ref 496)]) (st' := [.ref a]) rfl ?_
          refine T_cv (S := S2561) (q := a) xr_75_126 xf_102.1 xf_102.2.1 xn_102 (as := []) (r := []) rfl hw2566.1 (Nat.le_of_ble_eq_true rfl) (Nat.le_of_ble_eq_true rfl) (pc' := 129) rfl (ls' := [(0, .ref a)]) rfl ?_
          refine T_mono (c_isClosed sc S2561 a d2572 q2573 ⟨hw2566.1, hw2566.2.1, hw2566.2.2.1, hw2566.2.2.2.1, hw2566.2.2.2.2.1, hw2566.2.2.2.2.2.1, hw2566.2.2.2.2.2.2.1, hw2566.2.2.2.2.2.2.2⟩ hr2568) (fun v2761 S2762 h2760 => ?_)
          obtain ⟨h2763, h2764⟩ := h2760
          rw [h2763, h2764]
          show X_T sc 75 (129, [(3, .int (iI (pl cur))), (2, .ref a), (1, .int (iI rk)), (0, .ref 496)], [.int (iI (bI (X_en d2572 q2573 = 0)))], S2561) _
          refine T_bif_eq xr_75_129 (t := 141) (pc' := 132) rfl rfl (fun c2765 => ?_) (fun c2765 => ?_)
          · skip
            have c2765 : ¬ (X_en d2572 q2573 = 0) := c2765
            refine T_p xr_75_141 xn_75 (pc' := 142) (ls' := [(3, .int (iI (pl cur))), (2, .ref a), (1, .int (iI rk)), (0, .ref 496)]) (st' := [.ref a]) rfl ?_
            refine T_get xr_75_142 hw2566.1 rfl (v := .int (iI (d2572 4 0))) rfl (pc' := 145) rfl ?_
            refine T_p xr_75_145 xn_75 (pc' := 146) (ls' := [(3, .int (iI (pl cur))), (2, .ref a), (1, .int (iI rk)), (0, .ref 496)]) (st' := [.ref a, .int (iI (d2572 4 0))]) rfl ?_
            refine T_get xr_75_146 hw2566.1 rfl (v := .int (iI (d2572 3 0))) rfl (pc' := 149) rfl ?_
            refine T_zicmp_ne xr_75_149 (t := 159) (pc' := 152) rfl rfl (fun c2766 => ?_) (fun c2766 => ?_)
            · skip
              have c2766 : ¬ (d2572 4 0) = (d2572 3 0) := c2766
              refine T_p xr_75_159 xn_75 (pc' := 160) (ls' := [(3, .int (iI (pl cur))), (2, .ref a), (1, .int (iI rk)), (0, .ref 496)]) (st' := [.ref 496]) rfl ?_
              refine T_get xr_75_160 hp2564 rfl (v := .ref 497) rfl (pc' := 163) rfl ?_
              refine T_cv (S := S2561) (q := 497) xr_75_163 xf_48.1 xf_48.2.1 xn_48 (as := []) (r := []) rfl hl2565 (Nat.le_of_ble_eq_true rfl) (Nat.le_of_ble_eq_true rfl) (pc' := 166) rfl (ls' := [(0, .ref 497)]) rfl ?_
              have h2767 := (hf2567.1 498 (by omega)).trans (h2577)
              have h2768 := (hf2567.1 499 (by omega)).trans (h2578)
              have h2769 := (hf2567.1 500 (by omega)).trans (h2579)
              refine T_mono (c_sort sc S2561 at_ n c2571 so pl ct ⟨hl2565, h2767, h2768, h2769⟩ (by omega)) (fun v2771 S2772 h2770 => ?_)
              obtain ⟨h2773, h2774⟩ := h2770
              rw [h2773, h2774]
              show X_T sc 75 (166, [(3, .int (iI (pl cur))), (2, .ref a), (1, .int (iI rk)), (0, .ref 496)], [.int (iI (so c2571))], S2561) _
              have hs2775 := hso c2571 (by omega) (by omega)
              refine T_p xr_75_166 xn_75 (pc' := 168) (ls' := [(3, .int (iI (pl cur))), (2, .ref a), (1, .int (iI rk)), (0, .ref 496)]) (st' := [.int (iI 61), .int (iI (so c2571))]) rfl ?_
              refine T_zicmp_ne xr_75_168 (t := 182) (pc' := 171) rfl rfl (fun c2776 => ?_) (fun c2776 => ?_)
              · skip
                have c2776 : ¬ (so c2571) = 61 := c2776
                refine T_p xr_75_182 xn_75 (pc' := 183) (ls' := [(3, .int (iI (pl cur))), (2, .ref a), (1, .int (iI rk)), (0, .ref 496)]) (st' := [.ref 496]) rfl ?_
                refine T_p xr_75_183 xn_75 (pc' := 185) (ls' := [(3, .int (iI (pl cur))), (2, .ref a), (1, .int (iI rk)), (0, .ref 496)]) (st' := [.int (iI 59), .ref 496]) rfl ?_
                refine T_cv (S := S2561) (q := 496) xr_75_185 xf_68.1 xf_68.2.1 xn_68 (as := [.int (iI 59)]) (r := []) rfl hp2564 (Nat.le_of_ble_eq_true rfl) (Nat.le_of_ble_eq_true rfl) (pc' := 188) rfl (ls' := [(0, .ref 496), (1, .int (iI 59))]) rfl ?_
                refine T_mono (c_pass sc S2561 B 0 fp at_ n c2571 so pl ct 59 hp2564 ⟨hl2565, h2767, h2768, h2769⟩ (by omega) hso (by omega)) (fun v2780 S2781 h2782 => ?_)
                rcases h2782 with ⟨hv2777, hc2778, hp2783, hl2784, hf2785⟩ | ⟨hv2777, hc2778, ⟨fl2786, fp2787, hn2788, hp2783⟩, hl2784, hf2785⟩
                · skip
                  rw [hv2777]
                  have hv2779 := X_av_r (n := n) (c := c2571) (by omega)
                  show X_T sc 75 (188, [(3, .int (iI (pl cur))), (2, .ref a), (1, .int (iI rk)), (0, .ref 496)], [.int (iI 1)], S2781) _
                  refine T_zif_eqf xr_75_188 (t := 204) (pc' := 191) rfl rfl (by decide) ?_
                  refine T_p xr_75_191 xn_75 (pc' := 192) (ls' := [(3, .int (iI (pl cur))), (2, .ref a), (1, .int (iI rk)), (0, .ref 496)]) (st' := [.ref 496]) rfl ?_
                  refine T_get xr_75_192 hp2783 rfl (v := .ref B) rfl (pc' := 195) rfl ?_
                  refine T_p xr_75_195 xn_75 (pc' := 196) (ls' := [(3, .int (iI (pl cur))), (2, .ref a), (1, .int (iI rk)), (0, .ref 496)]) (st' := [.ref B, .ref B]) rfl ?_
                  have h2789 := (hf2785.1 B (by omega)).trans ((hf2567.1 B (by omega)).trans (h2580))
                  refine T_get xr_75_196 h2789 rfl (v := .int (iI wc)) rfl (pc' := 199) rfl ?_
                  refine T_p xr_75_199 xn_75 (pc' := 200) (ls' := [(3, .int (iI (pl cur))), (2, .ref a), (1, .int (iI rk)), (0, .ref 496)]) (st' := [.int (iI 1), .int (iI wc), .ref B]) rfl ?_
                  refine T_ziadd xr_75_200 (z := wc + 1) rfl (pc' := 201) rfl ?_
                  refine T_put xr_75_201 h2789 rfl (Nat.le_of_ble_eq_true rfl) rfl (fs' := [.int (iI rc), .int (iI kc), .int (iI (wc + 1)), .ref (B + 1), .ref (B + 2), .ref (B + 3), .ref (B + 4), .ref (B + 5)]) rfl (pc' := 204) rfl (fun S2790 h2791 n2792 e2793 => ?_)
                  refine T_vret xr_75_204 xf_75.2.2 ?_
                  refine hQ _ _ ?_
                  have h2794 := (n2792 496 (by omega)).trans (hp2783)
                  have h2796 := (n2792 a (by omega)).trans ((hf2785.1 a (by omega)).trans (hw2566.1))
                  have h2797 := (n2792 (a + 1) (by omega)).trans ((hf2785.1 (a + 1) (by omega)).trans (hw2566.2.1))
                  have h2798 := (n2792 (a + 2) (by omega)).trans ((hf2785.1 (a + 2) (by omega)).trans (hw2566.2.2.1))
                  have h2799 := (n2792 (a + 3) (by omega)).trans ((hf2785.1 (a + 3) (by omega)).trans (hw2566.2.2.2.1))
                  have h2800 := (n2792 (a + 4) (by omega)).trans ((hf2785.1 (a + 4) (by omega)).trans (hw2566.2.2.2.2.1))
                  have h2801 := (n2792 (a + 5) (by omega)).trans ((hf2785.1 (a + 5) (by omega)).trans (hw2566.2.2.2.2.2.1))
                  have h2802 := (n2792 (a + 6) (by omega)).trans ((hf2785.1 (a + 6) (by omega)).trans (hw2566.2.2.2.2.2.2.1))
                  have h2803 := (n2792 (a + 7) (by omega)).trans ((hf2785.1 (a + 7) (by omega)).trans (hw2566.2.2.2.2.2.2.2))
                  have hs2795 : C_ws S2790 B (X_ug D wc d2572) (X_ug W wc q2573) := C_ws.upd2 (P := fun r => r = 496 ∨ r = 497 ∨ r = B ∨ (a ≤ r ∧ r ≤ a + 7)) hs ((((((X_Fr.rf).tr (X_Fr.of n2525 e2526 (by omega))).tr (X_Fr.mono ⟨hf2556.1, hf2556.2⟩ (fun q hq => (by omega)))).tr (X_Fr.mono ⟨hf2567.1, hf2567.2⟩ (fun q hq => (by omega)))).tr (X_Fr.mono ⟨hf2785.1, hf2785.2⟩ (fun q hq => (by omega)))).tr (X_Fr.of n2792 e2793 (by omega))) haa (fun r h1 h2 h3 => by omega) (by omega) ⟨h2796, h2797, h2798, h2799, h2800, h2801, h2802, h2803⟩ hr2568
                  have h2804 := (n2792 497 (by omega)).trans (hl2784)
                  have h2805 := (n2792 (B + 1) (by omega)).trans ((hf2785.1 (B + 1) (by omega)).trans ((hf2567.1 (B + 1) (by omega)).trans (h2581)))
                  have h2806 := (n2792 (B + 2) (by omega)).trans ((hf2785.1 (B + 2) (by omega)).trans ((hf2567.1 (B + 2) (by omega)).trans (h2582)))
                  have h2807 := (n2792 (B + 3) (by omega)).trans ((hf2785.1 (B + 3) (by omega)).trans ((hf2567.1 (B + 3) (by omega)).trans (h2583)))
                  have h2808 := (n2792 (B + 4) (by omega)).trans ((hf2785.1 (B + 4) (by omega)).trans ((hf2567.1 (B + 4) (by omega)).trans (h2584)))
                  have h2811 := (n2792 (B + 5) (by omega)).trans ((hf2785.1 (B + 5) (by omega)).trans ((hf2567.1 (B + 5) (by omega)).trans (h2585)))
                  have h2812 := (n2792 498 (by omega)).trans ((hf2785.1 498 (by omega)).trans (h2767))
                  have h2813 := (n2792 499 (by omega)).trans ((hf2785.1 499 (by omega)).trans (h2768))
                  have h2814 := (n2792 500 (by omega)).trans ((hf2785.1 500 (by omega)).trans (h2769))
                  have hb2809 : C_bk S2790 B rc kc (wc + 1) rn lo kn ab := ⟨h2791, h2805, h2806, h2807, h2808, ⟨f, h2811, hf⟩, ⟨by omega, by omega⟩, ⟨by omega, by omega⟩, ⟨by omega, by omega⟩⟩
                  have hc2810 : 0 ≤ (X_av n c2571) ∧ (X_av n c2571) < n := by omega
                  refine Or.inl ⟨(X_av n c2571, d2572, q2573), ?_, fp, ⟨h2794, ⟨h2804, h2812, h2813, h2814⟩, hb2809, hs2795, hc2810⟩, (((((X_Fr.rf).tr (X_Fr.of n2525 e2526 (by omega))).tr (X_Fr.mono ⟨hf2556.1, hf2556.2⟩ (fun q hq => (by omega)))).tr (X_Fr.mono ⟨hf2567.1, hf2567.2⟩ (fun q hq => (by omega)))).tr (X_Fr.mono ⟨hf2785.1, hf2785.2⟩ (fun q hq => (by omega)))).tr (X_Fr.of n2792 e2793 (by omega))⟩
                  (repeat (first | unfold sp_wk | unfold sp_wb | unfold sp_we | rw [hsp2569] | (rw [Option.bind_some]; dsimp only) | rw [Option.bind_none] | rw [if_pos (by assumption)] | rw [if_neg (by assumption)]))
                  all_goals first | rfl | ((repeat' split) <;> first | rfl | (exfalso; omega))
                · skip
                  rw [hv2777]
                  show X_T sc 75 (188, [(3, .int (iI (pl cur))), (2, .ref a), (1, .int (iI rk)), (0, .ref 496)], [.int (iI 0)], S2781) _
                  refine T_zif_eqt xr_75_188 (t := 204) rfl (by decide) ?_
                  refine T_vret xr_75_204 xf_75.2.2 ?_
                  refine hQ _ _ ?_
                  have h2815 := (hf2785.1 B (by omega)).trans ((hf2567.1 B (by omega)).trans (h2580))
                  have h2817 := (hf2785.1 a (by omega)).trans (hw2566.1)
                  have h2818 := (hf2785.1 (a + 1) (by omega)).trans (hw2566.2.1)
                  have h2819 := (hf2785.1 (a + 2) (by omega)).trans (hw2566.2.2.1)
                  have h2820 := (hf2785.1 (a + 3) (by omega)).trans (hw2566.2.2.2.1)
                  have h2821 := (hf2785.1 (a + 4) (by omega)).trans (hw2566.2.2.2.2.1)
                  have h2822 := (hf2785.1 (a + 5) (by omega)).trans (hw2566.2.2.2.2.2.1)
                  have h2823 := (hf2785.1 (a + 6) (by omega)).trans (hw2566.2.2.2.2.2.2.1)
                  have h2824 := (hf2785.1 (a + 7) (by omega)).trans (hw2566.2.2.2.2.2.2.2)
                  have hs2816 : C_ws S2781 B (X_ug D wc d2572) (X_ug W wc q2573) := C_ws.upd2 (P := fun r => r = 496 ∨ r = 497 ∨ r = B ∨ (a ≤ r ∧ r ≤ a + 7)) hs (((((X_Fr.rf).tr (X_Fr.of n2525 e2526 (by omega))).tr (X_Fr.mono ⟨hf2556.1, hf2556.2⟩ (fun q hq => (by omega)))).tr (X_Fr.mono ⟨hf2567.1, hf2567.2⟩ (fun q hq => (by omega)))).tr (X_Fr.mono ⟨hf2785.1, hf2785.2⟩ (fun q hq => (by omega)))) haa (fun r h1 h2 h3 => by omega) (by omega) ⟨h2817, h2818, h2819, h2820, h2821, h2822, h2823, h2824⟩ hr2568
                  have h2825 := (hf2785.1 (B + 1) (by omega)).trans ((hf2567.1 (B + 1) (by omega)).trans (h2581))
                  have h2826 := (hf2785.1 (B + 2) (by omega)).trans ((hf2567.1 (B + 2) (by omega)).trans (h2582))
                  have h2827 := (hf2785.1 (B + 3) (by omega)).trans ((hf2567.1 (B + 3) (by omega)).trans (h2583))
                  have h2828 := (hf2785.1 (B + 4) (by omega)).trans ((hf2567.1 (B + 4) (by omega)).trans (h2584))
                  have h2831 := (hf2785.1 (B + 5) (by omega)).trans ((hf2567.1 (B + 5) (by omega)).trans (h2585))
                  have h2832 := (hf2785.1 498 (by omega)).trans (h2767)
                  have h2833 := (hf2785.1 499 (by omega)).trans (h2768)
                  have h2834 := (hf2785.1 500 (by omega)).trans (h2769)
                  have hb2829 : C_bk S2781 B rc kc wc rn lo kn ab := ⟨h2815, h2825, h2826, h2827, h2828, ⟨f, h2831, hf⟩, ⟨by omega, by omega⟩, ⟨by omega, by omega⟩, ⟨by omega, by omega⟩⟩
                  have hc2830 : 0 ≤ c2571 ∧ c2571 < n := by omega
                  refine Or.inr ⟨?_, fl2786, fp2787, (c2571, rc, kc, wc, rn, lo, kn, ab, (X_ug D wc d2572), (X_ug W wc q2573)), by omega, ⟨hp2783, ⟨hl2784, h2832, h2833, h2834⟩, hb2829, hs2816, hc2830⟩, ((((X_Fr.rf).tr (X_Fr.of n2525 e2526 (by omega))).tr (X_Fr.mono ⟨hf2556.1, hf2556.2⟩ (fun q hq => (by omega)))).tr (X_Fr.mono ⟨hf2567.1, hf2567.2⟩ (fun q hq => (by omega)))).tr (X_Fr.mono ⟨hf2785.1, hf2785.2⟩ (fun q hq => (by omega)))⟩
                  (repeat (first | unfold sp_wk | unfold sp_wb | unfold sp_we | rw [hsp2569] | (rw [Option.bind_some]; dsimp only) | rw [Option.bind_none] | rw [if_pos (by assumption)] | rw [if_neg (by assumption)]))
                  all_goals first | rfl | ((repeat' split) <;> first | rfl | (exfalso; omega))
              · skip
                have c2776 : ¬ (¬ (so c2571) = 61) := c2776
                refine T_p xr_75_171 xn_75 (pc' := 172) (ls' := [(3, .int (iI (pl cur))), (2, .ref a), (1, .int (iI rk)), (0, .ref 496)]) (st' := [.ref 496]) rfl ?_
                refine T_p xr_75_172 xn_75 (pc' := 173) (ls' := [(3, .int (iI (pl cur))), (2, .ref a), (1, .int (iI rk)), (0, .ref 496)]) (st' := [.ref a, .ref 496]) rfl ?_
                refine T_cv (S := S2561) (q := 496) xr_75_173 xf_78.1 xf_78.2.1 xn_78 (as := [.ref a]) (r := []) rfl hp2564 (Nat.le_of_ble_eq_true rfl) (Nat.le_of_ble_eq_true rfl) (pc' := 176) rfl (ls' := [(0, .ref 496), (1, .ref a)]) rfl ?_
                have h2852 := (hf2567.1 B (by omega)).trans (h2580)
                have h2853 := (hf2567.1 (B + 1) (by omega)).trans (h2581)
                have h2854 := (hf2567.1 (B + 2) (by omega)).trans (h2582)
                have h2855 := (hf2567.1 (B + 3) (by omega)).trans (h2583)
                have h2856 := (hf2567.1 (B + 4) (by omega)).trans (h2584)
                have h2857 := (hf2567.1 (B + 5) (by omega)).trans (h2585)
                have hb2858 : C_bk S2561 B rc kc wc rn lo kn ab := ⟨h2852, h2853, h2854, h2855, h2856, ⟨f, h2857, hf⟩, ⟨by omega, by omega⟩, ⟨by omega, by omega⟩, ⟨by omega, by omega⟩⟩
                refine T_mono (c_parseSteps sc S2561 B 0 fp at_ n c2571 so pl ct rc kc wc rn lo kn ab a d2572 q2573 hB (by omega) hp2564 ⟨hl2565, h2767, h2768, h2769⟩ (by omega) hso hb2858 ⟨hw2566.1, hw2566.2.1, hw2566.2.2.1, hw2566.2.2.2.1, hw2566.2.2.2.2.1, hw2566.2.2.2.2.2.1, hw2566.2.2.2.2.2.2.1, hw2566.2.2.2.2.2.2.2⟩ hr2568 rfl) (fun v2835 S2836 h2837 => ?_)
                rcases h2837 with ⟨hv2838, c2846, d2847, hsp2844, hp2839, hl2840, hc2845, hw2841, hr2843, hf2842⟩ | ⟨hv2838, hsp2844, ⟨fl2849, fp2850, hn2851, hp2839⟩, ⟨c2846, hl2840, hc2845⟩, ⟨d2847, hw2841, hr2843⟩, hf2842⟩
                · skip
                  rw [hv2838]
                  have hs_c2846 := hso c2846 (by omega) (by omega)
                  obtain ⟨⟨_, _⟩, ⟨_, _⟩, ⟨_, _⟩, ⟨_, _⟩, ⟨_, _⟩, ⟨_, _⟩, ⟨_, _⟩, ⟨_, _⟩⟩ := id hr2843
                  show X_T sc 75 (176, [(3, .int (iI (pl cur))), (2, .ref a), (1, .int (iI rk)), (0, .ref 496)], [.int (iI 1)], S2836) _
                  refine T_zif_eqf xr_75_176 (t := 204) (pc' := 179) rfl rfl (by decide) ?_
                  refine T_p xr_75_179 xn_75 (pc' := 191) (ls' := [(3, .int (iI (pl cur))), (2, .ref a), (1, .int (iI rk)), (0, .ref 496)]) (st' := []) rfl ?_
                  refine T_p xr_75_191 xn_75 (pc' := 192) (ls' := [(3, .int (iI (pl cur))), (2, .ref a), (1, .int (iI rk)), (0, .ref 496)]) (st' := [.ref 496]) rfl ?_
                  refine T_get xr_75_192 hp2839 rfl (v := .ref B) rfl (pc' := 195) rfl ?_
                  refine T_p xr_75_195 xn_75 (pc' := 196) (ls' := [(3, .int (iI (pl cur))), (2, .ref a), (1, .int (iI rk)), (0, .ref 496)]) (st' := [.ref B, .ref B]) rfl ?_
                  have h2859 := (hf2842.1 B (by omega)).trans (h2852)
                  refine T_get xr_75_196 h2859 rfl (v := .int (iI wc)) rfl (pc' := 199) rfl ?_
                  refine T_p xr_75_199 xn_75 (pc' := 200) (ls' := [(3, .int (iI (pl cur))), (2, .ref a), (1, .int (iI rk)), (0, .ref 496)]) (st' := [.int (iI 1), .int (iI wc), .ref B]) rfl ?_
                  refine T_ziadd xr_75_200 (z := wc + 1) rfl (pc' := 201) rfl ?_
                  refine T_put xr_75_201 h2859 rfl (Nat.le_of_ble_eq_true rfl) rfl (fs' := [.int (iI rc), .int (iI kc), .int (iI (wc + 1)), .ref (B + 1), .ref (B + 2), .ref (B + 3), .ref (B + 4), .ref (B + 5)]) rfl (pc' := 204) rfl (fun S2860 h2861 n2862 e2863 => ?_)
                  refine T_vret xr_75_204 xf_75.2.2 ?_
                  refine hQ _ _ ?_
                  have h2864 := (n2862 496 (by omega)).trans (hp2839)
                  have h2866 := (n2862 a (by omega)).trans (hw2841.1)
                  have h2867 := (n2862 (a + 1) (by omega)).trans (hw2841.2.1)
                  have h2868 := (n2862 (a + 2) (by omega)).trans (hw2841.2.2.1)
                  have h2869 := (n2862 (a + 3) (by omega)).trans (hw2841.2.2.2.1)
                  have h2870 := (n2862 (a + 4) (by omega)).trans (hw2841.2.2.2.2.1)
                  have h2871 := (n2862 (a + 5) (by omega)).trans (hw2841.2.2.2.2.2.1)
                  have h2872 := (n2862 (a + 6) (by omega)).trans (hw2841.2.2.2.2.2.2.1)
                  have h2873 := (n2862 (a + 7) (by omega)).trans (hw2841.2.2.2.2.2.2.2)
                  have hs2865 : C_ws S2860 B (X_ug D wc d2847) (X_ug W wc q2573) := C_ws.upd2 (P := fun r => r = 496 ∨ r = 497 ∨ r = B ∨ (a ≤ r ∧ r ≤ a + 7)) hs ((((((X_Fr.rf).tr (X_Fr.of n2525 e2526 (by omega))).tr (X_Fr.mono ⟨hf2556.1, hf2556.2⟩ (fun q hq => (by omega)))).tr (X_Fr.mono ⟨hf2567.1, hf2567.2⟩ (fun q hq => (by omega)))).tr (X_Fr.mono ⟨hf2842.1, hf2842.2⟩ (fun q hq => (by omega)))).tr (X_Fr.of n2862 e2863 (by omega))) haa (fun r h1 h2 h3 => by omega) (by omega) ⟨h2866, h2867, h2868, h2869, h2870, h2871, h2872, h2873⟩ hr2843
                  have h2874 := (n2862 497 (by omega)).trans (hl2840)
                  have h2875 := (n2862 (B + 1) (by omega)).trans ((hf2842.1 (B + 1) (by omega)).trans (h2853))
                  have h2876 := (n2862 (B + 2) (by omega)).trans ((hf2842.1 (B + 2) (by omega)).trans (h2854))
                  have h2877 := (n2862 (B + 3) (by omega)).trans ((hf2842.1 (B + 3) (by omega)).trans (h2855))
                  have h2878 := (n2862 (B + 4) (by omega)).trans ((hf2842.1 (B + 4) (by omega)).trans (h2856))
                  have h2881 := (n2862 (B + 5) (by omega)).trans ((hf2842.1 (B + 5) (by omega)).trans (h2857))
                  have h2882 := (n2862 498 (by omega)).trans ((hf2842.1 498 (by omega)).trans (h2767))
                  have h2883 := (n2862 499 (by omega)).trans ((hf2842.1 499 (by omega)).trans (h2768))
                  have h2884 := (n2862 500 (by omega)).trans ((hf2842.1 500 (by omega)).trans (h2769))
                  have hb2879 : C_bk S2860 B rc kc (wc + 1) rn lo kn ab := ⟨h2861, h2875, h2876, h2877, h2878, ⟨f, h2881, hf⟩, ⟨by omega, by omega⟩, ⟨by omega, by omega⟩, ⟨by omega, by omega⟩⟩
                  have hc2880 : 0 ≤ c2846 ∧ c2846 < n := by omega
                  refine Or.inl ⟨(c2846, d2847, q2573), ?_, fp, ⟨h2864, ⟨h2874, h2882, h2883, h2884⟩, hb2879, hs2865, hc2880⟩, (((((X_Fr.rf).tr (X_Fr.of n2525 e2526 (by omega))).tr (X_Fr.mono ⟨hf2556.1, hf2556.2⟩ (fun q hq => (by omega)))).tr (X_Fr.mono ⟨hf2567.1, hf2567.2⟩ (fun q hq => (by omega)))).tr (X_Fr.mono ⟨hf2842.1, hf2842.2⟩ (fun q hq => (by omega)))).tr (X_Fr.of n2862 e2863 (by omega))⟩
                  (repeat (first | unfold sp_wk | unfold sp_wb | unfold sp_we | rw [hsp2569] | rw [hsp2844] | (rw [Option.bind_some]; dsimp only) | rw [Option.bind_none] | rw [if_pos (by assumption)] | rw [if_neg (by assumption)]))
                  all_goals first | rfl | ((repeat' split) <;> first | rfl | (exfalso; omega))
                · skip
                  rw [hv2838]
                  have hs_c2846 := hso c2846 (by omega) (by omega)
                  obtain ⟨⟨_, _⟩, ⟨_, _⟩, ⟨_, _⟩, ⟨_, _⟩, ⟨_, _⟩, ⟨_, _⟩, ⟨_, _⟩, ⟨_, _⟩⟩ := id hr2843
                  show X_T sc 75 (176, [(3, .int (iI (pl cur))), (2, .ref a), (1, .int (iI rk)), (0, .ref 496)], [.int (iI 0)], S2836) _
                  refine T_zif_eqt xr_75_176 (t := 204) rfl (by decide) ?_
                  refine T_vret xr_75_204 xf_75.2.2 ?_
                  refine hQ _ _ ?_
                  have h2885 := (hf2842.1 B (by omega)).trans (h2852)
                  have hs2886 : C_ws S2836 B (X_ug D wc d2847) (X_ug W wc q2573) := C_ws.upd2 (P := fun r => r = 496 ∨ r = 497 ∨ r = B ∨ (a ≤ r ∧ r ≤ a + 7)) hs (((((X_Fr.rf).tr (X_Fr.of n2525 e2526 (by omega))).tr (X_Fr.mono ⟨hf2556.1, hf2556.2⟩ (fun q hq => (by omega)))).tr (X_Fr.mono ⟨hf2567.1, hf2567.2⟩ (fun q hq => (by omega)))).tr (X_Fr.mono ⟨hf2842.1, hf2842.2⟩ (fun q hq => (by omega)))) haa (fun r h1 h2 h3 => by omega) (by omega) ⟨hw2841.1, hw2841.2.1, hw2841.2.2.1, hw2841.2.2.2.1, hw2841.2.2.2.2.1, hw2841.2.2.2.2.2.1, hw2841.2.2.2.2.2.2.1, hw2841.2.2.2.2.2.2.2⟩ hr2843
                  have h2887 := (hf2842.1 (B + 1) (by omega)).trans (h2853)
                  have h2888 := (hf2842.1 (B + 2) (by omega)).trans (h2854)
                  have h2889 := (hf2842.1 (B + 3) (by omega)).trans (h2855)
                  have h2890 := (hf2842.1 (B + 4) (by omega)).trans (h2856)
                  have h2893 := (hf2842.1 (B + 5) (by omega)).trans (h2857)
                  have h2894 := (hf2842.1 498 (by omega)).trans (h2767)
                  have h2895 := (hf2842.1 499 (by omega)).trans (h2768)
                  have h2896 := (hf2842.1 500 (by omega)).trans (h2769)
                  have hb2891 : C_bk S2836 B rc kc wc rn lo kn ab := ⟨h2885, h2887, h2888, h2889, h2890, ⟨f, h2893, hf⟩, ⟨by omega, by omega⟩, ⟨by omega, by omega⟩, ⟨by omega, by omega⟩⟩
                  have hc2892 : 0 ≤ c2846 ∧ c2846 < n := by omega
                  refine Or.inr ⟨?_, fl2849, fp2850, (c2846, rc, kc, wc, rn, lo, kn, ab, (X_ug D wc d2847), (X_ug W wc q2573)), by omega, ⟨hp2839, ⟨hl2840, h2894, h2895, h2896⟩, hb2891, hs2886, hc2892⟩, ((((X_Fr.rf).tr (X_Fr.of n2525 e2526 (by omega))).tr (X_Fr.mono ⟨hf2556.1, hf2556.2⟩ (fun q hq => (by omega)))).tr (X_Fr.mono ⟨hf2567.1, hf2567.2⟩ (fun q hq => (by omega)))).tr (X_Fr.mono ⟨hf2842.1, hf2842.2⟩ (fun q hq => (by omega)))⟩
                  (repeat (first | unfold sp_wk | unfold sp_wb | unfold sp_we | rw [hsp2569] | rw [hsp2844] | (rw [Option.bind_some]; dsimp only) | rw [Option.bind_none] | rw [if_pos (by assumption)] | rw [if_neg (by assumption)]))
                  all_goals first | rfl | ((repeat' split) <;> first | rfl | (exfalso; omega))
            · skip
              have c2766 : ¬ (¬ (d2572 4 0) = (d2572 3 0)) := c2766
              refine T_p xr_75_152 xn_75 (pc' := 153) (ls' := [(3, .int (iI (pl cur))), (2, .ref a), (1, .int (iI rk)), (0, .ref 496)]) (st' := [.ref 496]) rfl ?_
              refine T_cv (S := S2561) (q := 496) xr_75_153 xf_67.1 xf_67.2.1 xn_67 (as := []) (r := []) rfl hp2564 (Nat.le_of_ble_eq_true rfl) (Nat.le_of_ble_eq_true rfl) (pc' := 156) rfl (ls' := [(0, .ref 496)]) rfl ?_
              have h2906 := (hf2567.1 498 (by omega)).trans (h2577)
              have h2907 := (hf2567.1 499 (by omega)).trans (h2578)
              have h2908 := (hf2567.1 500 (by omega)).trans (h2579)
              refine T_mono (c_refuse sc S2561 B 0 fp at_ n c2571 so pl ct hp2564 ⟨hl2565, h2906, h2907, h2908⟩ (by omega) hso) (fun v2897 S2898 h2899 => ?_)
              obtain ⟨h2900, ⟨fl2901, fp2902, hn2903, hp2904⟩, hf2905⟩ := h2899
              rw [h2900]
              show X_T sc 75 (156, [(3, .int (iI (pl cur))), (2, .ref a), (1, .int (iI rk)), (0, .ref 496)], [], S2898) _
              refine T_p xr_75_156 xn_75 (pc' := 204) (ls' := [(3, .int (iI (pl cur))), (2, .ref a), (1, .int (iI rk)), (0, .ref 496)]) (st' := []) rfl ?_
              refine T_vret xr_75_204 xf_75.2.2 ?_
              refine hQ _ _ ?_
              have h2909 := (hf2905.1 B (by omega)).trans ((hf2567.1 B (by omega)).trans (h2580))
              have h2911 := (hf2905.1 a (by omega)).trans (hw2566.1)
              have h2912 := (hf2905.1 (a + 1) (by omega)).trans (hw2566.2.1)
              have h2913 := (hf2905.1 (a + 2) (by omega)).trans (hw2566.2.2.1)
              have h2914 := (hf2905.1 (a + 3) (by omega)).trans (hw2566.2.2.2.1)
              have h2915 := (hf2905.1 (a + 4) (by omega)).trans (hw2566.2.2.2.2.1)
              have h2916 := (hf2905.1 (a + 5) (by omega)).trans (hw2566.2.2.2.2.2.1)
              have h2917 := (hf2905.1 (a + 6) (by omega)).trans (hw2566.2.2.2.2.2.2.1)
              have h2918 := (hf2905.1 (a + 7) (by omega)).trans (hw2566.2.2.2.2.2.2.2)
              have hs2910 : C_ws S2898 B (X_ug D wc d2572) (X_ug W wc q2573) := C_ws.upd2 (P := fun r => r = 496 ∨ r = 497 ∨ r = B ∨ (a ≤ r ∧ r ≤ a + 7)) hs (((((X_Fr.rf).tr (X_Fr.of n2525 e2526 (by omega))).tr (X_Fr.mono ⟨hf2556.1, hf2556.2⟩ (fun q hq => (by omega)))).tr (X_Fr.mono ⟨hf2567.1, hf2567.2⟩ (fun q hq => (by omega)))).tr (X_Fr.mono ⟨hf2905.1, hf2905.2⟩ (fun q hq => (by omega)))) haa (fun r h1 h2 h3 => by omega) (by omega) ⟨h2911, h2912, h2913, h2914, h2915, h2916, h2917, h2918⟩ hr2568
              have h2919 := (hf2905.1 497 (by omega)).trans (hl2565)
              have h2920 := (hf2905.1 (B + 1) (by omega)).trans ((hf2567.1 (B + 1) (by omega)).trans (h2581))
              have h2921 := (hf2905.1 (B + 2) (by omega)).trans ((hf2567.1 (B + 2) (by omega)).trans (h2582))
              have h2922 := (hf2905.1 (B + 3) (by omega)).trans ((hf2567.1 (B + 3) (by omega)).trans (h2583))
              have h2923 := (hf2905.1 (B + 4) (by omega)).trans ((hf2567.1 (B + 4) (by omega)).trans (h2584))
              have h2926 := (hf2905.1 (B + 5) (by omega)).trans ((hf2567.1 (B + 5) (by omega)).trans (h2585))
              have h2927 := (hf2905.1 498 (by omega)).trans (h2906)
              have h2928 := (hf2905.1 499 (by omega)).trans (h2907)
              have h2929 := (hf2905.1 500 (by omega)).trans (h2908)
              have hb2924 : C_bk S2898 B rc kc wc rn lo kn ab := ⟨h2909, h2920, h2921, h2922, h2923, ⟨f, h2926, hf⟩, ⟨by omega, by omega⟩, ⟨by omega, by omega⟩, ⟨by omega, by omega⟩⟩
              have hc2925 : 0 ≤ c2571 ∧ c2571 < n := by omega
              refine Or.inr ⟨?_, fl2901, fp2902, (c2571, rc, kc, wc, rn, lo, kn, ab, (X_ug D wc d2572), (X_ug W wc q2573)), by omega, ⟨hp2904, ⟨h2919, h2927, h2928, h2929⟩, hb2924, hs2910, hc2925⟩, ((((X_Fr.rf).tr (X_Fr.of n2525 e2526 (by omega))).tr (X_Fr.mono ⟨hf2556.1, hf2556.2⟩ (fun q hq => (by omega)))).tr (X_Fr.mono ⟨hf2567.1, hf2567.2⟩ (fun q hq => (by omega)))).tr (X_Fr.mono ⟨hf2905.1, hf2905.2⟩ (fun q hq => (by omega)))⟩
              (repeat (first | unfold sp_wk | unfold sp_wb | unfold sp_we | rw [hsp2569] | (rw [Option.bind_some]; dsimp only) | rw [Option.bind_none] | rw [if_pos (by assumption)] | rw [if_neg (by assumption)]))
              all_goals first | rfl | ((repeat' split) <;> first | rfl | (exfalso; omega))
          · skip
            have c2765 : (X_en d2572 q2573 = 0) := c2765
            refine T_p xr_75_132 xn_75 (pc' := 133) (ls' := [(3, .int (iI (pl cur))), (2, .ref a), (1, .int (iI rk)), (0, .ref 496)]) (st' := [.ref 496]) rfl ?_
            refine T_p xr_75_133 xn_75 (pc' := 134) (ls' := [(3, .int (iI (pl cur))), (2, .ref a), (1, .int (iI rk)), (0, .ref 496)]) (st' := [.int (iI 2), .ref 496]) rfl ?_
            refine T_p xr_75_134 xn_75 (pc' := 135) (ls' := [(3, .int (iI (pl cur))), (2, .ref a), (1, .int (iI rk)), (0, .ref 496)]) (st' := [.int (iI (pl cur)), .int (iI 2), .ref 496]) rfl ?_
            refine T_cv (S := S2561) (q := 496) xr_75_135 xf_66.1 xf_66.2.1 xn_66 (as := [.int (iI 2), .int (iI (pl cur))]) (r := []) rfl hp2564 (Nat.le_of_ble_eq_true rfl) (Nat.le_of_ble_eq_true rfl) (pc' := 138) rfl (ls' := [(0, .ref 496), (1, .int (iI 2)), (2, .int (iI (pl cur)))]) rfl ?_
            refine T_p xr_66_0 xn_66 (pc' := 1) (ls' := [(0, .ref 496), (1, .int (iI 2)), (2, .int (iI (pl cur)))]) (st' := [.ref 496]) rfl ?_
            refine T_p xr_66_1 xn_66 (pc' := 2) (ls' := [(0, .ref 496), (1, .int (iI 2)), (2, .int (iI (pl cur)))]) (st' := [.int (iI 2), .ref 496]) rfl ?_
            refine T_put xr_66_2 hp2564 rfl (Nat.le_of_ble_eq_true rfl) rfl (fs' := [.ref 497, .ref B, .int (iI 2), .int (iI fp)]) rfl (pc' := 5) rfl (fun S2930 h2931 n2932 e2933 => ?_)
            refine T_p xr_66_5 xn_66 (pc' := 6) (ls' := [(0, .ref 496), (1, .int (iI 2)), (2, .int (iI (pl cur)))]) (st' := [.ref 496]) rfl ?_
            refine T_p xr_66_6 xn_66 (pc' := 7) (ls' := [(0, .ref 496), (1, .int (iI 2)), (2, .int (iI (pl cur)))]) (st' := [.int (iI (pl cur)), .ref 496]) rfl ?_
            refine T_put xr_66_7 h2931 rfl (Nat.le_of_ble_eq_true rfl) rfl (fs' := [.ref 497, .ref B, .int (iI 2), .int (iI (pl cur))]) rfl (pc' := 10) rfl (fun S2934 h2935 n2936 e2937 => ?_)
            refine T_vret xr_66_10 xf_66.2.2 ?_
            show X_T sc 75 (138, [(3, .int (iI (pl cur))), (2, .ref a), (1, .int (iI rk)), (0, .ref 496)], [], S2934) _
            refine T_p xr_75_138 xn_75 (pc' := 204) (ls' := [(3, .int (iI (pl cur))), (2, .ref a), (1, .int (iI rk)), (0, .ref 496)]) (st' := []) rfl ?_
            refine T_vret xr_75_204 xf_75.2.2 ?_
            refine hQ _ _ ?_
            have h2938 := (n2936 B (by omega)).trans ((n2932 B (by omega)).trans ((hf2567.1 B (by omega)).trans (h2580)))
            have h2940 := (n2936 a (by omega)).trans ((n2932 a (by omega)).trans (hw2566.1))
            have h2941 := (n2936 (a + 1) (by omega)).trans ((n2932 (a + 1) (by omega)).trans (hw2566.2.1))
            have h2942 := (n2936 (a + 2) (by omega)).trans ((n2932 (a + 2) (by omega)).trans (hw2566.2.2.1))
            have h2943 := (n2936 (a + 3) (by omega)).trans ((n2932 (a + 3) (by omega)).trans (hw2566.2.2.2.1))
            have h2944 := (n2936 (a + 4) (by omega)).trans ((n2932 (a + 4) (by omega)).trans (hw2566.2.2.2.2.1))
            have h2945 := (n2936 (a + 5) (by omega)).trans ((n2932 (a + 5) (by omega)).trans (hw2566.2.2.2.2.2.1))
            have h2946 := (n2936 (a + 6) (by omega)).trans ((n2932 (a + 6) (by omega)).trans (hw2566.2.2.2.2.2.2.1))
            have h2947 := (n2936 (a + 7) (by omega)).trans ((n2932 (a + 7) (by omega)).trans (hw2566.2.2.2.2.2.2.2))
            have hs2939 : C_ws S2934 B (X_ug D wc d2572) (X_ug W wc q2573) := C_ws.upd2 (P := fun r => r = 496 ∨ r = 497 ∨ r = B ∨ (a ≤ r ∧ r ≤ a + 7)) hs ((((((X_Fr.rf).tr (X_Fr.of n2525 e2526 (by omega))).tr (X_Fr.mono ⟨hf2556.1, hf2556.2⟩ (fun q hq => (by omega)))).tr (X_Fr.mono ⟨hf2567.1, hf2567.2⟩ (fun q hq => (by omega)))).tr (X_Fr.of n2932 e2933 (by omega))).tr (X_Fr.of n2936 e2937 (by omega))) haa (fun r h1 h2 h3 => by omega) (by omega) ⟨h2940, h2941, h2942, h2943, h2944, h2945, h2946, h2947⟩ hr2568
            have h2948 := (n2936 497 (by decide)).trans ((n2932 497 (by decide)).trans (hl2565))
            have h2949 := (n2936 (B + 1) (by omega)).trans ((n2932 (B + 1) (by omega)).trans ((hf2567.1 (B + 1) (by omega)).trans (h2581)))
            have h2950 := (n2936 (B + 2) (by omega)).trans ((n2932 (B + 2) (by omega)).trans ((hf2567.1 (B + 2) (by omega)).trans (h2582)))
            have h2951 := (n2936 (B + 3) (by omega)).trans ((n2932 (B + 3) (by omega)).trans ((hf2567.1 (B + 3) (by omega)).trans (h2583)))
            have h2952 := (n2936 (B + 4) (by omega)).trans ((n2932 (B + 4) (by omega)).trans ((hf2567.1 (B + 4) (by omega)).trans (h2584)))
            have h2955 := (n2936 (B + 5) (by omega)).trans ((n2932 (B + 5) (by omega)).trans ((hf2567.1 (B + 5) (by omega)).trans (h2585)))
            have h2956 := (n2936 498 (by decide)).trans ((n2932 498 (by decide)).trans ((hf2567.1 498 (by omega)).trans (h2577)))
            have h2957 := (n2936 499 (by decide)).trans ((n2932 499 (by decide)).trans ((hf2567.1 499 (by omega)).trans (h2578)))
            have h2958 := (n2936 500 (by decide)).trans ((n2932 500 (by decide)).trans ((hf2567.1 500 (by omega)).trans (h2579)))
            have hb2953 : C_bk S2934 B rc kc wc rn lo kn ab := ⟨h2938, h2949, h2950, h2951, h2952, ⟨f, h2955, hf⟩, ⟨by omega, by omega⟩, ⟨by omega, by omega⟩, ⟨by omega, by omega⟩⟩
            have hc2954 : 0 ≤ c2571 ∧ c2571 < n := by omega
            refine Or.inr ⟨?_, 2, pl cur, (c2571, rc, kc, wc, rn, lo, kn, ab, (X_ug D wc d2572), (X_ug W wc q2573)), by omega, ⟨h2935, ⟨h2948, h2956, h2957, h2958⟩, hb2953, hs2939, hc2954⟩, (((((X_Fr.rf).tr (X_Fr.of n2525 e2526 (by omega))).tr (X_Fr.mono ⟨hf2556.1, hf2556.2⟩ (fun q hq => (by omega)))).tr (X_Fr.mono ⟨hf2567.1, hf2567.2⟩ (fun q hq => (by omega)))).tr (X_Fr.of n2932 e2933 (by omega))).tr (X_Fr.of n2936 e2937 (by omega))⟩
            (repeat (first | unfold sp_wk | unfold sp_wb | unfold sp_we | rw [hsp2569] | (rw [Option.bind_some]; dsimp only) | rw [Option.bind_none] | rw [if_pos (by assumption)] | rw [if_neg (by assumption)]))
            all_goals first | rfl | ((repeat' split) <;> first | rfl | (exfalso; omega))
      · skip
        rw [hv2563]
        have hs_c2571 := hso c2571 (by omega) (by omega)
        obtain ⟨⟨_, _⟩, ⟨_, _⟩, ⟨_, _⟩, ⟨_, _⟩, ⟨_, _⟩, ⟨_, _⟩, ⟨_, _⟩, ⟨_, _⟩⟩ := id hr2568
        show X_T sc 75 (114, [(3, .int (iI (pl cur))), (2, .ref a), (1, .int (iI rk)), (0, .ref 496)], [.int (iI 0)], S2561) _
        refine T_zif_nef xr_75_114 (t := 118) (pc' := 117) rfl rfl (by decide) ?_
        refine T_vret xr_75_117 xf_75.2.2 ?_
        refine hQ _ _ ?_
        have h2959 := (hf2567.1 B (by omega)).trans (h2580)
        have hs2960 : C_ws S2561 B (X_ug D wc d2572) (X_ug W wc q2573) := C_ws.upd2 (P := fun r => r = 496 ∨ r = 497 ∨ r = B ∨ (a ≤ r ∧ r ≤ a + 7)) hs ((((X_Fr.rf).tr (X_Fr.of n2525 e2526 (by omega))).tr (X_Fr.mono ⟨hf2556.1, hf2556.2⟩ (fun q hq => (by omega)))).tr (X_Fr.mono ⟨hf2567.1, hf2567.2⟩ (fun q hq => (by omega)))) haa (fun r h1 h2 h3 => by omega) (by omega) ⟨hw2566.1, hw2566.2.1, hw2566.2.2.1, hw2566.2.2.2.1, hw2566.2.2.2.2.1, hw2566.2.2.2.2.2.1, hw2566.2.2.2.2.2.2.1, hw2566.2.2.2.2.2.2.2⟩ hr2568
        have h2961 := (hf2567.1 (B + 1) (by omega)).trans (h2581)
        have h2962 := (hf2567.1 (B + 2) (by omega)).trans (h2582)
        have h2963 := (hf2567.1 (B + 3) (by omega)).trans (h2583)
        have h2964 := (hf2567.1 (B + 4) (by omega)).trans (h2584)
        have h2967 := (hf2567.1 (B + 5) (by omega)).trans (h2585)
        have h2968 := (hf2567.1 498 (by omega)).trans (h2577)
        have h2969 := (hf2567.1 499 (by omega)).trans (h2578)
        have h2970 := (hf2567.1 500 (by omega)).trans (h2579)
        have hb2965 : C_bk S2561 B rc kc wc rn lo kn ab := ⟨h2959, h2961, h2962, h2963, h2964, ⟨f, h2967, hf⟩, ⟨by omega, by omega⟩, ⟨by omega, by omega⟩, ⟨by omega, by omega⟩⟩
        have hc2966 : 0 ≤ c2571 ∧ c2571 < n := by omega
        refine Or.inr ⟨?_, fl2574, fp2575, (c2571, rc, kc, wc, rn, lo, kn, ab, (X_ug D wc d2572), (X_ug W wc q2573)), by omega, ⟨hp2564, ⟨hl2565, h2968, h2969, h2970⟩, hb2965, hs2960, hc2966⟩, (((X_Fr.rf).tr (X_Fr.of n2525 e2526 (by omega))).tr (X_Fr.mono ⟨hf2556.1, hf2556.2⟩ (fun q hq => (by omega)))).tr (X_Fr.mono ⟨hf2567.1, hf2567.2⟩ (fun q hq => (by omega)))⟩
        (repeat (first | unfold sp_wk | unfold sp_wb | unfold sp_we | rw [hsp2569] | (rw [Option.bind_some]; dsimp only) | rw [Option.bind_none] | rw [if_pos (by assumption)] | rw [if_neg (by assumption)]))
        all_goals first | rfl | ((repeat' split) <;> first | rfl | (exfalso; omega))
    · skip
      rw [hv2548]
      show X_T sc 75 (106, [(3, .int (iI (pl cur))), (2, .ref a), (1, .int (iI rk)), (0, .ref 496)], [.int (iI 0)], S2552) _
      refine T_zif_eqt xr_75_106 (t := 117) rfl (by decide) ?_
      refine T_vret xr_75_117 xf_75.2.2 ?_
      refine hQ _ _ ?_
      have h2971 := (hf2556.1 B (by omega)).trans ((n2525 B (by omega)).trans (hb0))
      have h2973 := (hf2556.1 a (by omega)).trans (h2536)
      have h2974 := (hf2556.1 (a + 1) (by omega)).trans (hw2528.2.1)
      have h2975 := (hf2556.1 (a + 2) (by omega)).trans (hw2528.2.2.1)
      have h2976 := (hf2556.1 (a + 3) (by omega)).trans (hw2528.2.2.2.1)
      have h2977 := (hf2556.1 (a + 4) (by omega)).trans (hw2528.2.2.2.2.1)
      have h2978 := (hf2556.1 (a + 5) (by omega)).trans (hw2528.2.2.2.2.2.1)
      have h2979 := (hf2556.1 (a + 6) (by omega)).trans (hw2528.2.2.2.2.2.2.1)
      have h2980 := (hf2556.1 (a + 7) (by omega)).trans (hw2528.2.2.2.2.2.2.2)
      have hs2972 : C_ws S2552 B (X_ug D wc (X_wu (D wc) 2 (fun _ => kd))) (X_ug W wc (W wc)) := C_ws.upd2 (P := fun r => r = 496 ∨ r = 497 ∨ r = B ∨ (a ≤ r ∧ r ≤ a + 7)) hs (((X_Fr.rf).tr (X_Fr.of n2525 e2526 (by omega))).tr (X_Fr.mono ⟨hf2556.1, hf2556.2⟩ (fun q hq => (by omega)))) haa (fun r h1 h2 h3 => by omega) (by omega) ⟨h2973, h2974, h2975, h2976, h2977, h2978, h2979, h2980⟩ hr2527
      have h2981 := (hf2556.1 (B + 1) (by omega)).trans ((n2525 (B + 1) (by omega)).trans (hb1))
      have h2982 := (hf2556.1 (B + 2) (by omega)).trans ((n2525 (B + 2) (by omega)).trans (hb2))
      have h2983 := (hf2556.1 (B + 3) (by omega)).trans ((n2525 (B + 3) (by omega)).trans (hb3))
      have h2984 := (hf2556.1 (B + 4) (by omega)).trans ((n2525 (B + 4) (by omega)).trans (hb4))
      have h2987 := (hf2556.1 (B + 5) (by omega)).trans ((n2525 (B + 5) (by omega)).trans (hb5))
      have h2988 := (hf2556.1 498 (by omega)).trans (h2539)
      have h2989 := (hf2556.1 499 (by omega)).trans (h2540)
      have h2990 := (hf2556.1 500 (by omega)).trans (h2541)
      have hb2985 : C_bk S2552 B rc kc wc rn lo kn ab := ⟨h2971, h2981, h2982, h2983, h2984, ⟨f, h2987, hf⟩, ⟨by omega, by omega⟩, ⟨by omega, by omega⟩, ⟨by omega, by omega⟩⟩
      have hc2986 : 0 ≤ cur ∧ cur < n := by omega
      refine Or.inr ⟨?_, fl2557, fp2558, (cur, rc, kc, wc, rn, lo, kn, ab, (X_ug D wc (X_wu (D wc) 2 (fun _ => kd))), (X_ug W wc (W wc))), by omega, ⟨hp2554, ⟨hl2555, h2988, h2989, h2990⟩, hb2985, hs2972, hc2986⟩, ((X_Fr.rf).tr (X_Fr.of n2525 e2526 (by omega))).tr (X_Fr.mono ⟨hf2556.1, hf2556.2⟩ (fun q hq => (by omega)))⟩
      (repeat (first | unfold sp_wk | unfold sp_wb | unfold sp_we | (rw [Option.bind_some]; dsimp only) | rw [Option.bind_none] | rw [if_pos (by assumption)] | rw [if_neg (by assumption)]))
      all_goals first | rfl | ((repeat' split) <;> first | rfl | (exfalso; omega))
theorem c_parseWord (sc : X_Sc) (S : X_S) (B : Nat) (fp at_ n : Int) (so pl : Int → Int) (ct : Int → Int64) (cur rc kc wc : Int) (rn : Int → Int64) (lo : Int → Int) (kn : Int → Int64) (ab : Int → Int) (D : Int → Nat → Int → Int) (W : Int → Int → Int64) (hB : 4 ≤ B ∧ B + 246 ≤ 496) (hn : n ≤ 2001) (hso : ∀ i, 0 ≤ i → i < n → 0 ≤ so i ∧ so i ≤ 255) (hK : C_K S B 0 fp at_ n so pl ct (cur, rc, kc, wc, rn, lo, kn, ab, D, W)) : X_T sc 75 (0, [(0, .ref 496)], [], S) (fun v S' => (∃ K, sp_word n so ct (cur, rc, kc, wc, rn, lo, kn, ab, D, W) = some K ∧ ∃ fp', C_K S' B 0 fp' at_ n so pl ct K ∧ X_Fr (fun q => q = 496 ∨ q = 497 ∨ (B ≤ q ∧ q < B + 246)) S S') ∨ (sp_word n so ct (cur, rc, kc, wc, rn, lo, kn, ab, D, W) = none ∧ ∃ fl' fp' K, (¬ fl' = 0 ∧ 0 ≤ fl' ∧ fl' ≤ 5) ∧ C_K S' B fl' fp' at_ n so pl ct K ∧ X_Fr (fun q => q = 496 ∨ q = 497 ∨ (B ≤ q ∧ q < B + 246)) S S')) := by
  obtain ⟨hp, hx, hb, hs, hcu⟩ := id hK
  simp only at hx hb hs hcu
  obtain ⟨hb0, hb1, hb2, hb3, hb4, ⟨f, hb5, hf⟩, ⟨hrc, hrcb⟩, ⟨hkc, hkcb⟩, ⟨hwc, hwcb⟩⟩ := id hb
  refine X_QI (fun Q hQ => ?_)
  refine T_p xr_75_0 xn_75 (pc' := 1) (ls' := [(0, .ref 496)]) (st' := [.ref 496]) rfl ?_
  refine T_get xr_75_1 hp rfl (v := .ref B) rfl (pc' := 4) rfl ?_
  refine T_get xr_75_4 hb0 rfl (v := .int (iI wc)) rfl (pc' := 7) rfl ?_
  refine T_p xr_75_7 xn_75 (pc' := 9) (ls' := [(0, .ref 496)]) (st' := [.int (iI 30), .int (iI wc)]) rfl ?_
  refine T_zicmp_ne xr_75_9 (t := 17) (pc' := 12) rfl rfl (fun c2991 => ?_) (fun c2991 => ?_)
  · skip
    have c2991 : ¬ wc = 30 := c2991
    refine T_p xr_75_17 xn_75 (pc' := 18) (ls' := [(0, .ref 496)]) (st' := [.ref 496]) rfl ?_
    refine T_get xr_75_18 hp rfl (v := .ref 497) rfl (pc' := 21) rfl ?_
    refine T_cv (S := S) (q := 497) xr_75_21 xf_52.1 xf_52.2.1 xn_52 (as := []) (r := []) rfl hx.1 (Nat.le_of_ble_eq_true rfl) (Nat.le_of_ble_eq_true rfl) (pc' := 24) rfl (ls' := [(0, .ref 497)]) rfl ?_
    refine T_mono (c_advance sc S at_ n cur so pl ct ⟨hx.1, hx.2.1, hx.2.2.1, hx.2.2.2⟩ (by omega)) (fun v2993 S2994 h2992 => ?_)
    obtain ⟨h2995, h2997, h2996⟩ := h2992
    rw [h2995]
    show X_T sc 75 (24, [(0, .ref 496)], [], S2994) _
    have hv2998 := X_av_r (n := n) (c := cur) (by omega)
    refine T_p xr_75_24 xn_75 (pc' := 25) (ls' := [(0, .ref 496)]) (st' := [.ref 496]) rfl ?_
    have h2999 := (h2996.1 496 (by omega)).trans (hp)
    refine T_cv (S := S2994) (q := 496) xr_75_25 xf_72.1 xf_72.2.1 xn_72 (as := []) (r := []) rfl h2999 (Nat.le_of_ble_eq_true rfl) (Nat.le_of_ble_eq_true rfl) (pc' := 28) rfl (ls' := [(0, .ref 496)]) rfl ?_
    have h3000 := (h2996.1 498 (by omega)).trans (hx.2.1)
    have h3001 := (h2996.1 499 (by omega)).trans (hx.2.2.1)
    have h3002 := (h2996.1 500 (by omega)).trans (hx.2.2.2)
    have h3003 := (h2996.1 B (by omega)).trans (hb0)
    have h3004 := (h2996.1 (B + 1) (by omega)).trans (hb1)
    have h3010 := (h2996.1 (B + 2) (by omega)).trans (hb2)
    have h3011 := (h2996.1 (B + 3) (by omega)).trans (hb3)
    have h3012 := (h2996.1 (B + 4) (by omega)).trans (hb4)
    have h3013 := (h2996.1 (B + 5) (by omega)).trans (hb5)
    have hb3014 : C_bk S2994 B rc kc wc rn lo kn ab := ⟨h3003, h3004, h3010, h3011, h3012, ⟨f, h3013, hf⟩, ⟨by omega, by omega⟩, ⟨by omega, by omega⟩, ⟨by omega, by omega⟩⟩
    refine T_mono (c_passRank sc S2994 B 0 fp at_ n (X_av n cur) so pl ct rc kc wc rn lo kn ab h2999 ⟨h2997, h3000, h3001, h3002⟩ (by omega) hso hB hb3014) (fun v3016 S3017 h3018 => ?_)
    rcases h3018 with ⟨h3005, h3006, h3007, h3008, hp3019, hl3020, hf3021⟩ | ⟨h3005, h3009, ⟨fl3022, fp3023, hn3024, hp3019⟩, hl3020, hf3021⟩
    · skip
      rw [h3005]
      have hv3015 := X_av_r (n := n) (c := (X_av n cur)) (by omega)
      show X_T sc 75 (28, [(0, .ref 496)], [.int (iI (X_ix rn rc (ct (X_av n cur))))], S3017) _
      refine T_p xr_75_28 xn_75 (pc' := 29) (ls' := [(1, .int (iI (X_ix rn rc (ct (X_av n cur))))), (0, .ref 496)]) (st' := []) rfl ?_
      refine T_p xr_75_29 xn_75 (pc' := 30) (ls' := [(1, .int (iI (X_ix rn rc (ct (X_av n cur))))), (0, .ref 496)]) (st' := [.int (iI (X_ix rn rc (ct (X_av n cur))))]) rfl ?_
      refine T_p xr_75_30 xn_75 (pc' := 31) (ls' := [(1, .int (iI (X_ix rn rc (ct (X_av n cur))))), (0, .ref 496)]) (st' := [.int (iI (-1)), .int (iI (X_ix rn rc (ct (X_av n cur))))]) rfl ?_
      refine T_zicmp_ne xr_75_31 (t := 35) (pc' := 34) rfl rfl (fun c3025 => ?_) (fun c3025 => ?_)
      · skip
        have c3025 : ¬ (X_ix rn rc (ct (X_av n cur))) = (-1) := c3025
        refine T_p xr_75_35 xn_75 (pc' := 36) (ls' := [(1, .int (iI (X_ix rn rc (ct (X_av n cur))))), (0, .ref 496)]) (st' := [.ref 496]) rfl ?_
        refine T_get xr_75_36 hp3019 rfl (v := .ref B) rfl (pc' := 39) rfl ?_
        have h3026 := (hf3021.1 B (by omega)).trans (h3003)
        refine T_get xr_75_39 h3026 rfl (v := .ref (B + 5)) rfl (pc' := 42) rfl ?_
        refine T_p xr_75_42 xn_75 (pc' := 43) (ls' := [(1, .int (iI (X_ix rn rc (ct (X_av n cur))))), (0, .ref 496)]) (st' := [.ref 496, .ref (B + 5)]) rfl ?_
        refine T_get xr_75_43 hp3019 rfl (v := .ref B) rfl (pc' := 46) rfl ?_
        refine T_get xr_75_46 h3026 rfl (v := .int (iI wc)) rfl (pc' := 49) rfl ?_
        have h3027 := (hf3021.1 (B + 5) (by omega)).trans (h3013)
        have hs3028 : C_ws S3017 B D W := C_ws.fr (P := fun r => ¬ (B + 6 ≤ r ∧ r < B + 246)) hs (((X_Fr.rf).tr (X_Fr.mono ⟨h2996.1, h2996.2⟩ (fun q hq => (by omega)))).tr (X_Fr.mono ⟨hf3021.1, hf3021.2⟩ (fun q hq => (by omega)))) (fun k h1 h2 => by omega)
        have hwa := hs3028 wc (by omega) (by omega)
        obtain ⟨a, haa⟩ : ∃ z : Nat, z = B + 6 + 8 * (wc : Int).toNat := ⟨_, rfl⟩
        rw [← haa] at hwa
        obtain ⟨⟨_, _⟩, ⟨_, _⟩, ⟨_, _⟩, ⟨_, _⟩, ⟨_, _⟩, ⟨_, _⟩, ⟨_, _⟩, ⟨_, _⟩⟩ := id hwa.2
        refine T_zaald xr_75_49 h3027 (w := a) (by rw [haa]; exact hf _ (by omega)) (pc' := 50) rfl ?_
        refine T_p xr_75_50 xn_75 (pc' := 51) (ls' := [(2, .ref a), (1, .int (iI (X_ix rn rc (ct (X_av n cur))))), (0, .ref 496)]) (st' := []) rfl ?_
        refine T_p xr_75_51 xn_75 (pc' := 52) (ls' := [(2, .ref a), (1, .int (iI (X_ix rn rc (ct (X_av n cur))))), (0, .ref 496)]) (st' := [.ref a]) rfl ?_
        refine T_p xr_75_52 xn_75 (pc' := 53) (ls' := [(2, .ref a), (1, .int (iI (X_ix rn rc (ct (X_av n cur))))), (0, .ref 496)]) (st' := [.int (iI (X_ix rn rc (ct (X_av n cur)))), .ref a]) rfl ?_
        refine T_cv (S := S3017) (q := a) xr_75_53 xf_95.1 xf_95.2.1 xn_95 (as := [.int (iI (X_ix rn rc (ct (X_av n cur))))]) (r := []) rfl hwa.1.1 (Nat.le_of_ble_eq_true rfl) (Nat.le_of_ble_eq_true rfl) (pc' := 56) rfl (ls' := [(0, .ref a), (1, .int (iI (X_ix rn rc (ct (X_av n cur)))))]) rfl ?_
        have hr3038 : X_wr (X_clr (D wc) (X_ix rn rc (ct (X_av n cur)))) := X_wr_clr (by omega)
        refine T_mono (c_clearw sc S3017 a (D wc) (W wc) (X_ix rn rc (ct (X_av n cur))) ⟨hwa.1.1, hwa.1.2.1, hwa.1.2.2.1, hwa.1.2.2.2.1, hwa.1.2.2.2.2.1, hwa.1.2.2.2.2.2.1, hwa.1.2.2.2.2.2.2.1, hwa.1.2.2.2.2.2.2.2⟩ hwa.2 ) (fun v3032 S3033 h3034 => ?_)
        obtain ⟨h3035, hw3036, hf3037⟩ := h3034
        rw [h3035]
        have hw3036 : C_wd S3033 a (X_clr (D wc) (X_ix rn rc (ct (X_av n cur)))) (W wc) := hw3036
        show X_T sc 75 (56, [(2, .ref a), (1, .int (iI (X_ix rn rc (ct (X_av n cur))))), (0, .ref 496)], [], S3033) _
        refine T_p xr_75_56 xn_75 (pc' := 57) (ls' := [(2, .ref a), (1, .int (iI (X_ix rn rc (ct (X_av n cur))))), (0, .ref 496)]) (st' := [.ref 496]) rfl ?_
        refine T_p xr_75_57 xn_75 (pc' := 58) (ls' := [(2, .ref a), (1, .int (iI (X_ix rn rc (ct (X_av n cur))))), (0, .ref 496)]) (st' := [.ref a, .ref 496]) rfl ?_
        have h3039 := (hf3037.1 496 (by omega)).trans (hp3019)
        refine T_cv (S := S3033) (q := 496) xr_75_58 xf_76.1 xf_76.2.1 xn_76 (as := [.ref a]) (r := []) rfl h3039 (Nat.le_of_ble_eq_true rfl) (Nat.le_of_ble_eq_true rfl) (pc' := 61) rfl (ls' := [(0, .ref 496), (1, .ref a)]) rfl ?_
        have h3049 := (hf3037.1 497 (by omega)).trans (hl3020)
        have h3050 := (hf3037.1 498 (by omega)).trans ((hf3021.1 498 (by omega)).trans (h3000))
        have h3051 := (hf3037.1 499 (by omega)).trans ((hf3021.1 499 (by omega)).trans (h3001))
        have h3052 := (hf3037.1 500 (by omega)).trans ((hf3021.1 500 (by omega)).trans (h3002))
        have h3053 := (hf3037.1 B (by omega)).trans (h3026)
        have h3054 := (hf3037.1 (B + 1) (by omega)).trans ((hf3021.1 (B + 1) (by omega)).trans (h3004))
        have h3055 := (hf3037.1 (B + 2) (by omega)).trans ((hf3021.1 (B + 2) (by omega)).trans (h3010))
        have h3056 := (hf3037.1 (B + 3) (by omega)).trans ((hf3021.1 (B + 3) (by omega)).trans (h3011))
        have h3057 := (hf3037.1 (B + 4) (by omega)).trans ((hf3021.1 (B + 4) (by omega)).trans (h3012))
        have h3058 := (hf3037.1 (B + 5) (by omega)).trans (h3027)
        have hb3059 : C_bk S3033 B rc kc wc rn lo kn ab := ⟨h3053, h3054, h3055, h3056, h3057, ⟨f, h3058, hf⟩, ⟨by omega, by omega⟩, ⟨by omega, by omega⟩, ⟨by omega, by omega⟩⟩
        refine T_mono (c_parseLean sc S3033 B 0 fp at_ n (X_av n (X_av n cur)) so pl ct rc kc wc rn lo kn ab a (X_clr (D wc) (X_ix rn rc (ct (X_av n cur)))) (W wc) hB (by omega) h3039 ⟨h3049, h3050, h3051, h3052⟩ (by omega) hso hb3059 ⟨hw3036.1, hw3036.2.1, hw3036.2.2.1, hw3036.2.2.2.1, hw3036.2.2.2.2.1, hw3036.2.2.2.2.2.1, hw3036.2.2.2.2.2.2.1, hw3036.2.2.2.2.2.2.2⟩ hr3038) (fun v3040 S3041 h3042 => ?_)
        obtain ⟨hv3043, hp3044, hl3045, hw3046, hf3047⟩ := h3042
        rw [hv3043]
        have hw3046 : C_wd S3041 a (X_wu (X_clr (D wc) (X_ix rn rc (ct (X_av n cur)))) 1 (fun _ => X_lnV so ct (X_av n (X_av n cur)) 0)) (W wc) := hw3046
        have hr3048 : X_wr (X_wu (X_clr (D wc) (X_ix rn rc (ct (X_av n cur)))) 1 (fun _ => X_lnV so ct (X_av n (X_av n cur)) 0)) := X_wr_1 hr3038 (X_lnV_r (by omega))
        have hc3060 := X_lnC_r (n := n) (so := so) (ct := ct) (c := (X_av n (X_av n cur))) (by omega)
        show X_T sc 75 (61, [(2, .ref a), (1, .int (iI (X_ix rn rc (ct (X_av n cur))))), (0, .ref 496)], [], S3041) _
        refine T_p xr_75_61 xn_75 (pc' := 62) (ls' := [(2, .ref a), (1, .int (iI (X_ix rn rc (ct (X_av n cur))))), (0, .ref 496)]) (st' := [.ref a]) rfl ?_
        refine T_p xr_75_62 xn_75 (pc' := 63) (ls' := [(2, .ref a), (1, .int (iI (X_ix rn rc (ct (X_av n cur))))), (0, .ref 496)]) (st' := [.ref 496, .ref a]) rfl ?_
        refine T_get xr_75_63 hp3044 rfl (v := .ref 497) rfl (pc' := 66) rfl ?_
        refine T_cv (S := S3041) (q := 497) xr_75_66 xf_48.1 xf_48.2.1 xn_48 (as := []) (r := [.ref a]) rfl hl3045 (Nat.le_of_ble_eq_true rfl) (Nat.le_of_ble_eq_true rfl) (pc' := 69) rfl (ls' := [(0, .ref 497)]) rfl ?_
        have h3061 := (hf3047.1 498 (by omega)).trans (h3050)
        have h3062 := (hf3047.1 499 (by omega)).trans (h3051)
        have h3063 := (hf3047.1 500 (by omega)).trans (h3052)
        refine T_mono (c_sort sc S3041 at_ n (X_lnC n so ct (X_av n (X_av n cur))) so pl ct ⟨hl3045, h3061, h3062, h3063⟩ (by omega)) (fun v3065 S3066 h3064 => ?_)
        obtain ⟨h3067, h3068⟩ := h3064
        rw [h3067, h3068]
        show X_T sc 75 (69, [(2, .ref a), (1, .int (iI (X_ix rn rc (ct (X_av n cur))))), (0, .ref 496)], [.int (iI (so (X_lnC n so ct (X_av n (X_av n cur))))), .ref a], S3041) _
        have hs3069 := hso (X_lnC n so ct (X_av n (X_av n cur))) (by omega) (by omega)
        refine T_p xr_75_69 xn_75 (pc' := 70) (ls' := [(2, .ref a), (1, .int (iI (X_ix rn rc (ct (X_av n cur))))), (0, .ref 496)]) (st' := [.int (iI 2), .int (iI (so (X_lnC n so ct (X_av n (X_av n cur))))), .ref a]) rfl ?_
        refine T_zicmp_ne xr_75_70 (t := 80) (pc' := 73) rfl rfl (fun c3070 => ?_) (fun c3070 => ?_)
        · skip
          have c3070 : ¬ (so (X_lnC n so ct (X_av n (X_av n cur)))) = 2 := c3070
          refine T_p xr_75_80 xn_75 (pc' := 81) (ls' := [(2, .ref a), (1, .int (iI (X_ix rn rc (ct (X_av n cur))))), (0, .ref 496)]) (st' := [.int (iI 0), .ref a]) rfl ?_
          have h3071 := (hf3047.1 B (by omega)).trans (h3053)
          have hs3072 : C_ws S3041 B (X_ug D wc (X_wu (X_clr (D wc) (X_ix rn rc (ct (X_av n cur)))) 1 (fun _ => X_lnV so ct (X_av n (X_av n cur)) 0))) (X_ug W wc (W wc)) := C_ws.upd2 (P := fun r => r = 496 ∨ r = 497 ∨ r = B ∨ (a ≤ r ∧ r ≤ a + 7)) hs3028 (((X_Fr.rf).tr (X_Fr.mono ⟨hf3037.1, hf3037.2⟩ (fun q hq => (by omega)))).tr (X_Fr.mono ⟨hf3047.1, hf3047.2⟩ (fun q hq => (by omega)))) haa (fun r h1 h2 h3 => by omega) (by omega) ⟨hw3046.1, hw3046.2.1, hw3046.2.2.1, hw3046.2.2.2.1, hw3046.2.2.2.2.1, hw3046.2.2.2.2.2.1, hw3046.2.2.2.2.2.2.1, hw3046.2.2.2.2.2.2.2⟩ hr3048
          have h3073 := (hf3047.1 (B + 1) (by omega)).trans (h3054)
          have h3074 := (hf3047.1 (B + 2) (by omega)).trans (h3055)
          have h3075 := (hf3047.1 (B + 3) (by omega)).trans (h3056)
          have h3076 := (hf3047.1 (B + 4) (by omega)).trans (h3057)
          have h3079 := (hf3047.1 (B + 5) (by omega)).trans (h3058)
          have hb3077 : C_bk S3041 B rc kc wc rn lo kn ab := ⟨h3071, h3073, h3074, h3075, h3076, ⟨f, h3079, hf⟩, ⟨by omega, by omega⟩, ⟨by omega, by omega⟩, ⟨by omega, by omega⟩⟩
          have hc3078 : 0 ≤ (X_lnC n so ct (X_av n (X_av n cur))) ∧ (X_lnC n so ct (X_av n (X_av n cur))) < n := by omega
          skip
          refine T_mono (c_pwT sc S3041 B fp at_ n so pl ct (X_lnC n so ct (X_av n (X_av n cur))) rc kc wc rn lo kn ab (X_ug D wc (X_wu (X_clr (D wc) (X_ix rn rc (ct (X_av n cur)))) 1 (fun _ => X_lnV so ct (X_av n (X_av n cur)) 0))) (X_ug W wc (W wc)) a (X_ix rn rc (ct (X_av n cur))) 0 hB hn hso ⟨hp3044, ⟨hl3045, h3061, h3062, h3063⟩, hb3077, hs3072, hc3078⟩ (by omega) (by omega) haa) (fun v3080 S3081 h3082 => hQ _ _ ?_)
          rw [X_ug_s, X_ug_s] at h3082
          simp only [X_ug_ug] at h3082
          rcases h3082 with ⟨r3084, hsp3085, fp3086, hK3087, hf3088⟩ | ⟨hsp3085, fl3089, fp3086, K3091, hn3090, hK3087, hf3088⟩
          · refine Or.inl ⟨_, ?_, fp3086, hK3087, ((((((X_Fr.rf).tr (X_Fr.mono ⟨h2996.1, h2996.2⟩ (fun q hq => (by omega)))).tr (X_Fr.mono ⟨hf3021.1, hf3021.2⟩ (fun q hq => (by omega)))).tr (X_Fr.mono ⟨hf3037.1, hf3037.2⟩ (fun q hq => (by omega)))).tr (X_Fr.mono ⟨hf3047.1, hf3047.2⟩ (fun q hq => (by omega)))).tr hf3088)⟩
            simp only [sp_word]
            (repeat (first | unfold sp_wk | rw [if_pos (by assumption)] | rw [if_neg (by assumption)]))
            first | exact congrArg (fun o => Option.bind o _) hsp3085 | (refine (congrArg (fun o => Option.bind o _) hsp3085).trans ?_; rfl)
          · refine Or.inr ⟨?_, fl3089, fp3086, K3091, hn3090, hK3087, ((((((X_Fr.rf).tr (X_Fr.mono ⟨h2996.1, h2996.2⟩ (fun q hq => (by omega)))).tr (X_Fr.mono ⟨hf3021.1, hf3021.2⟩ (fun q hq => (by omega)))).tr (X_Fr.mono ⟨hf3037.1, hf3037.2⟩ (fun q hq => (by omega)))).tr (X_Fr.mono ⟨hf3047.1, hf3047.2⟩ (fun q hq => (by omega)))).tr hf3088)⟩
            simp only [sp_word]
            (repeat (first | unfold sp_wk | rw [if_pos (by assumption)] | rw [if_neg (by assumption)]))
            first | exact congrArg (fun o => Option.bind o _) hsp3085 | (refine (congrArg (fun o => Option.bind o _) hsp3085).trans ?_; rfl)
        · skip
          have c3070 : ¬ (¬ (so (X_lnC n so ct (X_av n (X_av n cur)))) = 2) := c3070
          refine T_p xr_75_73 xn_75 (pc' := 74) (ls' := [(2, .ref a), (1, .int (iI (X_ix rn rc (ct (X_av n cur))))), (0, .ref 496)]) (st' := [.ref 496, .ref a]) rfl ?_
          refine T_cv (S := S3041) (q := 496) xr_75_74 xf_73.1 xf_73.2.1 xn_73 (as := []) (r := [.ref a]) rfl hp3044 (Nat.le_of_ble_eq_true rfl) (Nat.le_of_ble_eq_true rfl) (pc' := 77) rfl (ls' := [(0, .ref 496)]) rfl ?_
          have h3092 := (hf3047.1 B (by omega)).trans (h3053)
          have h3093 := (hf3047.1 (B + 3) (by omega)).trans (h3056)
          have h3099 := (hf3047.1 (B + 1) (by omega)).trans (h3054)
          have h3100 := (hf3047.1 (B + 2) (by omega)).trans (h3055)
          have h3101 := (hf3047.1 (B + 4) (by omega)).trans (h3057)
          have h3102 := (hf3047.1 (B + 5) (by omega)).trans (h3058)
          have hb3103 : C_bk S3041 B rc kc wc rn lo kn ab := ⟨h3092, h3099, h3100, h3093, h3101, ⟨f, h3102, hf⟩, ⟨by omega, by omega⟩, ⟨by omega, by omega⟩, ⟨by omega, by omega⟩⟩
          refine T_mono (c_passKind sc S3041 B 0 fp at_ n (X_lnC n so ct (X_av n (X_av n cur))) so pl ct rc kc wc rn lo kn ab hp3044 ⟨hl3045, h3061, h3062, h3063⟩ (by omega) hso hB hb3103) (fun v3105 S3106 h3107 => ?_)
          rcases h3107 with ⟨h3094, h3095, h3096, h3097, hp3108, hl3109, hf3110⟩ | ⟨h3094, h3098, ⟨fl3111, fp3112, hn3113, hp3108⟩, hl3109, hf3110⟩
          · skip
            rw [h3094]
            have hv3104 := X_av_r (n := n) (c := (X_lnC n so ct (X_av n (X_av n cur)))) (by omega)
            show X_T sc 75 (77, [(2, .ref a), (1, .int (iI (X_ix rn rc (ct (X_av n cur))))), (0, .ref 496)], [.int (iI (X_ix kn kc (ct (X_lnC n so ct (X_av n (X_av n cur)))))), .ref a], S3106) _
            refine T_p xr_75_77 xn_75 (pc' := 81) (ls' := [(2, .ref a), (1, .int (iI (X_ix rn rc (ct (X_av n cur))))), (0, .ref 496)]) (st' := [.int (iI (X_ix kn kc (ct (X_lnC n so ct (X_av n (X_av n cur)))))), .ref a]) rfl ?_
            have h3114 := (hf3110.1 B (by omega)).trans (h3092)
            have h3116 := (hf3110.1 a (by omega)).trans (hw3046.1)
            have h3117 := (hf3110.1 (a + 1) (by omega)).trans (hw3046.2.1)
            have h3118 := (hf3110.1 (a + 2) (by omega)).trans (hw3046.2.2.1)
            have h3119 := (hf3110.1 (a + 3) (by omega)).trans (hw3046.2.2.2.1)
            have h3120 := (hf3110.1 (a + 4) (by omega)).trans (hw3046.2.2.2.2.1)
            have h3121 := (hf3110.1 (a + 5) (by omega)).trans (hw3046.2.2.2.2.2.1)
            have h3122 := (hf3110.1 (a + 6) (by omega)).trans (hw3046.2.2.2.2.2.2.1)
            have h3123 := (hf3110.1 (a + 7) (by omega)).trans (hw3046.2.2.2.2.2.2.2)
            have hs3115 : C_ws S3106 B (X_ug D wc (X_wu (X_clr (D wc) (X_ix rn rc (ct (X_av n cur)))) 1 (fun _ => X_lnV so ct (X_av n (X_av n cur)) 0))) (X_ug W wc (W wc)) := C_ws.upd2 (P := fun r => r = 496 ∨ r = 497 ∨ r = B ∨ (a ≤ r ∧ r ≤ a + 7)) hs3028 ((((X_Fr.rf).tr (X_Fr.mono ⟨hf3037.1, hf3037.2⟩ (fun q hq => (by omega)))).tr (X_Fr.mono ⟨hf3047.1, hf3047.2⟩ (fun q hq => (by omega)))).tr (X_Fr.mono ⟨hf3110.1, hf3110.2⟩ (fun q hq => (by omega)))) haa (fun r h1 h2 h3 => by omega) (by omega) ⟨h3116, h3117, h3118, h3119, h3120, h3121, h3122, h3123⟩ hr3048
            have h3124 := (hf3110.1 (B + 1) (by omega)).trans (h3099)
            have h3125 := (hf3110.1 (B + 2) (by omega)).trans (h3100)
            have h3126 := (hf3110.1 (B + 3) (by omega)).trans (h3093)
            have h3127 := (hf3110.1 (B + 4) (by omega)).trans (h3101)
            have h3130 := (hf3110.1 (B + 5) (by omega)).trans (h3102)
            have h3131 := (hf3110.1 498 (by omega)).trans (h3061)
            have h3132 := (hf3110.1 499 (by omega)).trans (h3062)
            have h3133 := (hf3110.1 500 (by omega)).trans (h3063)
            have hb3128 : C_bk S3106 B rc kc wc rn lo kn ab := ⟨h3114, h3124, h3125, h3126, h3127, ⟨f, h3130, hf⟩, ⟨by omega, by omega⟩, ⟨by omega, by omega⟩, ⟨by omega, by omega⟩⟩
            have hc3129 : 0 ≤ (X_av n (X_lnC n so ct (X_av n (X_av n cur)))) ∧ (X_av n (X_lnC n so ct (X_av n (X_av n cur)))) < n := by omega
            skip
            refine T_mono (c_pwT sc S3106 B fp at_ n so pl ct (X_av n (X_lnC n so ct (X_av n (X_av n cur)))) rc kc wc rn lo kn ab (X_ug D wc (X_wu (X_clr (D wc) (X_ix rn rc (ct (X_av n cur)))) 1 (fun _ => X_lnV so ct (X_av n (X_av n cur)) 0))) (X_ug W wc (W wc)) a (X_ix rn rc (ct (X_av n cur))) (X_ix kn kc (ct (X_lnC n so ct (X_av n (X_av n cur))))) hB hn hso ⟨hp3108, ⟨hl3109, h3131, h3132, h3133⟩, hb3128, hs3115, hc3129⟩ (by omega) (by omega) haa) (fun v3134 S3135 h3136 => hQ _ _ ?_)
            rw [X_ug_s, X_ug_s] at h3136
            simp only [X_ug_ug] at h3136
            rcases h3136 with ⟨r3138, hsp3139, fp3140, hK3141, hf3142⟩ | ⟨hsp3139, fl3143, fp3140, K3145, hn3144, hK3141, hf3142⟩
            · refine Or.inl ⟨_, ?_, fp3140, hK3141, (((((((X_Fr.rf).tr (X_Fr.mono ⟨h2996.1, h2996.2⟩ (fun q hq => (by omega)))).tr (X_Fr.mono ⟨hf3021.1, hf3021.2⟩ (fun q hq => (by omega)))).tr (X_Fr.mono ⟨hf3037.1, hf3037.2⟩ (fun q hq => (by omega)))).tr (X_Fr.mono ⟨hf3047.1, hf3047.2⟩ (fun q hq => (by omega)))).tr (X_Fr.mono ⟨hf3110.1, hf3110.2⟩ (fun q hq => (by omega)))).tr hf3142)⟩
              simp only [sp_word]
              (repeat (first | unfold sp_wk | rw [if_pos (by assumption)] | rw [if_neg (by assumption)]))
              first | exact congrArg (fun o => Option.bind o _) hsp3139 | (refine (congrArg (fun o => Option.bind o _) hsp3139).trans ?_; rfl)
            · refine Or.inr ⟨?_, fl3143, fp3140, K3145, hn3144, hK3141, (((((((X_Fr.rf).tr (X_Fr.mono ⟨h2996.1, h2996.2⟩ (fun q hq => (by omega)))).tr (X_Fr.mono ⟨hf3021.1, hf3021.2⟩ (fun q hq => (by omega)))).tr (X_Fr.mono ⟨hf3037.1, hf3037.2⟩ (fun q hq => (by omega)))).tr (X_Fr.mono ⟨hf3047.1, hf3047.2⟩ (fun q hq => (by omega)))).tr (X_Fr.mono ⟨hf3110.1, hf3110.2⟩ (fun q hq => (by omega)))).tr hf3142)⟩
              simp only [sp_word]
              (repeat (first | unfold sp_wk | rw [if_pos (by assumption)] | rw [if_neg (by assumption)]))
              first | exact congrArg (fun o => Option.bind o _) hsp3139 | (refine (congrArg (fun o => Option.bind o _) hsp3139).trans ?_; rfl)
          · skip
            rw [h3094]
            show X_T sc 75 (77, [(2, .ref a), (1, .int (iI (X_ix rn rc (ct (X_av n cur))))), (0, .ref 496)], [.int (iI (-1)), .ref a], S3106) _
            refine T_p xr_75_77 xn_75 (pc' := 81) (ls' := [(2, .ref a), (1, .int (iI (X_ix rn rc (ct (X_av n cur))))), (0, .ref 496)]) (st' := [.int (iI (-1)), .ref a]) rfl ?_
            have h3146 := (hf3110.1 a (by omega)).trans (hw3046.1)
            refine T_put xr_75_81 h3146 rfl (Nat.le_of_ble_eq_true rfl) rfl (fs' := [.int (iI ((X_wu (X_clr (D wc) (X_ix rn rc (ct (X_av n cur)))) 1 (fun _ => X_lnV so ct (X_av n (X_av n cur)) 0)) 0 0)), .int (iI ((X_wu (X_clr (D wc) (X_ix rn rc (ct (X_av n cur)))) 1 (fun _ => X_lnV so ct (X_av n (X_av n cur)) 0)) 1 0)), .int (iI (-1)), .int (iI ((X_wu (X_clr (D wc) (X_ix rn rc (ct (X_av n cur)))) 1 (fun _ => X_lnV so ct (X_av n (X_av n cur)) 0)) 3 0)), .int (iI ((X_wu (X_clr (D wc) (X_ix rn rc (ct (X_av n cur)))) 1 (fun _ => X_lnV so ct (X_av n (X_av n cur)) 0)) 4 0)), .int (iI ((X_wu (X_clr (D wc) (X_ix rn rc (ct (X_av n cur)))) 1 (fun _ => X_lnV so ct (X_av n (X_av n cur)) 0)) 5 0)), .int (iI ((X_wu (X_clr (D wc) (X_ix rn rc (ct (X_av n cur)))) 1 (fun _ => X_lnV so ct (X_av n (X_av n cur)) 0)) 6 0)), .int (iI ((X_wu (X_clr (D wc) (X_ix rn rc (ct (X_av n cur)))) 1 (fun _ => X_lnV so ct (X_av n (X_av n cur)) 0)) 7 0)), .ref (a + 1), .ref (a + 2), .ref (a + 3), .ref (a + 4), .ref (a + 5), .ref (a + 6), .ref (a + 7)]) rfl (pc' := 84) rfl (fun S3147 h3148 n3149 e3150 => ?_)
            have hr3151 : X_wr (X_wu (X_wu (X_clr (D wc) (X_ix rn rc (ct (X_av n cur)))) 1 (fun _ => X_lnV so ct (X_av n (X_av n cur)) 0)) 2 (fun _ => (-1))) := X_wr_2 hr3048 (by omega)
            have h3153 := (n3149 (a + 1) (by omega)).trans ((hf3110.1 (a + 1) (by omega)).trans (hw3046.2.1))
            have h3154 := (n3149 (a + 2) (by omega)).trans ((hf3110.1 (a + 2) (by omega)).trans (hw3046.2.2.1))
            have h3155 := (n3149 (a + 3) (by omega)).trans ((hf3110.1 (a + 3) (by omega)).trans (hw3046.2.2.2.1))
            have h3156 := (n3149 (a + 4) (by omega)).trans ((hf3110.1 (a + 4) (by omega)).trans (hw3046.2.2.2.2.1))
            have h3157 := (n3149 (a + 5) (by omega)).trans ((hf3110.1 (a + 5) (by omega)).trans (hw3046.2.2.2.2.2.1))
            have h3158 := (n3149 (a + 6) (by omega)).trans ((hf3110.1 (a + 6) (by omega)).trans (hw3046.2.2.2.2.2.2.1))
            have h3159 := (n3149 (a + 7) (by omega)).trans ((hf3110.1 (a + 7) (by omega)).trans (hw3046.2.2.2.2.2.2.2))
            have hw3152 : C_wd S3147 a (X_wu (X_wu (X_clr (D wc) (X_ix rn rc (ct (X_av n cur)))) 1 (fun _ => X_lnV so ct (X_av n (X_av n cur)) 0)) 2 (fun _ => (-1))) (W wc) := ⟨h3148, h3153, h3154, h3155, h3156, h3157, h3158, h3159⟩
            have h3160 : S3147.1 a = .inr (8, [.int (iI ((X_wu (X_wu (X_clr (D wc) (X_ix rn rc (ct (X_av n cur)))) 1 (fun _ => X_lnV so ct (X_av n (X_av n cur)) 0)) 2 (fun _ => (-1))) 0 0)), .int (iI ((X_wu (X_wu (X_clr (D wc) (X_ix rn rc (ct (X_av n cur)))) 1 (fun _ => X_lnV so ct (X_av n (X_av n cur)) 0)) 2 (fun _ => (-1))) 1 0)), .int (iI (-1)), .int (iI ((X_wu (X_wu (X_clr (D wc) (X_ix rn rc (ct (X_av n cur)))) 1 (fun _ => X_lnV so ct (X_av n (X_av n cur)) 0)) 2 (fun _ => (-1))) 3 0)), .int (iI ((X_wu (X_wu (X_clr (D wc) (X_ix rn rc (ct (X_av n cur)))) 1 (fun _ => X_lnV so ct (X_av n (X_av n cur)) 0)) 2 (fun _ => (-1))) 4 0)), .int (iI ((X_wu (X_wu (X_clr (D wc) (X_ix rn rc (ct (X_av n cur)))) 1 (fun _ => X_lnV so ct (X_av n (X_av n cur)) 0)) 2 (fun _ => (-1))) 5 0)), .int (iI ((X_wu (X_wu (X_clr (D wc) (X_ix rn rc (ct (X_av n cur)))) 1 (fun _ => X_lnV so ct (X_av n (X_av n cur)) 0)) 2 (fun _ => (-1))) 6 0)), .int (iI ((X_wu (X_wu (X_clr (D wc) (X_ix rn rc (ct (X_av n cur)))) 1 (fun _ => X_lnV so ct (X_av n (X_av n cur)) 0)) 2 (fun _ => (-1))) 7 0)), .ref (a + 1), .ref (a + 2), .ref (a + 3), .ref (a + 4), .ref (a + 5), .ref (a + 6), .ref (a + 7)]) := hw3152.1
            refine T_p xr_75_84 xn_75 (pc' := 85) (ls' := [(2, .ref a), (1, .int (iI (X_ix rn rc (ct (X_av n cur))))), (0, .ref 496)]) (st' := [.ref 496]) rfl ?_
            have h3161 := (n3149 496 (by omega)).trans (hp3108)
            refine T_get xr_75_85 h3161 rfl (v := .ref 497) rfl (pc' := 88) rfl ?_
            have h3162 := (n3149 497 (by omega)).trans (hl3109)
            refine T_cv (S := S3147) (q := 497) xr_75_88 xf_49.1 xf_49.2.1 xn_49 (as := []) (r := []) rfl h3162 (Nat.le_of_ble_eq_true rfl) (Nat.le_of_ble_eq_true rfl) (pc' := 91) rfl (ls' := [(0, .ref 497)]) rfl ?_
            have h3163 := (n3149 498 (by omega)).trans ((hf3110.1 498 (by omega)).trans (h3061))
            have h3164 := (n3149 499 (by omega)).trans ((hf3110.1 499 (by omega)).trans (h3062))
            have h3165 := (n3149 500 (by omega)).trans ((hf3110.1 500 (by omega)).trans (h3063))
            refine T_mono (c_place sc S3147 at_ n (X_lnC n so ct (X_av n (X_av n cur))) so pl ct ⟨h3162, h3163, h3164, h3165⟩ (by omega)) (fun v3167 S3168 h3166 => ?_)
            obtain ⟨h3169, h3170⟩ := h3166
            rw [h3169, h3170]
            show X_T sc 75 (91, [(2, .ref a), (1, .int (iI (X_ix rn rc (ct (X_av n cur))))), (0, .ref 496)], [.int (iI (pl (X_lnC n so ct (X_av n (X_av n cur)))))], S3147) _
            refine T_p xr_75_91 xn_75 (pc' := 92) (ls' := [(3, .int (iI (pl (X_lnC n so ct (X_av n (X_av n cur)))))), (2, .ref a), (1, .int (iI (X_ix rn rc (ct (X_av n cur))))), (0, .ref 496)]) (st' := []) rfl ?_
            refine T_p xr_75_92 xn_75 (pc' := 93) (ls' := [(3, .int (iI (pl (X_lnC n so ct (X_av n (X_av n cur)))))), (2, .ref a), (1, .int (iI (X_ix rn rc (ct (X_av n cur))))), (0, .ref 496)]) (st' := [.ref a]) rfl ?_
            refine T_get xr_75_93 h3160 rfl (v := .int (iI (-1))) rfl (pc' := 96) rfl ?_
            refine T_p xr_75_96 xn_75 (pc' := 97) (ls' := [(3, .int (iI (pl (X_lnC n so ct (X_av n (X_av n cur)))))), (2, .ref a), (1, .int (iI (X_ix rn rc (ct (X_av n cur))))), (0, .ref 496)]) (st' := [.int (iI (-1)), .int (iI (-1))]) rfl ?_
            refine T_zicmp_eqt xr_75_97 (t := 117) rfl (by decide) ?_
            refine T_vret xr_75_117 xf_75.2.2 ?_
            refine hQ _ _ ?_
            have h3171 := (n3149 B (by omega)).trans ((hf3110.1 B (by omega)).trans (h3092))
            have hs3172 : C_ws S3147 B (X_ug D wc (X_wu (X_wu (X_clr (D wc) (X_ix rn rc (ct (X_av n cur)))) 1 (fun _ => X_lnV so ct (X_av n (X_av n cur)) 0)) 2 (fun _ => (-1)))) (X_ug W wc (W wc)) := C_ws.upd2 (P := fun r => r = 496 ∨ r = 497 ∨ r = B ∨ (a ≤ r ∧ r ≤ a + 7)) hs3028 (((((X_Fr.rf).tr (X_Fr.mono ⟨hf3037.1, hf3037.2⟩ (fun q hq => (by omega)))).tr (X_Fr.mono ⟨hf3047.1, hf3047.2⟩ (fun q hq => (by omega)))).tr (X_Fr.mono ⟨hf3110.1, hf3110.2⟩ (fun q hq => (by omega)))).tr (X_Fr.of n3149 e3150 (by omega))) haa (fun r h1 h2 h3 => by omega) (by omega) ⟨h3160, hw3152.2.1, hw3152.2.2.1, hw3152.2.2.2.1, hw3152.2.2.2.2.1, hw3152.2.2.2.2.2.1, hw3152.2.2.2.2.2.2.1, hw3152.2.2.2.2.2.2.2⟩ hr3151
            have h3173 := (n3149 (B + 1) (by omega)).trans ((hf3110.1 (B + 1) (by omega)).trans (h3099))
            have h3174 := (n3149 (B + 2) (by omega)).trans ((hf3110.1 (B + 2) (by omega)).trans (h3100))
            have h3175 := (n3149 (B + 3) (by omega)).trans ((hf3110.1 (B + 3) (by omega)).trans (h3093))
            have h3176 := (n3149 (B + 4) (by omega)).trans ((hf3110.1 (B + 4) (by omega)).trans (h3101))
            have h3179 := (n3149 (B + 5) (by omega)).trans ((hf3110.1 (B + 5) (by omega)).trans (h3102))
            have hb3177 : C_bk S3147 B rc kc wc rn lo kn ab := ⟨h3171, h3173, h3174, h3175, h3176, ⟨f, h3179, hf⟩, ⟨by omega, by omega⟩, ⟨by omega, by omega⟩, ⟨by omega, by omega⟩⟩
            have hc3178 : 0 ≤ (X_lnC n so ct (X_av n (X_av n cur))) ∧ (X_lnC n so ct (X_av n (X_av n cur))) < n := by omega
            refine Or.inr ⟨?_, fl3111, fp3112, ((X_lnC n so ct (X_av n (X_av n cur))), rc, kc, wc, rn, lo, kn, ab, (X_ug D wc (X_wu (X_wu (X_clr (D wc) (X_ix rn rc (ct (X_av n cur)))) 1 (fun _ => X_lnV so ct (X_av n (X_av n cur)) 0)) 2 (fun _ => (-1)))), (X_ug W wc (W wc))), by omega, ⟨h3161, ⟨h3162, h3163, h3164, h3165⟩, hb3177, hs3172, hc3178⟩, ((((((X_Fr.rf).tr (X_Fr.mono ⟨h2996.1, h2996.2⟩ (fun q hq => (by omega)))).tr (X_Fr.mono ⟨hf3021.1, hf3021.2⟩ (fun q hq => (by omega)))).tr (X_Fr.mono ⟨hf3037.1, hf3037.2⟩ (fun q hq => (by omega)))).tr (X_Fr.mono ⟨hf3047.1, hf3047.2⟩ (fun q hq => (by omega)))).tr (X_Fr.mono ⟨hf3110.1, hf3110.2⟩ (fun q hq => (by omega)))).tr (X_Fr.of n3149 e3150 (by omega))⟩
            simp only [sp_word]
            unfold sp_wk
            (repeat (first | rw [if_pos (by assumption)] | rw [if_neg (by assumption)]))
            all_goals first | rfl | ((repeat' split) <;> first | rfl | (exfalso; omega))
      · skip
        have c3025 : ¬ (¬ (X_ix rn rc (ct (X_av n cur))) = (-1)) := c3025
        exact (show False by first | contradiction | omega).elim
    · skip
      rw [h3005]
      show X_T sc 75 (28, [(0, .ref 496)], [.int (iI (-1))], S3017) _
      refine T_p xr_75_28 xn_75 (pc' := 29) (ls' := [(1, .int (iI (-1))), (0, .ref 496)]) (st' := []) rfl ?_
      refine T_p xr_75_29 xn_75 (pc' := 30) (ls' := [(1, .int (iI (-1))), (0, .ref 496)]) (st' := [.int (iI (-1))]) rfl ?_
      refine T_p xr_75_30 xn_75 (pc' := 31) (ls' := [(1, .int (iI (-1))), (0, .ref 496)]) (st' := [.int (iI (-1)), .int (iI (-1))]) rfl ?_
      refine T_zicmp_nef xr_75_31 (t := 35) (pc' := 34) rfl rfl (by decide) ?_
      refine T_vret xr_75_34 xf_75.2.2 ?_
      refine hQ _ _ ?_
      have h3180 := (hf3021.1 B (by omega)).trans (h3003)
      have hs3181 : C_ws S3017 B D W := C_ws.fr (P := fun r => ¬ (B + 6 ≤ r ∧ r < B + 246)) hs (((X_Fr.rf).tr (X_Fr.mono ⟨h2996.1, h2996.2⟩ (fun q hq => (by omega)))).tr (X_Fr.mono ⟨hf3021.1, hf3021.2⟩ (fun q hq => (by omega)))) (fun k h1 h2 => by omega)
      have h3182 := (hf3021.1 (B + 1) (by omega)).trans (h3004)
      have h3183 := (hf3021.1 (B + 2) (by omega)).trans (h3010)
      have h3184 := (hf3021.1 (B + 3) (by omega)).trans (h3011)
      have h3185 := (hf3021.1 (B + 4) (by omega)).trans (h3012)
      have h3188 := (hf3021.1 (B + 5) (by omega)).trans (h3013)
      have h3189 := (hf3021.1 498 (by omega)).trans (h3000)
      have h3190 := (hf3021.1 499 (by omega)).trans (h3001)
      have h3191 := (hf3021.1 500 (by omega)).trans (h3002)
      have hb3186 : C_bk S3017 B rc kc wc rn lo kn ab := ⟨h3180, h3182, h3183, h3184, h3185, ⟨f, h3188, hf⟩, ⟨by omega, by omega⟩, ⟨by omega, by omega⟩, ⟨by omega, by omega⟩⟩
      have hc3187 : 0 ≤ (X_av n cur) ∧ (X_av n cur) < n := by omega
      refine Or.inr ⟨?_, fl3022, fp3023, ((X_av n cur), rc, kc, wc, rn, lo, kn, ab, D, W), by omega, ⟨hp3019, ⟨hl3020, h3189, h3190, h3191⟩, hb3186, hs3181, hc3187⟩, ((X_Fr.rf).tr (X_Fr.mono ⟨h2996.1, h2996.2⟩ (fun q hq => (by omega)))).tr (X_Fr.mono ⟨hf3021.1, hf3021.2⟩ (fun q hq => (by omega)))⟩
      simp only [sp_word]
      (repeat (first | rw [if_pos (by assumption)] | rw [if_neg (by assumption)]))
      all_goals first | rfl | ((repeat' split) <;> first | rfl | (exfalso; omega))
  · skip
    have c2991 : ¬ (¬ wc = 30) := c2991
    refine T_p xr_75_12 xn_75 (pc' := 13) (ls' := [(0, .ref 496)]) (st' := [.ref 496]) rfl ?_
    refine T_cv (S := S) (q := 496) xr_75_13 xf_67.1 xf_67.2.1 xn_67 (as := []) (r := []) rfl hp (Nat.le_of_ble_eq_true rfl) (Nat.le_of_ble_eq_true rfl) (pc' := 16) rfl (ls' := [(0, .ref 496)]) rfl ?_
    refine T_mono (c_refuse sc S B 0 fp at_ n cur so pl ct hp ⟨hx.1, hx.2.1, hx.2.2.1, hx.2.2.2⟩ (by omega) hso) (fun v3192 S3193 h3194 => ?_)
    obtain ⟨h3195, ⟨fl3196, fp3197, hn3198, hp3199⟩, hf3200⟩ := h3194
    rw [h3195]
    show X_T sc 75 (16, [(0, .ref 496)], [], S3193) _
    refine T_vret xr_75_16 xf_75.2.2 ?_
    refine hQ _ _ ?_
    have h3201 := (hf3200.1 B (by omega)).trans (hb0)
    have hs3202 : C_ws S3193 B D W := C_ws.fr (P := fun r => ¬ (B + 6 ≤ r ∧ r < B + 246)) hs ((X_Fr.rf).tr (X_Fr.mono ⟨hf3200.1, hf3200.2⟩ (fun q hq => (by omega)))) (fun k h1 h2 => by omega)
    have h3203 := (hf3200.1 497 (by omega)).trans (hx.1)
    have h3204 := (hf3200.1 (B + 1) (by omega)).trans (hb1)
    have h3205 := (hf3200.1 (B + 2) (by omega)).trans (hb2)
    have h3206 := (hf3200.1 (B + 3) (by omega)).trans (hb3)
    have h3207 := (hf3200.1 (B + 4) (by omega)).trans (hb4)
    have h3210 := (hf3200.1 (B + 5) (by omega)).trans (hb5)
    have h3211 := (hf3200.1 498 (by omega)).trans (hx.2.1)
    have h3212 := (hf3200.1 499 (by omega)).trans (hx.2.2.1)
    have h3213 := (hf3200.1 500 (by omega)).trans (hx.2.2.2)
    have hb3208 : C_bk S3193 B rc kc wc rn lo kn ab := ⟨h3201, h3204, h3205, h3206, h3207, ⟨f, h3210, hf⟩, ⟨by omega, by omega⟩, ⟨by omega, by omega⟩, ⟨by omega, by omega⟩⟩
    have hc3209 : 0 ≤ cur ∧ cur < n := by omega
    refine Or.inr ⟨?_, fl3196, fp3197, (cur, rc, kc, wc, rn, lo, kn, ab, D, W), by omega, ⟨hp3199, ⟨h3203, h3211, h3212, h3213⟩, hb3208, hs3202, hc3209⟩, (X_Fr.rf).tr (X_Fr.mono ⟨hf3200.1, hf3200.2⟩ (fun q hq => (by omega)))⟩
    simp only [sp_word]
    (repeat (first | rw [if_pos (by assumption)] | rw [if_neg (by assumption)]))
    all_goals first | rfl | ((repeat' split) <;> first | rfl | (exfalso; omega))
