theorem xr_71_0 : X_row 71 0 = some (0, (.aload_n 0, 1), (0, 0, 0)) := by decide +kernel
theorem xr_71_1 : X_row 71 1 = some (1, (.getfield 27, 3), (4, 1, 20)) := by decide +kernel
theorem xr_71_4 : X_row 71 4 = some (4, (.getfield 131, 3), (0, 2, 15)) := by decide +kernel
theorem xr_71_7 : X_row 71 7 = some (7, (.bipush 30, 2), (0, 0, 0)) := by decide +kernel
theorem xr_71_9 : X_row 71 9 = some (9, (.if_icmp .ne 8, 3), (0, 0, 0)) := by decide +kernel
theorem xr_71_12 : X_row 71 12 = some (12, (.aload_n 0, 1), (0, 0, 0)) := by decide +kernel
theorem xr_71_13 : X_row 71 13 = some (13, (.invokevirtual 67, 3), (63, 12, 0)) := by decide +kernel
theorem xr_71_16 : X_row 71 16 = some (16, (.return_, 1), (0, 0, 0)) := by decide +kernel
theorem xr_71_17 : X_row 71 17 = some (17, (.aload_n 0, 1), (0, 0, 0)) := by decide +kernel
theorem xr_71_18 : X_row 71 18 = some (18, (.getfield 23, 3), (4, 0, 18)) := by decide +kernel
theorem xr_71_21 : X_row 71 21 = some (21, (.invokevirtual 80, 3), (48, 18, 0)) := by decide +kernel
theorem xr_71_24 : X_row 71 24 = some (24, (.aload_n 0, 1), (0, 0, 0)) := by decide +kernel
theorem xr_71_25 : X_row 71 25 = some (25, (.invokevirtual 102, 3), (68, 30, 0)) := by decide +kernel
theorem xr_71_28 : X_row 71 28 = some (28, (.istore_n 1, 1), (0, 0, 0)) := by decide +kernel
theorem xr_71_29 : X_row 71 29 = some (29, (.iload_n 1, 1), (0, 0, 0)) := by decide +kernel
theorem xr_71_30 : X_row 71 30 = some (30, (.iconst (-1), 1), (0, 0, 0)) := by decide +kernel
theorem xr_71_31 : X_row 71 31 = some (31, (.if_icmp .ne 4, 3), (0, 0, 0)) := by decide +kernel
theorem xr_71_34 : X_row 71 34 = some (34, (.return_, 1), (0, 0, 0)) := by decide +kernel
theorem xr_71_35 : X_row 71 35 = some (35, (.aload_n 0, 1), (0, 0, 0)) := by decide +kernel
theorem xr_71_36 : X_row 71 36 = some (36, (.getfield 27, 3), (4, 1, 20)) := by decide +kernel
theorem xr_71_39 : X_row 71 39 = some (39, (.getfield 134, 3), (0, 7, 17)) := by decide +kernel
theorem xr_71_42 : X_row 71 42 = some (42, (.aload_n 0, 1), (0, 0, 0)) := by decide +kernel
theorem xr_71_43 : X_row 71 43 = some (43, (.getfield 27, 3), (4, 1, 20)) := by decide +kernel
theorem xr_71_46 : X_row 71 46 = some (46, (.getfield 131, 3), (0, 2, 15)) := by decide +kernel
theorem xr_71_49 : X_row 71 49 = some (49, (.aaload, 1), (0, 0, 0)) := by decide +kernel
theorem xr_71_50 : X_row 71 50 = some (50, (.astore_n 2, 1), (0, 0, 0)) := by decide +kernel
theorem xr_71_51 : X_row 71 51 = some (51, (.aload_n 2, 1), (0, 0, 0)) := by decide +kernel
theorem xr_71_52 : X_row 71 52 = some (52, (.iload_n 1, 1), (0, 0, 0)) := by decide +kernel
theorem xr_71_53 : X_row 71 53 = some (53, (.invokevirtual 138, 3), (90, 48, 0)) := by decide +kernel
theorem xr_71_56 : X_row 71 56 = some (56, (.aload_n 0, 1), (0, 0, 0)) := by decide +kernel
theorem xr_71_57 : X_row 71 57 = some (57, (.aload_n 2, 1), (0, 0, 0)) := by decide +kernel
theorem xr_71_58 : X_row 71 58 = some (58, (.invokevirtual 143, 3), (72, 50, 0)) := by decide +kernel
theorem xr_71_61 : X_row 71 61 = some (61, (.aload_n 2, 1), (0, 0, 0)) := by decide +kernel
theorem xr_71_62 : X_row 71 62 = some (62, (.aload_n 0, 1), (0, 0, 0)) := by decide +kernel
theorem xr_71_63 : X_row 71 63 = some (63, (.getfield 23, 3), (4, 0, 18)) := by decide +kernel
theorem xr_71_66 : X_row 71 66 = some (66, (.invokevirtual 39, 3), (44, 6, 0)) := by decide +kernel
theorem xr_71_69 : X_row 71 69 = some (69, (.iconst 2, 1), (0, 0, 0)) := by decide +kernel
theorem xr_71_70 : X_row 71 70 = some (70, (.if_icmp .ne 10, 3), (0, 0, 0)) := by decide +kernel
theorem xr_71_73 : X_row 71 73 = some (73, (.aload_n 0, 1), (0, 0, 0)) := by decide +kernel
theorem xr_71_74 : X_row 71 74 = some (74, (.invokevirtual 120, 3), (69, 42, 0)) := by decide +kernel
theorem xr_71_77 : X_row 71 77 = some (77, (.goto 4, 3), (0, 0, 0)) := by decide +kernel
theorem xr_71_80 : X_row 71 80 = some (80, (.iconst 0, 1), (0, 0, 0)) := by decide +kernel
theorem xr_71_81 : X_row 71 81 = some (81, (.putfield 147, 3), (8, 2, 3)) := by decide +kernel
theorem xr_71_84 : X_row 71 84 = some (84, (.aload_n 0, 1), (0, 0, 0)) := by decide +kernel
theorem xr_71_85 : X_row 71 85 = some (85, (.getfield 23, 3), (4, 0, 18)) := by decide +kernel
theorem xr_71_88 : X_row 71 88 = some (88, (.invokevirtual 73, 3), (45, 14, 0)) := by decide +kernel
theorem xr_71_91 : X_row 71 91 = some (91, (.istore_n 3, 1), (0, 0, 0)) := by decide +kernel
theorem xr_71_92 : X_row 71 92 = some (92, (.aload_n 2, 1), (0, 0, 0)) := by decide +kernel
theorem xr_71_93 : X_row 71 93 = some (93, (.getfield 147, 3), (8, 2, 3)) := by decide +kernel
theorem xr_71_96 : X_row 71 96 = some (96, (.iconst (-1), 1), (0, 0, 0)) := by decide +kernel
theorem xr_71_97 : X_row 71 97 = some (97, (.if_icmp .eq 20, 3), (0, 0, 0)) := by decide +kernel
theorem xr_71_100 : X_row 71 100 = some (100, (.aload_n 0, 1), (0, 0, 0)) := by decide +kernel
theorem xr_71_101 : X_row 71 101 = some (101, (.bipush 58, 2), (0, 0, 0)) := by decide +kernel
theorem xr_71_103 : X_row 71 103 = some (103, (.invokevirtual 98, 3), (64, 26, 0)) := by decide +kernel
theorem xr_71_106 : X_row 71 106 = some (106, (.ifCond .eq 11, 3), (0, 0, 0)) := by decide +kernel
theorem xr_71_109 : X_row 71 109 = some (109, (.aload_n 0, 1), (0, 0, 0)) := by decide +kernel
theorem xr_71_110 : X_row 71 110 = some (110, (.aload_n 2, 1), (0, 0, 0)) := by decide +kernel
theorem xr_71_111 : X_row 71 111 = some (111, (.invokevirtual 150, 3), (73, 52, 0)) := by decide +kernel
theorem xr_71_114 : X_row 71 114 = some (114, (.ifCond .ne 4, 3), (0, 0, 0)) := by decide +kernel
theorem xr_71_117 : X_row 71 117 = some (117, (.return_, 1), (0, 0, 0)) := by decide +kernel
theorem xr_71_118 : X_row 71 118 = some (118, (.aload_n 2, 1), (0, 0, 0)) := by decide +kernel
theorem xr_71_119 : X_row 71 119 = some (119, (.getfield 154, 3), (8, 1, 1)) := by decide +kernel
theorem xr_71_122 : X_row 71 122 = some (122, (.ifCond .eq 19, 3), (0, 0, 0)) := by decide +kernel
theorem xr_71_125 : X_row 71 125 = some (125, (.aload_n 2, 1), (0, 0, 0)) := by decide +kernel
theorem xr_71_126 : X_row 71 126 = some (126, (.invokevirtual 157, 3), (97, 60, 0)) := by decide +kernel
theorem xr_71_129 : X_row 71 129 = some (129, (.ifCond .eq 12, 3), (0, 0, 0)) := by decide +kernel
theorem xr_71_132 : X_row 71 132 = some (132, (.aload_n 0, 1), (0, 0, 0)) := by decide +kernel
theorem xr_71_133 : X_row 71 133 = some (133, (.iconst 2, 1), (0, 0, 0)) := by decide +kernel
theorem xr_71_134 : X_row 71 134 = some (134, (.iload_n 3, 1), (0, 0, 0)) := by decide +kernel
theorem xr_71_135 : X_row 71 135 = some (135, (.invokevirtual 76, 3), (62, 16, 0)) := by decide +kernel
theorem xr_71_138 : X_row 71 138 = some (138, (.goto 66, 3), (0, 0, 0)) := by decide +kernel
theorem xr_71_141 : X_row 71 141 = some (141, (.aload_n 2, 1), (0, 0, 0)) := by decide +kernel
theorem xr_71_142 : X_row 71 142 = some (142, (.getfield 161, 3), (8, 4, 7)) := by decide +kernel
theorem xr_71_145 : X_row 71 145 = some (145, (.aload_n 2, 1), (0, 0, 0)) := by decide +kernel
theorem xr_71_146 : X_row 71 146 = some (146, (.getfield 164, 3), (8, 3, 5)) := by decide +kernel
theorem xr_71_149 : X_row 71 149 = some (149, (.if_icmp .ne 10, 3), (0, 0, 0)) := by decide +kernel
theorem xr_71_152 : X_row 71 152 = some (152, (.aload_n 0, 1), (0, 0, 0)) := by decide +kernel
theorem xr_71_153 : X_row 71 153 = some (153, (.invokevirtual 67, 3), (63, 12, 0)) := by decide +kernel
theorem xr_71_156 : X_row 71 156 = some (156, (.goto 48, 3), (0, 0, 0)) := by decide +kernel
theorem xr_71_159 : X_row 71 159 = some (159, (.aload_n 0, 1), (0, 0, 0)) := by decide +kernel
theorem xr_71_160 : X_row 71 160 = some (160, (.getfield 23, 3), (4, 0, 18)) := by decide +kernel
theorem xr_71_163 : X_row 71 163 = some (163, (.invokevirtual 39, 3), (44, 6, 0)) := by decide +kernel
theorem xr_71_166 : X_row 71 166 = some (166, (.bipush 61, 2), (0, 0, 0)) := by decide +kernel
theorem xr_71_168 : X_row 71 168 = some (168, (.if_icmp .ne 14, 3), (0, 0, 0)) := by decide +kernel
theorem xr_71_171 : X_row 71 171 = some (171, (.aload_n 0, 1), (0, 0, 0)) := by decide +kernel
theorem xr_71_172 : X_row 71 172 = some (172, (.aload_n 2, 1), (0, 0, 0)) := by decide +kernel
theorem xr_71_173 : X_row 71 173 = some (173, (.invokevirtual 167, 3), (74, 62, 0)) := by decide +kernel
theorem xr_71_176 : X_row 71 176 = some (176, (.ifCond .eq 28, 3), (0, 0, 0)) := by decide +kernel
theorem xr_71_179 : X_row 71 179 = some (179, (.goto 12, 3), (0, 0, 0)) := by decide +kernel
theorem xr_71_182 : X_row 71 182 = some (182, (.aload_n 0, 1), (0, 0, 0)) := by decide +kernel
theorem xr_71_183 : X_row 71 183 = some (183, (.bipush 59, 2), (0, 0, 0)) := by decide +kernel
theorem xr_71_185 : X_row 71 185 = some (185, (.invokevirtual 98, 3), (64, 26, 0)) := by decide +kernel
theorem xr_71_188 : X_row 71 188 = some (188, (.ifCond .eq 16, 3), (0, 0, 0)) := by decide +kernel
theorem xr_71_191 : X_row 71 191 = some (191, (.aload_n 0, 1), (0, 0, 0)) := by decide +kernel
theorem xr_71_192 : X_row 71 192 = some (192, (.getfield 27, 3), (4, 1, 20)) := by decide +kernel
theorem xr_71_195 : X_row 71 195 = some (195, (.dup, 1), (0, 0, 0)) := by decide +kernel
theorem xr_71_196 : X_row 71 196 = some (196, (.getfield 131, 3), (0, 2, 15)) := by decide +kernel
theorem xr_71_199 : X_row 71 199 = some (199, (.iconst 1, 1), (0, 0, 0)) := by decide +kernel
theorem xr_71_200 : X_row 71 200 = some (200, (.iadd, 1), (0, 0, 0)) := by decide +kernel
theorem xr_71_201 : X_row 71 201 = some (201, (.putfield 131, 3), (0, 2, 15)) := by decide +kernel
theorem xr_71_204 : X_row 71 204 = some (204, (.return_, 1), (0, 0, 0)) := by decide +kernel
theorem xn_71 : X_nL 71 = 4 := by decide +kernel
theorem xf_71 : X_na 71 = 0 ∧ X_ci 71 = 4 ∧ X_rt 71 = none := by decide +kernel
def X_clr (d : Nat → Int → Int) (rk : Int) : Nat → Int → Int := X_wu (X_wu (X_wu (X_wu (X_wu (X_wu (X_wu (X_wu d 0 (fun _ => rk)) 1 (fun _ => 0)) 2 (fun _ => 0)) 3 (fun _ => 0)) 4 (fun _ => 0)) 5 (fun _ => -1)) 6 (fun _ => 0)) 7 (fun _ => 0)
theorem X_wr_clr {d : Nat → Int → Int} {rk : Int} (h : 0 ≤ rk ∧ rk ≤ 11) : X_wr (X_clr d rk) := ⟨h, (show (0 : Int) ≤ 0 ∧ (0 : Int) ≤ 2 by omega), (show (-1 : Int) ≤ 0 ∧ (0 : Int) ≤ 10 by omega), (show (0 : Int) ≤ 0 ∧ (0 : Int) ≤ 8 by omega), (show (0 : Int) ≤ 0 ∧ (0 : Int) ≤ 4 by omega), (show (-1 : Int) ≤ -1 ∧ (-1 : Int) ≤ 30 by omega), (show (0 : Int) ≤ 0 ∧ (0 : Int) ≤ 1 by omega), (show (-2147483648 : Int) ≤ 0 ∧ (0 : Int) ≤ 2147483647 by omega)⟩
theorem X_ug_ug {α : Type} (g : Int → α) (z : Int) (x y : α) : X_ug (X_ug g z x) z y = X_ug g z y := by
  funext k
  unfold X_ug
  split <;> rfl
theorem C_ws.upd2 {S S' : X_S} {B a : Nat} {D : Int → Nat → Int → Int} {W : Int → Int → Int64} {w : Int} {d' : Nat → Int → Int} {q' : Int → Int64} {P : Nat → Prop} (h : C_ws S B D W) (hf : X_Fr P S S') (ha : a = B + 6 + 8 * w.toNat) (hP : ∀ r, P r → B + 6 ≤ r → r < B + 246 → a ≤ r ∧ r ≤ a + 7) (h0 : 0 ≤ w) (hd : C_wd S' a d' q') (hr : X_wr d') : C_ws S' B (X_ug D w d') (X_ug W w q') := by
  intro v h1 h2
  by_cases hv : v = w
  · subst hv
    rw [X_ug_s, X_ug_s, ← ha]
    exact ⟨hd, hr⟩
  · rw [X_ug_n _ _ hv, X_ug_n _ _ hv]
    exact ⟨(h v h1 h2).1.fr hf (fun k hk z => by have := hP _ z (by omega) (by omega); omega), (h v h1 h2).2⟩
noncomputable def sp_we (n : Int) (so : Int → Int) (ct : Int → Int64) (c : Int) (d : Nat → Int → Int) (q : Int → Int64) : Option (Int × (Nat → Int → Int) × (Int → Int64)) :=
  if ¬ d 1 0 = 0 then (if X_en d q = 0 then none else if d 4 0 = d 3 0 then none else if so c = 61 then (sp_steps n so ct c d).bind fun r => some (r.1, r.2, q) else if so c = 59 then some (X_av n c, d, q) else none)
  else if d 4 0 = d 3 0 then none else if so c = 61 then (sp_steps n so ct c d).bind fun r => some (r.1, r.2, q) else if so c = 59 then some (X_av n c, d, q) else none
noncomputable def sp_wb (n : Int) (so : Int → Int) (ct : Int → Int64) (kn : Int → Int64) (kc : Int) (c : Int) (d : Nat → Int → Int) (q : Int → Int64) : Option (Int × (Nat → Int → Int) × (Int → Int64)) :=
  if so c = 58 then (sp_el n so ct kn kc 9 (X_av n c) d q).bind fun r => sp_we n so ct r.1 r.2.1 r.2.2 else none
noncomputable def sp_wk (n : Int) (so : Int → Int) (ct : Int → Int64) (kn : Int → Int64) (kc : Int) (c : Int) (d : Nat → Int → Int) (q : Int → Int64) : Option (Int × (Nat → Int → Int) × (Int → Int64)) :=
  if so c = 2 then (if X_ix kn kc (ct c) = -1 then none else sp_wb n so ct kn kc (X_av n c) (X_wu d 2 (fun _ => X_ix kn kc (ct c))) q) else sp_wb n so ct kn kc c (X_wu d 2 (fun _ => 0)) q
noncomputable def sp_word (n : Int) (so : Int → Int) (ct : Int → Int64) : X_Kp → Option X_Kp
  | (c, rc, kc, wc, rn, lo, kn, ab, D, W) =>
    if wc = 30 then none else if so (X_av n c) = 2 then (if X_ix rn rc (ct (X_av n c)) = -1 then none else
      (sp_wk n so ct kn kc (X_lnC n so ct (X_av n (X_av n c))) (X_wu (X_clr (D wc) (X_ix rn rc (ct (X_av n c)))) 1 (fun _ => X_lnV so ct (X_av n (X_av n c)) 0)) (W wc)).bind fun r =>
        some (r.1, rc, kc, wc + 1, rn, lo, kn, ab, X_ug D wc r.2.1, X_ug W wc r.2.2)) else none
theorem c_pwT (sc : X_Sc) (S : X_S) (B : Nat) (fp at_ n : Int) (so pl : Int → Int) (ct : Int → Int64) (cur rc kc wc : Int) (rn : Int → Int64) (lo : Int → Int) (kn : Int → Int64) (ab : Int → Int) (D : Int → Nat → Int → Int) (W : Int → Int → Int64) (a : Nat) (rk kd : Int) (hB : 4 ≤ B ∧ B + 246 ≤ 496) (hn : n ≤ 2001) (hso : ∀ i, 0 ≤ i → i < n → 0 ≤ so i ∧ so i ≤ 255) (hK : C_K S B 0 fp at_ n so pl ct (cur, rc, kc, wc, rn, lo, kn, ab, D, W)) (hkd : 0 ≤ kd ∧ kd < kc) (hwl : wc < 30) (haa : a = B + 6 + 8 * wc.toNat) : X_T sc 71 (81, [(2, .ref a), (1, .int (iI rk)), (0, .ref 496)], [.int (iI kd), .ref a], S) (fun v S' => (∃ r, sp_wb n so ct kn kc cur (X_wu (D wc) 2 (fun _ => kd)) (W wc) = some r ∧ ∃ fp', C_K S' B 0 fp' at_ n so pl ct (r.1, rc, kc, wc + 1, rn, lo, kn, ab, X_ug D wc r.2.1, X_ug W wc r.2.2) ∧ X_Fr (fun q => q = 496 ∨ q = 497 ∨ (B ≤ q ∧ q < B + 246)) S S') ∨ (sp_wb n so ct kn kc cur (X_wu (D wc) 2 (fun _ => kd)) (W wc) = none ∧ ∃ fl' fp' K, (¬ fl' = 0 ∧ 0 ≤ fl' ∧ fl' ≤ 5) ∧ C_K S' B fl' fp' at_ n so pl ct K ∧ X_Fr (fun q => q = 496 ∨ q = 497 ∨ (B ≤ q ∧ q < B + 246)) S S')) := by
  obtain ⟨hp, hx, hb, hs, hcu⟩ := id hK
  simp only at hx hb hs hcu
  obtain ⟨hb0, hb1, hb2, hb3, hb4, ⟨f, hb5, hf⟩, ⟨hrc, hrcb⟩, ⟨hkc, hkcb⟩, ⟨hwc, hwcb⟩⟩ := id hb
  have hwa := hs wc (by omega) (by omega)
  rw [← haa] at hwa
  obtain ⟨⟨_, _⟩, ⟨_, _⟩, ⟨_, _⟩, ⟨_, _⟩, ⟨_, _⟩, ⟨_, _⟩, ⟨_, _⟩, ⟨_, _⟩⟩ := id hwa.2
  refine X_QI (fun Q hQ => ?_)
  refine T_put xr_71_81 hwa.1.1 rfl (Nat.le_of_ble_eq_true rfl) rfl (fs' := [.int (iI ((D wc) 0 0)), .int (iI ((D wc) 1 0)), .int (iI kd), .int (iI ((D wc) 3 0)), .int (iI ((D wc) 4 0)), .int (iI ((D wc) 5 0)), .int (iI ((D wc) 6 0)), .int (iI ((D wc) 7 0)), .ref (a + 1), .ref (a + 2), .ref (a + 3), .ref (a + 4), .ref (a + 5), .ref (a + 6), .ref (a + 7)]) rfl (pc' := 84) rfl (fun S2422 h2423 n2424 e2425 => ?_)
  have hr2426 : X_wr (X_wu (D wc) 2 (fun _ => kd)) := X_wr_2 hwa.2 (by omega)
  have h2428 := (n2424 (a + 1) (by omega)).trans (hwa.1.2.1)
  have h2429 := (n2424 (a + 2) (by omega)).trans (hwa.1.2.2.1)
  have h2430 := (n2424 (a + 3) (by omega)).trans (hwa.1.2.2.2.1)
  have h2431 := (n2424 (a + 4) (by omega)).trans (hwa.1.2.2.2.2.1)
  have h2432 := (n2424 (a + 5) (by omega)).trans (hwa.1.2.2.2.2.2.1)
  have h2433 := (n2424 (a + 6) (by omega)).trans (hwa.1.2.2.2.2.2.2.1)
  have h2434 := (n2424 (a + 7) (by omega)).trans (hwa.1.2.2.2.2.2.2.2)
  have hw2427 : C_wd S2422 a (X_wu (D wc) 2 (fun _ => kd)) (W wc) := ⟨h2423, h2428, h2429, h2430, h2431, h2432, h2433, h2434⟩
  have h2435 : S2422.1 a = .inr (8, [.int (iI ((X_wu (D wc) 2 (fun _ => kd)) 0 0)), .int (iI ((X_wu (D wc) 2 (fun _ => kd)) 1 0)), .int (iI kd), .int (iI ((X_wu (D wc) 2 (fun _ => kd)) 3 0)), .int (iI ((X_wu (D wc) 2 (fun _ => kd)) 4 0)), .int (iI ((X_wu (D wc) 2 (fun _ => kd)) 5 0)), .int (iI ((X_wu (D wc) 2 (fun _ => kd)) 6 0)), .int (iI ((X_wu (D wc) 2 (fun _ => kd)) 7 0)), .ref (a + 1), .ref (a + 2), .ref (a + 3), .ref (a + 4), .ref (a + 5), .ref (a + 6), .ref (a + 7)]) := hw2427.1
  refine T_p xr_71_84 xn_71 (pc' := 85) (ls' := [(2, .ref a), (1, .int (iI rk)), (0, .ref 496)]) (st' := [.ref 496]) rfl ?_
  have h2436 := (n2424 496 (by omega)).trans (hp)
  refine T_get xr_71_85 h2436 rfl (v := .ref 497) rfl (pc' := 88) rfl ?_
  have h2437 := (n2424 497 (by omega)).trans (hx.1)
  refine T_cv (S := S2422) (q := 497) xr_71_88 xf_45.1 xf_45.2.1 xn_45 (as := []) (r := []) rfl h2437 (Nat.le_of_ble_eq_true rfl) (Nat.le_of_ble_eq_true rfl) (pc' := 91) rfl (ls' := [(0, .ref 497)]) rfl ?_
  have h2438 := (n2424 498 (by omega)).trans (hx.2.1)
  have h2439 := (n2424 499 (by omega)).trans (hx.2.2.1)
  have h2440 := (n2424 500 (by omega)).trans (hx.2.2.2)
  refine T_mono (c_place sc S2422 at_ n cur so pl ct ⟨h2437, h2438, h2439, h2440⟩ (by omega)) (fun v2442 S2443 h2441 => ?_)
  obtain ⟨h2444, h2445⟩ := h2441
  rw [h2444, h2445]
  show X_T sc 71 (91, [(2, .ref a), (1, .int (iI rk)), (0, .ref 496)], [.int (iI (pl cur))], S2422) _
  refine T_p xr_71_91 xn_71 (pc' := 92) (ls' := [(3, .int (iI (pl cur))), (2, .ref a), (1, .int (iI rk)), (0, .ref 496)]) (st' := []) rfl ?_
  refine T_p xr_71_92 xn_71 (pc' := 93) (ls' := [(3, .int (iI (pl cur))), (2, .ref a), (1, .int (iI rk)), (0, .ref 496)]) (st' := [.ref a]) rfl ?_
  refine T_get xr_71_93 h2435 rfl (v := .int (iI kd)) rfl (pc' := 96) rfl ?_
  refine T_p xr_71_96 xn_71 (pc' := 97) (ls' := [(3, .int (iI (pl cur))), (2, .ref a), (1, .int (iI rk)), (0, .ref 496)]) (st' := [.int (iI (-1)), .int (iI kd)]) rfl ?_
  refine T_zicmp_eq xr_71_97 (t := 117) (pc' := 100) rfl rfl (fun c2446 => ?_) (fun c2446 => ?_)
  · skip
    have c2446 : kd = (-1) := c2446
    exact (show False by omega).elim
  · skip
    have c2446 : ¬ (kd = (-1)) := c2446
    refine T_p xr_71_100 xn_71 (pc' := 101) (ls' := [(3, .int (iI (pl cur))), (2, .ref a), (1, .int (iI rk)), (0, .ref 496)]) (st' := [.ref 496]) rfl ?_
    refine T_p xr_71_101 xn_71 (pc' := 103) (ls' := [(3, .int (iI (pl cur))), (2, .ref a), (1, .int (iI rk)), (0, .ref 496)]) (st' := [.int (iI 58), .ref 496]) rfl ?_
    refine T_cv (S := S2422) (q := 496) xr_71_103 xf_64.1 xf_64.2.1 xn_64 (as := [.int (iI 58)]) (r := []) rfl h2436 (Nat.le_of_ble_eq_true rfl) (Nat.le_of_ble_eq_true rfl) (pc' := 106) rfl (ls' := [(0, .ref 496), (1, .int (iI 58))]) rfl ?_
    refine T_mono (c_pass sc S2422 B 0 fp at_ n cur so pl ct 58 h2436 ⟨h2437, h2438, h2439, h2440⟩ (by omega) hso (by omega)) (fun v2450 S2451 h2452 => ?_)
    rcases h2452 with ⟨hv2447, hc2448, hp2453, hl2454, hf2455⟩ | ⟨hv2447, hc2448, ⟨fl2456, fp2457, hn2458, hp2453⟩, hl2454, hf2455⟩
    · skip
      rw [hv2447]
      have hv2449 := X_av_r (n := n) (c := cur) (by omega)
      show X_T sc 71 (106, [(3, .int (iI (pl cur))), (2, .ref a), (1, .int (iI rk)), (0, .ref 496)], [.int (iI 1)], S2451) _
      refine T_zif_eqf xr_71_106 (t := 117) (pc' := 109) rfl rfl (by decide) ?_
      refine T_p xr_71_109 xn_71 (pc' := 110) (ls' := [(3, .int (iI (pl cur))), (2, .ref a), (1, .int (iI rk)), (0, .ref 496)]) (st' := [.ref 496]) rfl ?_
      refine T_p xr_71_110 xn_71 (pc' := 111) (ls' := [(3, .int (iI (pl cur))), (2, .ref a), (1, .int (iI rk)), (0, .ref 496)]) (st' := [.ref a, .ref 496]) rfl ?_
      refine T_cv (S := S2451) (q := 496) xr_71_111 xf_73.1 xf_73.2.1 xn_73 (as := [.ref a]) (r := []) rfl hp2453 (Nat.le_of_ble_eq_true rfl) (Nat.le_of_ble_eq_true rfl) (pc' := 114) rfl (ls' := [(0, .ref 496), (1, .ref a)]) rfl ?_
      have h2476 := (hf2455.1 498 (by omega)).trans (h2438)
      have h2477 := (hf2455.1 499 (by omega)).trans (h2439)
      have h2478 := (hf2455.1 500 (by omega)).trans (h2440)
      have h2479 := (hf2455.1 B (by omega)).trans ((n2424 B (by omega)).trans (hb0))
      have h2480 := (hf2455.1 (B + 1) (by omega)).trans ((n2424 (B + 1) (by omega)).trans (hb1))
      have h2481 := (hf2455.1 (B + 2) (by omega)).trans ((n2424 (B + 2) (by omega)).trans (hb2))
      have h2482 := (hf2455.1 (B + 3) (by omega)).trans ((n2424 (B + 3) (by omega)).trans (hb3))
      have h2483 := (hf2455.1 (B + 4) (by omega)).trans ((n2424 (B + 4) (by omega)).trans (hb4))
      have h2484 := (hf2455.1 (B + 5) (by omega)).trans ((n2424 (B + 5) (by omega)).trans (hb5))
      have hb2485 : C_bk S2451 B rc kc wc rn lo kn ab := ⟨h2479, h2480, h2481, h2482, h2483, ⟨f, h2484, hf⟩, ⟨by omega, by omega⟩, ⟨by omega, by omega⟩, ⟨by omega, by omega⟩⟩
      have h2486 := (hf2455.1 a (by omega)).trans (h2435)
      have h2487 := (hf2455.1 (a + 1) (by omega)).trans (hw2427.2.1)
      have h2488 := (hf2455.1 (a + 2) (by omega)).trans (hw2427.2.2.1)
      have h2489 := (hf2455.1 (a + 3) (by omega)).trans (hw2427.2.2.2.1)
      have h2490 := (hf2455.1 (a + 4) (by omega)).trans (hw2427.2.2.2.2.1)
      have h2491 := (hf2455.1 (a + 5) (by omega)).trans (hw2427.2.2.2.2.2.1)
      have h2492 := (hf2455.1 (a + 6) (by omega)).trans (hw2427.2.2.2.2.2.2.1)
      have h2493 := (hf2455.1 (a + 7) (by omega)).trans (hw2427.2.2.2.2.2.2.2)
      refine T_mono (c_parseElements sc S2451 B 0 fp at_ n (X_av n cur) so pl ct rc kc wc rn lo kn ab a (X_wu (D wc) 2 (fun _ => kd)) (W wc) hB (by omega) hp2453 ⟨hl2454, h2476, h2477, h2478⟩ (by omega) hso hb2485 ⟨h2486, h2487, h2488, h2489, h2490, h2491, h2492, h2493⟩ hr2426) (fun v2459 S2460 h2461 => ?_)
      rcases h2461 with ⟨hv2462, c2470, d2471, q2472, hsp2468, hp2463, hl2464, hc2469, hw2465, hr2467, hf2466⟩ | ⟨hv2462, hsp2468, ⟨fl2473, fp2474, hn2475, hp2463⟩, ⟨c2470, d2471, q2472, hl2464, hc2469, hw2465, hr2467⟩, hf2466⟩
      · skip
        rw [hv2462]
        have hs_c2470 := hso c2470 (by omega) (by omega)
        obtain ⟨⟨_, _⟩, ⟨_, _⟩, ⟨_, _⟩, ⟨_, _⟩, ⟨_, _⟩, ⟨_, _⟩, ⟨_, _⟩, ⟨_, _⟩⟩ := id hr2467
        show X_T sc 71 (114, [(3, .int (iI (pl cur))), (2, .ref a), (1, .int (iI rk)), (0, .ref 496)], [.int (iI 1)], S2460) _
        refine T_zif_net xr_71_114 (t := 118) rfl (by decide) ?_
        refine T_p xr_71_118 xn_71 (pc' := 119) (ls' := [(3, .int (iI (pl cur))), (2, .ref a), (1, .int (iI rk)), (0, .ref 496)]) (st' := [.ref a]) rfl ?_
        refine T_get xr_71_119 hw2465.1 rfl (v := .int (iI (d2471 1 0))) rfl (pc' := 122) rfl ?_
        refine T_zif_eq xr_71_122 (t := 141) (pc' := 125) rfl rfl (fun c2494 => ?_) (fun c2494 => ?_)
        · skip
          have c2494 : (d2471 1 0) = 0 := c2494
          refine T_p xr_71_141 xn_71 (pc' := 142) (ls' := [(3, .int (iI (pl cur))), (2, .ref a), (1, .int (iI rk)), (0, .ref 496)]) (st' := [.ref a]) rfl ?_
          refine T_get xr_71_142 hw2465.1 rfl (v := .int (iI (d2471 4 0))) rfl (pc' := 145) rfl ?_
          refine T_p xr_71_145 xn_71 (pc' := 146) (ls' := [(3, .int (iI (pl cur))), (2, .ref a), (1, .int (iI rk)), (0, .ref 496)]) (st' := [.ref a, .int (iI (d2471 4 0))]) rfl ?_
          refine T_get xr_71_146 hw2465.1 rfl (v := .int (iI (d2471 3 0))) rfl (pc' := 149) rfl ?_
          refine T_zicmp_ne xr_71_149 (t := 159) (pc' := 152) rfl rfl (fun c2495 => ?_) (fun c2495 => ?_)
          · skip
            have c2495 : ¬ (d2471 4 0) = (d2471 3 0) := c2495
            refine T_p xr_71_159 xn_71 (pc' := 160) (ls' := [(3, .int (iI (pl cur))), (2, .ref a), (1, .int (iI rk)), (0, .ref 496)]) (st' := [.ref 496]) rfl ?_
            refine T_get xr_71_160 hp2463 rfl (v := .ref 497) rfl (pc' := 163) rfl ?_
            refine T_cv (S := S2460) (q := 497) xr_71_163 xf_44.1 xf_44.2.1 xn_44 (as := []) (r := []) rfl hl2464 (Nat.le_of_ble_eq_true rfl) (Nat.le_of_ble_eq_true rfl) (pc' := 166) rfl (ls' := [(0, .ref 497)]) rfl ?_
            have h2496 := (hf2466.1 498 (by omega)).trans (h2476)
            have h2497 := (hf2466.1 499 (by omega)).trans (h2477)
            have h2498 := (hf2466.1 500 (by omega)).trans (h2478)
            refine T_mono (c_sort sc S2460 at_ n c2470 so pl ct ⟨hl2464, h2496, h2497, h2498⟩ (by omega)) (fun v2500 S2501 h2499 => ?_)
            obtain ⟨h2502, h2503⟩ := h2499
            rw [h2502, h2503]
            show X_T sc 71 (166, [(3, .int (iI (pl cur))), (2, .ref a), (1, .int (iI rk)), (0, .ref 496)], [.int (iI (so c2470))], S2460) _
            have hs2504 := hso c2470 (by omega) (by omega)
            refine T_p xr_71_166 xn_71 (pc' := 168) (ls' := [(3, .int (iI (pl cur))), (2, .ref a), (1, .int (iI rk)), (0, .ref 496)]) (st' := [.int (iI 61), .int (iI (so c2470))]) rfl ?_
            refine T_zicmp_ne xr_71_168 (t := 182) (pc' := 171) rfl rfl (fun c2505 => ?_) (fun c2505 => ?_)
            · skip
              have c2505 : ¬ (so c2470) = 61 := c2505
              refine T_p xr_71_182 xn_71 (pc' := 183) (ls' := [(3, .int (iI (pl cur))), (2, .ref a), (1, .int (iI rk)), (0, .ref 496)]) (st' := [.ref 496]) rfl ?_
              refine T_p xr_71_183 xn_71 (pc' := 185) (ls' := [(3, .int (iI (pl cur))), (2, .ref a), (1, .int (iI rk)), (0, .ref 496)]) (st' := [.int (iI 59), .ref 496]) rfl ?_
              refine T_cv (S := S2460) (q := 496) xr_71_185 xf_64.1 xf_64.2.1 xn_64 (as := [.int (iI 59)]) (r := []) rfl hp2463 (Nat.le_of_ble_eq_true rfl) (Nat.le_of_ble_eq_true rfl) (pc' := 188) rfl (ls' := [(0, .ref 496), (1, .int (iI 59))]) rfl ?_
              refine T_mono (c_pass sc S2460 B 0 fp at_ n c2470 so pl ct 59 hp2463 ⟨hl2464, h2496, h2497, h2498⟩ (by omega) hso (by omega)) (fun v2509 S2510 h2511 => ?_)
              rcases h2511 with ⟨hv2506, hc2507, hp2512, hl2513, hf2514⟩ | ⟨hv2506, hc2507, ⟨fl2515, fp2516, hn2517, hp2512⟩, hl2513, hf2514⟩
              · skip
                rw [hv2506]
                have hv2508 := X_av_r (n := n) (c := c2470) (by omega)
                show X_T sc 71 (188, [(3, .int (iI (pl cur))), (2, .ref a), (1, .int (iI rk)), (0, .ref 496)], [.int (iI 1)], S2510) _
                refine T_zif_eqf xr_71_188 (t := 204) (pc' := 191) rfl rfl (by decide) ?_
                refine T_p xr_71_191 xn_71 (pc' := 192) (ls' := [(3, .int (iI (pl cur))), (2, .ref a), (1, .int (iI rk)), (0, .ref 496)]) (st' := [.ref 496]) rfl ?_
                refine T_get xr_71_192 hp2512 rfl (v := .ref B) rfl (pc' := 195) rfl ?_
                refine T_p xr_71_195 xn_71 (pc' := 196) (ls' := [(3, .int (iI (pl cur))), (2, .ref a), (1, .int (iI rk)), (0, .ref 496)]) (st' := [.ref B, .ref B]) rfl ?_
                have h2518 := (hf2514.1 B (by omega)).trans ((hf2466.1 B (by omega)).trans (h2479))
                refine T_get xr_71_196 h2518 rfl (v := .int (iI wc)) rfl (pc' := 199) rfl ?_
                refine T_p xr_71_199 xn_71 (pc' := 200) (ls' := [(3, .int (iI (pl cur))), (2, .ref a), (1, .int (iI rk)), (0, .ref 496)]) (st' := [.int (iI 1), .int (iI wc), .ref B]) rfl ?_
                refine T_ziadd xr_71_200 (z := wc + 1) rfl (pc' := 201) rfl ?_
                refine T_put xr_71_201 h2518 rfl (Nat.le_of_ble_eq_true rfl) rfl (fs' := [.int (iI rc), .int (iI kc), .int (iI (wc + 1)), .ref (B + 1), .ref (B + 2), .ref (B + 3), .ref (B + 4), .ref (B + 5)]) rfl (pc' := 204) rfl (fun S2519 h2520 n2521 e2522 => ?_)
                refine T_vret xr_71_204 xf_71.2.2 ?_
                refine hQ _ _ ?_
                have h2523 := (n2521 496 (by omega)).trans (hp2512)
                have h2525 := (n2521 a (by omega)).trans ((hf2514.1 a (by omega)).trans (hw2465.1))
                have h2526 := (n2521 (a + 1) (by omega)).trans ((hf2514.1 (a + 1) (by omega)).trans (hw2465.2.1))
                have h2527 := (n2521 (a + 2) (by omega)).trans ((hf2514.1 (a + 2) (by omega)).trans (hw2465.2.2.1))
                have h2528 := (n2521 (a + 3) (by omega)).trans ((hf2514.1 (a + 3) (by omega)).trans (hw2465.2.2.2.1))
                have h2529 := (n2521 (a + 4) (by omega)).trans ((hf2514.1 (a + 4) (by omega)).trans (hw2465.2.2.2.2.1))
                have h2530 := (n2521 (a + 5) (by omega)).trans ((hf2514.1 (a + 5) (by omega)).trans (hw2465.2.2.2.2.2.1))
                have h2531 := (n2521 (a + 6) (by omega)).trans ((hf2514.1 (a + 6) (by omega)).trans (hw2465.2.2.2.2.2.2.1))
                have h2532 := (n2521 (a + 7) (by omega)).trans ((hf2514.1 (a + 7) (by omega)).trans (hw2465.2.2.2.2.2.2.2))
                have hs2524 : C_ws S2519 B (X_ug D wc d2471) (X_ug W wc q2472) := C_ws.upd2 (P := fun r => r = 496 ∨ r = 497 ∨ r = B ∨ (a ≤ r ∧ r ≤ a + 7)) hs ((((((X_Fr.rf).tr (X_Fr.of n2424 e2425 (by omega))).tr (X_Fr.mono ⟨hf2455.1, hf2455.2⟩ (fun q hq => (by omega)))).tr (X_Fr.mono ⟨hf2466.1, hf2466.2⟩ (fun q hq => (by omega)))).tr (X_Fr.mono ⟨hf2514.1, hf2514.2⟩ (fun q hq => (by omega)))).tr (X_Fr.of n2521 e2522 (by omega))) haa (fun r h1 h2 h3 => by omega) (by omega) ⟨h2525, h2526, h2527, h2528, h2529, h2530, h2531, h2532⟩ hr2467
                have h2533 := (n2521 497 (by omega)).trans (hl2513)
                have h2534 := (n2521 (B + 1) (by omega)).trans ((hf2514.1 (B + 1) (by omega)).trans ((hf2466.1 (B + 1) (by omega)).trans (h2480)))
                have h2535 := (n2521 (B + 2) (by omega)).trans ((hf2514.1 (B + 2) (by omega)).trans ((hf2466.1 (B + 2) (by omega)).trans (h2481)))
                have h2536 := (n2521 (B + 3) (by omega)).trans ((hf2514.1 (B + 3) (by omega)).trans ((hf2466.1 (B + 3) (by omega)).trans (h2482)))
                have h2537 := (n2521 (B + 4) (by omega)).trans ((hf2514.1 (B + 4) (by omega)).trans ((hf2466.1 (B + 4) (by omega)).trans (h2483)))
                have h2540 := (n2521 (B + 5) (by omega)).trans ((hf2514.1 (B + 5) (by omega)).trans ((hf2466.1 (B + 5) (by omega)).trans (h2484)))
                have h2541 := (n2521 498 (by omega)).trans ((hf2514.1 498 (by omega)).trans (h2496))
                have h2542 := (n2521 499 (by omega)).trans ((hf2514.1 499 (by omega)).trans (h2497))
                have h2543 := (n2521 500 (by omega)).trans ((hf2514.1 500 (by omega)).trans (h2498))
                have hb2538 : C_bk S2519 B rc kc (wc + 1) rn lo kn ab := ⟨h2520, h2534, h2535, h2536, h2537, ⟨f, h2540, hf⟩, ⟨by omega, by omega⟩, ⟨by omega, by omega⟩, ⟨by omega, by omega⟩⟩
                have hc2539 : 0 ≤ (X_av n c2470) ∧ (X_av n c2470) < n := by omega
                refine Or.inl ⟨(X_av n c2470, d2471, q2472), ?_, fp, ⟨h2523, ⟨h2533, h2541, h2542, h2543⟩, hb2538, hs2524, hc2539⟩, (((((X_Fr.rf).tr (X_Fr.of n2424 e2425 (by omega))).tr (X_Fr.mono ⟨hf2455.1, hf2455.2⟩ (fun q hq => (by omega)))).tr (X_Fr.mono ⟨hf2466.1, hf2466.2⟩ (fun q hq => (by omega)))).tr (X_Fr.mono ⟨hf2514.1, hf2514.2⟩ (fun q hq => (by omega)))).tr (X_Fr.of n2521 e2522 (by omega))⟩
                (repeat (first | unfold sp_wk | unfold sp_wb | unfold sp_we | rw [hsp2468] | (rw [Option.bind_some]; dsimp only) | rw [Option.bind_none] | rw [if_pos (by assumption)] | rw [if_neg (by assumption)]))
                all_goals first | rfl | ((repeat' split) <;> first | rfl | (exfalso; omega))
              · skip
                rw [hv2506]
                show X_T sc 71 (188, [(3, .int (iI (pl cur))), (2, .ref a), (1, .int (iI rk)), (0, .ref 496)], [.int (iI 0)], S2510) _
                refine T_zif_eqt xr_71_188 (t := 204) rfl (by decide) ?_
                refine T_vret xr_71_204 xf_71.2.2 ?_
                refine hQ _ _ ?_
                have h2544 := (hf2514.1 B (by omega)).trans ((hf2466.1 B (by omega)).trans (h2479))
                have h2546 := (hf2514.1 a (by omega)).trans (hw2465.1)
                have h2547 := (hf2514.1 (a + 1) (by omega)).trans (hw2465.2.1)
                have h2548 := (hf2514.1 (a + 2) (by omega)).trans (hw2465.2.2.1)
                have h2549 := (hf2514.1 (a + 3) (by omega)).trans (hw2465.2.2.2.1)
                have h2550 := (hf2514.1 (a + 4) (by omega)).trans (hw2465.2.2.2.2.1)
                have h2551 := (hf2514.1 (a + 5) (by omega)).trans (hw2465.2.2.2.2.2.1)
                have h2552 := (hf2514.1 (a + 6) (by omega)).trans (hw2465.2.2.2.2.2.2.1)
                have h2553 := (hf2514.1 (a + 7) (by omega)).trans (hw2465.2.2.2.2.2.2.2)
                have hs2545 : C_ws S2510 B (X_ug D wc d2471) (X_ug W wc q2472) := C_ws.upd2 (P := fun r => r = 496 ∨ r = 497 ∨ r = B ∨ (a ≤ r ∧ r ≤ a + 7)) hs (((((X_Fr.rf).tr (X_Fr.of n2424 e2425 (by omega))).tr (X_Fr.mono ⟨hf2455.1, hf2455.2⟩ (fun q hq => (by omega)))).tr (X_Fr.mono ⟨hf2466.1, hf2466.2⟩ (fun q hq => (by omega)))).tr (X_Fr.mono ⟨hf2514.1, hf2514.2⟩ (fun q hq => (by omega)))) haa (fun r h1 h2 h3 => by omega) (by omega) ⟨h2546, h2547, h2548, h2549, h2550, h2551, h2552, h2553⟩ hr2467
                have h2554 := (hf2514.1 (B + 1) (by omega)).trans ((hf2466.1 (B + 1) (by omega)).trans (h2480))
                have h2555 := (hf2514.1 (B + 2) (by omega)).trans ((hf2466.1 (B + 2) (by omega)).trans (h2481))
                have h2556 := (hf2514.1 (B + 3) (by omega)).trans ((hf2466.1 (B + 3) (by omega)).trans (h2482))
                have h2557 := (hf2514.1 (B + 4) (by omega)).trans ((hf2466.1 (B + 4) (by omega)).trans (h2483))
                have h2560 := (hf2514.1 (B + 5) (by omega)).trans ((hf2466.1 (B + 5) (by omega)).trans (h2484))
                have h2561 := (hf2514.1 498 (by omega)).trans (h2496)
                have h2562 := (hf2514.1 499 (by omega)).trans (h2497)
                have h2563 := (hf2514.1 500 (by omega)).trans (h2498)
                have hb2558 : C_bk S2510 B rc kc wc rn lo kn ab := ⟨h2544, h2554, h2555, h2556, h2557, ⟨f, h2560, hf⟩, ⟨by omega, by omega⟩, ⟨by omega, by omega⟩, ⟨by omega, by omega⟩⟩
                have hc2559 : 0 ≤ c2470 ∧ c2470 < n := by omega
                refine Or.inr ⟨?_, fl2515, fp2516, (c2470, rc, kc, wc, rn, lo, kn, ab, (X_ug D wc d2471), (X_ug W wc q2472)), by omega, ⟨hp2512, ⟨hl2513, h2561, h2562, h2563⟩, hb2558, hs2545, hc2559⟩, ((((X_Fr.rf).tr (X_Fr.of n2424 e2425 (by omega))).tr (X_Fr.mono ⟨hf2455.1, hf2455.2⟩ (fun q hq => (by omega)))).tr (X_Fr.mono ⟨hf2466.1, hf2466.2⟩ (fun q hq => (by omega)))).tr (X_Fr.mono ⟨hf2514.1, hf2514.2⟩ (fun q hq => (by omega)))⟩
                (repeat (first | unfold sp_wk | unfold sp_wb | unfold sp_we | rw [hsp2468] | (rw [Option.bind_some]; dsimp only) | rw [Option.bind_none] | rw [if_pos (by assumption)] | rw [if_neg (by assumption)]))
                all_goals first | rfl | ((repeat' split) <;> first | rfl | (exfalso; omega))
            · skip
              have c2505 : ¬ (¬ (so c2470) = 61) := c2505
              refine T_p xr_71_171 xn_71 (pc' := 172) (ls' := [(3, .int (iI (pl cur))), (2, .ref a), (1, .int (iI rk)), (0, .ref 496)]) (st' := [.ref 496]) rfl ?_
              refine T_p xr_71_172 xn_71 (pc' := 173) (ls' := [(3, .int (iI (pl cur))), (2, .ref a), (1, .int (iI rk)), (0, .ref 496)]) (st' := [.ref a, .ref 496]) rfl ?_
              refine T_cv (S := S2460) (q := 496) xr_71_173 xf_74.1 xf_74.2.1 xn_74 (as := [.ref a]) (r := []) rfl hp2463 (Nat.le_of_ble_eq_true rfl) (Nat.le_of_ble_eq_true rfl) (pc' := 176) rfl (ls' := [(0, .ref 496), (1, .ref a)]) rfl ?_
              have h2581 := (hf2466.1 B (by omega)).trans (h2479)
              have h2582 := (hf2466.1 (B + 1) (by omega)).trans (h2480)
              have h2583 := (hf2466.1 (B + 2) (by omega)).trans (h2481)
              have h2584 := (hf2466.1 (B + 3) (by omega)).trans (h2482)
              have h2585 := (hf2466.1 (B + 4) (by omega)).trans (h2483)
              have h2586 := (hf2466.1 (B + 5) (by omega)).trans (h2484)
              have hb2587 : C_bk S2460 B rc kc wc rn lo kn ab := ⟨h2581, h2582, h2583, h2584, h2585, ⟨f, h2586, hf⟩, ⟨by omega, by omega⟩, ⟨by omega, by omega⟩, ⟨by omega, by omega⟩⟩
              refine T_mono (c_parseSteps sc S2460 B 0 fp at_ n c2470 so pl ct rc kc wc rn lo kn ab a d2471 q2472 hB (by omega) hp2463 ⟨hl2464, h2496, h2497, h2498⟩ (by omega) hso hb2587 ⟨hw2465.1, hw2465.2.1, hw2465.2.2.1, hw2465.2.2.2.1, hw2465.2.2.2.2.1, hw2465.2.2.2.2.2.1, hw2465.2.2.2.2.2.2.1, hw2465.2.2.2.2.2.2.2⟩ hr2467 rfl) (fun v2564 S2565 h2566 => ?_)
              rcases h2566 with ⟨hv2567, c2575, d2576, hsp2573, hp2568, hl2569, hc2574, hw2570, hr2572, hf2571⟩ | ⟨hv2567, hsp2573, ⟨fl2578, fp2579, hn2580, hp2568⟩, ⟨c2575, hl2569, hc2574⟩, ⟨d2576, hw2570, hr2572⟩, hf2571⟩
              · skip
                rw [hv2567]
                have hs_c2575 := hso c2575 (by omega) (by omega)
                obtain ⟨⟨_, _⟩, ⟨_, _⟩, ⟨_, _⟩, ⟨_, _⟩, ⟨_, _⟩, ⟨_, _⟩, ⟨_, _⟩, ⟨_, _⟩⟩ := id hr2572
                show X_T sc 71 (176, [(3, .int (iI (pl cur))), (2, .ref a), (1, .int (iI rk)), (0, .ref 496)], [.int (iI 1)], S2565) _
                refine T_zif_eqf xr_71_176 (t := 204) (pc' := 179) rfl rfl (by decide) ?_
                refine T_p xr_71_179 xn_71 (pc' := 191) (ls' := [(3, .int (iI (pl cur))), (2, .ref a), (1, .int (iI rk)), (0, .ref 496)]) (st' := []) rfl ?_
                refine T_p xr_71_191 xn_71 (pc' := 192) (ls' := [(3, .int (iI (pl cur))), (2, .ref a), (1, .int (iI rk)), (0, .ref 496)]) (st' := [.ref 496]) rfl ?_
                refine T_get xr_71_192 hp2568 rfl (v := .ref B) rfl (pc' := 195) rfl ?_
                refine T_p xr_71_195 xn_71 (pc' := 196) (ls' := [(3, .int (iI (pl cur))), (2, .ref a), (1, .int (iI rk)), (0, .ref 496)]) (st' := [.ref B, .ref B]) rfl ?_
                have h2588 := (hf2571.1 B (by omega)).trans (h2581)
                refine T_get xr_71_196 h2588 rfl (v := .int (iI wc)) rfl (pc' := 199) rfl ?_
                refine T_p xr_71_199 xn_71 (pc' := 200) (ls' := [(3, .int (iI (pl cur))), (2, .ref a), (1, .int (iI rk)), (0, .ref 496)]) (st' := [.int (iI 1), .int (iI wc), .ref B]) rfl ?_
                refine T_ziadd xr_71_200 (z := wc + 1) rfl (pc' := 201) rfl ?_
                refine T_put xr_71_201 h2588 rfl (Nat.le_of_ble_eq_true rfl) rfl (fs' := [.int (iI rc), .int (iI kc), .int (iI (wc + 1)), .ref (B + 1), .ref (B + 2), .ref (B + 3), .ref (B + 4), .ref (B + 5)]) rfl (pc' := 204) rfl (fun S2589 h2590 n2591 e2592 => ?_)
                refine T_vret xr_71_204 xf_71.2.2 ?_
                refine hQ _ _ ?_
                have h2593 := (n2591 496 (by omega)).trans (hp2568)
                have h2595 := (n2591 a (by omega)).trans (hw2570.1)
                have h2596 := (n2591 (a + 1) (by omega)).trans (hw2570.2.1)
                have h2597 := (n2591 (a + 2) (by omega)).trans (hw2570.2.2.1)
                have h2598 := (n2591 (a + 3) (by omega)).trans (hw2570.2.2.2.1)
                have h2599 := (n2591 (a + 4) (by omega)).trans (hw2570.2.2.2.2.1)
                have h2600 := (n2591 (a + 5) (by omega)).trans (hw2570.2.2.2.2.2.1)
                have h2601 := (n2591 (a + 6) (by omega)).trans (hw2570.2.2.2.2.2.2.1)
                have h2602 := (n2591 (a + 7) (by omega)).trans (hw2570.2.2.2.2.2.2.2)
                have hs2594 : C_ws S2589 B (X_ug D wc d2576) (X_ug W wc q2472) := C_ws.upd2 (P := fun r => r = 496 ∨ r = 497 ∨ r = B ∨ (a ≤ r ∧ r ≤ a + 7)) hs ((((((X_Fr.rf).tr (X_Fr.of n2424 e2425 (by omega))).tr (X_Fr.mono ⟨hf2455.1, hf2455.2⟩ (fun q hq => (by omega)))).tr (X_Fr.mono ⟨hf2466.1, hf2466.2⟩ (fun q hq => (by omega)))).tr (X_Fr.mono ⟨hf2571.1, hf2571.2⟩ (fun q hq => (by omega)))).tr (X_Fr.of n2591 e2592 (by omega))) haa (fun r h1 h2 h3 => by omega) (by omega) ⟨h2595, h2596, h2597, h2598, h2599, h2600, h2601, h2602⟩ hr2572
                have h2603 := (n2591 497 (by omega)).trans (hl2569)
                have h2604 := (n2591 (B + 1) (by omega)).trans ((hf2571.1 (B + 1) (by omega)).trans (h2582))
                have h2605 := (n2591 (B + 2) (by omega)).trans ((hf2571.1 (B + 2) (by omega)).trans (h2583))
                have h2606 := (n2591 (B + 3) (by omega)).trans ((hf2571.1 (B + 3) (by omega)).trans (h2584))
                have h2607 := (n2591 (B + 4) (by omega)).trans ((hf2571.1 (B + 4) (by omega)).trans (h2585))
                have h2610 := (n2591 (B + 5) (by omega)).trans ((hf2571.1 (B + 5) (by omega)).trans (h2586))
                have h2611 := (n2591 498 (by omega)).trans ((hf2571.1 498 (by omega)).trans (h2496))
                have h2612 := (n2591 499 (by omega)).trans ((hf2571.1 499 (by omega)).trans (h2497))
                have h2613 := (n2591 500 (by omega)).trans ((hf2571.1 500 (by omega)).trans (h2498))
                have hb2608 : C_bk S2589 B rc kc (wc + 1) rn lo kn ab := ⟨h2590, h2604, h2605, h2606, h2607, ⟨f, h2610, hf⟩, ⟨by omega, by omega⟩, ⟨by omega, by omega⟩, ⟨by omega, by omega⟩⟩
                have hc2609 : 0 ≤ c2575 ∧ c2575 < n := by omega
                refine Or.inl ⟨(c2575, d2576, q2472), ?_, fp, ⟨h2593, ⟨h2603, h2611, h2612, h2613⟩, hb2608, hs2594, hc2609⟩, (((((X_Fr.rf).tr (X_Fr.of n2424 e2425 (by omega))).tr (X_Fr.mono ⟨hf2455.1, hf2455.2⟩ (fun q hq => (by omega)))).tr (X_Fr.mono ⟨hf2466.1, hf2466.2⟩ (fun q hq => (by omega)))).tr (X_Fr.mono ⟨hf2571.1, hf2571.2⟩ (fun q hq => (by omega)))).tr (X_Fr.of n2591 e2592 (by omega))⟩
                (repeat (first | unfold sp_wk | unfold sp_wb | unfold sp_we | rw [hsp2468] | rw [hsp2573] | (rw [Option.bind_some]; dsimp only) | rw [Option.bind_none] | rw [if_pos (by assumption)] | rw [if_neg (by assumption)]))
                all_goals first | rfl | ((repeat' split) <;> first | rfl | (exfalso; omega))
              · skip
                rw [hv2567]
                have hs_c2575 := hso c2575 (by omega) (by omega)
                obtain ⟨⟨_, _⟩, ⟨_, _⟩, ⟨_, _⟩, ⟨_, _⟩, ⟨_, _⟩, ⟨_, _⟩, ⟨_, _⟩, ⟨_, _⟩⟩ := id hr2572
                show X_T sc 71 (176, [(3, .int (iI (pl cur))), (2, .ref a), (1, .int (iI rk)), (0, .ref 496)], [.int (iI 0)], S2565) _
                refine T_zif_eqt xr_71_176 (t := 204) rfl (by decide) ?_
                refine T_vret xr_71_204 xf_71.2.2 ?_
                refine hQ _ _ ?_
                have h2614 := (hf2571.1 B (by omega)).trans (h2581)
                have hs2615 : C_ws S2565 B (X_ug D wc d2576) (X_ug W wc q2472) := C_ws.upd2 (P := fun r => r = 496 ∨ r = 497 ∨ r = B ∨ (a ≤ r ∧ r ≤ a + 7)) hs (((((X_Fr.rf).tr (X_Fr.of n2424 e2425 (by omega))).tr (X_Fr.mono ⟨hf2455.1, hf2455.2⟩ (fun q hq => (by omega)))).tr (X_Fr.mono ⟨hf2466.1, hf2466.2⟩ (fun q hq => (by omega)))).tr (X_Fr.mono ⟨hf2571.1, hf2571.2⟩ (fun q hq => (by omega)))) haa (fun r h1 h2 h3 => by omega) (by omega) ⟨hw2570.1, hw2570.2.1, hw2570.2.2.1, hw2570.2.2.2.1, hw2570.2.2.2.2.1, hw2570.2.2.2.2.2.1, hw2570.2.2.2.2.2.2.1, hw2570.2.2.2.2.2.2.2⟩ hr2572
                have h2616 := (hf2571.1 (B + 1) (by omega)).trans (h2582)
                have h2617 := (hf2571.1 (B + 2) (by omega)).trans (h2583)
                have h2618 := (hf2571.1 (B + 3) (by omega)).trans (h2584)
                have h2619 := (hf2571.1 (B + 4) (by omega)).trans (h2585)
                have h2622 := (hf2571.1 (B + 5) (by omega)).trans (h2586)
                have h2623 := (hf2571.1 498 (by omega)).trans (h2496)
                have h2624 := (hf2571.1 499 (by omega)).trans (h2497)
                have h2625 := (hf2571.1 500 (by omega)).trans (h2498)
                have hb2620 : C_bk S2565 B rc kc wc rn lo kn ab := ⟨h2614, h2616, h2617, h2618, h2619, ⟨f, h2622, hf⟩, ⟨by omega, by omega⟩, ⟨by omega, by omega⟩, ⟨by omega, by omega⟩⟩
                have hc2621 : 0 ≤ c2575 ∧ c2575 < n := by omega
                refine Or.inr ⟨?_, fl2578, fp2579, (c2575, rc, kc, wc, rn, lo, kn, ab, (X_ug D wc d2576), (X_ug W wc q2472)), by omega, ⟨hp2568, ⟨hl2569, h2623, h2624, h2625⟩, hb2620, hs2615, hc2621⟩, ((((X_Fr.rf).tr (X_Fr.of n2424 e2425 (by omega))).tr (X_Fr.mono ⟨hf2455.1, hf2455.2⟩ (fun q hq => (by omega)))).tr (X_Fr.mono ⟨hf2466.1, hf2466.2⟩ (fun q hq => (by omega)))).tr (X_Fr.mono ⟨hf2571.1, hf2571.2⟩ (fun q hq => (by omega)))⟩
                (repeat (first | unfold sp_wk | unfold sp_wb | unfold sp_we | rw [hsp2468] | rw [hsp2573] | (rw [Option.bind_some]; dsimp only) | rw [Option.bind_none] | rw [if_pos (by assumption)] | rw [if_neg (by assumption)]))
                all_goals first | rfl | ((repeat' split) <;> first | rfl | (exfalso; omega))
          · skip
            have c2495 : ¬ (¬ (d2471 4 0) = (d2471 3 0)) := c2495
            refine T_p xr_71_152 xn_71 (pc' := 153) (ls' := [(3, .int (iI (pl cur))), (2, .ref a), (1, .int (iI rk)), (0, .ref 496)]) (st' := [.ref 496]) rfl ?_
            refine T_cv (S := S2460) (q := 496) xr_71_153 xf_63.1 xf_63.2.1 xn_63 (as := []) (r := []) rfl hp2463 (Nat.le_of_ble_eq_true rfl) (Nat.le_of_ble_eq_true rfl) (pc' := 156) rfl (ls' := [(0, .ref 496)]) rfl ?_
            have h2635 := (hf2466.1 498 (by omega)).trans (h2476)
            have h2636 := (hf2466.1 499 (by omega)).trans (h2477)
            have h2637 := (hf2466.1 500 (by omega)).trans (h2478)
            refine T_mono (c_refuse sc S2460 B 0 fp at_ n c2470 so pl ct hp2463 ⟨hl2464, h2635, h2636, h2637⟩ (by omega) hso) (fun v2626 S2627 h2628 => ?_)
            obtain ⟨h2629, ⟨fl2630, fp2631, hn2632, hp2633⟩, hf2634⟩ := h2628
            rw [h2629]
            show X_T sc 71 (156, [(3, .int (iI (pl cur))), (2, .ref a), (1, .int (iI rk)), (0, .ref 496)], [], S2627) _
            refine T_p xr_71_156 xn_71 (pc' := 204) (ls' := [(3, .int (iI (pl cur))), (2, .ref a), (1, .int (iI rk)), (0, .ref 496)]) (st' := []) rfl ?_
            refine T_vret xr_71_204 xf_71.2.2 ?_
            refine hQ _ _ ?_
            have h2638 := (hf2634.1 B (by omega)).trans ((hf2466.1 B (by omega)).trans (h2479))
            have h2640 := (hf2634.1 a (by omega)).trans (hw2465.1)
            have h2641 := (hf2634.1 (a + 1) (by omega)).trans (hw2465.2.1)
            have h2642 := (hf2634.1 (a + 2) (by omega)).trans (hw2465.2.2.1)
            have h2643 := (hf2634.1 (a + 3) (by omega)).trans (hw2465.2.2.2.1)
            have h2644 := (hf2634.1 (a + 4) (by omega)).trans (hw2465.2.2.2.2.1)
            have h2645 := (hf2634.1 (a + 5) (by omega)).trans (hw2465.2.2.2.2.2.1)
            have h2646 := (hf2634.1 (a + 6) (by omega)).trans (hw2465.2.2.2.2.2.2.1)
            have h2647 := (hf2634.1 (a + 7) (by omega)).trans (hw2465.2.2.2.2.2.2.2)
            have hs2639 : C_ws S2627 B (X_ug D wc d2471) (X_ug W wc q2472) := C_ws.upd2 (P := fun r => r = 496 ∨ r = 497 ∨ r = B ∨ (a ≤ r ∧ r ≤ a + 7)) hs (((((X_Fr.rf).tr (X_Fr.of n2424 e2425 (by omega))).tr (X_Fr.mono ⟨hf2455.1, hf2455.2⟩ (fun q hq => (by omega)))).tr (X_Fr.mono ⟨hf2466.1, hf2466.2⟩ (fun q hq => (by omega)))).tr (X_Fr.mono ⟨hf2634.1, hf2634.2⟩ (fun q hq => (by omega)))) haa (fun r h1 h2 h3 => by omega) (by omega) ⟨h2640, h2641, h2642, h2643, h2644, h2645, h2646, h2647⟩ hr2467
            have h2648 := (hf2634.1 497 (by omega)).trans (hl2464)
            have h2649 := (hf2634.1 (B + 1) (by omega)).trans ((hf2466.1 (B + 1) (by omega)).trans (h2480))
            have h2650 := (hf2634.1 (B + 2) (by omega)).trans ((hf2466.1 (B + 2) (by omega)).trans (h2481))
            have h2651 := (hf2634.1 (B + 3) (by omega)).trans ((hf2466.1 (B + 3) (by omega)).trans (h2482))
            have h2652 := (hf2634.1 (B + 4) (by omega)).trans ((hf2466.1 (B + 4) (by omega)).trans (h2483))
            have h2655 := (hf2634.1 (B + 5) (by omega)).trans ((hf2466.1 (B + 5) (by omega)).trans (h2484))
            have h2656 := (hf2634.1 498 (by omega)).trans (h2635)
            have h2657 := (hf2634.1 499 (by omega)).trans (h2636)
            have h2658 := (hf2634.1 500 (by omega)).trans (h2637)
            have hb2653 : C_bk S2627 B rc kc wc rn lo kn ab := ⟨h2638, h2649, h2650, h2651, h2652, ⟨f, h2655, hf⟩, ⟨by omega, by omega⟩, ⟨by omega, by omega⟩, ⟨by omega, by omega⟩⟩
            have hc2654 : 0 ≤ c2470 ∧ c2470 < n := by omega
            refine Or.inr ⟨?_, fl2630, fp2631, (c2470, rc, kc, wc, rn, lo, kn, ab, (X_ug D wc d2471), (X_ug W wc q2472)), by omega, ⟨hp2633, ⟨h2648, h2656, h2657, h2658⟩, hb2653, hs2639, hc2654⟩, ((((X_Fr.rf).tr (X_Fr.of n2424 e2425 (by omega))).tr (X_Fr.mono ⟨hf2455.1, hf2455.2⟩ (fun q hq => (by omega)))).tr (X_Fr.mono ⟨hf2466.1, hf2466.2⟩ (fun q hq => (by omega)))).tr (X_Fr.mono ⟨hf2634.1, hf2634.2⟩ (fun q hq => (by omega)))⟩
            (repeat (first | unfold sp_wk | unfold sp_wb | unfold sp_we | rw [hsp2468] | (rw [Option.bind_some]; dsimp only) | rw [Option.bind_none] | rw [if_pos (by assumption)] | rw [if_neg (by assumption)]))
            all_goals first | rfl | ((repeat' split) <;> first | rfl | (exfalso; omega))
        · skip
          have c2494 : ¬ ((d2471 1 0) = 0) := c2494
          refine T_p xr_71_125 xn_71 (pc' := 126) (ls' := [(3, .int (iI (pl cur))), (2, .ref a), (1, .int (iI rk)), (0, .ref 496)]) (st' := [.ref a]) rfl ?_
          refine T_cv (S := S2460) (q := a) xr_71_126 xf_97.1 xf_97.2.1 xn_97 (as := []) (r := []) rfl hw2465.1 (Nat.le_of_ble_eq_true rfl) (Nat.le_of_ble_eq_true rfl) (pc' := 129) rfl (ls' := [(0, .ref a)]) rfl ?_
          refine T_mono (c_isClosed sc S2460 a d2471 q2472 ⟨hw2465.1, hw2465.2.1, hw2465.2.2.1, hw2465.2.2.2.1, hw2465.2.2.2.2.1, hw2465.2.2.2.2.2.1, hw2465.2.2.2.2.2.2.1, hw2465.2.2.2.2.2.2.2⟩ hr2467) (fun v2660 S2661 h2659 => ?_)
          obtain ⟨h2662, h2663⟩ := h2659
          rw [h2662, h2663]
          show X_T sc 71 (129, [(3, .int (iI (pl cur))), (2, .ref a), (1, .int (iI rk)), (0, .ref 496)], [.int (iI (bI (X_en d2471 q2472 = 0)))], S2460) _
          refine T_bif_eq xr_71_129 (t := 141) (pc' := 132) rfl rfl (fun c2664 => ?_) (fun c2664 => ?_)
          · skip
            have c2664 : ¬ (X_en d2471 q2472 = 0) := c2664
            refine T_p xr_71_141 xn_71 (pc' := 142) (ls' := [(3, .int (iI (pl cur))), (2, .ref a), (1, .int (iI rk)), (0, .ref 496)]) (st' := [.ref a]) rfl ?_
            refine T_get xr_71_142 hw2465.1 rfl (v := .int (iI (d2471 4 0))) rfl (pc' := 145) rfl ?_
            refine T_p xr_71_145 xn_71 (pc' := 146) (ls' := [(3, .int (iI (pl cur))), (2, .ref a), (1, .int (iI rk)), (0, .ref 496)]) (st' := [.ref a, .int (iI (d2471 4 0))]) rfl ?_
            refine T_get xr_71_146 hw2465.1 rfl (v := .int (iI (d2471 3 0))) rfl (pc' := 149) rfl ?_
            refine T_zicmp_ne xr_71_149 (t := 159) (pc' := 152) rfl rfl (fun c2665 => ?_) (fun c2665 => ?_)
            · skip
              have c2665 : ¬ (d2471 4 0) = (d2471 3 0) := c2665
              refine T_p xr_71_159 xn_71 (pc' := 160) (ls' := [(3, .int (iI (pl cur))), (2, .ref a), (1, .int (iI rk)), (0, .ref 496)]) (st' := [.ref 496]) rfl ?_
              refine T_get xr_71_160 hp2463 rfl (v := .ref 497) rfl (pc' := 163) rfl ?_
              refine T_cv (S := S2460) (q := 497) xr_71_163 xf_44.1 xf_44.2.1 xn_44 (as := []) (r := []) rfl hl2464 (Nat.le_of_ble_eq_true rfl) (Nat.le_of_ble_eq_true rfl) (pc' := 166) rfl (ls' := [(0, .ref 497)]) rfl ?_
              have h2666 := (hf2466.1 498 (by omega)).trans (h2476)
              have h2667 := (hf2466.1 499 (by omega)).trans (h2477)
              have h2668 := (hf2466.1 500 (by omega)).trans (h2478)
              refine T_mono (c_sort sc S2460 at_ n c2470 so pl ct ⟨hl2464, h2666, h2667, h2668⟩ (by omega)) (fun v2670 S2671 h2669 => ?_)
              obtain ⟨h2672, h2673⟩ := h2669
              rw [h2672, h2673]
              show X_T sc 71 (166, [(3, .int (iI (pl cur))), (2, .ref a), (1, .int (iI rk)), (0, .ref 496)], [.int (iI (so c2470))], S2460) _
              have hs2674 := hso c2470 (by omega) (by omega)
              refine T_p xr_71_166 xn_71 (pc' := 168) (ls' := [(3, .int (iI (pl cur))), (2, .ref a), (1, .int (iI rk)), (0, .ref 496)]) (st' := [.int (iI 61), .int (iI (so c2470))]) rfl ?_
              refine T_zicmp_ne xr_71_168 (t := 182) (pc' := 171) rfl rfl (fun c2675 => ?_) (fun c2675 => ?_)
              · skip
                have c2675 : ¬ (so c2470) = 61 := c2675
                refine T_p xr_71_182 xn_71 (pc' := 183) (ls' := [(3, .int (iI (pl cur))), (2, .ref a), (1, .int (iI rk)), (0, .ref 496)]) (st' := [.ref 496]) rfl ?_
                refine T_p xr_71_183 xn_71 (pc' := 185) (ls' := [(3, .int (iI (pl cur))), (2, .ref a), (1, .int (iI rk)), (0, .ref 496)]) (st' := [.int (iI 59), .ref 496]) rfl ?_
                refine T_cv (S := S2460) (q := 496) xr_71_185 xf_64.1 xf_64.2.1 xn_64 (as := [.int (iI 59)]) (r := []) rfl hp2463 (Nat.le_of_ble_eq_true rfl) (Nat.le_of_ble_eq_true rfl) (pc' := 188) rfl (ls' := [(0, .ref 496), (1, .int (iI 59))]) rfl ?_
                refine T_mono (c_pass sc S2460 B 0 fp at_ n c2470 so pl ct 59 hp2463 ⟨hl2464, h2666, h2667, h2668⟩ (by omega) hso (by omega)) (fun v2679 S2680 h2681 => ?_)
                rcases h2681 with ⟨hv2676, hc2677, hp2682, hl2683, hf2684⟩ | ⟨hv2676, hc2677, ⟨fl2685, fp2686, hn2687, hp2682⟩, hl2683, hf2684⟩
                · skip
                  rw [hv2676]
                  have hv2678 := X_av_r (n := n) (c := c2470) (by omega)
                  show X_T sc 71 (188, [(3, .int (iI (pl cur))), (2, .ref a), (1, .int (iI rk)), (0, .ref 496)], [.int (iI 1)], S2680) _
                  refine T_zif_eqf xr_71_188 (t := 204) (pc' := 191) rfl rfl (by decide) ?_
                  refine T_p xr_71_191 xn_71 (pc' := 192) (ls' := [(3, .int (iI (pl cur))), (2, .ref a), (1, .int (iI rk)), (0, .ref 496)]) (st' := [.ref 496]) rfl ?_
                  refine T_get xr_71_192 hp2682 rfl (v := .ref B) rfl (pc' := 195) rfl ?_
                  refine T_p xr_71_195 xn_71 (pc' := 196) (ls' := [(3, .int (iI (pl cur))), (2, .ref a), (1, .int (iI rk)), (0, .ref 496)]) (st' := [.ref B, .ref B]) rfl ?_
                  have h2688 := (hf2684.1 B (by omega)).trans ((hf2466.1 B (by omega)).trans (h2479))
                  refine T_get xr_71_196 h2688 rfl (v := .int (iI wc)) rfl (pc' := 199) rfl ?_
                  refine T_p xr_71_199 xn_71 (pc' := 200) (ls' := [(3, .int (iI (pl cur))), (2, .ref a), (1, .int (iI rk)), (0, .ref 496)]) (st' := [.int (iI 1), .int (iI wc), .ref B]) rfl ?_
                  refine T_ziadd xr_71_200 (z := wc + 1) rfl (pc' := 201) rfl ?_
                  refine T_put xr_71_201 h2688 rfl (Nat.le_of_ble_eq_true rfl) rfl (fs' := [.int (iI rc), .int (iI kc), .int (iI (wc + 1)), .ref (B + 1), .ref (B + 2), .ref (B + 3), .ref (B + 4), .ref (B + 5)]) rfl (pc' := 204) rfl (fun S2689 h2690 n2691 e2692 => ?_)
                  refine T_vret xr_71_204 xf_71.2.2 ?_
                  refine hQ _ _ ?_
                  have h2693 := (n2691 496 (by omega)).trans (hp2682)
                  have h2695 := (n2691 a (by omega)).trans ((hf2684.1 a (by omega)).trans (hw2465.1))
                  have h2696 := (n2691 (a + 1) (by omega)).trans ((hf2684.1 (a + 1) (by omega)).trans (hw2465.2.1))
                  have h2697 := (n2691 (a + 2) (by omega)).trans ((hf2684.1 (a + 2) (by omega)).trans (hw2465.2.2.1))
                  have h2698 := (n2691 (a + 3) (by omega)).trans ((hf2684.1 (a + 3) (by omega)).trans (hw2465.2.2.2.1))
                  have h2699 := (n2691 (a + 4) (by omega)).trans ((hf2684.1 (a + 4) (by omega)).trans (hw2465.2.2.2.2.1))
                  have h2700 := (n2691 (a + 5) (by omega)).trans ((hf2684.1 (a + 5) (by omega)).trans (hw2465.2.2.2.2.2.1))
                  have h2701 := (n2691 (a + 6) (by omega)).trans ((hf2684.1 (a + 6) (by omega)).trans (hw2465.2.2.2.2.2.2.1))
                  have h2702 := (n2691 (a + 7) (by omega)).trans ((hf2684.1 (a + 7) (by omega)).trans (hw2465.2.2.2.2.2.2.2))
                  have hs2694 : C_ws S2689 B (X_ug D wc d2471) (X_ug W wc q2472) := C_ws.upd2 (P := fun r => r = 496 ∨ r = 497 ∨ r = B ∨ (a ≤ r ∧ r ≤ a + 7)) hs ((((((X_Fr.rf).tr (X_Fr.of n2424 e2425 (by omega))).tr (X_Fr.mono ⟨hf2455.1, hf2455.2⟩ (fun q hq => (by omega)))).tr (X_Fr.mono ⟨hf2466.1, hf2466.2⟩ (fun q hq => (by omega)))).tr (X_Fr.mono ⟨hf2684.1, hf2684.2⟩ (fun q hq => (by omega)))).tr (X_Fr.of n2691 e2692 (by omega))) haa (fun r h1 h2 h3 => by omega) (by omega) ⟨h2695, h2696, h2697, h2698, h2699, h2700, h2701, h2702⟩ hr2467
                  have h2703 := (n2691 497 (by omega)).trans (hl2683)
                  have h2704 := (n2691 (B + 1) (by omega)).trans ((hf2684.1 (B + 1) (by omega)).trans ((hf2466.1 (B + 1) (by omega)).trans (h2480)))
                  have h2705 := (n2691 (B + 2) (by omega)).trans ((hf2684.1 (B + 2) (by omega)).trans ((hf2466.1 (B + 2) (by omega)).trans (h2481)))
                  have h2706 := (n2691 (B + 3) (by omega)).trans ((hf2684.1 (B + 3) (by omega)).trans ((hf2466.1 (B + 3) (by omega)).trans (h2482)))
                  have h2707 := (n2691 (B + 4) (by omega)).trans ((hf2684.1 (B + 4) (by omega)).trans ((hf2466.1 (B + 4) (by omega)).trans (h2483)))
                  have h2710 := (n2691 (B + 5) (by omega)).trans ((hf2684.1 (B + 5) (by omega)).trans ((hf2466.1 (B + 5) (by omega)).trans (h2484)))
                  have h2711 := (n2691 498 (by omega)).trans ((hf2684.1 498 (by omega)).trans (h2666))
                  have h2712 := (n2691 499 (by omega)).trans ((hf2684.1 499 (by omega)).trans (h2667))
                  have h2713 := (n2691 500 (by omega)).trans ((hf2684.1 500 (by omega)).trans (h2668))
                  have hb2708 : C_bk S2689 B rc kc (wc + 1) rn lo kn ab := ⟨h2690, h2704, h2705, h2706, h2707, ⟨f, h2710, hf⟩, ⟨by omega, by omega⟩, ⟨by omega, by omega⟩, ⟨by omega, by omega⟩⟩
                  have hc2709 : 0 ≤ (X_av n c2470) ∧ (X_av n c2470) < n := by omega
                  refine Or.inl ⟨(X_av n c2470, d2471, q2472), ?_, fp, ⟨h2693, ⟨h2703, h2711, h2712, h2713⟩, hb2708, hs2694, hc2709⟩, (((((X_Fr.rf).tr (X_Fr.of n2424 e2425 (by omega))).tr (X_Fr.mono ⟨hf2455.1, hf2455.2⟩ (fun q hq => (by omega)))).tr (X_Fr.mono ⟨hf2466.1, hf2466.2⟩ (fun q hq => (by omega)))).tr (X_Fr.mono ⟨hf2684.1, hf2684.2⟩ (fun q hq => (by omega)))).tr (X_Fr.of n2691 e2692 (by omega))⟩
                  (repeat (first | unfold sp_wk | unfold sp_wb | unfold sp_we | rw [hsp2468] | (rw [Option.bind_some]; dsimp only) | rw [Option.bind_none] | rw [if_pos (by assumption)] | rw [if_neg (by assumption)]))
                  all_goals first | rfl | ((repeat' split) <;> first | rfl | (exfalso; omega))
                · skip
                  rw [hv2676]
                  show X_T sc 71 (188, [(3, .int (iI (pl cur))), (2, .ref a), (1, .int (iI rk)), (0, .ref 496)], [.int (iI 0)], S2680) _
                  refine T_zif_eqt xr_71_188 (t := 204) rfl (by decide) ?_
                  refine T_vret xr_71_204 xf_71.2.2 ?_
                  refine hQ _ _ ?_
                  have h2714 := (hf2684.1 B (by omega)).trans ((hf2466.1 B (by omega)).trans (h2479))
                  have h2716 := (hf2684.1 a (by omega)).trans (hw2465.1)
                  have h2717 := (hf2684.1 (a + 1) (by omega)).trans (hw2465.2.1)
                  have h2718 := (hf2684.1 (a + 2) (by omega)).trans (hw2465.2.2.1)
                  have h2719 := (hf2684.1 (a + 3) (by omega)).trans (hw2465.2.2.2.1)
                  have h2720 := (hf2684.1 (a + 4) (by omega)).trans (hw2465.2.2.2.2.1)
                  have h2721 := (hf2684.1 (a + 5) (by omega)).trans (hw2465.2.2.2.2.2.1)
                  have h2722 := (hf2684.1 (a + 6) (by omega)).trans (hw2465.2.2.2.2.2.2.1)
                  have h2723 := (hf2684.1 (a + 7) (by omega)).trans (hw2465.2.2.2.2.2.2.2)
                  have hs2715 : C_ws S2680 B (X_ug D wc d2471) (X_ug W wc q2472) := C_ws.upd2 (P := fun r => r = 496 ∨ r = 497 ∨ r = B ∨ (a ≤ r ∧ r ≤ a + 7)) hs (((((X_Fr.rf).tr (X_Fr.of n2424 e2425 (by omega))).tr (X_Fr.mono ⟨hf2455.1, hf2455.2⟩ (fun q hq => (by omega)))).tr (X_Fr.mono ⟨hf2466.1, hf2466.2⟩ (fun q hq => (by omega)))).tr (X_Fr.mono ⟨hf2684.1, hf2684.2⟩ (fun q hq => (by omega)))) haa (fun r h1 h2 h3 => by omega) (by omega) ⟨h2716, h2717, h2718, h2719, h2720, h2721, h2722, h2723⟩ hr2467
                  have h2724 := (hf2684.1 (B + 1) (by omega)).trans ((hf2466.1 (B + 1) (by omega)).trans (h2480))
                  have h2725 := (hf2684.1 (B + 2) (by omega)).trans ((hf2466.1 (B + 2) (by omega)).trans (h2481))
                  have h2726 := (hf2684.1 (B + 3) (by omega)).trans ((hf2466.1 (B + 3) (by omega)).trans (h2482))
                  have h2727 := (hf2684.1 (B + 4) (by omega)).trans ((hf2466.1 (B + 4) (by omega)).trans (h2483))
                  have h2730 := (hf2684.1 (B + 5) (by omega)).trans ((hf2466.1 (B + 5) (by omega)).trans (h2484))
                  have h2731 := (hf2684.1 498 (by omega)).trans (h2666)
                  have h2732 := (hf2684.1 499 (by omega)).trans (h2667)
                  have h2733 := (hf2684.1 500 (by omega)).trans (h2668)
                  have hb2728 : C_bk S2680 B rc kc wc rn lo kn ab := ⟨h2714, h2724, h2725, h2726, h2727, ⟨f, h2730, hf⟩, ⟨by omega, by omega⟩, ⟨by omega, by omega⟩, ⟨by omega, by omega⟩⟩
                  have hc2729 : 0 ≤ c2470 ∧ c2470 < n := by omega
                  refine Or.inr ⟨?_, fl2685, fp2686, (c2470, rc, kc, wc, rn, lo, kn, ab, (X_ug D wc d2471), (X_ug W wc q2472)), by omega, ⟨hp2682, ⟨hl2683, h2731, h2732, h2733⟩, hb2728, hs2715, hc2729⟩, ((((X_Fr.rf).tr (X_Fr.of n2424 e2425 (by omega))).tr (X_Fr.mono ⟨hf2455.1, hf2455.2⟩ (fun q hq => (by omega)))).tr (X_Fr.mono ⟨hf2466.1, hf2466.2⟩ (fun q hq => (by omega)))).tr (X_Fr.mono ⟨hf2684.1, hf2684.2⟩ (fun q hq => (by omega)))⟩
                  (repeat (first | unfold sp_wk | unfold sp_wb | unfold sp_we | rw [hsp2468] | (rw [Option.bind_some]; dsimp only) | rw [Option.bind_none] | rw [if_pos (by assumption)] | rw [if_neg (by assumption)]))
                  all_goals first | rfl | ((repeat' split) <;> first | rfl | (exfalso; omega))
              · skip
                have c2675 : ¬ (¬ (so c2470) = 61) := c2675
                refine T_p xr_71_171 xn_71 (pc' := 172) (ls' := [(3, .int (iI (pl cur))), (2, .ref a), (1, .int (iI rk)), (0, .ref 496)]) (st' := [.ref 496]) rfl ?_
                refine T_p xr_71_172 xn_71 (pc' := 173) (ls' := [(3, .int (iI (pl cur))), (2, .ref a), (1, .int (iI rk)), (0, .ref 496)]) (st' := [.ref a, .ref 496]) rfl ?_
                refine T_cv (S := S2460) (q := 496) xr_71_173 xf_74.1 xf_74.2.1 xn_74 (as := [.ref a]) (r := []) rfl hp2463 (Nat.le_of_ble_eq_true rfl) (Nat.le_of_ble_eq_true rfl) (pc' := 176) rfl (ls' := [(0, .ref 496), (1, .ref a)]) rfl ?_
                have h2751 := (hf2466.1 B (by omega)).trans (h2479)
                have h2752 := (hf2466.1 (B + 1) (by omega)).trans (h2480)
                have h2753 := (hf2466.1 (B + 2) (by omega)).trans (h2481)
                have h2754 := (hf2466.1 (B + 3) (by omega)).trans (h2482)
                have h2755 := (hf2466.1 (B + 4) (by omega)).trans (h2483)
                have h2756 := (hf2466.1 (B + 5) (by omega)).trans (h2484)
                have hb2757 : C_bk S2460 B rc kc wc rn lo kn ab := ⟨h2751, h2752, h2753, h2754, h2755, ⟨f, h2756, hf⟩, ⟨by omega, by omega⟩, ⟨by omega, by omega⟩, ⟨by omega, by omega⟩⟩
                refine T_mono (c_parseSteps sc S2460 B 0 fp at_ n c2470 so pl ct rc kc wc rn lo kn ab a d2471 q2472 hB (by omega) hp2463 ⟨hl2464, h2666, h2667, h2668⟩ (by omega) hso hb2757 ⟨hw2465.1, hw2465.2.1, hw2465.2.2.1, hw2465.2.2.2.1, hw2465.2.2.2.2.1, hw2465.2.2.2.2.2.1, hw2465.2.2.2.2.2.2.1, hw2465.2.2.2.2.2.2.2⟩ hr2467 rfl) (fun v2734 S2735 h2736 => ?_)
                rcases h2736 with ⟨hv2737, c2745, d2746, hsp2743, hp2738, hl2739, hc2744, hw2740, hr2742, hf2741⟩ | ⟨hv2737, hsp2743, ⟨fl2748, fp2749, hn2750, hp2738⟩, ⟨c2745, hl2739, hc2744⟩, ⟨d2746, hw2740, hr2742⟩, hf2741⟩
                · skip
                  rw [hv2737]
                  have hs_c2745 := hso c2745 (by omega) (by omega)
                  obtain ⟨⟨_, _⟩, ⟨_, _⟩, ⟨_, _⟩, ⟨_, _⟩, ⟨_, _⟩, ⟨_, _⟩, ⟨_, _⟩, ⟨_, _⟩⟩ := id hr2742
                  show X_T sc 71 (176, [(3, .int (iI (pl cur))), (2, .ref a), (1, .int (iI rk)), (0, .ref 496)], [.int (iI 1)], S2735) _
                  refine T_zif_eqf xr_71_176 (t := 204) (pc' := 179) rfl rfl (by decide) ?_
                  refine T_p xr_71_179 xn_71 (pc' := 191) (ls' := [(3, .int (iI (pl cur))), (2, .ref a), (1, .int (iI rk)), (0, .ref 496)]) (st' := []) rfl ?_
                  refine T_p xr_71_191 xn_71 (pc' := 192) (ls' := [(3, .int (iI (pl cur))), (2, .ref a), (1, .int (iI rk)), (0, .ref 496)]) (st' := [.ref 496]) rfl ?_
                  refine T_get xr_71_192 hp2738 rfl (v := .ref B) rfl (pc' := 195) rfl ?_
                  refine T_p xr_71_195 xn_71 (pc' := 196) (ls' := [(3, .int (iI (pl cur))), (2, .ref a), (1, .int (iI rk)), (0, .ref 496)]) (st' := [.ref B, .ref B]) rfl ?_
                  have h2758 := (hf2741.1 B (by omega)).trans (h2751)
                  refine T_get xr_71_196 h2758 rfl (v := .int (iI wc)) rfl (pc' := 199) rfl ?_
                  refine T_p xr_71_199 xn_71 (pc' := 200) (ls' := [(3, .int (iI (pl cur))), (2, .ref a), (1, .int (iI rk)), (0, .ref 496)]) (st' := [.int (iI 1), .int (iI wc), .ref B]) rfl ?_
                  refine T_ziadd xr_71_200 (z := wc + 1) rfl (pc' := 201) rfl ?_
                  refine T_put xr_71_201 h2758 rfl (Nat.le_of_ble_eq_true rfl) rfl (fs' := [.int (iI rc), .int (iI kc), .int (iI (wc + 1)), .ref (B + 1), .ref (B + 2), .ref (B + 3), .ref (B + 4), .ref (B + 5)]) rfl (pc' := 204) rfl (fun S2759 h2760 n2761 e2762 => ?_)
                  refine T_vret xr_71_204 xf_71.2.2 ?_
                  refine hQ _ _ ?_
                  have h2763 := (n2761 496 (by omega)).trans (hp2738)
                  have h2765 := (n2761 a (by omega)).trans (hw2740.1)
                  have h2766 := (n2761 (a + 1) (by omega)).trans (hw2740.2.1)
                  have h2767 := (n2761 (a + 2) (by omega)).trans (hw2740.2.2.1)
                  have h2768 := (n2761 (a + 3) (by omega)).trans (hw2740.2.2.2.1)
                  have h2769 := (n2761 (a + 4) (by omega)).trans (hw2740.2.2.2.2.1)
                  have h2770 := (n2761 (a + 5) (by omega)).trans (hw2740.2.2.2.2.2.1)
                  have h2771 := (n2761 (a + 6) (by omega)).trans (hw2740.2.2.2.2.2.2.1)
                  have h2772 := (n2761 (a + 7) (by omega)).trans (hw2740.2.2.2.2.2.2.2)
                  have hs2764 : C_ws S2759 B (X_ug D wc d2746) (X_ug W wc q2472) := C_ws.upd2 (P := fun r => r = 496 ∨ r = 497 ∨ r = B ∨ (a ≤ r ∧ r ≤ a + 7)) hs ((((((X_Fr.rf).tr (X_Fr.of n2424 e2425 (by omega))).tr (X_Fr.mono ⟨hf2455.1, hf2455.2⟩ (fun q hq => (by omega)))).tr (X_Fr.mono ⟨hf2466.1, hf2466.2⟩ (fun q hq => (by omega)))).tr (X_Fr.mono ⟨hf2741.1, hf2741.2⟩ (fun q hq => (by omega)))).tr (X_Fr.of n2761 e2762 (by omega))) haa (fun r h1 h2 h3 => by omega) (by omega) ⟨h2765, h2766, h2767, h2768, h2769, h2770, h2771, h2772⟩ hr2742
                  have h2773 := (n2761 497 (by omega)).trans (hl2739)
                  have h2774 := (n2761 (B + 1) (by omega)).trans ((hf2741.1 (B + 1) (by omega)).trans (h2752))
                  have h2775 := (n2761 (B + 2) (by omega)).trans ((hf2741.1 (B + 2) (by omega)).trans (h2753))
                  have h2776 := (n2761 (B + 3) (by omega)).trans ((hf2741.1 (B + 3) (by omega)).trans (h2754))
                  have h2777 := (n2761 (B + 4) (by omega)).trans ((hf2741.1 (B + 4) (by omega)).trans (h2755))
                  have h2780 := (n2761 (B + 5) (by omega)).trans ((hf2741.1 (B + 5) (by omega)).trans (h2756))
                  have h2781 := (n2761 498 (by omega)).trans ((hf2741.1 498 (by omega)).trans (h2666))
                  have h2782 := (n2761 499 (by omega)).trans ((hf2741.1 499 (by omega)).trans (h2667))
                  have h2783 := (n2761 500 (by omega)).trans ((hf2741.1 500 (by omega)).trans (h2668))
                  have hb2778 : C_bk S2759 B rc kc (wc + 1) rn lo kn ab := ⟨h2760, h2774, h2775, h2776, h2777, ⟨f, h2780, hf⟩, ⟨by omega, by omega⟩, ⟨by omega, by omega⟩, ⟨by omega, by omega⟩⟩
                  have hc2779 : 0 ≤ c2745 ∧ c2745 < n := by omega
                  refine Or.inl ⟨(c2745, d2746, q2472), ?_, fp, ⟨h2763, ⟨h2773, h2781, h2782, h2783⟩, hb2778, hs2764, hc2779⟩, (((((X_Fr.rf).tr (X_Fr.of n2424 e2425 (by omega))).tr (X_Fr.mono ⟨hf2455.1, hf2455.2⟩ (fun q hq => (by omega)))).tr (X_Fr.mono ⟨hf2466.1, hf2466.2⟩ (fun q hq => (by omega)))).tr (X_Fr.mono ⟨hf2741.1, hf2741.2⟩ (fun q hq => (by omega)))).tr (X_Fr.of n2761 e2762 (by omega))⟩
                  (repeat (first | unfold sp_wk | unfold sp_wb | unfold sp_we | rw [hsp2468] | rw [hsp2743] | (rw [Option.bind_some]; dsimp only) | rw [Option.bind_none] | rw [if_pos (by assumption)] | rw [if_neg (by assumption)]))
                  all_goals first | rfl | ((repeat' split) <;> first | rfl | (exfalso; omega))
                · skip
                  rw [hv2737]
                  have hs_c2745 := hso c2745 (by omega) (by omega)
                  obtain ⟨⟨_, _⟩, ⟨_, _⟩, ⟨_, _⟩, ⟨_, _⟩, ⟨_, _⟩, ⟨_, _⟩, ⟨_, _⟩, ⟨_, _⟩⟩ := id hr2742
                  show X_T sc 71 (176, [(3, .int (iI (pl cur))), (2, .ref a), (1, .int (iI rk)), (0, .ref 496)], [.int (iI 0)], S2735) _
                  refine T_zif_eqt xr_71_176 (t := 204) rfl (by decide) ?_
                  refine T_vret xr_71_204 xf_71.2.2 ?_
                  refine hQ _ _ ?_
                  have h2784 := (hf2741.1 B (by omega)).trans (h2751)
                  have hs2785 : C_ws S2735 B (X_ug D wc d2746) (X_ug W wc q2472) := C_ws.upd2 (P := fun r => r = 496 ∨ r = 497 ∨ r = B ∨ (a ≤ r ∧ r ≤ a + 7)) hs (((((X_Fr.rf).tr (X_Fr.of n2424 e2425 (by omega))).tr (X_Fr.mono ⟨hf2455.1, hf2455.2⟩ (fun q hq => (by omega)))).tr (X_Fr.mono ⟨hf2466.1, hf2466.2⟩ (fun q hq => (by omega)))).tr (X_Fr.mono ⟨hf2741.1, hf2741.2⟩ (fun q hq => (by omega)))) haa (fun r h1 h2 h3 => by omega) (by omega) ⟨hw2740.1, hw2740.2.1, hw2740.2.2.1, hw2740.2.2.2.1, hw2740.2.2.2.2.1, hw2740.2.2.2.2.2.1, hw2740.2.2.2.2.2.2.1, hw2740.2.2.2.2.2.2.2⟩ hr2742
                  have h2786 := (hf2741.1 (B + 1) (by omega)).trans (h2752)
                  have h2787 := (hf2741.1 (B + 2) (by omega)).trans (h2753)
                  have h2788 := (hf2741.1 (B + 3) (by omega)).trans (h2754)
                  have h2789 := (hf2741.1 (B + 4) (by omega)).trans (h2755)
                  have h2792 := (hf2741.1 (B + 5) (by omega)).trans (h2756)
                  have h2793 := (hf2741.1 498 (by omega)).trans (h2666)
                  have h2794 := (hf2741.1 499 (by omega)).trans (h2667)
                  have h2795 := (hf2741.1 500 (by omega)).trans (h2668)
                  have hb2790 : C_bk S2735 B rc kc wc rn lo kn ab := ⟨h2784, h2786, h2787, h2788, h2789, ⟨f, h2792, hf⟩, ⟨by omega, by omega⟩, ⟨by omega, by omega⟩, ⟨by omega, by omega⟩⟩
                  have hc2791 : 0 ≤ c2745 ∧ c2745 < n := by omega
                  refine Or.inr ⟨?_, fl2748, fp2749, (c2745, rc, kc, wc, rn, lo, kn, ab, (X_ug D wc d2746), (X_ug W wc q2472)), by omega, ⟨hp2738, ⟨hl2739, h2793, h2794, h2795⟩, hb2790, hs2785, hc2791⟩, ((((X_Fr.rf).tr (X_Fr.of n2424 e2425 (by omega))).tr (X_Fr.mono ⟨hf2455.1, hf2455.2⟩ (fun q hq => (by omega)))).tr (X_Fr.mono ⟨hf2466.1, hf2466.2⟩ (fun q hq => (by omega)))).tr (X_Fr.mono ⟨hf2741.1, hf2741.2⟩ (fun q hq => (by omega)))⟩
                  (repeat (first | unfold sp_wk | unfold sp_wb | unfold sp_we | rw [hsp2468] | rw [hsp2743] | (rw [Option.bind_some]; dsimp only) | rw [Option.bind_none] | rw [if_pos (by assumption)] | rw [if_neg (by assumption)]))
                  all_goals first | rfl | ((repeat' split) <;> first | rfl | (exfalso; omega))
            · skip
              have c2665 : ¬ (¬ (d2471 4 0) = (d2471 3 0)) := c2665
              refine T_p xr_71_152 xn_71 (pc' := 153) (ls' := [(3, .int (iI (pl cur))), (2, .ref a), (1, .int (iI rk)), (0, .ref 496)]) (st' := [.ref 496]) rfl ?_
              refine T_cv (S := S2460) (q := 496) xr_71_153 xf_63.1 xf_63.2.1 xn_63 (as := []) (r := []) rfl hp2463 (Nat.le_of_ble_eq_true rfl) (Nat.le_of_ble_eq_true rfl) (pc' := 156) rfl (ls' := [(0, .ref 496)]) rfl ?_
              have h2805 := (hf2466.1 498 (by omega)).trans (h2476)
              have h2806 := (hf2466.1 499 (by omega)).trans (h2477)
              have h2807 := (hf2466.1 500 (by omega)).trans (h2478)
              refine T_mono (c_refuse sc S2460 B 0 fp at_ n c2470 so pl ct hp2463 ⟨hl2464, h2805, h2806, h2807⟩ (by omega) hso) (fun v2796 S2797 h2798 => ?_)
              obtain ⟨h2799, ⟨fl2800, fp2801, hn2802, hp2803⟩, hf2804⟩ := h2798
              rw [h2799]
              show X_T sc 71 (156, [(3, .int (iI (pl cur))), (2, .ref a), (1, .int (iI rk)), (0, .ref 496)], [], S2797) _
              refine T_p xr_71_156 xn_71 (pc' := 204) (ls' := [(3, .int (iI (pl cur))), (2, .ref a), (1, .int (iI rk)), (0, .ref 496)]) (st' := []) rfl ?_
              refine T_vret xr_71_204 xf_71.2.2 ?_
              refine hQ _ _ ?_
              have h2808 := (hf2804.1 B (by omega)).trans ((hf2466.1 B (by omega)).trans (h2479))
              have h2810 := (hf2804.1 a (by omega)).trans (hw2465.1)
              have h2811 := (hf2804.1 (a + 1) (by omega)).trans (hw2465.2.1)
              have h2812 := (hf2804.1 (a + 2) (by omega)).trans (hw2465.2.2.1)
              have h2813 := (hf2804.1 (a + 3) (by omega)).trans (hw2465.2.2.2.1)
              have h2814 := (hf2804.1 (a + 4) (by omega)).trans (hw2465.2.2.2.2.1)
              have h2815 := (hf2804.1 (a + 5) (by omega)).trans (hw2465.2.2.2.2.2.1)
              have h2816 := (hf2804.1 (a + 6) (by omega)).trans (hw2465.2.2.2.2.2.2.1)
              have h2817 := (hf2804.1 (a + 7) (by omega)).trans (hw2465.2.2.2.2.2.2.2)
              have hs2809 : C_ws S2797 B (X_ug D wc d2471) (X_ug W wc q2472) := C_ws.upd2 (P := fun r => r = 496 ∨ r = 497 ∨ r = B ∨ (a ≤ r ∧ r ≤ a + 7)) hs (((((X_Fr.rf).tr (X_Fr.of n2424 e2425 (by omega))).tr (X_Fr.mono ⟨hf2455.1, hf2455.2⟩ (fun q hq => (by omega)))).tr (X_Fr.mono ⟨hf2466.1, hf2466.2⟩ (fun q hq => (by omega)))).tr (X_Fr.mono ⟨hf2804.1, hf2804.2⟩ (fun q hq => (by omega)))) haa (fun r h1 h2 h3 => by omega) (by omega) ⟨h2810, h2811, h2812, h2813, h2814, h2815, h2816, h2817⟩ hr2467
              have h2818 := (hf2804.1 497 (by omega)).trans (hl2464)
              have h2819 := (hf2804.1 (B + 1) (by omega)).trans ((hf2466.1 (B + 1) (by omega)).trans (h2480))
              have h2820 := (hf2804.1 (B + 2) (by omega)).trans ((hf2466.1 (B + 2) (by omega)).trans (h2481))
              have h2821 := (hf2804.1 (B + 3) (by omega)).trans ((hf2466.1 (B + 3) (by omega)).trans (h2482))
              have h2822 := (hf2804.1 (B + 4) (by omega)).trans ((hf2466.1 (B + 4) (by omega)).trans (h2483))
              have h2825 := (hf2804.1 (B + 5) (by omega)).trans ((hf2466.1 (B + 5) (by omega)).trans (h2484))
              have h2826 := (hf2804.1 498 (by omega)).trans (h2805)
              have h2827 := (hf2804.1 499 (by omega)).trans (h2806)
              have h2828 := (hf2804.1 500 (by omega)).trans (h2807)
              have hb2823 : C_bk S2797 B rc kc wc rn lo kn ab := ⟨h2808, h2819, h2820, h2821, h2822, ⟨f, h2825, hf⟩, ⟨by omega, by omega⟩, ⟨by omega, by omega⟩, ⟨by omega, by omega⟩⟩
              have hc2824 : 0 ≤ c2470 ∧ c2470 < n := by omega
              refine Or.inr ⟨?_, fl2800, fp2801, (c2470, rc, kc, wc, rn, lo, kn, ab, (X_ug D wc d2471), (X_ug W wc q2472)), by omega, ⟨hp2803, ⟨h2818, h2826, h2827, h2828⟩, hb2823, hs2809, hc2824⟩, ((((X_Fr.rf).tr (X_Fr.of n2424 e2425 (by omega))).tr (X_Fr.mono ⟨hf2455.1, hf2455.2⟩ (fun q hq => (by omega)))).tr (X_Fr.mono ⟨hf2466.1, hf2466.2⟩ (fun q hq => (by omega)))).tr (X_Fr.mono ⟨hf2804.1, hf2804.2⟩ (fun q hq => (by omega)))⟩
              (repeat (first | unfold sp_wk | unfold sp_wb | unfold sp_we | rw [hsp2468] | (rw [Option.bind_some]; dsimp only) | rw [Option.bind_none] | rw [if_pos (by assumption)] | rw [if_neg (by assumption)]))
              all_goals first | rfl | ((repeat' split) <;> first | rfl | (exfalso; omega))
          · skip
            have c2664 : (X_en d2471 q2472 = 0) := c2664
            refine T_p xr_71_132 xn_71 (pc' := 133) (ls' := [(3, .int (iI (pl cur))), (2, .ref a), (1, .int (iI rk)), (0, .ref 496)]) (st' := [.ref 496]) rfl ?_
            refine T_p xr_71_133 xn_71 (pc' := 134) (ls' := [(3, .int (iI (pl cur))), (2, .ref a), (1, .int (iI rk)), (0, .ref 496)]) (st' := [.int (iI 2), .ref 496]) rfl ?_
            refine T_p xr_71_134 xn_71 (pc' := 135) (ls' := [(3, .int (iI (pl cur))), (2, .ref a), (1, .int (iI rk)), (0, .ref 496)]) (st' := [.int (iI (pl cur)), .int (iI 2), .ref 496]) rfl ?_
            refine T_cv (S := S2460) (q := 496) xr_71_135 xf_62.1 xf_62.2.1 xn_62 (as := [.int (iI 2), .int (iI (pl cur))]) (r := []) rfl hp2463 (Nat.le_of_ble_eq_true rfl) (Nat.le_of_ble_eq_true rfl) (pc' := 138) rfl (ls' := [(0, .ref 496), (1, .int (iI 2)), (2, .int (iI (pl cur)))]) rfl ?_
            refine T_p xr_62_0 xn_62 (pc' := 1) (ls' := [(0, .ref 496), (1, .int (iI 2)), (2, .int (iI (pl cur)))]) (st' := [.ref 496]) rfl ?_
            refine T_p xr_62_1 xn_62 (pc' := 2) (ls' := [(0, .ref 496), (1, .int (iI 2)), (2, .int (iI (pl cur)))]) (st' := [.int (iI 2), .ref 496]) rfl ?_
            refine T_put xr_62_2 hp2463 rfl (Nat.le_of_ble_eq_true rfl) rfl (fs' := [.ref 497, .ref B, .int (iI 2), .int (iI fp)]) rfl (pc' := 5) rfl (fun S2829 h2830 n2831 e2832 => ?_)
            refine T_p xr_62_5 xn_62 (pc' := 6) (ls' := [(0, .ref 496), (1, .int (iI 2)), (2, .int (iI (pl cur)))]) (st' := [.ref 496]) rfl ?_
            refine T_p xr_62_6 xn_62 (pc' := 7) (ls' := [(0, .ref 496), (1, .int (iI 2)), (2, .int (iI (pl cur)))]) (st' := [.int (iI (pl cur)), .ref 496]) rfl ?_
            refine T_put xr_62_7 h2830 rfl (Nat.le_of_ble_eq_true rfl) rfl (fs' := [.ref 497, .ref B, .int (iI 2), .int (iI (pl cur))]) rfl (pc' := 10) rfl (fun S2833 h2834 n2835 e2836 => ?_)
            refine T_vret xr_62_10 xf_62.2.2 ?_
            show X_T sc 71 (138, [(3, .int (iI (pl cur))), (2, .ref a), (1, .int (iI rk)), (0, .ref 496)], [], S2833) _
            refine T_p xr_71_138 xn_71 (pc' := 204) (ls' := [(3, .int (iI (pl cur))), (2, .ref a), (1, .int (iI rk)), (0, .ref 496)]) (st' := []) rfl ?_
            refine T_vret xr_71_204 xf_71.2.2 ?_
            refine hQ _ _ ?_
            have h2837 := (n2835 B (by omega)).trans ((n2831 B (by omega)).trans ((hf2466.1 B (by omega)).trans (h2479)))
            have h2839 := (n2835 a (by omega)).trans ((n2831 a (by omega)).trans (hw2465.1))
            have h2840 := (n2835 (a + 1) (by omega)).trans ((n2831 (a + 1) (by omega)).trans (hw2465.2.1))
            have h2841 := (n2835 (a + 2) (by omega)).trans ((n2831 (a + 2) (by omega)).trans (hw2465.2.2.1))
            have h2842 := (n2835 (a + 3) (by omega)).trans ((n2831 (a + 3) (by omega)).trans (hw2465.2.2.2.1))
            have h2843 := (n2835 (a + 4) (by omega)).trans ((n2831 (a + 4) (by omega)).trans (hw2465.2.2.2.2.1))
            have h2844 := (n2835 (a + 5) (by omega)).trans ((n2831 (a + 5) (by omega)).trans (hw2465.2.2.2.2.2.1))
            have h2845 := (n2835 (a + 6) (by omega)).trans ((n2831 (a + 6) (by omega)).trans (hw2465.2.2.2.2.2.2.1))
            have h2846 := (n2835 (a + 7) (by omega)).trans ((n2831 (a + 7) (by omega)).trans (hw2465.2.2.2.2.2.2.2))
            have hs2838 : C_ws S2833 B (X_ug D wc d2471) (X_ug W wc q2472) := C_ws.upd2 (P := fun r => r = 496 ∨ r = 497 ∨ r = B ∨ (a ≤ r ∧ r ≤ a + 7)) hs ((((((X_Fr.rf).tr (X_Fr.of n2424 e2425 (by omega))).tr (X_Fr.mono ⟨hf2455.1, hf2455.2⟩ (fun q hq => (by omega)))).tr (X_Fr.mono ⟨hf2466.1, hf2466.2⟩ (fun q hq => (by omega)))).tr (X_Fr.of n2831 e2832 (by omega))).tr (X_Fr.of n2835 e2836 (by omega))) haa (fun r h1 h2 h3 => by omega) (by omega) ⟨h2839, h2840, h2841, h2842, h2843, h2844, h2845, h2846⟩ hr2467
            have h2847 := (n2835 497 (by decide)).trans ((n2831 497 (by decide)).trans (hl2464))
            have h2848 := (n2835 (B + 1) (by omega)).trans ((n2831 (B + 1) (by omega)).trans ((hf2466.1 (B + 1) (by omega)).trans (h2480)))
            have h2849 := (n2835 (B + 2) (by omega)).trans ((n2831 (B + 2) (by omega)).trans ((hf2466.1 (B + 2) (by omega)).trans (h2481)))
            have h2850 := (n2835 (B + 3) (by omega)).trans ((n2831 (B + 3) (by omega)).trans ((hf2466.1 (B + 3) (by omega)).trans (h2482)))
            have h2851 := (n2835 (B + 4) (by omega)).trans ((n2831 (B + 4) (by omega)).trans ((hf2466.1 (B + 4) (by omega)).trans (h2483)))
            have h2854 := (n2835 (B + 5) (by omega)).trans ((n2831 (B + 5) (by omega)).trans ((hf2466.1 (B + 5) (by omega)).trans (h2484)))
            have h2855 := (n2835 498 (by decide)).trans ((n2831 498 (by decide)).trans ((hf2466.1 498 (by omega)).trans (h2476)))
            have h2856 := (n2835 499 (by decide)).trans ((n2831 499 (by decide)).trans ((hf2466.1 499 (by omega)).trans (h2477)))
            have h2857 := (n2835 500 (by decide)).trans ((n2831 500 (by decide)).trans ((hf2466.1 500 (by omega)).trans (h2478)))
            have hb2852 : C_bk S2833 B rc kc wc rn lo kn ab := ⟨h2837, h2848, h2849, h2850, h2851, ⟨f, h2854, hf⟩, ⟨by omega, by omega⟩, ⟨by omega, by omega⟩, ⟨by omega, by omega⟩⟩
            have hc2853 : 0 ≤ c2470 ∧ c2470 < n := by omega
            refine Or.inr ⟨?_, 2, pl cur, (c2470, rc, kc, wc, rn, lo, kn, ab, (X_ug D wc d2471), (X_ug W wc q2472)), by omega, ⟨h2834, ⟨h2847, h2855, h2856, h2857⟩, hb2852, hs2838, hc2853⟩, (((((X_Fr.rf).tr (X_Fr.of n2424 e2425 (by omega))).tr (X_Fr.mono ⟨hf2455.1, hf2455.2⟩ (fun q hq => (by omega)))).tr (X_Fr.mono ⟨hf2466.1, hf2466.2⟩ (fun q hq => (by omega)))).tr (X_Fr.of n2831 e2832 (by omega))).tr (X_Fr.of n2835 e2836 (by omega))⟩
            (repeat (first | unfold sp_wk | unfold sp_wb | unfold sp_we | rw [hsp2468] | (rw [Option.bind_some]; dsimp only) | rw [Option.bind_none] | rw [if_pos (by assumption)] | rw [if_neg (by assumption)]))
            all_goals first | rfl | ((repeat' split) <;> first | rfl | (exfalso; omega))
      · skip
        rw [hv2462]
        have hs_c2470 := hso c2470 (by omega) (by omega)
        obtain ⟨⟨_, _⟩, ⟨_, _⟩, ⟨_, _⟩, ⟨_, _⟩, ⟨_, _⟩, ⟨_, _⟩, ⟨_, _⟩, ⟨_, _⟩⟩ := id hr2467
        show X_T sc 71 (114, [(3, .int (iI (pl cur))), (2, .ref a), (1, .int (iI rk)), (0, .ref 496)], [.int (iI 0)], S2460) _
        refine T_zif_nef xr_71_114 (t := 118) (pc' := 117) rfl rfl (by decide) ?_
        refine T_vret xr_71_117 xf_71.2.2 ?_
        refine hQ _ _ ?_
        have h2858 := (hf2466.1 B (by omega)).trans (h2479)
        have hs2859 : C_ws S2460 B (X_ug D wc d2471) (X_ug W wc q2472) := C_ws.upd2 (P := fun r => r = 496 ∨ r = 497 ∨ r = B ∨ (a ≤ r ∧ r ≤ a + 7)) hs ((((X_Fr.rf).tr (X_Fr.of n2424 e2425 (by omega))).tr (X_Fr.mono ⟨hf2455.1, hf2455.2⟩ (fun q hq => (by omega)))).tr (X_Fr.mono ⟨hf2466.1, hf2466.2⟩ (fun q hq => (by omega)))) haa (fun r h1 h2 h3 => by omega) (by omega) ⟨hw2465.1, hw2465.2.1, hw2465.2.2.1, hw2465.2.2.2.1, hw2465.2.2.2.2.1, hw2465.2.2.2.2.2.1, hw2465.2.2.2.2.2.2.1, hw2465.2.2.2.2.2.2.2⟩ hr2467
        have h2860 := (hf2466.1 (B + 1) (by omega)).trans (h2480)
        have h2861 := (hf2466.1 (B + 2) (by omega)).trans (h2481)
        have h2862 := (hf2466.1 (B + 3) (by omega)).trans (h2482)
        have h2863 := (hf2466.1 (B + 4) (by omega)).trans (h2483)
        have h2866 := (hf2466.1 (B + 5) (by omega)).trans (h2484)
        have h2867 := (hf2466.1 498 (by omega)).trans (h2476)
        have h2868 := (hf2466.1 499 (by omega)).trans (h2477)
        have h2869 := (hf2466.1 500 (by omega)).trans (h2478)
        have hb2864 : C_bk S2460 B rc kc wc rn lo kn ab := ⟨h2858, h2860, h2861, h2862, h2863, ⟨f, h2866, hf⟩, ⟨by omega, by omega⟩, ⟨by omega, by omega⟩, ⟨by omega, by omega⟩⟩
        have hc2865 : 0 ≤ c2470 ∧ c2470 < n := by omega
        refine Or.inr ⟨?_, fl2473, fp2474, (c2470, rc, kc, wc, rn, lo, kn, ab, (X_ug D wc d2471), (X_ug W wc q2472)), by omega, ⟨hp2463, ⟨hl2464, h2867, h2868, h2869⟩, hb2864, hs2859, hc2865⟩, (((X_Fr.rf).tr (X_Fr.of n2424 e2425 (by omega))).tr (X_Fr.mono ⟨hf2455.1, hf2455.2⟩ (fun q hq => (by omega)))).tr (X_Fr.mono ⟨hf2466.1, hf2466.2⟩ (fun q hq => (by omega)))⟩
        (repeat (first | unfold sp_wk | unfold sp_wb | unfold sp_we | rw [hsp2468] | (rw [Option.bind_some]; dsimp only) | rw [Option.bind_none] | rw [if_pos (by assumption)] | rw [if_neg (by assumption)]))
        all_goals first | rfl | ((repeat' split) <;> first | rfl | (exfalso; omega))
    · skip
      rw [hv2447]
      show X_T sc 71 (106, [(3, .int (iI (pl cur))), (2, .ref a), (1, .int (iI rk)), (0, .ref 496)], [.int (iI 0)], S2451) _
      refine T_zif_eqt xr_71_106 (t := 117) rfl (by decide) ?_
      refine T_vret xr_71_117 xf_71.2.2 ?_
      refine hQ _ _ ?_
      have h2870 := (hf2455.1 B (by omega)).trans ((n2424 B (by omega)).trans (hb0))
      have h2872 := (hf2455.1 a (by omega)).trans (h2435)
      have h2873 := (hf2455.1 (a + 1) (by omega)).trans (hw2427.2.1)
      have h2874 := (hf2455.1 (a + 2) (by omega)).trans (hw2427.2.2.1)
      have h2875 := (hf2455.1 (a + 3) (by omega)).trans (hw2427.2.2.2.1)
      have h2876 := (hf2455.1 (a + 4) (by omega)).trans (hw2427.2.2.2.2.1)
      have h2877 := (hf2455.1 (a + 5) (by omega)).trans (hw2427.2.2.2.2.2.1)
      have h2878 := (hf2455.1 (a + 6) (by omega)).trans (hw2427.2.2.2.2.2.2.1)
      have h2879 := (hf2455.1 (a + 7) (by omega)).trans (hw2427.2.2.2.2.2.2.2)
      have hs2871 : C_ws S2451 B (X_ug D wc (X_wu (D wc) 2 (fun _ => kd))) (X_ug W wc (W wc)) := C_ws.upd2 (P := fun r => r = 496 ∨ r = 497 ∨ r = B ∨ (a ≤ r ∧ r ≤ a + 7)) hs (((X_Fr.rf).tr (X_Fr.of n2424 e2425 (by omega))).tr (X_Fr.mono ⟨hf2455.1, hf2455.2⟩ (fun q hq => (by omega)))) haa (fun r h1 h2 h3 => by omega) (by omega) ⟨h2872, h2873, h2874, h2875, h2876, h2877, h2878, h2879⟩ hr2426
      have h2880 := (hf2455.1 (B + 1) (by omega)).trans ((n2424 (B + 1) (by omega)).trans (hb1))
      have h2881 := (hf2455.1 (B + 2) (by omega)).trans ((n2424 (B + 2) (by omega)).trans (hb2))
      have h2882 := (hf2455.1 (B + 3) (by omega)).trans ((n2424 (B + 3) (by omega)).trans (hb3))
      have h2883 := (hf2455.1 (B + 4) (by omega)).trans ((n2424 (B + 4) (by omega)).trans (hb4))
      have h2886 := (hf2455.1 (B + 5) (by omega)).trans ((n2424 (B + 5) (by omega)).trans (hb5))
      have h2887 := (hf2455.1 498 (by omega)).trans (h2438)
      have h2888 := (hf2455.1 499 (by omega)).trans (h2439)
      have h2889 := (hf2455.1 500 (by omega)).trans (h2440)
      have hb2884 : C_bk S2451 B rc kc wc rn lo kn ab := ⟨h2870, h2880, h2881, h2882, h2883, ⟨f, h2886, hf⟩, ⟨by omega, by omega⟩, ⟨by omega, by omega⟩, ⟨by omega, by omega⟩⟩
      have hc2885 : 0 ≤ cur ∧ cur < n := by omega
      refine Or.inr ⟨?_, fl2456, fp2457, (cur, rc, kc, wc, rn, lo, kn, ab, (X_ug D wc (X_wu (D wc) 2 (fun _ => kd))), (X_ug W wc (W wc))), by omega, ⟨hp2453, ⟨hl2454, h2887, h2888, h2889⟩, hb2884, hs2871, hc2885⟩, ((X_Fr.rf).tr (X_Fr.of n2424 e2425 (by omega))).tr (X_Fr.mono ⟨hf2455.1, hf2455.2⟩ (fun q hq => (by omega)))⟩
      (repeat (first | unfold sp_wk | unfold sp_wb | unfold sp_we | (rw [Option.bind_some]; dsimp only) | rw [Option.bind_none] | rw [if_pos (by assumption)] | rw [if_neg (by assumption)]))
      all_goals first | rfl | ((repeat' split) <;> first | rfl | (exfalso; omega))
theorem c_parseWord (sc : X_Sc) (S : X_S) (B : Nat) (fp at_ n : Int) (so pl : Int → Int) (ct : Int → Int64) (cur rc kc wc : Int) (rn : Int → Int64) (lo : Int → Int) (kn : Int → Int64) (ab : Int → Int) (D : Int → Nat → Int → Int) (W : Int → Int → Int64) (hB : 4 ≤ B ∧ B + 246 ≤ 496) (hn : n ≤ 2001) (hso : ∀ i, 0 ≤ i → i < n → 0 ≤ so i ∧ so i ≤ 255) (hK : C_K S B 0 fp at_ n so pl ct (cur, rc, kc, wc, rn, lo, kn, ab, D, W)) : X_T sc 71 (0, [(0, .ref 496)], [], S) (fun v S' => (∃ K, sp_word n so ct (cur, rc, kc, wc, rn, lo, kn, ab, D, W) = some K ∧ ∃ fp', C_K S' B 0 fp' at_ n so pl ct K ∧ X_Fr (fun q => q = 496 ∨ q = 497 ∨ (B ≤ q ∧ q < B + 246)) S S') ∨ (sp_word n so ct (cur, rc, kc, wc, rn, lo, kn, ab, D, W) = none ∧ ∃ fl' fp' K, (¬ fl' = 0 ∧ 0 ≤ fl' ∧ fl' ≤ 5) ∧ C_K S' B fl' fp' at_ n so pl ct K ∧ X_Fr (fun q => q = 496 ∨ q = 497 ∨ (B ≤ q ∧ q < B + 246)) S S')) := by
  obtain ⟨hp, hx, hb, hs, hcu⟩ := id hK
  simp only at hx hb hs hcu
  obtain ⟨hb0, hb1, hb2, hb3, hb4, ⟨f, hb5, hf⟩, ⟨hrc, hrcb⟩, ⟨hkc, hkcb⟩, ⟨hwc, hwcb⟩⟩ := id hb
  refine X_QI (fun Q hQ => ?_)
  refine T_p xr_71_0 xn_71 (pc' := 1) (ls' := [(0, .ref 496)]) (st' := [.ref 496]) rfl ?_
  refine T_get xr_71_1 hp rfl (v := .ref B) rfl (pc' := 4) rfl ?_
  refine T_get xr_71_4 hb0 rfl (v := .int (iI wc)) rfl (pc' := 7) rfl ?_
  refine T_p xr_71_7 xn_71 (pc' := 9) (ls' := [(0, .ref 496)]) (st' := [.int (iI 30), .int (iI wc)]) rfl ?_
  refine T_zicmp_ne xr_71_9 (t := 17) (pc' := 12) rfl rfl (fun c2890 => ?_) (fun c2890 => ?_)
  · skip
    have c2890 : ¬ wc = 30 := c2890
    refine T_p xr_71_17 xn_71 (pc' := 18) (ls' := [(0, .ref 496)]) (st' := [.ref 496]) rfl ?_
    refine T_get xr_71_18 hp rfl (v := .ref 497) rfl (pc' := 21) rfl ?_
    refine T_cv (S := S) (q := 497) xr_71_21 xf_48.1 xf_48.2.1 xn_48 (as := []) (r := []) rfl hx.1 (Nat.le_of_ble_eq_true rfl) (Nat.le_of_ble_eq_true rfl) (pc' := 24) rfl (ls' := [(0, .ref 497)]) rfl ?_
    refine T_mono (c_advance sc S at_ n cur so pl ct ⟨hx.1, hx.2.1, hx.2.2.1, hx.2.2.2⟩ (by omega)) (fun v2892 S2893 h2891 => ?_)
    obtain ⟨h2894, h2896, h2895⟩ := h2891
    rw [h2894]
    show X_T sc 71 (24, [(0, .ref 496)], [], S2893) _
    have hv2897 := X_av_r (n := n) (c := cur) (by omega)
    refine T_p xr_71_24 xn_71 (pc' := 25) (ls' := [(0, .ref 496)]) (st' := [.ref 496]) rfl ?_
    have h2898 := (h2895.1 496 (by omega)).trans (hp)
    refine T_cv (S := S2893) (q := 496) xr_71_25 xf_68.1 xf_68.2.1 xn_68 (as := []) (r := []) rfl h2898 (Nat.le_of_ble_eq_true rfl) (Nat.le_of_ble_eq_true rfl) (pc' := 28) rfl (ls' := [(0, .ref 496)]) rfl ?_
    have h2899 := (h2895.1 498 (by omega)).trans (hx.2.1)
    have h2900 := (h2895.1 499 (by omega)).trans (hx.2.2.1)
    have h2901 := (h2895.1 500 (by omega)).trans (hx.2.2.2)
    have h2902 := (h2895.1 B (by omega)).trans (hb0)
    have h2903 := (h2895.1 (B + 1) (by omega)).trans (hb1)
    have h2909 := (h2895.1 (B + 2) (by omega)).trans (hb2)
    have h2910 := (h2895.1 (B + 3) (by omega)).trans (hb3)
    have h2911 := (h2895.1 (B + 4) (by omega)).trans (hb4)
    have h2912 := (h2895.1 (B + 5) (by omega)).trans (hb5)
    have hb2913 : C_bk S2893 B rc kc wc rn lo kn ab := ⟨h2902, h2903, h2909, h2910, h2911, ⟨f, h2912, hf⟩, ⟨by omega, by omega⟩, ⟨by omega, by omega⟩, ⟨by omega, by omega⟩⟩
    refine T_mono (c_passRank sc S2893 B 0 fp at_ n (X_av n cur) so pl ct rc kc wc rn lo kn ab h2898 ⟨h2896, h2899, h2900, h2901⟩ (by omega) hso hB hb2913) (fun v2915 S2916 h2917 => ?_)
    rcases h2917 with ⟨h2904, h2905, h2906, h2907, hp2918, hl2919, hf2920⟩ | ⟨h2904, h2908, ⟨fl2921, fp2922, hn2923, hp2918⟩, hl2919, hf2920⟩
    · skip
      rw [h2904]
      have hv2914 := X_av_r (n := n) (c := (X_av n cur)) (by omega)
      show X_T sc 71 (28, [(0, .ref 496)], [.int (iI (X_ix rn rc (ct (X_av n cur))))], S2916) _
      refine T_p xr_71_28 xn_71 (pc' := 29) (ls' := [(1, .int (iI (X_ix rn rc (ct (X_av n cur))))), (0, .ref 496)]) (st' := []) rfl ?_
      refine T_p xr_71_29 xn_71 (pc' := 30) (ls' := [(1, .int (iI (X_ix rn rc (ct (X_av n cur))))), (0, .ref 496)]) (st' := [.int (iI (X_ix rn rc (ct (X_av n cur))))]) rfl ?_
      refine T_p xr_71_30 xn_71 (pc' := 31) (ls' := [(1, .int (iI (X_ix rn rc (ct (X_av n cur))))), (0, .ref 496)]) (st' := [.int (iI (-1)), .int (iI (X_ix rn rc (ct (X_av n cur))))]) rfl ?_
      refine T_zicmp_ne xr_71_31 (t := 35) (pc' := 34) rfl rfl (fun c2924 => ?_) (fun c2924 => ?_)
      · skip
        have c2924 : ¬ (X_ix rn rc (ct (X_av n cur))) = (-1) := c2924
        refine T_p xr_71_35 xn_71 (pc' := 36) (ls' := [(1, .int (iI (X_ix rn rc (ct (X_av n cur))))), (0, .ref 496)]) (st' := [.ref 496]) rfl ?_
        refine T_get xr_71_36 hp2918 rfl (v := .ref B) rfl (pc' := 39) rfl ?_
        have h2925 := (hf2920.1 B (by omega)).trans (h2902)
        refine T_get xr_71_39 h2925 rfl (v := .ref (B + 5)) rfl (pc' := 42) rfl ?_
        refine T_p xr_71_42 xn_71 (pc' := 43) (ls' := [(1, .int (iI (X_ix rn rc (ct (X_av n cur))))), (0, .ref 496)]) (st' := [.ref 496, .ref (B + 5)]) rfl ?_
        refine T_get xr_71_43 hp2918 rfl (v := .ref B) rfl (pc' := 46) rfl ?_
        refine T_get xr_71_46 h2925 rfl (v := .int (iI wc)) rfl (pc' := 49) rfl ?_
        have h2926 := (hf2920.1 (B + 5) (by omega)).trans (h2912)
        have hs2927 : C_ws S2916 B D W := C_ws.fr (P := fun r => ¬ (B + 6 ≤ r ∧ r < B + 246)) hs (((X_Fr.rf).tr (X_Fr.mono ⟨h2895.1, h2895.2⟩ (fun q hq => (by omega)))).tr (X_Fr.mono ⟨hf2920.1, hf2920.2⟩ (fun q hq => (by omega)))) (fun k h1 h2 => by omega)
        have hwa := hs2927 wc (by omega) (by omega)
        obtain ⟨a, haa⟩ : ∃ z : Nat, z = B + 6 + 8 * (wc : Int).toNat := ⟨_, rfl⟩
        rw [← haa] at hwa
        obtain ⟨⟨_, _⟩, ⟨_, _⟩, ⟨_, _⟩, ⟨_, _⟩, ⟨_, _⟩, ⟨_, _⟩, ⟨_, _⟩, ⟨_, _⟩⟩ := id hwa.2
        refine T_zaald xr_71_49 h2926 (w := a) (by rw [haa]; exact hf _ (by omega)) (pc' := 50) rfl ?_
        refine T_p xr_71_50 xn_71 (pc' := 51) (ls' := [(2, .ref a), (1, .int (iI (X_ix rn rc (ct (X_av n cur))))), (0, .ref 496)]) (st' := []) rfl ?_
        refine T_p xr_71_51 xn_71 (pc' := 52) (ls' := [(2, .ref a), (1, .int (iI (X_ix rn rc (ct (X_av n cur))))), (0, .ref 496)]) (st' := [.ref a]) rfl ?_
        refine T_p xr_71_52 xn_71 (pc' := 53) (ls' := [(2, .ref a), (1, .int (iI (X_ix rn rc (ct (X_av n cur))))), (0, .ref 496)]) (st' := [.int (iI (X_ix rn rc (ct (X_av n cur)))), .ref a]) rfl ?_
        refine T_cv (S := S2916) (q := a) xr_71_53 xf_90.1 xf_90.2.1 xn_90 (as := [.int (iI (X_ix rn rc (ct (X_av n cur))))]) (r := []) rfl hwa.1.1 (Nat.le_of_ble_eq_true rfl) (Nat.le_of_ble_eq_true rfl) (pc' := 56) rfl (ls' := [(0, .ref a), (1, .int (iI (X_ix rn rc (ct (X_av n cur)))))]) rfl ?_
        have hr2937 : X_wr (X_clr (D wc) (X_ix rn rc (ct (X_av n cur)))) := X_wr_clr (by omega)
        refine T_mono (c_clearw sc S2916 a (D wc) (W wc) (X_ix rn rc (ct (X_av n cur))) ⟨hwa.1.1, hwa.1.2.1, hwa.1.2.2.1, hwa.1.2.2.2.1, hwa.1.2.2.2.2.1, hwa.1.2.2.2.2.2.1, hwa.1.2.2.2.2.2.2.1, hwa.1.2.2.2.2.2.2.2⟩ hwa.2 ) (fun v2931 S2932 h2933 => ?_)
        obtain ⟨h2934, hw2935, hf2936⟩ := h2933
        rw [h2934]
        have hw2935 : C_wd S2932 a (X_clr (D wc) (X_ix rn rc (ct (X_av n cur)))) (W wc) := hw2935
        show X_T sc 71 (56, [(2, .ref a), (1, .int (iI (X_ix rn rc (ct (X_av n cur))))), (0, .ref 496)], [], S2932) _
        refine T_p xr_71_56 xn_71 (pc' := 57) (ls' := [(2, .ref a), (1, .int (iI (X_ix rn rc (ct (X_av n cur))))), (0, .ref 496)]) (st' := [.ref 496]) rfl ?_
        refine T_p xr_71_57 xn_71 (pc' := 58) (ls' := [(2, .ref a), (1, .int (iI (X_ix rn rc (ct (X_av n cur))))), (0, .ref 496)]) (st' := [.ref a, .ref 496]) rfl ?_
        have h2938 := (hf2936.1 496 (by omega)).trans (hp2918)
        refine T_cv (S := S2932) (q := 496) xr_71_58 xf_72.1 xf_72.2.1 xn_72 (as := [.ref a]) (r := []) rfl h2938 (Nat.le_of_ble_eq_true rfl) (Nat.le_of_ble_eq_true rfl) (pc' := 61) rfl (ls' := [(0, .ref 496), (1, .ref a)]) rfl ?_
        have h2948 := (hf2936.1 497 (by omega)).trans (hl2919)
        have h2949 := (hf2936.1 498 (by omega)).trans ((hf2920.1 498 (by omega)).trans (h2899))
        have h2950 := (hf2936.1 499 (by omega)).trans ((hf2920.1 499 (by omega)).trans (h2900))
        have h2951 := (hf2936.1 500 (by omega)).trans ((hf2920.1 500 (by omega)).trans (h2901))
        have h2952 := (hf2936.1 B (by omega)).trans (h2925)
        have h2953 := (hf2936.1 (B + 1) (by omega)).trans ((hf2920.1 (B + 1) (by omega)).trans (h2903))
        have h2954 := (hf2936.1 (B + 2) (by omega)).trans ((hf2920.1 (B + 2) (by omega)).trans (h2909))
        have h2955 := (hf2936.1 (B + 3) (by omega)).trans ((hf2920.1 (B + 3) (by omega)).trans (h2910))
        have h2956 := (hf2936.1 (B + 4) (by omega)).trans ((hf2920.1 (B + 4) (by omega)).trans (h2911))
        have h2957 := (hf2936.1 (B + 5) (by omega)).trans (h2926)
        have hb2958 : C_bk S2932 B rc kc wc rn lo kn ab := ⟨h2952, h2953, h2954, h2955, h2956, ⟨f, h2957, hf⟩, ⟨by omega, by omega⟩, ⟨by omega, by omega⟩, ⟨by omega, by omega⟩⟩
        refine T_mono (c_parseLean sc S2932 B 0 fp at_ n (X_av n (X_av n cur)) so pl ct rc kc wc rn lo kn ab a (X_clr (D wc) (X_ix rn rc (ct (X_av n cur)))) (W wc) hB (by omega) h2938 ⟨h2948, h2949, h2950, h2951⟩ (by omega) hso hb2958 ⟨hw2935.1, hw2935.2.1, hw2935.2.2.1, hw2935.2.2.2.1, hw2935.2.2.2.2.1, hw2935.2.2.2.2.2.1, hw2935.2.2.2.2.2.2.1, hw2935.2.2.2.2.2.2.2⟩ hr2937) (fun v2939 S2940 h2941 => ?_)
        obtain ⟨hv2942, hp2943, hl2944, hw2945, hf2946⟩ := h2941
        rw [hv2942]
        have hw2945 : C_wd S2940 a (X_wu (X_clr (D wc) (X_ix rn rc (ct (X_av n cur)))) 1 (fun _ => X_lnV so ct (X_av n (X_av n cur)) 0)) (W wc) := hw2945
        have hr2947 : X_wr (X_wu (X_clr (D wc) (X_ix rn rc (ct (X_av n cur)))) 1 (fun _ => X_lnV so ct (X_av n (X_av n cur)) 0)) := X_wr_1 hr2937 (X_lnV_r (by omega))
        have hc2959 := X_lnC_r (n := n) (so := so) (ct := ct) (c := (X_av n (X_av n cur))) (by omega)
        show X_T sc 71 (61, [(2, .ref a), (1, .int (iI (X_ix rn rc (ct (X_av n cur))))), (0, .ref 496)], [], S2940) _
        refine T_p xr_71_61 xn_71 (pc' := 62) (ls' := [(2, .ref a), (1, .int (iI (X_ix rn rc (ct (X_av n cur))))), (0, .ref 496)]) (st' := [.ref a]) rfl ?_
        refine T_p xr_71_62 xn_71 (pc' := 63) (ls' := [(2, .ref a), (1, .int (iI (X_ix rn rc (ct (X_av n cur))))), (0, .ref 496)]) (st' := [.ref 496, .ref a]) rfl ?_
        refine T_get xr_71_63 hp2943 rfl (v := .ref 497) rfl (pc' := 66) rfl ?_
        refine T_cv (S := S2940) (q := 497) xr_71_66 xf_44.1 xf_44.2.1 xn_44 (as := []) (r := [.ref a]) rfl hl2944 (Nat.le_of_ble_eq_true rfl) (Nat.le_of_ble_eq_true rfl) (pc' := 69) rfl (ls' := [(0, .ref 497)]) rfl ?_
        have h2960 := (hf2946.1 498 (by omega)).trans (h2949)
        have h2961 := (hf2946.1 499 (by omega)).trans (h2950)
        have h2962 := (hf2946.1 500 (by omega)).trans (h2951)
        refine T_mono (c_sort sc S2940 at_ n (X_lnC n so ct (X_av n (X_av n cur))) so pl ct ⟨hl2944, h2960, h2961, h2962⟩ (by omega)) (fun v2964 S2965 h2963 => ?_)
        obtain ⟨h2966, h2967⟩ := h2963
        rw [h2966, h2967]
        show X_T sc 71 (69, [(2, .ref a), (1, .int (iI (X_ix rn rc (ct (X_av n cur))))), (0, .ref 496)], [.int (iI (so (X_lnC n so ct (X_av n (X_av n cur))))), .ref a], S2940) _
        have hs2968 := hso (X_lnC n so ct (X_av n (X_av n cur))) (by omega) (by omega)
        refine T_p xr_71_69 xn_71 (pc' := 70) (ls' := [(2, .ref a), (1, .int (iI (X_ix rn rc (ct (X_av n cur))))), (0, .ref 496)]) (st' := [.int (iI 2), .int (iI (so (X_lnC n so ct (X_av n (X_av n cur))))), .ref a]) rfl ?_
        refine T_zicmp_ne xr_71_70 (t := 80) (pc' := 73) rfl rfl (fun c2969 => ?_) (fun c2969 => ?_)
        · skip
          have c2969 : ¬ (so (X_lnC n so ct (X_av n (X_av n cur)))) = 2 := c2969
          refine T_p xr_71_80 xn_71 (pc' := 81) (ls' := [(2, .ref a), (1, .int (iI (X_ix rn rc (ct (X_av n cur))))), (0, .ref 496)]) (st' := [.int (iI 0), .ref a]) rfl ?_
          have h2970 := (hf2946.1 B (by omega)).trans (h2952)
          have hs2971 : C_ws S2940 B (X_ug D wc (X_wu (X_clr (D wc) (X_ix rn rc (ct (X_av n cur)))) 1 (fun _ => X_lnV so ct (X_av n (X_av n cur)) 0))) (X_ug W wc (W wc)) := C_ws.upd2 (P := fun r => r = 496 ∨ r = 497 ∨ r = B ∨ (a ≤ r ∧ r ≤ a + 7)) hs2927 (((X_Fr.rf).tr (X_Fr.mono ⟨hf2936.1, hf2936.2⟩ (fun q hq => (by omega)))).tr (X_Fr.mono ⟨hf2946.1, hf2946.2⟩ (fun q hq => (by omega)))) haa (fun r h1 h2 h3 => by omega) (by omega) ⟨hw2945.1, hw2945.2.1, hw2945.2.2.1, hw2945.2.2.2.1, hw2945.2.2.2.2.1, hw2945.2.2.2.2.2.1, hw2945.2.2.2.2.2.2.1, hw2945.2.2.2.2.2.2.2⟩ hr2947
          have h2972 := (hf2946.1 (B + 1) (by omega)).trans (h2953)
          have h2973 := (hf2946.1 (B + 2) (by omega)).trans (h2954)
          have h2974 := (hf2946.1 (B + 3) (by omega)).trans (h2955)
          have h2975 := (hf2946.1 (B + 4) (by omega)).trans (h2956)
          have h2978 := (hf2946.1 (B + 5) (by omega)).trans (h2957)
          have hb2976 : C_bk S2940 B rc kc wc rn lo kn ab := ⟨h2970, h2972, h2973, h2974, h2975, ⟨f, h2978, hf⟩, ⟨by omega, by omega⟩, ⟨by omega, by omega⟩, ⟨by omega, by omega⟩⟩
          have hc2977 : 0 ≤ (X_lnC n so ct (X_av n (X_av n cur))) ∧ (X_lnC n so ct (X_av n (X_av n cur))) < n := by omega
          skip
          refine T_mono (c_pwT sc S2940 B fp at_ n so pl ct (X_lnC n so ct (X_av n (X_av n cur))) rc kc wc rn lo kn ab (X_ug D wc (X_wu (X_clr (D wc) (X_ix rn rc (ct (X_av n cur)))) 1 (fun _ => X_lnV so ct (X_av n (X_av n cur)) 0))) (X_ug W wc (W wc)) a (X_ix rn rc (ct (X_av n cur))) 0 hB hn hso ⟨hp2943, ⟨hl2944, h2960, h2961, h2962⟩, hb2976, hs2971, hc2977⟩ (by omega) (by omega) haa) (fun v2979 S2980 h2981 => hQ _ _ ?_)
          rw [X_ug_s, X_ug_s] at h2981
          simp only [X_ug_ug] at h2981
          rcases h2981 with ⟨r2983, hsp2984, fp2985, hK2986, hf2987⟩ | ⟨hsp2984, fl2988, fp2985, K2990, hn2989, hK2986, hf2987⟩
          · refine Or.inl ⟨_, ?_, fp2985, hK2986, ((((((X_Fr.rf).tr (X_Fr.mono ⟨h2895.1, h2895.2⟩ (fun q hq => (by omega)))).tr (X_Fr.mono ⟨hf2920.1, hf2920.2⟩ (fun q hq => (by omega)))).tr (X_Fr.mono ⟨hf2936.1, hf2936.2⟩ (fun q hq => (by omega)))).tr (X_Fr.mono ⟨hf2946.1, hf2946.2⟩ (fun q hq => (by omega)))).tr hf2987)⟩
            simp only [sp_word]
            (repeat (first | unfold sp_wk | rw [if_pos (by assumption)] | rw [if_neg (by assumption)]))
            first | exact congrArg (fun o => Option.bind o _) hsp2984 | (refine (congrArg (fun o => Option.bind o _) hsp2984).trans ?_; rfl)
          · refine Or.inr ⟨?_, fl2988, fp2985, K2990, hn2989, hK2986, ((((((X_Fr.rf).tr (X_Fr.mono ⟨h2895.1, h2895.2⟩ (fun q hq => (by omega)))).tr (X_Fr.mono ⟨hf2920.1, hf2920.2⟩ (fun q hq => (by omega)))).tr (X_Fr.mono ⟨hf2936.1, hf2936.2⟩ (fun q hq => (by omega)))).tr (X_Fr.mono ⟨hf2946.1, hf2946.2⟩ (fun q hq => (by omega)))).tr hf2987)⟩
            simp only [sp_word]
            (repeat (first | unfold sp_wk | rw [if_pos (by assumption)] | rw [if_neg (by assumption)]))
            first | exact congrArg (fun o => Option.bind o _) hsp2984 | (refine (congrArg (fun o => Option.bind o _) hsp2984).trans ?_; rfl)
        · skip
          have c2969 : ¬ (¬ (so (X_lnC n so ct (X_av n (X_av n cur)))) = 2) := c2969
          refine T_p xr_71_73 xn_71 (pc' := 74) (ls' := [(2, .ref a), (1, .int (iI (X_ix rn rc (ct (X_av n cur))))), (0, .ref 496)]) (st' := [.ref 496, .ref a]) rfl ?_
          refine T_cv (S := S2940) (q := 496) xr_71_74 xf_69.1 xf_69.2.1 xn_69 (as := []) (r := [.ref a]) rfl hp2943 (Nat.le_of_ble_eq_true rfl) (Nat.le_of_ble_eq_true rfl) (pc' := 77) rfl (ls' := [(0, .ref 496)]) rfl ?_
          have h2991 := (hf2946.1 B (by omega)).trans (h2952)
          have h2992 := (hf2946.1 (B + 3) (by omega)).trans (h2955)
          have h2998 := (hf2946.1 (B + 1) (by omega)).trans (h2953)
          have h2999 := (hf2946.1 (B + 2) (by omega)).trans (h2954)
          have h3000 := (hf2946.1 (B + 4) (by omega)).trans (h2956)
          have h3001 := (hf2946.1 (B + 5) (by omega)).trans (h2957)
          have hb3002 : C_bk S2940 B rc kc wc rn lo kn ab := ⟨h2991, h2998, h2999, h2992, h3000, ⟨f, h3001, hf⟩, ⟨by omega, by omega⟩, ⟨by omega, by omega⟩, ⟨by omega, by omega⟩⟩
          refine T_mono (c_passKind sc S2940 B 0 fp at_ n (X_lnC n so ct (X_av n (X_av n cur))) so pl ct rc kc wc rn lo kn ab hp2943 ⟨hl2944, h2960, h2961, h2962⟩ (by omega) hso hB hb3002) (fun v3004 S3005 h3006 => ?_)
          rcases h3006 with ⟨h2993, h2994, h2995, h2996, hp3007, hl3008, hf3009⟩ | ⟨h2993, h2997, ⟨fl3010, fp3011, hn3012, hp3007⟩, hl3008, hf3009⟩
          · skip
            rw [h2993]
            have hv3003 := X_av_r (n := n) (c := (X_lnC n so ct (X_av n (X_av n cur)))) (by omega)
            show X_T sc 71 (77, [(2, .ref a), (1, .int (iI (X_ix rn rc (ct (X_av n cur))))), (0, .ref 496)], [.int (iI (X_ix kn kc (ct (X_lnC n so ct (X_av n (X_av n cur)))))), .ref a], S3005) _
            refine T_p xr_71_77 xn_71 (pc' := 81) (ls' := [(2, .ref a), (1, .int (iI (X_ix rn rc (ct (X_av n cur))))), (0, .ref 496)]) (st' := [.int (iI (X_ix kn kc (ct (X_lnC n so ct (X_av n (X_av n cur)))))), .ref a]) rfl ?_
            have h3013 := (hf3009.1 B (by omega)).trans (h2991)
            have h3015 := (hf3009.1 a (by omega)).trans (hw2945.1)
            have h3016 := (hf3009.1 (a + 1) (by omega)).trans (hw2945.2.1)
            have h3017 := (hf3009.1 (a + 2) (by omega)).trans (hw2945.2.2.1)
            have h3018 := (hf3009.1 (a + 3) (by omega)).trans (hw2945.2.2.2.1)
            have h3019 := (hf3009.1 (a + 4) (by omega)).trans (hw2945.2.2.2.2.1)
            have h3020 := (hf3009.1 (a + 5) (by omega)).trans (hw2945.2.2.2.2.2.1)
            have h3021 := (hf3009.1 (a + 6) (by omega)).trans (hw2945.2.2.2.2.2.2.1)
            have h3022 := (hf3009.1 (a + 7) (by omega)).trans (hw2945.2.2.2.2.2.2.2)
            have hs3014 : C_ws S3005 B (X_ug D wc (X_wu (X_clr (D wc) (X_ix rn rc (ct (X_av n cur)))) 1 (fun _ => X_lnV so ct (X_av n (X_av n cur)) 0))) (X_ug W wc (W wc)) := C_ws.upd2 (P := fun r => r = 496 ∨ r = 497 ∨ r = B ∨ (a ≤ r ∧ r ≤ a + 7)) hs2927 ((((X_Fr.rf).tr (X_Fr.mono ⟨hf2936.1, hf2936.2⟩ (fun q hq => (by omega)))).tr (X_Fr.mono ⟨hf2946.1, hf2946.2⟩ (fun q hq => (by omega)))).tr (X_Fr.mono ⟨hf3009.1, hf3009.2⟩ (fun q hq => (by omega)))) haa (fun r h1 h2 h3 => by omega) (by omega) ⟨h3015, h3016, h3017, h3018, h3019, h3020, h3021, h3022⟩ hr2947
            have h3023 := (hf3009.1 (B + 1) (by omega)).trans (h2998)
            have h3024 := (hf3009.1 (B + 2) (by omega)).trans (h2999)
            have h3025 := (hf3009.1 (B + 3) (by omega)).trans (h2992)
            have h3026 := (hf3009.1 (B + 4) (by omega)).trans (h3000)
            have h3029 := (hf3009.1 (B + 5) (by omega)).trans (h3001)
            have h3030 := (hf3009.1 498 (by omega)).trans (h2960)
            have h3031 := (hf3009.1 499 (by omega)).trans (h2961)
            have h3032 := (hf3009.1 500 (by omega)).trans (h2962)
            have hb3027 : C_bk S3005 B rc kc wc rn lo kn ab := ⟨h3013, h3023, h3024, h3025, h3026, ⟨f, h3029, hf⟩, ⟨by omega, by omega⟩, ⟨by omega, by omega⟩, ⟨by omega, by omega⟩⟩
            have hc3028 : 0 ≤ (X_av n (X_lnC n so ct (X_av n (X_av n cur)))) ∧ (X_av n (X_lnC n so ct (X_av n (X_av n cur)))) < n := by omega
            skip
            refine T_mono (c_pwT sc S3005 B fp at_ n so pl ct (X_av n (X_lnC n so ct (X_av n (X_av n cur)))) rc kc wc rn lo kn ab (X_ug D wc (X_wu (X_clr (D wc) (X_ix rn rc (ct (X_av n cur)))) 1 (fun _ => X_lnV so ct (X_av n (X_av n cur)) 0))) (X_ug W wc (W wc)) a (X_ix rn rc (ct (X_av n cur))) (X_ix kn kc (ct (X_lnC n so ct (X_av n (X_av n cur))))) hB hn hso ⟨hp3007, ⟨hl3008, h3030, h3031, h3032⟩, hb3027, hs3014, hc3028⟩ (by omega) (by omega) haa) (fun v3033 S3034 h3035 => hQ _ _ ?_)
            rw [X_ug_s, X_ug_s] at h3035
            simp only [X_ug_ug] at h3035
            rcases h3035 with ⟨r3037, hsp3038, fp3039, hK3040, hf3041⟩ | ⟨hsp3038, fl3042, fp3039, K3044, hn3043, hK3040, hf3041⟩
            · refine Or.inl ⟨_, ?_, fp3039, hK3040, (((((((X_Fr.rf).tr (X_Fr.mono ⟨h2895.1, h2895.2⟩ (fun q hq => (by omega)))).tr (X_Fr.mono ⟨hf2920.1, hf2920.2⟩ (fun q hq => (by omega)))).tr (X_Fr.mono ⟨hf2936.1, hf2936.2⟩ (fun q hq => (by omega)))).tr (X_Fr.mono ⟨hf2946.1, hf2946.2⟩ (fun q hq => (by omega)))).tr (X_Fr.mono ⟨hf3009.1, hf3009.2⟩ (fun q hq => (by omega)))).tr hf3041)⟩
              simp only [sp_word]
              (repeat (first | unfold sp_wk | rw [if_pos (by assumption)] | rw [if_neg (by assumption)]))
              first | exact congrArg (fun o => Option.bind o _) hsp3038 | (refine (congrArg (fun o => Option.bind o _) hsp3038).trans ?_; rfl)
            · refine Or.inr ⟨?_, fl3042, fp3039, K3044, hn3043, hK3040, (((((((X_Fr.rf).tr (X_Fr.mono ⟨h2895.1, h2895.2⟩ (fun q hq => (by omega)))).tr (X_Fr.mono ⟨hf2920.1, hf2920.2⟩ (fun q hq => (by omega)))).tr (X_Fr.mono ⟨hf2936.1, hf2936.2⟩ (fun q hq => (by omega)))).tr (X_Fr.mono ⟨hf2946.1, hf2946.2⟩ (fun q hq => (by omega)))).tr (X_Fr.mono ⟨hf3009.1, hf3009.2⟩ (fun q hq => (by omega)))).tr hf3041)⟩
              simp only [sp_word]
              (repeat (first | unfold sp_wk | rw [if_pos (by assumption)] | rw [if_neg (by assumption)]))
              first | exact congrArg (fun o => Option.bind o _) hsp3038 | (refine (congrArg (fun o => Option.bind o _) hsp3038).trans ?_; rfl)
          · skip
            rw [h2993]
            show X_T sc 71 (77, [(2, .ref a), (1, .int (iI (X_ix rn rc (ct (X_av n cur))))), (0, .ref 496)], [.int (iI (-1)), .ref a], S3005) _
            refine T_p xr_71_77 xn_71 (pc' := 81) (ls' := [(2, .ref a), (1, .int (iI (X_ix rn rc (ct (X_av n cur))))), (0, .ref 496)]) (st' := [.int (iI (-1)), .ref a]) rfl ?_
            have h3045 := (hf3009.1 a (by omega)).trans (hw2945.1)
            refine T_put xr_71_81 h3045 rfl (Nat.le_of_ble_eq_true rfl) rfl (fs' := [.int (iI ((X_wu (X_clr (D wc) (X_ix rn rc (ct (X_av n cur)))) 1 (fun _ => X_lnV so ct (X_av n (X_av n cur)) 0)) 0 0)), .int (iI ((X_wu (X_clr (D wc) (X_ix rn rc (ct (X_av n cur)))) 1 (fun _ => X_lnV so ct (X_av n (X_av n cur)) 0)) 1 0)), .int (iI (-1)), .int (iI ((X_wu (X_clr (D wc) (X_ix rn rc (ct (X_av n cur)))) 1 (fun _ => X_lnV so ct (X_av n (X_av n cur)) 0)) 3 0)), .int (iI ((X_wu (X_clr (D wc) (X_ix rn rc (ct (X_av n cur)))) 1 (fun _ => X_lnV so ct (X_av n (X_av n cur)) 0)) 4 0)), .int (iI ((X_wu (X_clr (D wc) (X_ix rn rc (ct (X_av n cur)))) 1 (fun _ => X_lnV so ct (X_av n (X_av n cur)) 0)) 5 0)), .int (iI ((X_wu (X_clr (D wc) (X_ix rn rc (ct (X_av n cur)))) 1 (fun _ => X_lnV so ct (X_av n (X_av n cur)) 0)) 6 0)), .int (iI ((X_wu (X_clr (D wc) (X_ix rn rc (ct (X_av n cur)))) 1 (fun _ => X_lnV so ct (X_av n (X_av n cur)) 0)) 7 0)), .ref (a + 1), .ref (a + 2), .ref (a + 3), .ref (a + 4), .ref (a + 5), .ref (a + 6), .ref (a + 7)]) rfl (pc' := 84) rfl (fun S3046 h3047 n3048 e3049 => ?_)
            have hr3050 : X_wr (X_wu (X_wu (X_clr (D wc) (X_ix rn rc (ct (X_av n cur)))) 1 (fun _ => X_lnV so ct (X_av n (X_av n cur)) 0)) 2 (fun _ => (-1))) := X_wr_2 hr2947 (by omega)
            have h3052 := (n3048 (a + 1) (by omega)).trans ((hf3009.1 (a + 1) (by omega)).trans (hw2945.2.1))
            have h3053 := (n3048 (a + 2) (by omega)).trans ((hf3009.1 (a + 2) (by omega)).trans (hw2945.2.2.1))
            have h3054 := (n3048 (a + 3) (by omega)).trans ((hf3009.1 (a + 3) (by omega)).trans (hw2945.2.2.2.1))
            have h3055 := (n3048 (a + 4) (by omega)).trans ((hf3009.1 (a + 4) (by omega)).trans (hw2945.2.2.2.2.1))
            have h3056 := (n3048 (a + 5) (by omega)).trans ((hf3009.1 (a + 5) (by omega)).trans (hw2945.2.2.2.2.2.1))
            have h3057 := (n3048 (a + 6) (by omega)).trans ((hf3009.1 (a + 6) (by omega)).trans (hw2945.2.2.2.2.2.2.1))
            have h3058 := (n3048 (a + 7) (by omega)).trans ((hf3009.1 (a + 7) (by omega)).trans (hw2945.2.2.2.2.2.2.2))
            have hw3051 : C_wd S3046 a (X_wu (X_wu (X_clr (D wc) (X_ix rn rc (ct (X_av n cur)))) 1 (fun _ => X_lnV so ct (X_av n (X_av n cur)) 0)) 2 (fun _ => (-1))) (W wc) := ⟨h3047, h3052, h3053, h3054, h3055, h3056, h3057, h3058⟩
            have h3059 : S3046.1 a = .inr (8, [.int (iI ((X_wu (X_wu (X_clr (D wc) (X_ix rn rc (ct (X_av n cur)))) 1 (fun _ => X_lnV so ct (X_av n (X_av n cur)) 0)) 2 (fun _ => (-1))) 0 0)), .int (iI ((X_wu (X_wu (X_clr (D wc) (X_ix rn rc (ct (X_av n cur)))) 1 (fun _ => X_lnV so ct (X_av n (X_av n cur)) 0)) 2 (fun _ => (-1))) 1 0)), .int (iI (-1)), .int (iI ((X_wu (X_wu (X_clr (D wc) (X_ix rn rc (ct (X_av n cur)))) 1 (fun _ => X_lnV so ct (X_av n (X_av n cur)) 0)) 2 (fun _ => (-1))) 3 0)), .int (iI ((X_wu (X_wu (X_clr (D wc) (X_ix rn rc (ct (X_av n cur)))) 1 (fun _ => X_lnV so ct (X_av n (X_av n cur)) 0)) 2 (fun _ => (-1))) 4 0)), .int (iI ((X_wu (X_wu (X_clr (D wc) (X_ix rn rc (ct (X_av n cur)))) 1 (fun _ => X_lnV so ct (X_av n (X_av n cur)) 0)) 2 (fun _ => (-1))) 5 0)), .int (iI ((X_wu (X_wu (X_clr (D wc) (X_ix rn rc (ct (X_av n cur)))) 1 (fun _ => X_lnV so ct (X_av n (X_av n cur)) 0)) 2 (fun _ => (-1))) 6 0)), .int (iI ((X_wu (X_wu (X_clr (D wc) (X_ix rn rc (ct (X_av n cur)))) 1 (fun _ => X_lnV so ct (X_av n (X_av n cur)) 0)) 2 (fun _ => (-1))) 7 0)), .ref (a + 1), .ref (a + 2), .ref (a + 3), .ref (a + 4), .ref (a + 5), .ref (a + 6), .ref (a + 7)]) := hw3051.1
            refine T_p xr_71_84 xn_71 (pc' := 85) (ls' := [(2, .ref a), (1, .int (iI (X_ix rn rc (ct (X_av n cur))))), (0, .ref 496)]) (st' := [.ref 496]) rfl ?_
            have h3060 := (n3048 496 (by omega)).trans (hp3007)
            refine T_get xr_71_85 h3060 rfl (v := .ref 497) rfl (pc' := 88) rfl ?_
            have h3061 := (n3048 497 (by omega)).trans (hl3008)
            refine T_cv (S := S3046) (q := 497) xr_71_88 xf_45.1 xf_45.2.1 xn_45 (as := []) (r := []) rfl h3061 (Nat.le_of_ble_eq_true rfl) (Nat.le_of_ble_eq_true rfl) (pc' := 91) rfl (ls' := [(0, .ref 497)]) rfl ?_
            have h3062 := (n3048 498 (by omega)).trans ((hf3009.1 498 (by omega)).trans (h2960))
            have h3063 := (n3048 499 (by omega)).trans ((hf3009.1 499 (by omega)).trans (h2961))
            have h3064 := (n3048 500 (by omega)).trans ((hf3009.1 500 (by omega)).trans (h2962))
            refine T_mono (c_place sc S3046 at_ n (X_lnC n so ct (X_av n (X_av n cur))) so pl ct ⟨h3061, h3062, h3063, h3064⟩ (by omega)) (fun v3066 S3067 h3065 => ?_)
            obtain ⟨h3068, h3069⟩ := h3065
            rw [h3068, h3069]
            show X_T sc 71 (91, [(2, .ref a), (1, .int (iI (X_ix rn rc (ct (X_av n cur))))), (0, .ref 496)], [.int (iI (pl (X_lnC n so ct (X_av n (X_av n cur)))))], S3046) _
            refine T_p xr_71_91 xn_71 (pc' := 92) (ls' := [(3, .int (iI (pl (X_lnC n so ct (X_av n (X_av n cur)))))), (2, .ref a), (1, .int (iI (X_ix rn rc (ct (X_av n cur))))), (0, .ref 496)]) (st' := []) rfl ?_
            refine T_p xr_71_92 xn_71 (pc' := 93) (ls' := [(3, .int (iI (pl (X_lnC n so ct (X_av n (X_av n cur)))))), (2, .ref a), (1, .int (iI (X_ix rn rc (ct (X_av n cur))))), (0, .ref 496)]) (st' := [.ref a]) rfl ?_
            refine T_get xr_71_93 h3059 rfl (v := .int (iI (-1))) rfl (pc' := 96) rfl ?_
            refine T_p xr_71_96 xn_71 (pc' := 97) (ls' := [(3, .int (iI (pl (X_lnC n so ct (X_av n (X_av n cur)))))), (2, .ref a), (1, .int (iI (X_ix rn rc (ct (X_av n cur))))), (0, .ref 496)]) (st' := [.int (iI (-1)), .int (iI (-1))]) rfl ?_
            refine T_zicmp_eqt xr_71_97 (t := 117) rfl (by decide) ?_
            refine T_vret xr_71_117 xf_71.2.2 ?_
            refine hQ _ _ ?_
            have h3070 := (n3048 B (by omega)).trans ((hf3009.1 B (by omega)).trans (h2991))
            have hs3071 : C_ws S3046 B (X_ug D wc (X_wu (X_wu (X_clr (D wc) (X_ix rn rc (ct (X_av n cur)))) 1 (fun _ => X_lnV so ct (X_av n (X_av n cur)) 0)) 2 (fun _ => (-1)))) (X_ug W wc (W wc)) := C_ws.upd2 (P := fun r => r = 496 ∨ r = 497 ∨ r = B ∨ (a ≤ r ∧ r ≤ a + 7)) hs2927 (((((X_Fr.rf).tr (X_Fr.mono ⟨hf2936.1, hf2936.2⟩ (fun q hq => (by omega)))).tr (X_Fr.mono ⟨hf2946.1, hf2946.2⟩ (fun q hq => (by omega)))).tr (X_Fr.mono ⟨hf3009.1, hf3009.2⟩ (fun q hq => (by omega)))).tr (X_Fr.of n3048 e3049 (by omega))) haa (fun r h1 h2 h3 => by omega) (by omega) ⟨h3059, hw3051.2.1, hw3051.2.2.1, hw3051.2.2.2.1, hw3051.2.2.2.2.1, hw3051.2.2.2.2.2.1, hw3051.2.2.2.2.2.2.1, hw3051.2.2.2.2.2.2.2⟩ hr3050
            have h3072 := (n3048 (B + 1) (by omega)).trans ((hf3009.1 (B + 1) (by omega)).trans (h2998))
            have h3073 := (n3048 (B + 2) (by omega)).trans ((hf3009.1 (B + 2) (by omega)).trans (h2999))
            have h3074 := (n3048 (B + 3) (by omega)).trans ((hf3009.1 (B + 3) (by omega)).trans (h2992))
            have h3075 := (n3048 (B + 4) (by omega)).trans ((hf3009.1 (B + 4) (by omega)).trans (h3000))
            have h3078 := (n3048 (B + 5) (by omega)).trans ((hf3009.1 (B + 5) (by omega)).trans (h3001))
            have hb3076 : C_bk S3046 B rc kc wc rn lo kn ab := ⟨h3070, h3072, h3073, h3074, h3075, ⟨f, h3078, hf⟩, ⟨by omega, by omega⟩, ⟨by omega, by omega⟩, ⟨by omega, by omega⟩⟩
            have hc3077 : 0 ≤ (X_lnC n so ct (X_av n (X_av n cur))) ∧ (X_lnC n so ct (X_av n (X_av n cur))) < n := by omega
            refine Or.inr ⟨?_, fl3010, fp3011, ((X_lnC n so ct (X_av n (X_av n cur))), rc, kc, wc, rn, lo, kn, ab, (X_ug D wc (X_wu (X_wu (X_clr (D wc) (X_ix rn rc (ct (X_av n cur)))) 1 (fun _ => X_lnV so ct (X_av n (X_av n cur)) 0)) 2 (fun _ => (-1)))), (X_ug W wc (W wc))), by omega, ⟨h3060, ⟨h3061, h3062, h3063, h3064⟩, hb3076, hs3071, hc3077⟩, ((((((X_Fr.rf).tr (X_Fr.mono ⟨h2895.1, h2895.2⟩ (fun q hq => (by omega)))).tr (X_Fr.mono ⟨hf2920.1, hf2920.2⟩ (fun q hq => (by omega)))).tr (X_Fr.mono ⟨hf2936.1, hf2936.2⟩ (fun q hq => (by omega)))).tr (X_Fr.mono ⟨hf2946.1, hf2946.2⟩ (fun q hq => (by omega)))).tr (X_Fr.mono ⟨hf3009.1, hf3009.2⟩ (fun q hq => (by omega)))).tr (X_Fr.of n3048 e3049 (by omega))⟩
            simp only [sp_word]
            unfold sp_wk
            (repeat (first | rw [if_pos (by assumption)] | rw [if_neg (by assumption)]))
            all_goals first | rfl | ((repeat' split) <;> first | rfl | (exfalso; omega))
      · skip
        have c2924 : ¬ (¬ (X_ix rn rc (ct (X_av n cur))) = (-1)) := c2924
        exact (show False by first | contradiction | omega).elim
    · skip
      rw [h2904]
      show X_T sc 71 (28, [(0, .ref 496)], [.int (iI (-1))], S2916) _
      refine T_p xr_71_28 xn_71 (pc' := 29) (ls' := [(1, .int (iI (-1))), (0, .ref 496)]) (st' := []) rfl ?_
      refine T_p xr_71_29 xn_71 (pc' := 30) (ls' := [(1, .int (iI (-1))), (0, .ref 496)]) (st' := [.int (iI (-1))]) rfl ?_
      refine T_p xr_71_30 xn_71 (pc' := 31) (ls' := [(1, .int (iI (-1))), (0, .ref 496)]) (st' := [.int (iI (-1)), .int (iI (-1))]) rfl ?_
      refine T_zicmp_nef xr_71_31 (t := 35) (pc' := 34) rfl rfl (by decide) ?_
      refine T_vret xr_71_34 xf_71.2.2 ?_
      refine hQ _ _ ?_
      have h3079 := (hf2920.1 B (by omega)).trans (h2902)
      have hs3080 : C_ws S2916 B D W := C_ws.fr (P := fun r => ¬ (B + 6 ≤ r ∧ r < B + 246)) hs (((X_Fr.rf).tr (X_Fr.mono ⟨h2895.1, h2895.2⟩ (fun q hq => (by omega)))).tr (X_Fr.mono ⟨hf2920.1, hf2920.2⟩ (fun q hq => (by omega)))) (fun k h1 h2 => by omega)
      have h3081 := (hf2920.1 (B + 1) (by omega)).trans (h2903)
      have h3082 := (hf2920.1 (B + 2) (by omega)).trans (h2909)
      have h3083 := (hf2920.1 (B + 3) (by omega)).trans (h2910)
      have h3084 := (hf2920.1 (B + 4) (by omega)).trans (h2911)
      have h3087 := (hf2920.1 (B + 5) (by omega)).trans (h2912)
      have h3088 := (hf2920.1 498 (by omega)).trans (h2899)
      have h3089 := (hf2920.1 499 (by omega)).trans (h2900)
      have h3090 := (hf2920.1 500 (by omega)).trans (h2901)
      have hb3085 : C_bk S2916 B rc kc wc rn lo kn ab := ⟨h3079, h3081, h3082, h3083, h3084, ⟨f, h3087, hf⟩, ⟨by omega, by omega⟩, ⟨by omega, by omega⟩, ⟨by omega, by omega⟩⟩
      have hc3086 : 0 ≤ (X_av n cur) ∧ (X_av n cur) < n := by omega
      refine Or.inr ⟨?_, fl2921, fp2922, ((X_av n cur), rc, kc, wc, rn, lo, kn, ab, D, W), by omega, ⟨hp2918, ⟨hl2919, h3088, h3089, h3090⟩, hb3085, hs3080, hc3086⟩, ((X_Fr.rf).tr (X_Fr.mono ⟨h2895.1, h2895.2⟩ (fun q hq => (by omega)))).tr (X_Fr.mono ⟨hf2920.1, hf2920.2⟩ (fun q hq => (by omega)))⟩
      simp only [sp_word]
      (repeat (first | rw [if_pos (by assumption)] | rw [if_neg (by assumption)]))
      all_goals first | rfl | ((repeat' split) <;> first | rfl | (exfalso; omega))
  · skip
    have c2890 : ¬ (¬ wc = 30) := c2890
    refine T_p xr_71_12 xn_71 (pc' := 13) (ls' := [(0, .ref 496)]) (st' := [.ref 496]) rfl ?_
    refine T_cv (S := S) (q := 496) xr_71_13 xf_63.1 xf_63.2.1 xn_63 (as := []) (r := []) rfl hp (Nat.le_of_ble_eq_true rfl) (Nat.le_of_ble_eq_true rfl) (pc' := 16) rfl (ls' := [(0, .ref 496)]) rfl ?_
    refine T_mono (c_refuse sc S B 0 fp at_ n cur so pl ct hp ⟨hx.1, hx.2.1, hx.2.2.1, hx.2.2.2⟩ (by omega) hso) (fun v3091 S3092 h3093 => ?_)
    obtain ⟨h3094, ⟨fl3095, fp3096, hn3097, hp3098⟩, hf3099⟩ := h3093
    rw [h3094]
    show X_T sc 71 (16, [(0, .ref 496)], [], S3092) _
    refine T_vret xr_71_16 xf_71.2.2 ?_
    refine hQ _ _ ?_
    have h3100 := (hf3099.1 B (by omega)).trans (hb0)
    have hs3101 : C_ws S3092 B D W := C_ws.fr (P := fun r => ¬ (B + 6 ≤ r ∧ r < B + 246)) hs ((X_Fr.rf).tr (X_Fr.mono ⟨hf3099.1, hf3099.2⟩ (fun q hq => (by omega)))) (fun k h1 h2 => by omega)
    have h3102 := (hf3099.1 497 (by omega)).trans (hx.1)
    have h3103 := (hf3099.1 (B + 1) (by omega)).trans (hb1)
    have h3104 := (hf3099.1 (B + 2) (by omega)).trans (hb2)
    have h3105 := (hf3099.1 (B + 3) (by omega)).trans (hb3)
    have h3106 := (hf3099.1 (B + 4) (by omega)).trans (hb4)
    have h3109 := (hf3099.1 (B + 5) (by omega)).trans (hb5)
    have h3110 := (hf3099.1 498 (by omega)).trans (hx.2.1)
    have h3111 := (hf3099.1 499 (by omega)).trans (hx.2.2.1)
    have h3112 := (hf3099.1 500 (by omega)).trans (hx.2.2.2)
    have hb3107 : C_bk S3092 B rc kc wc rn lo kn ab := ⟨h3100, h3103, h3104, h3105, h3106, ⟨f, h3109, hf⟩, ⟨by omega, by omega⟩, ⟨by omega, by omega⟩, ⟨by omega, by omega⟩⟩
    have hc3108 : 0 ≤ cur ∧ cur < n := by omega
    refine Or.inr ⟨?_, fl3095, fp3096, (cur, rc, kc, wc, rn, lo, kn, ab, D, W), by omega, ⟨hp3098, ⟨h3102, h3110, h3111, h3112⟩, hb3107, hs3101, hc3108⟩, (X_Fr.rf).tr (X_Fr.mono ⟨hf3099.1, hf3099.2⟩ (fun q hq => (by omega)))⟩
    simp only [sp_word]
    (repeat (first | rw [if_pos (by assumption)] | rw [if_neg (by assumption)]))
    all_goals first | rfl | ((repeat' split) <;> first | rfl | (exfalso; omega))
