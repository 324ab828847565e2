theorem xr_155_0 : X_row 155 0 = some (0, (.aload_n 0, 1), (0, 0, 0)) := by decide +kernel
theorem xr_155_1 : X_row 155 1 = some (1, (.invokevirtual 119, 3), (151, 30, 0)) := by decide +kernel
theorem xr_155_4 : X_row 155 4 = some (4, (.istore_n 1, 1), (0, 0, 0)) := by decide +kernel
theorem xr_155_5 : X_row 155 5 = some (5, (.aload_n 0, 1), (0, 0, 0)) := by decide +kernel
theorem xr_155_6 : X_row 155 6 = some (6, (.getfield 20, 3), (11, 7, 14)) := by decide +kernel
theorem xr_155_9 : X_row 155 9 = some (9, (.istore_n 2, 1), (0, 0, 0)) := by decide +kernel
theorem xr_155_10 : X_row 155 10 = some (10, (.aload_n 0, 1), (0, 0, 0)) := by decide +kernel
theorem xr_155_11 : X_row 155 11 = some (11, (.invokevirtual 100, 3), (140, 14, 0)) := by decide +kernel
theorem xr_155_14 : X_row 155 14 = some (14, (.ifCond .eq 10, 3), (0, 0, 0)) := by decide +kernel
theorem xr_155_17 : X_row 155 17 = some (17, (.aload_n 0, 1), (0, 0, 0)) := by decide +kernel
theorem xr_155_18 : X_row 155 18 = some (18, (.invokevirtual 119, 3), (151, 30, 0)) := by decide +kernel
theorem xr_155_21 : X_row 155 21 = some (21, (.goto 4, 3), (0, 0, 0)) := by decide +kernel
theorem xr_155_24 : X_row 155 24 = some (24, (.iconst 0, 1), (0, 0, 0)) := by decide +kernel
theorem xr_155_25 : X_row 155 25 = some (25, (.istore_n 3, 1), (0, 0, 0)) := by decide +kernel
theorem xr_155_26 : X_row 155 26 = some (26, (.aload_n 0, 1), (0, 0, 0)) := by decide +kernel
theorem xr_155_27 : X_row 155 27 = some (27, (.invokevirtual 100, 3), (140, 14, 0)) := by decide +kernel
theorem xr_155_30 : X_row 155 30 = some (30, (.ifCond .eq 23, 3), (0, 0, 0)) := by decide +kernel
theorem xr_155_33 : X_row 155 33 = some (33, (.iload_n 1, 1), (0, 0, 0)) := by decide +kernel
theorem xr_155_34 : X_row 155 34 = some (34, (.iload_n 3, 1), (0, 0, 0)) := by decide +kernel
theorem xr_155_35 : X_row 155 35 = some (35, (.if_icmp .eq 12, 3), (0, 0, 0)) := by decide +kernel
theorem xr_155_38 : X_row 155 38 = some (38, (.aload_n 0, 1), (0, 0, 0)) := by decide +kernel
theorem xr_155_39 : X_row 155 39 = some (39, (.iload_n 3, 1), (0, 0, 0)) := by decide +kernel
theorem xr_155_40 : X_row 155 40 = some (40, (.iload_n 1, 1), (0, 0, 0)) := by decide +kernel
theorem xr_155_41 : X_row 155 41 = some (41, (.invokevirtual 123, 3), (154, 32, 0)) := by decide +kernel
theorem xr_155_44 : X_row 155 44 = some (44, (.ifCond .eq 9, 3), (0, 0, 0)) := by decide +kernel
theorem xr_155_47 : X_row 155 47 = some (47, (.aload_n 0, 1), (0, 0, 0)) := by decide +kernel
theorem xr_155_48 : X_row 155 48 = some (48, (.iconst 4, 1), (0, 0, 0)) := by decide +kernel
theorem xr_155_49 : X_row 155 49 = some (49, (.iload_n 2, 1), (0, 0, 0)) := by decide +kernel
theorem xr_155_50 : X_row 155 50 = some (50, (.invokevirtual 72, 3), (139, 18, 0)) := by decide +kernel
theorem xr_155_53 : X_row 155 53 = some (53, (.aload_n 0, 1), (0, 0, 0)) := by decide +kernel
theorem xr_155_54 : X_row 155 54 = some (54, (.invokevirtual 100, 3), (140, 14, 0)) := by decide +kernel
theorem xr_155_57 : X_row 155 57 = some (57, (.ifCond .eq 94, 3), (0, 0, 0)) := by decide +kernel
theorem xr_155_60 : X_row 155 60 = some (60, (.iconst 0, 1), (0, 0, 0)) := by decide +kernel
theorem xr_155_61 : X_row 155 61 = some (61, (.istore 4, 2), (0, 0, 0)) := by decide +kernel
theorem xr_155_63 : X_row 155 63 = some (63, (.iload 4, 2), (0, 0, 0)) := by decide +kernel
theorem xr_155_65 : X_row 155 65 = some (65, (.aload_n 0, 1), (0, 0, 0)) := by decide +kernel
theorem xr_155_66 : X_row 155 66 = some (66, (.getfield 84, 3), (11, 28, 56)) := by decide +kernel
theorem xr_155_69 : X_row 155 69 = some (69, (.if_icmp .ge 82, 3), (0, 0, 0)) := by decide +kernel
theorem xr_155_72 : X_row 155 72 = some (72, (.iconst 0, 1), (0, 0, 0)) := by decide +kernel
theorem xr_155_73 : X_row 155 73 = some (73, (.istore 5, 2), (0, 0, 0)) := by decide +kernel
theorem xr_155_75 : X_row 155 75 = some (75, (.iload 5, 2), (0, 0, 0)) := by decide +kernel
theorem xr_155_77 : X_row 155 77 = some (77, (.aload_n 0, 1), (0, 0, 0)) := by decide +kernel
theorem xr_155_78 : X_row 155 78 = some (78, (.getfield 84, 3), (11, 28, 56)) := by decide +kernel
theorem xr_155_81 : X_row 155 81 = some (81, (.if_icmp .ge 64, 3), (0, 0, 0)) := by decide +kernel
theorem xr_155_84 : X_row 155 84 = some (84, (.iload 4, 2), (0, 0, 0)) := by decide +kernel
theorem xr_155_86 : X_row 155 86 = some (86, (.iload_n 1, 1), (0, 0, 0)) := by decide +kernel
theorem xr_155_87 : X_row 155 87 = some (87, (.if_icmp .eq 13, 3), (0, 0, 0)) := by decide +kernel
theorem xr_155_90 : X_row 155 90 = some (90, (.aload_n 0, 1), (0, 0, 0)) := by decide +kernel
theorem xr_155_91 : X_row 155 91 = some (91, (.iload 4, 2), (0, 0, 0)) := by decide +kernel
theorem xr_155_93 : X_row 155 93 = some (93, (.iload_n 1, 1), (0, 0, 0)) := by decide +kernel
theorem xr_155_94 : X_row 155 94 = some (94, (.invokevirtual 123, 3), (154, 32, 0)) := by decide +kernel
theorem xr_155_97 : X_row 155 97 = some (97, (.ifCond .eq 42, 3), (0, 0, 0)) := by decide +kernel
theorem xr_155_100 : X_row 155 100 = some (100, (.iload 5, 2), (0, 0, 0)) := by decide +kernel
theorem xr_155_102 : X_row 155 102 = some (102, (.iload_n 3, 1), (0, 0, 0)) := by decide +kernel
theorem xr_155_103 : X_row 155 103 = some (103, (.if_icmp .eq 13, 3), (0, 0, 0)) := by decide +kernel
theorem xr_155_106 : X_row 155 106 = some (106, (.aload_n 0, 1), (0, 0, 0)) := by decide +kernel
theorem xr_155_107 : X_row 155 107 = some (107, (.iload_n 3, 1), (0, 0, 0)) := by decide +kernel
theorem xr_155_108 : X_row 155 108 = some (108, (.iload 5, 2), (0, 0, 0)) := by decide +kernel
theorem xr_155_110 : X_row 155 110 = some (110, (.invokevirtual 123, 3), (154, 32, 0)) := by decide +kernel
theorem xr_155_113 : X_row 155 113 = some (113, (.ifCond .eq 26, 3), (0, 0, 0)) := by decide +kernel
theorem xr_155_116 : X_row 155 116 = some (116, (.aload_n 0, 1), (0, 0, 0)) := by decide +kernel
theorem xr_155_117 : X_row 155 117 = some (117, (.getfield 111, 3), (11, 15, 30)) := by decide +kernel
theorem xr_155_120 : X_row 155 120 = some (120, (.sipush 144, 3), (0, 0, 0)) := by decide +kernel
theorem xr_155_123 : X_row 155 123 = some (123, (.aload_n 0, 1), (0, 0, 0)) := by decide +kernel
theorem xr_155_124 : X_row 155 124 = some (124, (.getfield 91, 3), (11, 4, 8)) := by decide +kernel
theorem xr_155_127 : X_row 155 127 = some (127, (.imul, 1), (0, 0, 0)) := by decide +kernel
theorem xr_155_128 : X_row 155 128 = some (128, (.bipush 12, 2), (0, 0, 0)) := by decide +kernel
theorem xr_155_130 : X_row 155 130 = some (130, (.iload 4, 2), (0, 0, 0)) := by decide +kernel
theorem xr_155_132 : X_row 155 132 = some (132, (.imul, 1), (0, 0, 0)) := by decide +kernel
theorem xr_155_133 : X_row 155 133 = some (133, (.iadd, 1), (0, 0, 0)) := by decide +kernel
theorem xr_155_134 : X_row 155 134 = some (134, (.iload 5, 2), (0, 0, 0)) := by decide +kernel
theorem xr_155_136 : X_row 155 136 = some (136, (.iadd, 1), (0, 0, 0)) := by decide +kernel
theorem xr_155_137 : X_row 155 137 = some (137, (.iconst 1, 1), (0, 0, 0)) := by decide +kernel
theorem xr_155_138 : X_row 155 138 = some (138, (.bastore, 1), (0, 0, 0)) := by decide +kernel
theorem xr_155_139 : X_row 155 139 = some (139, (.iinc 5 1, 3), (0, 0, 0)) := by decide +kernel
theorem xr_155_142 : X_row 155 142 = some (142, (.goto (-67), 3), (0, 0, 0)) := by decide +kernel
theorem xr_155_145 : X_row 155 145 = some (145, (.iinc 4 1, 3), (0, 0, 0)) := by decide +kernel
theorem xr_155_148 : X_row 155 148 = some (148, (.goto (-85), 3), (0, 0, 0)) := by decide +kernel
theorem xr_155_151 : X_row 155 151 = some (151, (.aload_n 0, 1), (0, 0, 0)) := by decide +kernel
theorem xr_155_152 : X_row 155 152 = some (152, (.invokevirtual 100, 3), (140, 14, 0)) := by decide +kernel
theorem xr_155_155 : X_row 155 155 = some (155, (.ifCond .eq 9, 3), (0, 0, 0)) := by decide +kernel
theorem xr_155_158 : X_row 155 158 = some (158, (.aload_n 0, 1), (0, 0, 0)) := by decide +kernel
theorem xr_155_159 : X_row 155 159 = some (159, (.bipush 59, 2), (0, 0, 0)) := by decide +kernel
theorem xr_155_161 : X_row 155 161 = some (161, (.invokevirtual 115, 3), (148, 24, 0)) := by decide +kernel
theorem xr_155_164 : X_row 155 164 = some (164, (.return_, 1), (0, 0, 0)) := by decide +kernel
theorem xn_155 : X_nL 155 = 6 := by decide +kernel
theorem xf_155 : X_na 155 = 0 ∧ X_ci 155 = 11 ∧ X_rt 155 = none := by decide +kernel
theorem bI_c {p q : Prop} (h : p ↔ q) : bI p = bI q := by rw [propext h]
/-- tighter, while its table is gone through -/
def R_tM (lo : Int → Int) (a b i j : Int) : Prop := (i = a ∨ X_bt (lo i) a) ∧ (j = b ∨ X_bt (lo b) j)
def R_tI (b0 rc : Int) (lo : Int → Int) (a b x y : Int) (tg : Int → Int) : Prop := ∀ i j, 0 ≤ i → i < rc → 0 ≤ j → j < rc → tg (144 * b0 + 12 * i + j) = bI (X_bt (lo i) j ∨ ((i < x ∨ (i = x ∧ j < y)) ∧ R_tM lo a b i j))
theorem R_tI_0 {b0 rc : Int} {rn : Int → Int64} {lo : Int → Int} {rN : Int → Int64} {tg : Int → Int} {a b : Int} (h : R_rk b0 rc rn lo rN tg) : R_tI b0 rc lo a b 0 0 tg := fun i j h1 h2 h3 h4 => by
  rw [h.2.1 i j h1 h2 h3 h4]
  refine bI_c ⟨fun z => Or.inl z, fun z => z.elim id (fun w => ?_)⟩
  exact (show False by omega).elim
theorem R_tI_y {b0 rc : Int} {lo tg : Int → Int} {a b x y : Int} (hx : 0 ≤ x ∧ x < rc) (hy : 0 ≤ y ∧ y < rc) (hr : rc ≤ 12) (hM : R_tM lo a b x y) (h : R_tI b0 rc lo a b x y tg) {z : Int} (hz : z = 144 * b0 + 12 * x + y) : R_tI b0 rc lo a b x (y + 1) (X_ug tg z (X_bo 1)) := fun i j h1 h2 h3 h4 => by
  subst hz
  by_cases hi : i = x ∧ j = y
  · obtain ⟨e1, e2⟩ := hi
    subst e1; subst e2
    rw [X_ug_s, X_bo_1]
    exact bI_c ⟨fun _ => Or.inr ⟨Or.inr ⟨rfl, by omega⟩, hM⟩, fun _ => trivial⟩
  · rw [X_ug_n _ _ (by omega), h i j h1 h2 h3 h4]
    refine bI_c ⟨fun z => z.imp id (fun w => ⟨by omega, w.2⟩), fun z => z.imp id (fun w => ⟨by omega, w.2⟩)⟩
theorem R_tI_n {b0 rc : Int} {lo tg : Int → Int} {a b x y : Int} (hM : ¬ R_tM lo a b x y) (h : R_tI b0 rc lo a b x y tg) : R_tI b0 rc lo a b x (y + 1) tg := fun i j h1 h2 h3 h4 => by
  rw [h i j h1 h2 h3 h4]
  refine bI_c ⟨fun z => z.imp id (fun w => ⟨by omega, w.2⟩), fun z => z.imp id (fun w => ⟨?_, w.2⟩)⟩
  rcases w.1 with g | ⟨g1, g2⟩
  · exact Or.inl g
  · by_cases hj : j = y
    · subst g1; subst hj
      exact absurd w.2 hM
    · exact Or.inr ⟨g1, by omega⟩
theorem R_tI_x {b0 rc : Int} {lo tg : Int → Int} {a b x y : Int} (hy : rc ≤ y) (h : R_tI b0 rc lo a b x y tg) : R_tI b0 rc lo a b (x + 1) 0 tg := fun i j h1 h2 h3 h4 => by
  rw [h i j h1 h2 h3 h4]
  exact bI_c ⟨fun z => z.imp id (fun w => ⟨by omega, w.2⟩), fun z => z.imp id (fun w => ⟨by omega, w.2⟩)⟩
theorem R_tI_a {b0 rc : Int} {lo tg : Int → Int} {a b x y i : Int} (hab : ¬ a = b) (hnt : ¬ X_bt (lo b) a) (ha : 0 ≤ a ∧ a < rc) (hi : 0 ≤ i ∧ i < rc) (h : R_tI b0 rc lo a b x y tg) : tg (144 * b0 + 12 * i + a) = bI (X_bt (lo i) a) := by
  rw [h i a hi.1 hi.2 ha.1 ha.2]
  exact bI_c ⟨fun z => z.elim id (fun w => absurd w.2.2 (fun g => g.elim hab hnt)), Or.inl⟩
theorem R_tI_b {b0 rc : Int} {lo tg : Int → Int} {a b x y j : Int} (hab : ¬ a = b) (hnt : ¬ X_bt (lo b) a) (hb : 0 ≤ b ∧ b < rc) (hj : 0 ≤ j ∧ j < rc) (h : R_tI b0 rc lo a b x y tg) : tg (144 * b0 + 12 * b + j) = bI (X_bt (lo b) j) := by
  rw [h b j hb.1 hb.2 hj.1 hj.2]
  exact bI_c ⟨fun z => z.elim id (fun w => absurd w.2.1 (fun g => g.elim (fun e => hab e.symm) hnt)), Or.inl⟩
theorem R_tI_e {b0 rc : Int} {rn : Int → Int64} {lo : Int → Int} {rN : Int → Int64} {tg tg' : Int → Int} {a b x y : Int} (hr : rc ≤ 12) (hb : 0 ≤ b ∧ b < rc) (hx : rc ≤ x) (hR : R_rk b0 rc rn lo rN tg) (h : R_tI b0 rc lo a b x y tg') : R_rk b0 rc rn (X_tf rc lo a b) rN tg' := by
  obtain ⟨a1, a2, a3⟩ := hR
  have key : ∀ i j, 0 ≤ i → i < rc → 0 ≤ j → j < 32 → (X_bt (X_tf rc lo a b i) j ↔ (X_bt (lo i) j ∨ R_tM lo a b i j)) := by
    intro i j h1 h2 h3 h4
    unfold X_tf
    rw [if_pos ⟨h1, h2⟩]
    by_cases hc : i = a ∨ X_bt (lo i) a
    · rw [X_ti_t hc, X_bt_or _ _ _ ⟨h3, h4⟩, X_bt_or _ _ _ ⟨h3, h4⟩, X_bt_sh _ _ (by omega) ⟨h3, h4⟩]
      exact ⟨fun z => z.imp id (fun w => ⟨hc, w.symm⟩), fun z => z.imp id (fun w => w.2.symm)⟩
    · rw [X_ti_f hc]
      exact ⟨Or.inl, fun z => z.elim id (fun w => absurd w.1 hc)⟩
  refine ⟨a1, fun i j h1 h2 h3 h4 => ?_, fun i j h1 h2 h3 h4 => ?_⟩
  · rw [h i j h1 h2 h3 h4]
    exact bI_c ((show _ ↔ _ from ⟨fun z => z.imp id (fun w => w.2), fun z => z.imp id (fun w => ⟨Or.inl (by omega), w⟩)⟩).trans (key i j h1 h2 h3 (by omega)).symm)
  · rw [key i j h1 h2 (by omega) h4]
    rintro (z | ⟨-, z | z⟩)
    · exact a3 i j h1 h2 h3 h4 z
    · omega
    · exact a3 b j hb.1 hb.2 h3 h4 z
theorem R_kd_add {b kc up : Int} {kn : Int → Int64} {ab : Int → Int} {kN : Int → Int64} {kU : Int → Int} {t : Int64} (hk : 1 ≤ kc ∧ kc < 11) (hu : 0 ≤ up ∧ up < kc) (h : R_kd b kc kn ab kN kU) {z : Int} (hz : z = 11 * b + kc) : R_kd b (kc + 1) (X_ug kn kc t) (X_ug ab kc (X_bO (ab up) (X_bS kc))) (X_ug kN z t) (X_ug kU z up) := by
  subst hz
  obtain ⟨a1, a2, a3, a4⟩ := h
  refine ⟨fun i g1 g2 => ?_, fun u g1 g2 => ?_, ?_, fun k g1 g2 => ?_⟩
  · by_cases hi : i = kc
    · subst hi; rw [X_ug_s, X_ug_s]
    · rw [X_ug_n _ _ hi, X_ug_n _ _ (by omega)]; exact a1 i g1 (by omega)
  · rw [X_ug_n _ _ (by omega)]; exact a2 u g1 g2
  · rw [X_ug_n _ _ (by omega)]; exact a3
  · by_cases hi : k = kc
    · subst hi
      rw [X_ug_s, X_ug_s]
      refine ⟨hu, fun u h1 h2 => ?_⟩
      rw [X_bt_or _ _ _ ⟨h1, h2⟩, X_bt_sh _ _ (by omega) ⟨h1, h2⟩, X_ug_n _ _ (by omega)]
      exact Or.comm
    · rw [X_ug_n _ _ (show ¬ 11 * b + k = 11 * b + kc by omega), X_ug_n _ _ hi]
      obtain ⟨b1, b2⟩ := a4 k g1 (by omega)
      refine ⟨b1, fun u h1 h2 => ?_⟩
      rw [X_ug_n _ _ (by omega)]
      exact b2 u h1 h2

theorem r_readTighter (sc : X_Sc) (S : X_S) (o : Nat → Int) (nm : Int64) (tx : Int → Int) (rN : Int → Int64) (tg : Int → Int) (tb : Int → Int) (len : Int) (n : Int) (so : Int → Int) (pl : Int → Int) (ct : Int → Int64) (E : Int → Int) (c : Int) (c0 : Int) (rc : Int) (kc : Int) (wc : Int) (rn : Int → Int64) (lo : Int → Int) (kn : Int → Int64) (ab : Int → Int) (D : Int → Nat → Int → Int) (W : Int → Int → Int64) (hM : M_o S o nm) (hA532 : S.1 532 = .inl (.byte, 2000, .inl fun k : Nat => iI (tx (k : Int)))) (hA533 : S.1 533 = .inl (.long, 24, .inr (.inl fun k : Nat => rN (k : Int)))) (hA535 : S.1 535 = .inl (.boolean, 288, .inl fun k : Nat => iI (tg (k : Int)))) (hlen : o 3 = len) (hl : 0 ≤ len ∧ len ≤ 2000) (htx : ∀ k, 0 ≤ k → k < len → tx k = tb k) (hX : X_TxE tb len n so pl ct E) (hT : R_tk n so pl ct E c (o 7) (o 8) (o 9) (o 10) (o 11) nm) (h5 : o 5 = 0) (hrc : o 28 = rc) (hcr : 0 ≤ rc ∧ rc ≤ 12) (hb : 0 ≤ o 4 ∧ o 4 ≤ 1) (hc : c = X_av n c0) (hR : R_rk (o 4) rc rn lo rN tg) : X_T sc 155 (0, [(0, .ref 530)], [], S) (fun v S' => (∃ (at1 : Int) (en1 : Int) (tk1 : Int) (nu1 : Int) (dg1 : Int) (nm1 : Int64) (tg1 : Int → Int), v = none ∧ R_tk n so pl ct E (X_av n (X_av n (X_av n c))) at1 en1 tk1 nu1 dg1 nm1 ∧ sp_tight n so ct (c0, rc, kc, wc, rn, lo, kn, ab, D, W) = some (X_av n (X_av n (X_av n c)), rc, kc, wc, rn, X_tf rc lo (X_ix rn rc (ct c)) (X_ix rn rc (ct (X_av n c))), kn, ab, D, W) ∧ R_rk (o 4) rc rn (X_tf rc lo (X_ix rn rc (ct c)) (X_ix rn rc (ct (X_av n c)))) rN tg1 ∧ R_ob 144 (o 4) tg tg1 ∧ M_o S' (X_ou (X_ou (X_ou (X_ou (X_ou o 7 at1) 8 en1) 9 tk1) 10 nu1) 11 dg1) nm1 ∧ S'.1 535 = .inl (.boolean, 288, .inl fun k : Nat => iI (tg1 (k : Int))) ∧ (X_Fr (fun q => q = 530 ∨ q = 535) S S')) ∨ (∃ (at1 : Int) (en1 : Int) (tk1 : Int) (nu1 : Int) (dg1 : Int) (nm1 : Int64) (f1 : Int) (g1 : Int) (tg1 : Int → Int), v = none ∧ (1 ≤ f1 ∧ f1 ≤ 5) ∧ sp_tight n so ct (c0, rc, kc, wc, rn, lo, kn, ab, D, W) = none ∧ R_ob 144 (o 4) tg tg1 ∧ M_o S' (X_ou (X_ou (X_ou (X_ou (X_ou (X_ou (X_ou o 7 at1) 8 en1) 9 tk1) 10 nu1) 11 dg1) 5 f1) 6 g1) nm1 ∧ S'.1 535 = .inl (.boolean, 288, .inl fun k : Nat => iI (tg1 (k : Int))) ∧ (X_Fr (fun q => q = 530 ∨ q = 535) S S'))) := by
  obtain ⟨⟨hc0, hcn⟩, ⟨hs0, hs1⟩, hk0, ⟨ha0, ha1⟩, hk0e, ⟨_, _⟩, ⟨_, _⟩⟩ := R_tk_f hX hT
  have hn2 := hX.2.1
  have hN := hR.1
  refine X_QI (fun Q hQ => ?_)
  refine T_p xr_155_0 xn_155 (pc' := 1) (ls' := [(0, .ref 530)]) (st' := [.ref 530]) rfl ?_
  refine T_cv (S := S) (q := 530) xr_155_1 xf_151.1 xf_151.2.1 xn_151 (as := []) (r := []) rfl hM (Nat.le_of_ble_eq_true rfl) (Nat.le_of_ble_eq_true rfl) (pc' := 4) rfl (ls' := [(0, .ref 530)]) rfl ?_
  refine T_mono (r_aRank sc S o nm tx rN tb len n so pl ct E c rn rc hM hA532 hA533 (show (o 3) = len from by first | assumption | omega) hl htx hX hT (show (o 5) = 0 from by omega) (show (o 28) = rc from by omega) (by omega) (show 0 ≤ (o 4) ∧ (o 4) ≤ 1 from by omega) hN) (fun v1309 S1310 h1311 => ?_)
  rcases h1311 with ⟨at1312, en1313, tk1314, nu1315, dg1316, nm1317, hv1318, hp1319, hp1320, hp1321, hM1322, hf1323⟩ | ⟨r1324, f1325, g1326, hv1327, hp1328, hp1329, hp1330, hM1331, hf1332⟩
  · skip
    rw [hv1318]
    have h1333 : S1310.1 530 = .inr (11, [.ref 531, .int (iI (o 1)), .ref 532, .int (iI (o 3)), .int (iI (o 4)), .int (iI (o 5)), .int (iI (o 6)), .int (iI at1312), .int (iI en1313), .int (iI tk1314), .int (iI nu1315), .int (iI dg1316), .long nm1317, .ref 533, .ref 534, .ref 535, .ref 536, .ref 537, .ref 538, .ref 539, .ref 540, .ref 541, .ref 542, .ref 543, .ref 544, .ref 545, .ref 546, .ref 547, .int (iI (o 28)), .int (iI (o 29)), .int (iI (o 30)), .int (iI (o 31)), .int (iI (o 32)), .int (iI (o 33)), .ref 548, .ref 549, .ref 550, .ref 551, .int (iI (o 38)), .ref 552, .ref 553, .ref 554, .ref 555, .ref 556, .ref 557, .ref 558, .ref 559, .ref 560, .ref 561, .int (iI (o 49)), .ref 562, .ref 563, .ref 564, .ref 565, .ref 566, .ref 567, .ref 568, .ref 569, .int (iI (o 58)), .ref 570, .ref 571, .ref 572, .ref 573, .ref 574, .ref 575, .ref 576, .ref 577, .ref 578, .int (iI (o 68)), .int (iI (o 69)), .int (iI (o 70)), .ref 579]) := hM1322
    obtain ⟨⟨_, _⟩, ⟨_, _⟩, hk1334, ⟨_, _⟩, hk1334e, ⟨_, _⟩, ⟨_, _⟩⟩ := R_tk_f hX hp1319
    show X_T sc 155 (4, [(0, .ref 530)], [.int (iI (X_ix rn rc (ct c)))], S1310) _
    obtain ⟨a, ha_⟩ : ∃ z : Int, z = (X_ix rn rc (ct c)) := ⟨_, rfl⟩
    refine T_ie (y := iI a) (by rw [ha_]) ?_
    have hr1336 : 0 ≤ a ∧ a < rc := by omega
    refine T_p xr_155_4 xn_155 (pc' := 5) (ls' := [(1, .int (iI a)), (0, .ref 530)]) (st' := []) rfl ?_
    refine T_p xr_155_5 xn_155 (pc' := 6) (ls' := [(1, .int (iI a)), (0, .ref 530)]) (st' := [.ref 530]) rfl ?_
    refine T_get xr_155_6 h1333 rfl (v := .int (iI at1312)) rfl (pc' := 9) rfl ?_
    refine T_p xr_155_9 xn_155 (pc' := 10) (ls' := [(2, .int (iI at1312)), (1, .int (iI a)), (0, .ref 530)]) (st' := []) rfl ?_
    refine T_p xr_155_10 xn_155 (pc' := 11) (ls' := [(2, .int (iI at1312)), (1, .int (iI a)), (0, .ref 530)]) (st' := [.ref 530]) rfl ?_
    refine T_cv (S := S1310) (q := 530) xr_155_11 xf_140.1 xf_140.2.1 xn_140 (as := []) (r := []) rfl h1333 (Nat.le_of_ble_eq_true rfl) (Nat.le_of_ble_eq_true rfl) (pc' := 14) rfl (ls' := [(0, .ref 530)]) rfl ?_
    refine T_mono (r_isGood sc S1310 (X_ou (X_ou (X_ou (X_ou (X_ou o 7 at1312) 8 en1313) 9 tk1314) 10 nu1315) 11 dg1316) nm1317 h1333 (show 0 ≤ (o 5) ∧ (o 5) ≤ 5 from by omega)) (fun v1337 S1338 h1339 => ?_)
    rcases h1339 with ⟨hv1340, hf1341⟩
    rw [hv1340]
    rw [hf1341]
    show X_T sc 155 (14, [(2, .int (iI at1312)), (1, .int (iI a)), (0, .ref 530)], [.int (iI (bI ((o 5) = 0)))], S1310) _
    refine T_bif_eq xr_155_14 (t := 24) (pc' := 17) rfl rfl (fun c1342 => ?_) (fun c1342 => ?_)
    · skip
      have c1342 : ¬ ((o 5) = 0) := c1342
      exact (show False by first | contradiction | omega).elim
    · skip
      have c1342 : ((o 5) = 0) := c1342
      refine T_p xr_155_17 xn_155 (pc' := 18) (ls' := [(2, .int (iI at1312)), (1, .int (iI a)), (0, .ref 530)]) (st' := [.ref 530]) rfl ?_
      refine T_cv (S := S1310) (q := 530) xr_155_18 xf_151.1 xf_151.2.1 xn_151 (as := []) (r := []) rfl h1333 (Nat.le_of_ble_eq_true rfl) (Nat.le_of_ble_eq_true rfl) (pc' := 21) rfl (ls' := [(0, .ref 530)]) rfl ?_
      have h1343 := (hf1323.1 532 (by omega)).trans (hA532)
      have h1344 := (hf1323.1 533 (by omega)).trans (hA533)
      refine T_mono (r_aRank sc S1310 (X_ou (X_ou (X_ou (X_ou (X_ou o 7 at1312) 8 en1313) 9 tk1314) 10 nu1315) 11 dg1316) nm1317 tx rN tb len n so pl ct E (X_av n c) rn rc h1333 h1343 h1344 (show (o 3) = len from by first | assumption | omega) hl htx hX hp1319 (show (o 5) = 0 from by omega) (show (o 28) = rc from by omega) (by omega) (show 0 ≤ (o 4) ∧ (o 4) ≤ 1 from by omega) hN) (fun v1345 S1346 h1347 => ?_)
      rcases h1347 with ⟨at1348, en1349, tk1350, nu1351, dg1352, nm1353, hv1354, hp1355, hp1356, hp1357, hM1358, hf1359⟩ | ⟨r1360, f1361, g1362, hv1363, hp1364, hp1365, hp1366, hM1367, hf1368⟩
      · skip
        rw [hv1354]
        have h1369 : S1346.1 530 = .inr (11, [.ref 531, .int (iI (o 1)), .ref 532, .int (iI (o 3)), .int (iI (o 4)), .int (iI (o 5)), .int (iI (o 6)), .int (iI at1348), .int (iI en1349), .int (iI tk1350), .int (iI nu1351), .int (iI dg1352), .long nm1353, .ref 533, .ref 534, .ref 535, .ref 536, .ref 537, .ref 538, .ref 539, .ref 540, .ref 541, .ref 542, .ref 543, .ref 544, .ref 545, .ref 546, .ref 547, .int (iI (o 28)), .int (iI (o 29)), .int (iI (o 30)), .int (iI (o 31)), .int (iI (o 32)), .int (iI (o 33)), .ref 548, .ref 549, .ref 550, .ref 551, .int (iI (o 38)), .ref 552, .ref 553, .ref 554, .ref 555, .ref 556, .ref 557, .ref 558, .ref 559, .ref 560, .ref 561, .int (iI (o 49)), .ref 562, .ref 563, .ref 564, .ref 565, .ref 566, .ref 567, .ref 568, .ref 569, .int (iI (o 58)), .ref 570, .ref 571, .ref 572, .ref 573, .ref 574, .ref 575, .ref 576, .ref 577, .ref 578, .int (iI (o 68)), .int (iI (o 69)), .int (iI (o 70)), .ref 579]) := hM1358
        obtain ⟨⟨_, _⟩, ⟨_, _⟩, hk1370, ⟨_, _⟩, hk1370e, ⟨_, _⟩, ⟨_, _⟩⟩ := R_tk_f hX hp1355
        show X_T sc 155 (21, [(2, .int (iI at1312)), (1, .int (iI a)), (0, .ref 530)], [.int (iI (X_ix rn rc (ct (X_av n c))))], S1346) _
        refine T_p xr_155_21 xn_155 (pc' := 25) (ls' := [(2, .int (iI at1312)), (1, .int (iI a)), (0, .ref 530)]) (st' := [.int (iI (X_ix rn rc (ct (X_av n c))))]) rfl ?_
        obtain ⟨b, hb2⟩ : ∃ z : Int, z = (X_ix rn rc (ct (X_av n c))) := ⟨_, rfl⟩
        refine T_ie (y := iI b) (by rw [hb2]) ?_
        have hr1372 : 0 ≤ b ∧ b < rc := by omega
        refine T_p xr_155_25 xn_155 (pc' := 26) (ls' := [(3, .int (iI b)), (2, .int (iI at1312)), (1, .int (iI a)), (0, .ref 530)]) (st' := []) rfl ?_
        refine T_p xr_155_26 xn_155 (pc' := 27) (ls' := [(3, .int (iI b)), (2, .int (iI at1312)), (1, .int (iI a)), (0, .ref 530)]) (st' := [.ref 530]) rfl ?_
        refine T_cv (S := S1346) (q := 530) xr_155_27 xf_140.1 xf_140.2.1 xn_140 (as := []) (r := []) rfl h1369 (Nat.le_of_ble_eq_true rfl) (Nat.le_of_ble_eq_true rfl) (pc' := 30) rfl (ls' := [(0, .ref 530)]) rfl ?_
        refine T_mono (r_isGood sc S1346 (X_ou (X_ou (X_ou (X_ou (X_ou o 7 at1348) 8 en1349) 9 tk1350) 10 nu1351) 11 dg1352) nm1353 h1369 (show 0 ≤ (o 5) ∧ (o 5) ≤ 5 from by omega)) (fun v1373 S1374 h1375 => ?_)
        rcases h1375 with ⟨hv1376, hf1377⟩
        rw [hv1376]
        rw [hf1377]
        show X_T sc 155 (30, [(3, .int (iI b)), (2, .int (iI at1312)), (1, .int (iI a)), (0, .ref 530)], [.int (iI (bI ((o 5) = 0)))], S1346) _
        refine T_bif_eq xr_155_30 (t := 53) (pc' := 33) rfl rfl (fun c1378 => ?_) (fun c1378 => ?_)
        · skip
          have c1378 : ¬ ((o 5) = 0) := c1378
          exact (show False by first | contradiction | omega).elim
        · skip
          have c1378 : ((o 5) = 0) := c1378
          refine T_p xr_155_33 xn_155 (pc' := 34) (ls' := [(3, .int (iI b)), (2, .int (iI at1312)), (1, .int (iI a)), (0, .ref 530)]) (st' := [.int (iI a)]) rfl ?_
          refine T_p xr_155_34 xn_155 (pc' := 35) (ls' := [(3, .int (iI b)), (2, .int (iI at1312)), (1, .int (iI a)), (0, .ref 530)]) (st' := [.int (iI b), .int (iI a)]) rfl ?_
          refine T_zicmp_eq xr_155_35 (t := 47) (pc' := 38) rfl rfl (fun c1379 => ?_) (fun c1379 => ?_)
          · skip
            have c1379 : a = b := c1379
            refine T_p xr_155_47 xn_155 (pc' := 48) (ls' := [(3, .int (iI b)), (2, .int (iI at1312)), (1, .int (iI a)), (0, .ref 530)]) (st' := [.ref 530]) rfl ?_
            refine T_p xr_155_48 xn_155 (pc' := 49) (ls' := [(3, .int (iI b)), (2, .int (iI at1312)), (1, .int (iI a)), (0, .ref 530)]) (st' := [.int (iI 4), .ref 530]) rfl ?_
            refine T_p xr_155_49 xn_155 (pc' := 50) (ls' := [(3, .int (iI b)), (2, .int (iI at1312)), (1, .int (iI a)), (0, .ref 530)]) (st' := [.int (iI at1312), .int (iI 4), .ref 530]) rfl ?_
            refine T_cv (S := S1346) (q := 530) xr_155_50 xf_139.1 xf_139.2.1 xn_139 (as := [.int (iI 4), .int (iI at1312)]) (r := []) rfl h1369 (Nat.le_of_ble_eq_true rfl) (Nat.le_of_ble_eq_true rfl) (pc' := 53) rfl (ls' := [(0, .ref 530), (1, .int (iI 4)), (2, .int (iI at1312))]) rfl ?_
            refine T_mono (r_fails sc S1346 (X_ou (X_ou (X_ou (X_ou (X_ou o 7 at1348) 8 en1349) 9 tk1350) 10 nu1351) 11 dg1352) nm1353 4 at1312 h1369 (show 0 ≤ (o 5) ∧ (o 5) ≤ 5 from by omega) (by omega)) (fun v1380 S1381 h1382 => ?_)
            rcases h1382 with ⟨f1383, g1384, hv1385, hp1386, hM1387, hf1388⟩
            rw [hv1385]
            have h1389 : S1381.1 530 = .inr (11, [.ref 531, .int (iI (o 1)), .ref 532, .int (iI (o 3)), .int (iI (o 4)), .int (iI f1383), .int (iI g1384), .int (iI at1348), .int (iI en1349), .int (iI tk1350), .int (iI nu1351), .int (iI dg1352), .long nm1353, .ref 533, .ref 534, .ref 535, .ref 536, .ref 537, .ref 538, .ref 539, .ref 540, .ref 541, .ref 542, .ref 543, .ref 544, .ref 545, .ref 546, .ref 547, .int (iI (o 28)), .int (iI (o 29)), .int (iI (o 30)), .int (iI (o 31)), .int (iI (o 32)), .int (iI (o 33)), .ref 548, .ref 549, .ref 550, .ref 551, .int (iI (o 38)), .ref 552, .ref 553, .ref 554, .ref 555, .ref 556, .ref 557, .ref 558, .ref 559, .ref 560, .ref 561, .int (iI (o 49)), .ref 562, .ref 563, .ref 564, .ref 565, .ref 566, .ref 567, .ref 568, .ref 569, .int (iI (o 58)), .ref 570, .ref 571, .ref 572, .ref 573, .ref 574, .ref 575, .ref 576, .ref 577, .ref 578, .int (iI (o 68)), .int (iI (o 69)), .int (iI (o 70)), .ref 579]) := hM1387
            have hp1386 : ((o 5) = 0 → f1383 = 4) ∧ (¬ (o 5) = 0 → f1383 = (o 5)) := hp1386
            have hf1390 : f1383 = 4 := hp1386.1 h5
            show X_T sc 155 (53, [(3, .int (iI b)), (2, .int (iI at1312)), (1, .int (iI a)), (0, .ref 530)], [], S1381) _
            refine T_p xr_155_53 xn_155 (pc' := 54) (ls' := [(3, .int (iI b)), (2, .int (iI at1312)), (1, .int (iI a)), (0, .ref 530)]) (st' := [.ref 530]) rfl ?_
            refine T_cv (S := S1381) (q := 530) xr_155_54 xf_140.1 xf_140.2.1 xn_140 (as := []) (r := []) rfl h1389 (Nat.le_of_ble_eq_true rfl) (Nat.le_of_ble_eq_true rfl) (pc' := 57) rfl (ls' := [(0, .ref 530)]) rfl ?_
            refine T_mono (r_isGood sc S1381 (X_ou (X_ou (X_ou (X_ou (X_ou (X_ou (X_ou o 5 f1383) 6 g1384) 7 at1348) 8 en1349) 9 tk1350) 10 nu1351) 11 dg1352) nm1353 h1389 (show 0 ≤ f1383 ∧ f1383 ≤ 5 from by omega)) (fun v1391 S1392 h1393 => ?_)
            rcases h1393 with ⟨hv1394, hf1395⟩
            rw [hv1394]
            rw [hf1395]
            show X_T sc 155 (57, [(3, .int (iI b)), (2, .int (iI at1312)), (1, .int (iI a)), (0, .ref 530)], [.int (iI (bI (f1383 = 0)))], S1381) _
            refine T_bif_eq xr_155_57 (t := 151) (pc' := 60) rfl rfl (fun c1396 => ?_) (fun c1396 => ?_)
            · skip
              have c1396 : ¬ (f1383 = 0) := c1396
              refine T_p xr_155_151 xn_155 (pc' := 152) (ls' := [(3, .int (iI b)), (2, .int (iI at1312)), (1, .int (iI a)), (0, .ref 530)]) (st' := [.ref 530]) rfl ?_
              refine T_cv (S := S1381) (q := 530) xr_155_152 xf_140.1 xf_140.2.1 xn_140 (as := []) (r := []) rfl h1389 (Nat.le_of_ble_eq_true rfl) (Nat.le_of_ble_eq_true rfl) (pc' := 155) rfl (ls' := [(0, .ref 530)]) rfl ?_
              refine T_mono (r_isGood sc S1381 (X_ou (X_ou (X_ou (X_ou (X_ou (X_ou (X_ou o 5 f1383) 6 g1384) 7 at1348) 8 en1349) 9 tk1350) 10 nu1351) 11 dg1352) nm1353 h1389 (show 0 ≤ f1383 ∧ f1383 ≤ 5 from by omega)) (fun v1397 S1398 h1399 => ?_)
              rcases h1399 with ⟨hv1400, hf1401⟩
              rw [hv1400]
              rw [hf1401]
              show X_T sc 155 (155, [(3, .int (iI b)), (2, .int (iI at1312)), (1, .int (iI a)), (0, .ref 530)], [.int (iI (bI (f1383 = 0)))], S1381) _
              refine T_bif_eq xr_155_155 (t := 164) (pc' := 158) rfl rfl (fun c1402 => ?_) (fun c1402 => ?_)
              · skip
                have c1402 : ¬ (f1383 = 0) := c1402
                refine T_vret xr_155_164 xf_155.2.2 ?_
                refine hQ _ _ ?_
                have h1403 := (hf1388.1 535 (by omega)).trans ((hf1359.1 535 (by omega)).trans ((hf1323.1 535 (by omega)).trans (hA535)))
                refine Or.inr ⟨at1348, en1349, tk1350, nu1351, dg1352, nm1353, f1383, g1384, tg, rfl, by omega, ?_, ?_, h1389, h1403, (((X_Fr.rf).tr (X_Fr.mono ⟨hf1323.1, hf1323.2⟩ (fun q hq => (by omega)))).tr (X_Fr.mono ⟨hf1359.1, hf1359.2⟩ (fun q hq => (by omega)))).tr (X_Fr.mono ⟨hf1388.1, hf1388.2⟩ (fun q hq => (by omega)))⟩
                · simp only [sp_tight]
                  rw [← hc]
                  (try rw [← ha_])
                  (try rw [← hb2])
                  (repeat (first | rw [if_pos (by assumption)] | rw [if_neg (by assumption)] | rw [if_neg (by omega)] | rw [if_pos (by omega)]))
                  all_goals first | rfl | ((repeat' split) <;> first | rfl | (exfalso; omega) | contradiction)
                · first | exact R_ob.rf | exact hob
              · skip
                have c1402 : (f1383 = 0) := c1402
                exact (show False by first | contradiction | omega).elim
            · skip
              have c1396 : (f1383 = 0) := c1396
              exact (show False by first | contradiction | omega).elim
          · skip
            have c1379 : ¬ (a = b) := c1379
            refine T_p xr_155_38 xn_155 (pc' := 39) (ls' := [(3, .int (iI b)), (2, .int (iI at1312)), (1, .int (iI a)), (0, .ref 530)]) (st' := [.ref 530]) rfl ?_
            refine T_p xr_155_39 xn_155 (pc' := 40) (ls' := [(3, .int (iI b)), (2, .int (iI at1312)), (1, .int (iI a)), (0, .ref 530)]) (st' := [.int (iI b), .ref 530]) rfl ?_
            refine T_p xr_155_40 xn_155 (pc' := 41) (ls' := [(3, .int (iI b)), (2, .int (iI at1312)), (1, .int (iI a)), (0, .ref 530)]) (st' := [.int (iI a), .int (iI b), .ref 530]) rfl ?_
            refine T_cv (S := S1346) (q := 530) xr_155_41 xf_154.1 xf_154.2.1 xn_154 (as := [.int (iI b), .int (iI a)]) (r := []) rfl h1369 (Nat.le_of_ble_eq_true rfl) (Nat.le_of_ble_eq_true rfl) (pc' := 44) rfl (ls' := [(0, .ref 530), (1, .int (iI b)), (2, .int (iI a))]) rfl ?_
            have h1404 := (hf1359.1 535 (by omega)).trans ((hf1323.1 535 (by omega)).trans (hA535))
            refine T_mono (r_tight sc S1346 (X_ou (X_ou (X_ou (X_ou (X_ou o 7 at1348) 8 en1349) 9 tk1350) 10 nu1351) 11 dg1352) nm1353 tg b a (X_bt (lo b) a) h1369 h1404 (show 0 ≤ (o 4) ∧ (o 4) ≤ 1 from by omega) (by omega) (by omega) (hR.2.1 _ _ (by omega) (by omega) (by omega) (by omega))) (fun v1405 S1406 h1407 => ?_)
            rcases h1407 with ⟨hv1408, hf1409⟩
            rw [hv1408]
            rw [hf1409]
            show X_T sc 155 (44, [(3, .int (iI b)), (2, .int (iI at1312)), (1, .int (iI a)), (0, .ref 530)], [.int (iI (bI ((X_bt (lo b) a))))], S1346) _
            refine T_bif_eq xr_155_44 (t := 53) (pc' := 47) rfl rfl (fun c1410 => ?_) (fun c1410 => ?_)
            · skip
              have c1410 : ¬ ((X_bt (lo b) a)) := c1410
              refine T_p xr_155_53 xn_155 (pc' := 54) (ls' := [(3, .int (iI b)), (2, .int (iI at1312)), (1, .int (iI a)), (0, .ref 530)]) (st' := [.ref 530]) rfl ?_
              refine T_cv (S := S1346) (q := 530) xr_155_54 xf_140.1 xf_140.2.1 xn_140 (as := []) (r := []) rfl h1369 (Nat.le_of_ble_eq_true rfl) (Nat.le_of_ble_eq_true rfl) (pc' := 57) rfl (ls' := [(0, .ref 530)]) rfl ?_
              refine T_mono (r_isGood sc S1346 (X_ou (X_ou (X_ou (X_ou (X_ou o 7 at1348) 8 en1349) 9 tk1350) 10 nu1351) 11 dg1352) nm1353 h1369 (show 0 ≤ (o 5) ∧ (o 5) ≤ 5 from by omega)) (fun v1411 S1412 h1413 => ?_)
              rcases h1413 with ⟨hv1414, hf1415⟩
              rw [hv1414]
              rw [hf1415]
              show X_T sc 155 (57, [(3, .int (iI b)), (2, .int (iI at1312)), (1, .int (iI a)), (0, .ref 530)], [.int (iI (bI ((o 5) = 0)))], S1346) _
              refine T_bif_eq xr_155_57 (t := 151) (pc' := 60) rfl rfl (fun c1416 => ?_) (fun c1416 => ?_)
              · skip
                have c1416 : ¬ ((o 5) = 0) := c1416
                exact (show False by first | contradiction | omega).elim
              · skip
                have c1416 : ((o 5) = 0) := c1416
                refine T_p xr_155_60 xn_155 (pc' := 61) (ls' := [(3, .int (iI b)), (2, .int (iI at1312)), (1, .int (iI a)), (0, .ref 530)]) (st' := [.int (iI 0)]) rfl ?_
                refine T_p xr_155_61 xn_155 (pc' := 63) (ls' := [(4, .int (iI 0)), (3, .int (iI b)), (2, .int (iI at1312)), (1, .int (iI a)), (0, .ref 530)]) (st' := []) rfl ?_
                have L1417 : ∀ (m1419 : Nat) (S1422 : X_S) (x : Int) (tg1 : Int → Int) (htg1 : S1422.1 535 = .inl (.boolean, 288, .inl fun k : Nat => iI (tg1 (k : Int)))) (hF1421 : X_Fr (fun q => q = 535) S1346 S1422) (hx : 0 ≤ x ∧ x ≤ rc) (hI : R_tI (o 4) rc lo a b x 0 tg1) (hob : R_ob 144 (o 4) tg tg1) (hm1420 : rc - x < m1419), X_T sc 155 (63, [(4, .int (iI x)), (3, .int (iI b)), (1, .int (iI a)), (0, .ref 530)], [], S1422) Q := by
                  intro m1419
                  induction m1419 with
                  | zero =>
                    intro S1422 x tg1 htg1 hF1421 hx hI hob hm1420
                    exact (show False by omega).elim
                  | succ m1419 ih1418 =>
                    intro S1422 x tg1 htg1 hF1421 hx hI hob hm1420
                    refine T_p xr_155_63 xn_155 (pc' := 65) (ls' := [(4, .int (iI x)), (3, .int (iI b)), (1, .int (iI a)), (0, .ref 530)]) (st' := [.int (iI x)]) rfl ?_
                    refine T_p xr_155_65 xn_155 (pc' := 66) (ls' := [(4, .int (iI x)), (3, .int (iI b)), (1, .int (iI a)), (0, .ref 530)]) (st' := [.ref 530, .int (iI x)]) rfl ?_
                    have h1423 := (hF1421.1 530 (by omega)).trans (h1369)
                    refine T_get xr_155_66 h1423 rfl (v := .int (iI (o 28))) rfl (pc' := 69) rfl ?_
                    refine T_zicmp_ge xr_155_69 (t := 151) (pc' := 72) rfl rfl (fun c1424 => ?_) (fun c1424 => ?_)
                    · skip
                      have c1424 : (o 28) ≤ x := c1424
                      refine T_p xr_155_151 xn_155 (pc' := 152) (ls' := [(4, .int (iI x)), (3, .int (iI b)), (1, .int (iI a)), (0, .ref 530)]) (st' := [.ref 530]) rfl ?_
                      refine T_cv (S := S1422) (q := 530) xr_155_152 xf_140.1 xf_140.2.1 xn_140 (as := []) (r := []) rfl h1423 (Nat.le_of_ble_eq_true rfl) (Nat.le_of_ble_eq_true rfl) (pc' := 155) rfl (ls' := [(0, .ref 530)]) rfl ?_
                      refine T_mono (r_isGood sc S1422 (X_ou (X_ou (X_ou (X_ou (X_ou o 7 at1348) 8 en1349) 9 tk1350) 10 nu1351) 11 dg1352) nm1353 h1423 (show 0 ≤ (o 5) ∧ (o 5) ≤ 5 from by omega)) (fun v1425 S1426 h1427 => ?_)
                      rcases h1427 with ⟨hv1428, hf1429⟩
                      rw [hv1428]
                      rw [hf1429]
                      show X_T sc 155 (155, [(4, .int (iI x)), (3, .int (iI b)), (1, .int (iI a)), (0, .ref 530)], [.int (iI (bI ((o 5) = 0)))], S1422) _
                      refine T_bif_eq xr_155_155 (t := 164) (pc' := 158) rfl rfl (fun c1430 => ?_) (fun c1430 => ?_)
                      · skip
                        have c1430 : ¬ ((o 5) = 0) := c1430
                        exact (show False by first | contradiction | omega).elim
                      · skip
                        have c1430 : ((o 5) = 0) := c1430
                        refine T_p xr_155_158 xn_155 (pc' := 159) (ls' := [(4, .int (iI x)), (3, .int (iI b)), (1, .int (iI a)), (0, .ref 530)]) (st' := [.ref 530]) rfl ?_
                        refine T_p xr_155_159 xn_155 (pc' := 161) (ls' := [(4, .int (iI x)), (3, .int (iI b)), (1, .int (iI a)), (0, .ref 530)]) (st' := [.int (iI 59), .ref 530]) rfl ?_
                        refine T_cv (S := S1422) (q := 530) xr_155_161 xf_148.1 xf_148.2.1 xn_148 (as := [.int (iI 59)]) (r := []) rfl h1423 (Nat.le_of_ble_eq_true rfl) (Nat.le_of_ble_eq_true rfl) (pc' := 164) rfl (ls' := [(0, .ref 530), (1, .int (iI 59))]) rfl ?_
                        have h1431 := (hF1421.1 532 (by omega)).trans ((hf1359.1 532 (by omega)).trans (h1343))
                        refine T_mono (r_must sc S1422 (X_ou (X_ou (X_ou (X_ou (X_ou o 7 at1348) 8 en1349) 9 tk1350) 10 nu1351) 11 dg1352) nm1353 tx tb len n so pl ct E (X_av n (X_av n c)) 59 h1423 h1431 (show (o 3) = len from by first | assumption | omega) hl htx hX hp1355 (show (o 5) = 0 from by omega) (by omega)) (fun v1432 S1433 h1434 => ?_)
                        rcases h1434 with ⟨at1435, en1436, tk1437, nu1438, dg1439, nm1440, hv1441, hp1442, hp1443, hM1444, hf1445⟩ | ⟨f1446, g1447, hv1448, hp1449, hp1450, hM1451, hf1452⟩
                        · skip
                          rw [hv1441]
                          have h1453 : S1433.1 530 = .inr (11, [.ref 531, .int (iI (o 1)), .ref 532, .int (iI (o 3)), .int (iI (o 4)), .int (iI (o 5)), .int (iI (o 6)), .int (iI at1435), .int (iI en1436), .int (iI tk1437), .int (iI nu1438), .int (iI dg1439), .long nm1440, .ref 533, .ref 534, .ref 535, .ref 536, .ref 537, .ref 538, .ref 539, .ref 540, .ref 541, .ref 542, .ref 543, .ref 544, .ref 545, .ref 546, .ref 547, .int (iI (o 28)), .int (iI (o 29)), .int (iI (o 30)), .int (iI (o 31)), .int (iI (o 32)), .int (iI (o 33)), .ref 548, .ref 549, .ref 550, .ref 551, .int (iI (o 38)), .ref 552, .ref 553, .ref 554, .ref 555, .ref 556, .ref 557, .ref 558, .ref 559, .ref 560, .ref 561, .int (iI (o 49)), .ref 562, .ref 563, .ref 564, .ref 565, .ref 566, .ref 567, .ref 568, .ref 569, .int (iI (o 58)), .ref 570, .ref 571, .ref 572, .ref 573, .ref 574, .ref 575, .ref 576, .ref 577, .ref 578, .int (iI (o 68)), .int (iI (o 69)), .int (iI (o 70)), .ref 579]) := hM1444
                          obtain ⟨⟨_, _⟩, ⟨_, _⟩, hk1454, ⟨_, _⟩, hk1454e, ⟨_, _⟩, ⟨_, _⟩⟩ := R_tk_f hX hp1442
                          show X_T sc 155 (164, [(4, .int (iI x)), (3, .int (iI b)), (1, .int (iI a)), (0, .ref 530)], [], S1433) _
                          refine T_vret xr_155_164 xf_155.2.2 ?_
                          refine hQ _ _ ?_
                          have h1456 := (hf1445.1 535 (by omega)).trans (htg1)
                          refine Or.inl ⟨at1435, en1436, tk1437, nu1438, dg1439, nm1440, tg1, rfl, hp1442, ?_, ?_, hob, h1453, h1456, ((((X_Fr.rf).tr (X_Fr.mono ⟨hf1323.1, hf1323.2⟩ (fun q hq => (by omega)))).tr (X_Fr.mono ⟨hf1359.1, hf1359.2⟩ (fun q hq => (by omega)))).tr (X_Fr.mono ⟨hF1421.1, hF1421.2⟩ (fun q hq => (by omega)))).tr (X_Fr.mono ⟨hf1445.1, hf1445.2⟩ (fun q hq => (by omega)))⟩
                          · simp only [sp_tight]
                            rw [← hc, ← ha_, ← hb2]
                            (repeat (first | rw [if_pos (by assumption)] | rw [if_neg (by assumption)] | rw [if_neg (by omega)] | rw [if_pos (by omega)]))
                            all_goals first | rfl | ((repeat' split) <;> first | rfl | (exfalso; omega) | contradiction)
                          · rw [← ha_, ← hb2]
                            exact R_tI_e (by omega) (by omega) (by omega) hR hI
                        · skip
                          rw [hv1448]
                          have h1455 : S1433.1 530 = .inr (11, [.ref 531, .int (iI (o 1)), .ref 532, .int (iI (o 3)), .int (iI (o 4)), .int (iI f1446), .int (iI g1447), .int (iI at1348), .int (iI en1349), .int (iI tk1350), .int (iI nu1351), .int (iI dg1352), .long nm1353, .ref 533, .ref 534, .ref 535, .ref 536, .ref 537, .ref 538, .ref 539, .ref 540, .ref 541, .ref 542, .ref 543, .ref 544, .ref 545, .ref 546, .ref 547, .int (iI (o 28)), .int (iI (o 29)), .int (iI (o 30)), .int (iI (o 31)), .int (iI (o 32)), .int (iI (o 33)), .ref 548, .ref 549, .ref 550, .ref 551, .int (iI (o 38)), .ref 552, .ref 553, .ref 554, .ref 555, .ref 556, .ref 557, .ref 558, .ref 559, .ref 560, .ref 561, .int (iI (o 49)), .ref 562, .ref 563, .ref 564, .ref 565, .ref 566, .ref 567, .ref 568, .ref 569, .int (iI (o 58)), .ref 570, .ref 571, .ref 572, .ref 573, .ref 574, .ref 575, .ref 576, .ref 577, .ref 578, .int (iI (o 68)), .int (iI (o 69)), .int (iI (o 70)), .ref 579]) := hM1451
                          show X_T sc 155 (164, [(4, .int (iI x)), (3, .int (iI b)), (1, .int (iI a)), (0, .ref 530)], [], S1433) _
                          refine T_vret xr_155_164 xf_155.2.2 ?_
                          refine hQ _ _ ?_
                          have h1457 := (hf1452.1 535 (by omega)).trans (htg1)
                          refine Or.inr ⟨at1348, en1349, tk1350, nu1351, dg1352, nm1353, f1446, g1447, tg1, rfl, by omega, ?_, ?_, h1455, h1457, ((((X_Fr.rf).tr (X_Fr.mono ⟨hf1323.1, hf1323.2⟩ (fun q hq => (by omega)))).tr (X_Fr.mono ⟨hf1359.1, hf1359.2⟩ (fun q hq => (by omega)))).tr (X_Fr.mono ⟨hF1421.1, hF1421.2⟩ (fun q hq => (by omega)))).tr (X_Fr.mono ⟨hf1452.1, hf1452.2⟩ (fun q hq => (by omega)))⟩
                          · simp only [sp_tight]
                            rw [← hc]
                            (try rw [← ha_])
                            (try rw [← hb2])
                            (repeat (first | rw [if_pos (by assumption)] | rw [if_neg (by assumption)] | rw [if_neg (by omega)] | rw [if_pos (by omega)]))
                            all_goals first | rfl | ((repeat' split) <;> first | rfl | (exfalso; omega) | contradiction)
                          · first | exact R_ob.rf | exact hob
                    · skip
                      have c1424 : ¬ ((o 28) ≤ x) := c1424
                      refine T_p xr_155_72 xn_155 (pc' := 73) (ls' := [(4, .int (iI x)), (3, .int (iI b)), (1, .int (iI a)), (0, .ref 530)]) (st' := [.int (iI 0)]) rfl ?_
                      refine T_p xr_155_73 xn_155 (pc' := 75) (ls' := [(5, .int (iI 0)), (4, .int (iI x)), (3, .int (iI b)), (1, .int (iI a)), (0, .ref 530)]) (st' := []) rfl ?_
                      have L1458 : ∀ (m1460 : Nat) (S1463 : X_S) (y : Int) (tg1 : Int → Int) (htg1 : S1463.1 535 = .inl (.boolean, 288, .inl fun k : Nat => iI (tg1 (k : Int)))) (hF1462 : X_Fr (fun q => q = 535) S1422 S1463) (hy : 0 ≤ y ∧ y ≤ rc) (hI : R_tI (o 4) rc lo a b x y tg1) (hob : R_ob 144 (o 4) tg tg1) (hm1461 : rc - y < m1460), X_T sc 155 (75, [(5, .int (iI y)), (4, .int (iI x)), (3, .int (iI b)), (1, .int (iI a)), (0, .ref 530)], [], S1463) Q := by
                        intro m1460
                        induction m1460 with
                        | zero =>
                          intro S1463 y tg1 htg1 hF1462 hy hI hob hm1461
                          exact (show False by omega).elim
                        | succ m1460 ih1459 =>
                          intro S1463 y tg1 htg1 hF1462 hy hI hob hm1461
                          refine T_p xr_155_75 xn_155 (pc' := 77) (ls' := [(5, .int (iI y)), (4, .int (iI x)), (3, .int (iI b)), (1, .int (iI a)), (0, .ref 530)]) (st' := [.int (iI y)]) rfl ?_
                          refine T_p xr_155_77 xn_155 (pc' := 78) (ls' := [(5, .int (iI y)), (4, .int (iI x)), (3, .int (iI b)), (1, .int (iI a)), (0, .ref 530)]) (st' := [.ref 530, .int (iI y)]) rfl ?_
                          have h1464 := (hF1462.1 530 (by omega)).trans (h1423)
                          refine T_get xr_155_78 h1464 rfl (v := .int (iI (o 28))) rfl (pc' := 81) rfl ?_
                          refine T_zicmp_ge xr_155_81 (t := 145) (pc' := 84) rfl rfl (fun c1465 => ?_) (fun c1465 => ?_)
                          · skip
                            have c1465 : (o 28) ≤ y := c1465
                            refine T_ziinc xr_155_145 xn_155 (a := x) (z := x + 1) rfl (Nat.le_of_ble_eq_true rfl) (by omega) (ls' := [(4, .int (iI (x + 1))), (5, .int (iI y)), (3, .int (iI b)), (1, .int (iI a)), (0, .ref 530)]) rfl (pc' := 148) rfl ?_
                            refine T_p xr_155_148 xn_155 (pc' := 63) (ls' := [(4, .int (iI (x + 1))), (5, .int (iI y)), (3, .int (iI b)), (1, .int (iI a)), (0, .ref 530)]) (st' := []) rfl ?_
                            refine T_sub (ls := [(4, .int (iI (x + 1))), (3, .int (iI b)), (1, .int (iI a)), (0, .ref 530)]) ⟨rfl, rfl, rfl, rfl, trivial⟩ rfl rfl ?_
                            exact ih1418 S1463 (x + 1) tg1 htg1 (hF1421.tr ((X_Fr.rf).tr (X_Fr.mono ⟨hF1462.1, hF1462.2⟩ (fun q hq => (by omega))))) (by omega) (R_tI_x (by omega) hI) hob (by omega)
                          · skip
                            have c1465 : ¬ ((o 28) ≤ y) := c1465
                            refine T_p xr_155_84 xn_155 (pc' := 86) (ls' := [(5, .int (iI y)), (4, .int (iI x)), (3, .int (iI b)), (1, .int (iI a)), (0, .ref 530)]) (st' := [.int (iI x)]) rfl ?_
                            refine T_p xr_155_86 xn_155 (pc' := 87) (ls' := [(5, .int (iI y)), (4, .int (iI x)), (3, .int (iI b)), (1, .int (iI a)), (0, .ref 530)]) (st' := [.int (iI a), .int (iI x)]) rfl ?_
                            refine T_zicmp_eq xr_155_87 (t := 100) (pc' := 90) rfl rfl (fun c1466 => ?_) (fun c1466 => ?_)
                            · skip
                              have c1466 : x = a := c1466
                              refine T_p xr_155_100 xn_155 (pc' := 102) (ls' := [(5, .int (iI y)), (4, .int (iI x)), (3, .int (iI b)), (1, .int (iI a)), (0, .ref 530)]) (st' := [.int (iI y)]) rfl ?_
                              refine T_p xr_155_102 xn_155 (pc' := 103) (ls' := [(5, .int (iI y)), (4, .int (iI x)), (3, .int (iI b)), (1, .int (iI a)), (0, .ref 530)]) (st' := [.int (iI b), .int (iI y)]) rfl ?_
                              refine T_zicmp_eq xr_155_103 (t := 116) (pc' := 106) rfl rfl (fun c1467 => ?_) (fun c1467 => ?_)
                              · skip
                                have c1467 : y = b := c1467
                                refine T_p xr_155_116 xn_155 (pc' := 117) (ls' := [(5, .int (iI y)), (4, .int (iI x)), (3, .int (iI b)), (1, .int (iI a)), (0, .ref 530)]) (st' := [.ref 530]) rfl ?_
                                refine T_get xr_155_117 h1464 rfl (v := .ref 535) rfl (pc' := 120) rfl ?_
                                refine T_p xr_155_120 xn_155 (pc' := 123) (ls' := [(5, .int (iI y)), (4, .int (iI x)), (3, .int (iI b)), (1, .int (iI a)), (0, .ref 530)]) (st' := [.int (iI 144), .ref 535]) rfl ?_
                                refine T_p xr_155_123 xn_155 (pc' := 124) (ls' := [(5, .int (iI y)), (4, .int (iI x)), (3, .int (iI b)), (1, .int (iI a)), (0, .ref 530)]) (st' := [.ref 530, .int (iI 144), .ref 535]) rfl ?_
                                refine T_get xr_155_124 h1464 rfl (v := .int (iI (o 4))) rfl (pc' := 127) rfl ?_
                                refine T_zimul xr_155_127 (z := 144 * (o 4)) rfl (pc' := 128) rfl ?_
                                refine T_p xr_155_128 xn_155 (pc' := 130) (ls' := [(5, .int (iI y)), (4, .int (iI x)), (3, .int (iI b)), (1, .int (iI a)), (0, .ref 530)]) (st' := [.int (iI 12), .int (iI (144 * (o 4))), .ref 535]) rfl ?_
                                refine T_p xr_155_130 xn_155 (pc' := 132) (ls' := [(5, .int (iI y)), (4, .int (iI x)), (3, .int (iI b)), (1, .int (iI a)), (0, .ref 530)]) (st' := [.int (iI x), .int (iI 12), .int (iI (144 * (o 4))), .ref 535]) rfl ?_
                                refine T_zimul xr_155_132 (z := 12 * x) rfl (pc' := 133) rfl ?_
                                refine T_ziadd xr_155_133 (z := (144 * (o 4)) + (12 * x)) rfl (pc' := 134) rfl ?_
                                refine T_p xr_155_134 xn_155 (pc' := 136) (ls' := [(5, .int (iI y)), (4, .int (iI x)), (3, .int (iI b)), (1, .int (iI a)), (0, .ref 530)]) (st' := [.int (iI y), .int (iI ((144 * (o 4)) + (12 * x))), .ref 535]) rfl ?_
                                refine T_ziadd xr_155_136 (z := ((144 * (o 4)) + (12 * x)) + y) rfl (pc' := 137) rfl ?_
                                refine T_p xr_155_137 xn_155 (pc' := 138) (ls' := [(5, .int (iI y)), (4, .int (iI x)), (3, .int (iI b)), (1, .int (iI a)), (0, .ref 530)]) (st' := [.int (iI 1), .int (iI (((144 * (o 4)) + (12 * x)) + y)), .ref 535]) rfl ?_
                                refine T_zzast xr_155_138 htg1 (pc' := 139) rfl (fun S1468 h1469 n1470 e1471 => ?_)
                                refine T_ziinc xr_155_139 xn_155 (a := y) (z := y + 1) rfl (Nat.le_of_ble_eq_true rfl) (by omega) (ls' := [(5, .int (iI (y + 1))), (4, .int (iI x)), (3, .int (iI b)), (1, .int (iI a)), (0, .ref 530)]) rfl (pc' := 142) rfl ?_
                                refine T_p xr_155_142 xn_155 (pc' := 75) (ls' := [(5, .int (iI (y + 1))), (4, .int (iI x)), (3, .int (iI b)), (1, .int (iI a)), (0, .ref 530)]) (st' := []) rfl ?_
                                exact ih1459 S1468 (y + 1) (X_ug tg1 (((144 * (o 4)) + (12 * x)) + y) (X_bo 1)) h1469 (hF1462.tr ((X_Fr.rf).tr (X_Fr.of n1470 e1471 (by omega)))) (by omega) (R_tI_y (by omega) (by omega) (by omega) (by unfold R_tM; exact ⟨by first | exact Or.inl (by omega) | exact Or.inr (by assumption), by first | exact Or.inl (by omega) | exact Or.inr (by assumption)⟩) hI (by rfl)) (hob.up (by omega)) (by omega)
                              · skip
                                have c1467 : ¬ (y = b) := c1467
                                refine T_p xr_155_106 xn_155 (pc' := 107) (ls' := [(5, .int (iI y)), (4, .int (iI x)), (3, .int (iI b)), (1, .int (iI a)), (0, .ref 530)]) (st' := [.ref 530]) rfl ?_
                                refine T_p xr_155_107 xn_155 (pc' := 108) (ls' := [(5, .int (iI y)), (4, .int (iI x)), (3, .int (iI b)), (1, .int (iI a)), (0, .ref 530)]) (st' := [.int (iI b), .ref 530]) rfl ?_
                                refine T_p xr_155_108 xn_155 (pc' := 110) (ls' := [(5, .int (iI y)), (4, .int (iI x)), (3, .int (iI b)), (1, .int (iI a)), (0, .ref 530)]) (st' := [.int (iI y), .int (iI b), .ref 530]) rfl ?_
                                refine T_cv (S := S1463) (q := 530) xr_155_110 xf_154.1 xf_154.2.1 xn_154 (as := [.int (iI b), .int (iI y)]) (r := []) rfl h1464 (Nat.le_of_ble_eq_true rfl) (Nat.le_of_ble_eq_true rfl) (pc' := 113) rfl (ls' := [(0, .ref 530), (1, .int (iI b)), (2, .int (iI y))]) rfl ?_
                                refine T_mono (r_tight sc S1463 (X_ou (X_ou (X_ou (X_ou (X_ou o 7 at1348) 8 en1349) 9 tk1350) 10 nu1351) 11 dg1352) nm1353 tg1 b y (X_bt (lo b) y) h1464 htg1 (show 0 ≤ (o 4) ∧ (o 4) ≤ 1 from by omega) (by omega) (by omega) (R_tI_b (by omega) (by assumption) (by omega) (by omega) hI)) (fun v1472 S1473 h1474 => ?_)
                                rcases h1474 with ⟨hv1475, hf1476⟩
                                rw [hv1475]
                                rw [hf1476]
                                show X_T sc 155 (113, [(5, .int (iI y)), (4, .int (iI x)), (3, .int (iI b)), (1, .int (iI a)), (0, .ref 530)], [.int (iI (bI ((X_bt (lo b) y))))], S1463) _
                                refine T_bif_eq xr_155_113 (t := 139) (pc' := 116) rfl rfl (fun c1477 => ?_) (fun c1477 => ?_)
                                · skip
                                  have c1477 : ¬ ((X_bt (lo b) y)) := c1477
                                  refine T_ziinc xr_155_139 xn_155 (a := y) (z := y + 1) rfl (Nat.le_of_ble_eq_true rfl) (by omega) (ls' := [(5, .int (iI (y + 1))), (4, .int (iI x)), (3, .int (iI b)), (1, .int (iI a)), (0, .ref 530)]) rfl (pc' := 142) rfl ?_
                                  refine T_p xr_155_142 xn_155 (pc' := 75) (ls' := [(5, .int (iI (y + 1))), (4, .int (iI x)), (3, .int (iI b)), (1, .int (iI a)), (0, .ref 530)]) (st' := []) rfl ?_
                                  exact ih1459 S1463 (y + 1) tg1 htg1 (hF1462.tr (X_Fr.rf)) (by omega) (R_tI_n (by unfold R_tM; rintro ⟨z1 | z1, z2 | z2⟩ <;> first | contradiction | omega) hI) hob (by omega)
                                · skip
                                  have c1477 : ((X_bt (lo b) y)) := c1477
                                  refine T_p xr_155_116 xn_155 (pc' := 117) (ls' := [(5, .int (iI y)), (4, .int (iI x)), (3, .int (iI b)), (1, .int (iI a)), (0, .ref 530)]) (st' := [.ref 530]) rfl ?_
                                  refine T_get xr_155_117 h1464 rfl (v := .ref 535) rfl (pc' := 120) rfl ?_
                                  refine T_p xr_155_120 xn_155 (pc' := 123) (ls' := [(5, .int (iI y)), (4, .int (iI x)), (3, .int (iI b)), (1, .int (iI a)), (0, .ref 530)]) (st' := [.int (iI 144), .ref 535]) rfl ?_
                                  refine T_p xr_155_123 xn_155 (pc' := 124) (ls' := [(5, .int (iI y)), (4, .int (iI x)), (3, .int (iI b)), (1, .int (iI a)), (0, .ref 530)]) (st' := [.ref 530, .int (iI 144), .ref 535]) rfl ?_
                                  refine T_get xr_155_124 h1464 rfl (v := .int (iI (o 4))) rfl (pc' := 127) rfl ?_
                                  refine T_zimul xr_155_127 (z := 144 * (o 4)) rfl (pc' := 128) rfl ?_
                                  refine T_p xr_155_128 xn_155 (pc' := 130) (ls' := [(5, .int (iI y)), (4, .int (iI x)), (3, .int (iI b)), (1, .int (iI a)), (0, .ref 530)]) (st' := [.int (iI 12), .int (iI (144 * (o 4))), .ref 535]) rfl ?_
                                  refine T_p xr_155_130 xn_155 (pc' := 132) (ls' := [(5, .int (iI y)), (4, .int (iI x)), (3, .int (iI b)), (1, .int (iI a)), (0, .ref 530)]) (st' := [.int (iI x), .int (iI 12), .int (iI (144 * (o 4))), .ref 535]) rfl ?_
                                  refine T_zimul xr_155_132 (z := 12 * x) rfl (pc' := 133) rfl ?_
                                  refine T_ziadd xr_155_133 (z := (144 * (o 4)) + (12 * x)) rfl (pc' := 134) rfl ?_
                                  refine T_p xr_155_134 xn_155 (pc' := 136) (ls' := [(5, .int (iI y)), (4, .int (iI x)), (3, .int (iI b)), (1, .int (iI a)), (0, .ref 530)]) (st' := [.int (iI y), .int (iI ((144 * (o 4)) + (12 * x))), .ref 535]) rfl ?_
                                  refine T_ziadd xr_155_136 (z := ((144 * (o 4)) + (12 * x)) + y) rfl (pc' := 137) rfl ?_
                                  refine T_p xr_155_137 xn_155 (pc' := 138) (ls' := [(5, .int (iI y)), (4, .int (iI x)), (3, .int (iI b)), (1, .int (iI a)), (0, .ref 530)]) (st' := [.int (iI 1), .int (iI (((144 * (o 4)) + (12 * x)) + y)), .ref 535]) rfl ?_
                                  refine T_zzast xr_155_138 htg1 (pc' := 139) rfl (fun S1478 h1479 n1480 e1481 => ?_)
                                  refine T_ziinc xr_155_139 xn_155 (a := y) (z := y + 1) rfl (Nat.le_of_ble_eq_true rfl) (by omega) (ls' := [(5, .int (iI (y + 1))), (4, .int (iI x)), (3, .int (iI b)), (1, .int (iI a)), (0, .ref 530)]) rfl (pc' := 142) rfl ?_
                                  refine T_p xr_155_142 xn_155 (pc' := 75) (ls' := [(5, .int (iI (y + 1))), (4, .int (iI x)), (3, .int (iI b)), (1, .int (iI a)), (0, .ref 530)]) (st' := []) rfl ?_
                                  exact ih1459 S1478 (y + 1) (X_ug tg1 (((144 * (o 4)) + (12 * x)) + y) (X_bo 1)) h1479 (hF1462.tr ((X_Fr.rf).tr (X_Fr.of n1480 e1481 (by omega)))) (by omega) (R_tI_y (by omega) (by omega) (by omega) (by unfold R_tM; exact ⟨by first | exact Or.inl (by omega) | exact Or.inr (by assumption), by first | exact Or.inl (by omega) | exact Or.inr (by assumption)⟩) hI (by rfl)) (hob.up (by omega)) (by omega)
                            · skip
                              have c1466 : ¬ (x = a) := c1466
                              refine T_p xr_155_90 xn_155 (pc' := 91) (ls' := [(5, .int (iI y)), (4, .int (iI x)), (3, .int (iI b)), (1, .int (iI a)), (0, .ref 530)]) (st' := [.ref 530]) rfl ?_
                              refine T_p xr_155_91 xn_155 (pc' := 93) (ls' := [(5, .int (iI y)), (4, .int (iI x)), (3, .int (iI b)), (1, .int (iI a)), (0, .ref 530)]) (st' := [.int (iI x), .ref 530]) rfl ?_
                              refine T_p xr_155_93 xn_155 (pc' := 94) (ls' := [(5, .int (iI y)), (4, .int (iI x)), (3, .int (iI b)), (1, .int (iI a)), (0, .ref 530)]) (st' := [.int (iI a), .int (iI x), .ref 530]) rfl ?_
                              refine T_cv (S := S1463) (q := 530) xr_155_94 xf_154.1 xf_154.2.1 xn_154 (as := [.int (iI x), .int (iI a)]) (r := []) rfl h1464 (Nat.le_of_ble_eq_true rfl) (Nat.le_of_ble_eq_true rfl) (pc' := 97) rfl (ls' := [(0, .ref 530), (1, .int (iI x)), (2, .int (iI a))]) rfl ?_
                              refine T_mono (r_tight sc S1463 (X_ou (X_ou (X_ou (X_ou (X_ou o 7 at1348) 8 en1349) 9 tk1350) 10 nu1351) 11 dg1352) nm1353 tg1 x a (X_bt (lo x) a) h1464 htg1 (show 0 ≤ (o 4) ∧ (o 4) ≤ 1 from by omega) (by omega) (by omega) (R_tI_a (by omega) (by assumption) (by omega) (by omega) hI)) (fun v1482 S1483 h1484 => ?_)
                              rcases h1484 with ⟨hv1485, hf1486⟩
                              rw [hv1485]
                              rw [hf1486]
                              show X_T sc 155 (97, [(5, .int (iI y)), (4, .int (iI x)), (3, .int (iI b)), (1, .int (iI a)), (0, .ref 530)], [.int (iI (bI ((X_bt (lo x) a))))], S1463) _
                              refine T_bif_eq xr_155_97 (t := 139) (pc' := 100) rfl rfl (fun c1487 => ?_) (fun c1487 => ?_)
                              · skip
                                have c1487 : ¬ ((X_bt (lo x) a)) := c1487
                                refine T_ziinc xr_155_139 xn_155 (a := y) (z := y + 1) rfl (Nat.le_of_ble_eq_true rfl) (by omega) (ls' := [(5, .int (iI (y + 1))), (4, .int (iI x)), (3, .int (iI b)), (1, .int (iI a)), (0, .ref 530)]) rfl (pc' := 142) rfl ?_
                                refine T_p xr_155_142 xn_155 (pc' := 75) (ls' := [(5, .int (iI (y + 1))), (4, .int (iI x)), (3, .int (iI b)), (1, .int (iI a)), (0, .ref 530)]) (st' := []) rfl ?_
                                exact ih1459 S1463 (y + 1) tg1 htg1 (hF1462.tr (X_Fr.rf)) (by omega) (R_tI_n (by unfold R_tM; rintro ⟨z1 | z1, z2 | z2⟩ <;> first | contradiction | omega) hI) hob (by omega)
                              · skip
                                have c1487 : ((X_bt (lo x) a)) := c1487
                                refine T_p xr_155_100 xn_155 (pc' := 102) (ls' := [(5, .int (iI y)), (4, .int (iI x)), (3, .int (iI b)), (1, .int (iI a)), (0, .ref 530)]) (st' := [.int (iI y)]) rfl ?_
                                refine T_p xr_155_102 xn_155 (pc' := 103) (ls' := [(5, .int (iI y)), (4, .int (iI x)), (3, .int (iI b)), (1, .int (iI a)), (0, .ref 530)]) (st' := [.int (iI b), .int (iI y)]) rfl ?_
                                refine T_zicmp_eq xr_155_103 (t := 116) (pc' := 106) rfl rfl (fun c1488 => ?_) (fun c1488 => ?_)
                                · skip
                                  have c1488 : y = b := c1488
                                  refine T_p xr_155_116 xn_155 (pc' := 117) (ls' := [(5, .int (iI y)), (4, .int (iI x)), (3, .int (iI b)), (1, .int (iI a)), (0, .ref 530)]) (st' := [.ref 530]) rfl ?_
                                  refine T_get xr_155_117 h1464 rfl (v := .ref 535) rfl (pc' := 120) rfl ?_
                                  refine T_p xr_155_120 xn_155 (pc' := 123) (ls' := [(5, .int (iI y)), (4, .int (iI x)), (3, .int (iI b)), (1, .int (iI a)), (0, .ref 530)]) (st' := [.int (iI 144), .ref 535]) rfl ?_
                                  refine T_p xr_155_123 xn_155 (pc' := 124) (ls' := [(5, .int (iI y)), (4, .int (iI x)), (3, .int (iI b)), (1, .int (iI a)), (0, .ref 530)]) (st' := [.ref 530, .int (iI 144), .ref 535]) rfl ?_
                                  refine T_get xr_155_124 h1464 rfl (v := .int (iI (o 4))) rfl (pc' := 127) rfl ?_
                                  refine T_zimul xr_155_127 (z := 144 * (o 4)) rfl (pc' := 128) rfl ?_
                                  refine T_p xr_155_128 xn_155 (pc' := 130) (ls' := [(5, .int (iI y)), (4, .int (iI x)), (3, .int (iI b)), (1, .int (iI a)), (0, .ref 530)]) (st' := [.int (iI 12), .int (iI (144 * (o 4))), .ref 535]) rfl ?_
                                  refine T_p xr_155_130 xn_155 (pc' := 132) (ls' := [(5, .int (iI y)), (4, .int (iI x)), (3, .int (iI b)), (1, .int (iI a)), (0, .ref 530)]) (st' := [.int (iI x), .int (iI 12), .int (iI (144 * (o 4))), .ref 535]) rfl ?_
                                  refine T_zimul xr_155_132 (z := 12 * x) rfl (pc' := 133) rfl ?_
                                  refine T_ziadd xr_155_133 (z := (144 * (o 4)) + (12 * x)) rfl (pc' := 134) rfl ?_
                                  refine T_p xr_155_134 xn_155 (pc' := 136) (ls' := [(5, .int (iI y)), (4, .int (iI x)), (3, .int (iI b)), (1, .int (iI a)), (0, .ref 530)]) (st' := [.int (iI y), .int (iI ((144 * (o 4)) + (12 * x))), .ref 535]) rfl ?_
                                  refine T_ziadd xr_155_136 (z := ((144 * (o 4)) + (12 * x)) + y) rfl (pc' := 137) rfl ?_
                                  refine T_p xr_155_137 xn_155 (pc' := 138) (ls' := [(5, .int (iI y)), (4, .int (iI x)), (3, .int (iI b)), (1, .int (iI a)), (0, .ref 530)]) (st' := [.int (iI 1), .int (iI (((144 * (o 4)) + (12 * x)) + y)), .ref 535]) rfl ?_
                                  refine T_zzast xr_155_138 htg1 (pc' := 139) rfl (fun S1489 h1490 n1491 e1492 => ?_)
                                  refine T_ziinc xr_155_139 xn_155 (a := y) (z := y + 1) rfl (Nat.le_of_ble_eq_true rfl) (by omega) (ls' := [(5, .int (iI (y + 1))), (4, .int (iI x)), (3, .int (iI b)), (1, .int (iI a)), (0, .ref 530)]) rfl (pc' := 142) rfl ?_
                                  refine T_p xr_155_142 xn_155 (pc' := 75) (ls' := [(5, .int (iI (y + 1))), (4, .int (iI x)), (3, .int (iI b)), (1, .int (iI a)), (0, .ref 530)]) (st' := []) rfl ?_
                                  exact ih1459 S1489 (y + 1) (X_ug tg1 (((144 * (o 4)) + (12 * x)) + y) (X_bo 1)) h1490 (hF1462.tr ((X_Fr.rf).tr (X_Fr.of n1491 e1492 (by omega)))) (by omega) (R_tI_y (by omega) (by omega) (by omega) (by unfold R_tM; exact ⟨by first | exact Or.inl (by omega) | exact Or.inr (by assumption), by first | exact Or.inl (by omega) | exact Or.inr (by assumption)⟩) hI (by rfl)) (hob.up (by omega)) (by omega)
                                · skip
                                  have c1488 : ¬ (y = b) := c1488
                                  refine T_p xr_155_106 xn_155 (pc' := 107) (ls' := [(5, .int (iI y)), (4, .int (iI x)), (3, .int (iI b)), (1, .int (iI a)), (0, .ref 530)]) (st' := [.ref 530]) rfl ?_
                                  refine T_p xr_155_107 xn_155 (pc' := 108) (ls' := [(5, .int (iI y)), (4, .int (iI x)), (3, .int (iI b)), (1, .int (iI a)), (0, .ref 530)]) (st' := [.int (iI b), .ref 530]) rfl ?_
                                  refine T_p xr_155_108 xn_155 (pc' := 110) (ls' := [(5, .int (iI y)), (4, .int (iI x)), (3, .int (iI b)), (1, .int (iI a)), (0, .ref 530)]) (st' := [.int (iI y), .int (iI b), .ref 530]) rfl ?_
                                  refine T_cv (S := S1463) (q := 530) xr_155_110 xf_154.1 xf_154.2.1 xn_154 (as := [.int (iI b), .int (iI y)]) (r := []) rfl h1464 (Nat.le_of_ble_eq_true rfl) (Nat.le_of_ble_eq_true rfl) (pc' := 113) rfl (ls' := [(0, .ref 530), (1, .int (iI b)), (2, .int (iI y))]) rfl ?_
                                  refine T_mono (r_tight sc S1463 (X_ou (X_ou (X_ou (X_ou (X_ou o 7 at1348) 8 en1349) 9 tk1350) 10 nu1351) 11 dg1352) nm1353 tg1 b y (X_bt (lo b) y) h1464 htg1 (show 0 ≤ (o 4) ∧ (o 4) ≤ 1 from by omega) (by omega) (by omega) (R_tI_b (by omega) (by assumption) (by omega) (by omega) hI)) (fun v1493 S1494 h1495 => ?_)
                                  rcases h1495 with ⟨hv1496, hf1497⟩
                                  rw [hv1496]
                                  rw [hf1497]
                                  show X_T sc 155 (113, [(5, .int (iI y)), (4, .int (iI x)), (3, .int (iI b)), (1, .int (iI a)), (0, .ref 530)], [.int (iI (bI ((X_bt (lo b) y))))], S1463) _
                                  refine T_bif_eq xr_155_113 (t := 139) (pc' := 116) rfl rfl (fun c1498 => ?_) (fun c1498 => ?_)
                                  · skip
                                    have c1498 : ¬ ((X_bt (lo b) y)) := c1498
                                    refine T_ziinc xr_155_139 xn_155 (a := y) (z := y + 1) rfl (Nat.le_of_ble_eq_true rfl) (by omega) (ls' := [(5, .int (iI (y + 1))), (4, .int (iI x)), (3, .int (iI b)), (1, .int (iI a)), (0, .ref 530)]) rfl (pc' := 142) rfl ?_
                                    refine T_p xr_155_142 xn_155 (pc' := 75) (ls' := [(5, .int (iI (y + 1))), (4, .int (iI x)), (3, .int (iI b)), (1, .int (iI a)), (0, .ref 530)]) (st' := []) rfl ?_
                                    exact ih1459 S1463 (y + 1) tg1 htg1 (hF1462.tr (X_Fr.rf)) (by omega) (R_tI_n (by unfold R_tM; rintro ⟨z1 | z1, z2 | z2⟩ <;> first | contradiction | omega) hI) hob (by omega)
                                  · skip
                                    have c1498 : ((X_bt (lo b) y)) := c1498
                                    refine T_p xr_155_116 xn_155 (pc' := 117) (ls' := [(5, .int (iI y)), (4, .int (iI x)), (3, .int (iI b)), (1, .int (iI a)), (0, .ref 530)]) (st' := [.ref 530]) rfl ?_
                                    refine T_get xr_155_117 h1464 rfl (v := .ref 535) rfl (pc' := 120) rfl ?_
                                    refine T_p xr_155_120 xn_155 (pc' := 123) (ls' := [(5, .int (iI y)), (4, .int (iI x)), (3, .int (iI b)), (1, .int (iI a)), (0, .ref 530)]) (st' := [.int (iI 144), .ref 535]) rfl ?_
                                    refine T_p xr_155_123 xn_155 (pc' := 124) (ls' := [(5, .int (iI y)), (4, .int (iI x)), (3, .int (iI b)), (1, .int (iI a)), (0, .ref 530)]) (st' := [.ref 530, .int (iI 144), .ref 535]) rfl ?_
                                    refine T_get xr_155_124 h1464 rfl (v := .int (iI (o 4))) rfl (pc' := 127) rfl ?_
                                    refine T_zimul xr_155_127 (z := 144 * (o 4)) rfl (pc' := 128) rfl ?_
                                    refine T_p xr_155_128 xn_155 (pc' := 130) (ls' := [(5, .int (iI y)), (4, .int (iI x)), (3, .int (iI b)), (1, .int (iI a)), (0, .ref 530)]) (st' := [.int (iI 12), .int (iI (144 * (o 4))), .ref 535]) rfl ?_
                                    refine T_p xr_155_130 xn_155 (pc' := 132) (ls' := [(5, .int (iI y)), (4, .int (iI x)), (3, .int (iI b)), (1, .int (iI a)), (0, .ref 530)]) (st' := [.int (iI x), .int (iI 12), .int (iI (144 * (o 4))), .ref 535]) rfl ?_
                                    refine T_zimul xr_155_132 (z := 12 * x) rfl (pc' := 133) rfl ?_
                                    refine T_ziadd xr_155_133 (z := (144 * (o 4)) + (12 * x)) rfl (pc' := 134) rfl ?_
                                    refine T_p xr_155_134 xn_155 (pc' := 136) (ls' := [(5, .int (iI y)), (4, .int (iI x)), (3, .int (iI b)), (1, .int (iI a)), (0, .ref 530)]) (st' := [.int (iI y), .int (iI ((144 * (o 4)) + (12 * x))), .ref 535]) rfl ?_
                                    refine T_ziadd xr_155_136 (z := ((144 * (o 4)) + (12 * x)) + y) rfl (pc' := 137) rfl ?_
                                    refine T_p xr_155_137 xn_155 (pc' := 138) (ls' := [(5, .int (iI y)), (4, .int (iI x)), (3, .int (iI b)), (1, .int (iI a)), (0, .ref 530)]) (st' := [.int (iI 1), .int (iI (((144 * (o 4)) + (12 * x)) + y)), .ref 535]) rfl ?_
                                    refine T_zzast xr_155_138 htg1 (pc' := 139) rfl (fun S1499 h1500 n1501 e1502 => ?_)
                                    refine T_ziinc xr_155_139 xn_155 (a := y) (z := y + 1) rfl (Nat.le_of_ble_eq_true rfl) (by omega) (ls' := [(5, .int (iI (y + 1))), (4, .int (iI x)), (3, .int (iI b)), (1, .int (iI a)), (0, .ref 530)]) rfl (pc' := 142) rfl ?_
                                    refine T_p xr_155_142 xn_155 (pc' := 75) (ls' := [(5, .int (iI (y + 1))), (4, .int (iI x)), (3, .int (iI b)), (1, .int (iI a)), (0, .ref 530)]) (st' := []) rfl ?_
                                    exact ih1459 S1499 (y + 1) (X_ug tg1 (((144 * (o 4)) + (12 * x)) + y) (X_bo 1)) h1500 (hF1462.tr ((X_Fr.rf).tr (X_Fr.of n1501 e1502 (by omega)))) (by omega) (R_tI_y (by omega) (by omega) (by omega) (by unfold R_tM; exact ⟨by first | exact Or.inl (by omega) | exact Or.inr (by assumption), by first | exact Or.inl (by omega) | exact Or.inr (by assumption)⟩) hI (by rfl)) (hob.up (by omega)) (by omega)
                      exact L1458 (rc + 1).toNat S1422 0 tg1 htg1 ((X_Fr.rf)) (by omega) hI hob (by omega)
                refine T_sub (ls := [(4, .int (iI 0)), (3, .int (iI b)), (1, .int (iI a)), (0, .ref 530)]) ⟨rfl, rfl, rfl, rfl, trivial⟩ rfl rfl ?_
                exact L1417 (rc + 1).toNat S1346 0 tg h1404 ((X_Fr.rf)) (by omega) (R_tI_0 hR) R_ob.rf (by omega)
            · skip
              have c1410 : ((X_bt (lo b) a)) := c1410
              refine T_p xr_155_47 xn_155 (pc' := 48) (ls' := [(3, .int (iI b)), (2, .int (iI at1312)), (1, .int (iI a)), (0, .ref 530)]) (st' := [.ref 530]) rfl ?_
              refine T_p xr_155_48 xn_155 (pc' := 49) (ls' := [(3, .int (iI b)), (2, .int (iI at1312)), (1, .int (iI a)), (0, .ref 530)]) (st' := [.int (iI 4), .ref 530]) rfl ?_
              refine T_p xr_155_49 xn_155 (pc' := 50) (ls' := [(3, .int (iI b)), (2, .int (iI at1312)), (1, .int (iI a)), (0, .ref 530)]) (st' := [.int (iI at1312), .int (iI 4), .ref 530]) rfl ?_
              refine T_cv (S := S1346) (q := 530) xr_155_50 xf_139.1 xf_139.2.1 xn_139 (as := [.int (iI 4), .int (iI at1312)]) (r := []) rfl h1369 (Nat.le_of_ble_eq_true rfl) (Nat.le_of_ble_eq_true rfl) (pc' := 53) rfl (ls' := [(0, .ref 530), (1, .int (iI 4)), (2, .int (iI at1312))]) rfl ?_
              refine T_mono (r_fails sc S1346 (X_ou (X_ou (X_ou (X_ou (X_ou o 7 at1348) 8 en1349) 9 tk1350) 10 nu1351) 11 dg1352) nm1353 4 at1312 h1369 (show 0 ≤ (o 5) ∧ (o 5) ≤ 5 from by omega) (by omega)) (fun v1503 S1504 h1505 => ?_)
              rcases h1505 with ⟨f1506, g1507, hv1508, hp1509, hM1510, hf1511⟩
              rw [hv1508]
              have h1512 : S1504.1 530 = .inr (11, [.ref 531, .int (iI (o 1)), .ref 532, .int (iI (o 3)), .int (iI (o 4)), .int (iI f1506), .int (iI g1507), .int (iI at1348), .int (iI en1349), .int (iI tk1350), .int (iI nu1351), .int (iI dg1352), .long nm1353, .ref 533, .ref 534, .ref 535, .ref 536, .ref 537, .ref 538, .ref 539, .ref 540, .ref 541, .ref 542, .ref 543, .ref 544, .ref 545, .ref 546, .ref 547, .int (iI (o 28)), .int (iI (o 29)), .int (iI (o 30)), .int (iI (o 31)), .int (iI (o 32)), .int (iI (o 33)), .ref 548, .ref 549, .ref 550, .ref 551, .int (iI (o 38)), .ref 552, .ref 553, .ref 554, .ref 555, .ref 556, .ref 557, .ref 558, .ref 559, .ref 560, .ref 561, .int (iI (o 49)), .ref 562, .ref 563, .ref 564, .ref 565, .ref 566, .ref 567, .ref 568, .ref 569, .int (iI (o 58)), .ref 570, .ref 571, .ref 572, .ref 573, .ref 574, .ref 575, .ref 576, .ref 577, .ref 578, .int (iI (o 68)), .int (iI (o 69)), .int (iI (o 70)), .ref 579]) := hM1510
              have hp1509 : ((o 5) = 0 → f1506 = 4) ∧ (¬ (o 5) = 0 → f1506 = (o 5)) := hp1509
              have hf1513 : f1506 = 4 := hp1509.1 h5
              show X_T sc 155 (53, [(3, .int (iI b)), (2, .int (iI at1312)), (1, .int (iI a)), (0, .ref 530)], [], S1504) _
              refine T_p xr_155_53 xn_155 (pc' := 54) (ls' := [(3, .int (iI b)), (2, .int (iI at1312)), (1, .int (iI a)), (0, .ref 530)]) (st' := [.ref 530]) rfl ?_
              refine T_cv (S := S1504) (q := 530) xr_155_54 xf_140.1 xf_140.2.1 xn_140 (as := []) (r := []) rfl h1512 (Nat.le_of_ble_eq_true rfl) (Nat.le_of_ble_eq_true rfl) (pc' := 57) rfl (ls' := [(0, .ref 530)]) rfl ?_
              refine T_mono (r_isGood sc S1504 (X_ou (X_ou (X_ou (X_ou (X_ou (X_ou (X_ou o 5 f1506) 6 g1507) 7 at1348) 8 en1349) 9 tk1350) 10 nu1351) 11 dg1352) nm1353 h1512 (show 0 ≤ f1506 ∧ f1506 ≤ 5 from by omega)) (fun v1514 S1515 h1516 => ?_)
              rcases h1516 with ⟨hv1517, hf1518⟩
              rw [hv1517]
              rw [hf1518]
              show X_T sc 155 (57, [(3, .int (iI b)), (2, .int (iI at1312)), (1, .int (iI a)), (0, .ref 530)], [.int (iI (bI (f1506 = 0)))], S1504) _
              refine T_bif_eq xr_155_57 (t := 151) (pc' := 60) rfl rfl (fun c1519 => ?_) (fun c1519 => ?_)
              · skip
                have c1519 : ¬ (f1506 = 0) := c1519
                refine T_p xr_155_151 xn_155 (pc' := 152) (ls' := [(3, .int (iI b)), (2, .int (iI at1312)), (1, .int (iI a)), (0, .ref 530)]) (st' := [.ref 530]) rfl ?_
                refine T_cv (S := S1504) (q := 530) xr_155_152 xf_140.1 xf_140.2.1 xn_140 (as := []) (r := []) rfl h1512 (Nat.le_of_ble_eq_true rfl) (Nat.le_of_ble_eq_true rfl) (pc' := 155) rfl (ls' := [(0, .ref 530)]) rfl ?_
                refine T_mono (r_isGood sc S1504 (X_ou (X_ou (X_ou (X_ou (X_ou (X_ou (X_ou o 5 f1506) 6 g1507) 7 at1348) 8 en1349) 9 tk1350) 10 nu1351) 11 dg1352) nm1353 h1512 (show 0 ≤ f1506 ∧ f1506 ≤ 5 from by omega)) (fun v1520 S1521 h1522 => ?_)
                rcases h1522 with ⟨hv1523, hf1524⟩
                rw [hv1523]
                rw [hf1524]
                show X_T sc 155 (155, [(3, .int (iI b)), (2, .int (iI at1312)), (1, .int (iI a)), (0, .ref 530)], [.int (iI (bI (f1506 = 0)))], S1504) _
                refine T_bif_eq xr_155_155 (t := 164) (pc' := 158) rfl rfl (fun c1525 => ?_) (fun c1525 => ?_)
                · skip
                  have c1525 : ¬ (f1506 = 0) := c1525
                  refine T_vret xr_155_164 xf_155.2.2 ?_
                  refine hQ _ _ ?_
                  have h1526 := (hf1511.1 535 (by omega)).trans (h1404)
                  refine Or.inr ⟨at1348, en1349, tk1350, nu1351, dg1352, nm1353, f1506, g1507, tg, rfl, by omega, ?_, ?_, h1512, h1526, (((X_Fr.rf).tr (X_Fr.mono ⟨hf1323.1, hf1323.2⟩ (fun q hq => (by omega)))).tr (X_Fr.mono ⟨hf1359.1, hf1359.2⟩ (fun q hq => (by omega)))).tr (X_Fr.mono ⟨hf1511.1, hf1511.2⟩ (fun q hq => (by omega)))⟩
                  · simp only [sp_tight]
                    rw [← hc]
                    (try rw [← ha_])
                    (try rw [← hb2])
                    (repeat (first | rw [if_pos (by assumption)] | rw [if_neg (by assumption)] | rw [if_neg (by omega)] | rw [if_pos (by omega)]))
                    all_goals first | rfl | ((repeat' split) <;> first | rfl | (exfalso; omega) | contradiction)
                  · first | exact R_ob.rf | exact hob
                · skip
                  have c1525 : (f1506 = 0) := c1525
                  exact (show False by first | contradiction | omega).elim
              · skip
                have c1519 : (f1506 = 0) := c1519
                exact (show False by first | contradiction | omega).elim
      · skip
        rw [hv1363]
        have h1371 : S1346.1 530 = .inr (11, [.ref 531, .int (iI (o 1)), .ref 532, .int (iI (o 3)), .int (iI (o 4)), .int (iI f1361), .int (iI g1362), .int (iI at1312), .int (iI en1313), .int (iI tk1314), .int (iI nu1315), .int (iI dg1316), .long nm1317, .ref 533, .ref 534, .ref 535, .ref 536, .ref 537, .ref 538, .ref 539, .ref 540, .ref 541, .ref 542, .ref 543, .ref 544, .ref 545, .ref 546, .ref 547, .int (iI (o 28)), .int (iI (o 29)), .int (iI (o 30)), .int (iI (o 31)), .int (iI (o 32)), .int (iI (o 33)), .ref 548, .ref 549, .ref 550, .ref 551, .int (iI (o 38)), .ref 552, .ref 553, .ref 554, .ref 555, .ref 556, .ref 557, .ref 558, .ref 559, .ref 560, .ref 561, .int (iI (o 49)), .ref 562, .ref 563, .ref 564, .ref 565, .ref 566, .ref 567, .ref 568, .ref 569, .int (iI (o 58)), .ref 570, .ref 571, .ref 572, .ref 573, .ref 574, .ref 575, .ref 576, .ref 577, .ref 578, .int (iI (o 68)), .int (iI (o 69)), .int (iI (o 70)), .ref 579]) := hM1367
        show X_T sc 155 (21, [(2, .int (iI at1312)), (1, .int (iI a)), (0, .ref 530)], [.int (iI r1360)], S1346) _
        refine T_p xr_155_21 xn_155 (pc' := 25) (ls' := [(2, .int (iI at1312)), (1, .int (iI a)), (0, .ref 530)]) (st' := [.int (iI r1360)]) rfl ?_
        obtain ⟨b, hb2⟩ : ∃ z : Int, z = r1360 := ⟨_, rfl⟩
        refine T_ie (y := iI b) (by rw [hb2]) ?_
        refine T_p xr_155_25 xn_155 (pc' := 26) (ls' := [(3, .int (iI b)), (2, .int (iI at1312)), (1, .int (iI a)), (0, .ref 530)]) (st' := []) rfl ?_
        refine T_p xr_155_26 xn_155 (pc' := 27) (ls' := [(3, .int (iI b)), (2, .int (iI at1312)), (1, .int (iI a)), (0, .ref 530)]) (st' := [.ref 530]) rfl ?_
        refine T_cv (S := S1346) (q := 530) xr_155_27 xf_140.1 xf_140.2.1 xn_140 (as := []) (r := []) rfl h1371 (Nat.le_of_ble_eq_true rfl) (Nat.le_of_ble_eq_true rfl) (pc' := 30) rfl (ls' := [(0, .ref 530)]) rfl ?_
        refine T_mono (r_isGood sc S1346 (X_ou (X_ou (X_ou (X_ou (X_ou (X_ou (X_ou o 5 f1361) 6 g1362) 7 at1312) 8 en1313) 9 tk1314) 10 nu1315) 11 dg1316) nm1317 h1371 (show 0 ≤ f1361 ∧ f1361 ≤ 5 from by omega)) (fun v1527 S1528 h1529 => ?_)
        rcases h1529 with ⟨hv1530, hf1531⟩
        rw [hv1530]
        rw [hf1531]
        show X_T sc 155 (30, [(3, .int (iI b)), (2, .int (iI at1312)), (1, .int (iI a)), (0, .ref 530)], [.int (iI (bI (f1361 = 0)))], S1346) _
        refine T_bif_eq xr_155_30 (t := 53) (pc' := 33) rfl rfl (fun c1532 => ?_) (fun c1532 => ?_)
        · skip
          have c1532 : ¬ (f1361 = 0) := c1532
          refine T_p xr_155_53 xn_155 (pc' := 54) (ls' := [(3, .int (iI b)), (2, .int (iI at1312)), (1, .int (iI a)), (0, .ref 530)]) (st' := [.ref 530]) rfl ?_
          refine T_cv (S := S1346) (q := 530) xr_155_54 xf_140.1 xf_140.2.1 xn_140 (as := []) (r := []) rfl h1371 (Nat.le_of_ble_eq_true rfl) (Nat.le_of_ble_eq_true rfl) (pc' := 57) rfl (ls' := [(0, .ref 530)]) rfl ?_
          refine T_mono (r_isGood sc S1346 (X_ou (X_ou (X_ou (X_ou (X_ou (X_ou (X_ou o 5 f1361) 6 g1362) 7 at1312) 8 en1313) 9 tk1314) 10 nu1315) 11 dg1316) nm1317 h1371 (show 0 ≤ f1361 ∧ f1361 ≤ 5 from by omega)) (fun v1533 S1534 h1535 => ?_)
          rcases h1535 with ⟨hv1536, hf1537⟩
          rw [hv1536]
          rw [hf1537]
          show X_T sc 155 (57, [(3, .int (iI b)), (2, .int (iI at1312)), (1, .int (iI a)), (0, .ref 530)], [.int (iI (bI (f1361 = 0)))], S1346) _
          refine T_bif_eq xr_155_57 (t := 151) (pc' := 60) rfl rfl (fun c1538 => ?_) (fun c1538 => ?_)
          · skip
            have c1538 : ¬ (f1361 = 0) := c1538
            refine T_p xr_155_151 xn_155 (pc' := 152) (ls' := [(3, .int (iI b)), (2, .int (iI at1312)), (1, .int (iI a)), (0, .ref 530)]) (st' := [.ref 530]) rfl ?_
            refine T_cv (S := S1346) (q := 530) xr_155_152 xf_140.1 xf_140.2.1 xn_140 (as := []) (r := []) rfl h1371 (Nat.le_of_ble_eq_true rfl) (Nat.le_of_ble_eq_true rfl) (pc' := 155) rfl (ls' := [(0, .ref 530)]) rfl ?_
            refine T_mono (r_isGood sc S1346 (X_ou (X_ou (X_ou (X_ou (X_ou (X_ou (X_ou o 5 f1361) 6 g1362) 7 at1312) 8 en1313) 9 tk1314) 10 nu1315) 11 dg1316) nm1317 h1371 (show 0 ≤ f1361 ∧ f1361 ≤ 5 from by omega)) (fun v1539 S1540 h1541 => ?_)
            rcases h1541 with ⟨hv1542, hf1543⟩
            rw [hv1542]
            rw [hf1543]
            show X_T sc 155 (155, [(3, .int (iI b)), (2, .int (iI at1312)), (1, .int (iI a)), (0, .ref 530)], [.int (iI (bI (f1361 = 0)))], S1346) _
            refine T_bif_eq xr_155_155 (t := 164) (pc' := 158) rfl rfl (fun c1544 => ?_) (fun c1544 => ?_)
            · skip
              have c1544 : ¬ (f1361 = 0) := c1544
              refine T_vret xr_155_164 xf_155.2.2 ?_
              refine hQ _ _ ?_
              have h1545 := (hf1368.1 535 (by omega)).trans ((hf1323.1 535 (by omega)).trans (hA535))
              refine Or.inr ⟨at1312, en1313, tk1314, nu1315, dg1316, nm1317, f1361, g1362, tg, rfl, by omega, ?_, ?_, h1371, h1545, ((X_Fr.rf).tr (X_Fr.mono ⟨hf1323.1, hf1323.2⟩ (fun q hq => (by omega)))).tr (X_Fr.mono ⟨hf1368.1, hf1368.2⟩ (fun q hq => (by omega)))⟩
              · simp only [sp_tight]
                rw [← hc]
                (try rw [← ha_])
                (try rw [← hb2])
                (repeat (first | rw [if_pos (by assumption)] | rw [if_neg (by assumption)] | rw [if_neg (by omega)] | rw [if_pos (by omega)]))
                all_goals first | rfl | ((repeat' split) <;> first | rfl | (exfalso; omega) | contradiction)
              · first | exact R_ob.rf | exact hob
            · skip
              have c1544 : (f1361 = 0) := c1544
              exact (show False by first | contradiction | omega).elim
          · skip
            have c1538 : (f1361 = 0) := c1538
            exact (show False by first | contradiction | omega).elim
        · skip
          have c1532 : (f1361 = 0) := c1532
          exact (show False by first | contradiction | omega).elim
  · skip
    rw [hv1327]
    have h1335 : S1310.1 530 = .inr (11, [.ref 531, .int (iI (o 1)), .ref 532, .int (iI (o 3)), .int (iI (o 4)), .int (iI f1325), .int (iI g1326), .int (iI (o 7)), .int (iI (o 8)), .int (iI (o 9)), .int (iI (o 10)), .int (iI (o 11)), .long nm, .ref 533, .ref 534, .ref 535, .ref 536, .ref 537, .ref 538, .ref 539, .ref 540, .ref 541, .ref 542, .ref 543, .ref 544, .ref 545, .ref 546, .ref 547, .int (iI (o 28)), .int (iI (o 29)), .int (iI (o 30)), .int (iI (o 31)), .int (iI (o 32)), .int (iI (o 33)), .ref 548, .ref 549, .ref 550, .ref 551, .int (iI (o 38)), .ref 552, .ref 553, .ref 554, .ref 555, .ref 556, .ref 557, .ref 558, .ref 559, .ref 560, .ref 561, .int (iI (o 49)), .ref 562, .ref 563, .ref 564, .ref 565, .ref 566, .ref 567, .ref 568, .ref 569, .int (iI (o 58)), .ref 570, .ref 571, .ref 572, .ref 573, .ref 574, .ref 575, .ref 576, .ref 577, .ref 578, .int (iI (o 68)), .int (iI (o 69)), .int (iI (o 70)), .ref 579]) := hM1331
    show X_T sc 155 (4, [(0, .ref 530)], [.int (iI r1324)], S1310) _
    obtain ⟨a, ha_⟩ : ∃ z : Int, z = r1324 := ⟨_, rfl⟩
    refine T_ie (y := iI a) (by rw [ha_]) ?_
    refine T_p xr_155_4 xn_155 (pc' := 5) (ls' := [(1, .int (iI a)), (0, .ref 530)]) (st' := []) rfl ?_
    refine T_p xr_155_5 xn_155 (pc' := 6) (ls' := [(1, .int (iI a)), (0, .ref 530)]) (st' := [.ref 530]) rfl ?_
    refine T_get xr_155_6 h1335 rfl (v := .int (iI (o 7))) rfl (pc' := 9) rfl ?_
    refine T_p xr_155_9 xn_155 (pc' := 10) (ls' := [(2, .int (iI (o 7))), (1, .int (iI a)), (0, .ref 530)]) (st' := []) rfl ?_
    refine T_p xr_155_10 xn_155 (pc' := 11) (ls' := [(2, .int (iI (o 7))), (1, .int (iI a)), (0, .ref 530)]) (st' := [.ref 530]) rfl ?_
    refine T_cv (S := S1310) (q := 530) xr_155_11 xf_140.1 xf_140.2.1 xn_140 (as := []) (r := []) rfl h1335 (Nat.le_of_ble_eq_true rfl) (Nat.le_of_ble_eq_true rfl) (pc' := 14) rfl (ls' := [(0, .ref 530)]) rfl ?_
    refine T_mono (r_isGood sc S1310 (X_ou (X_ou o 5 f1325) 6 g1326) nm h1335 (show 0 ≤ f1325 ∧ f1325 ≤ 5 from by omega)) (fun v1546 S1547 h1548 => ?_)
    rcases h1548 with ⟨hv1549, hf1550⟩
    rw [hv1549]
    rw [hf1550]
    show X_T sc 155 (14, [(2, .int (iI (o 7))), (1, .int (iI a)), (0, .ref 530)], [.int (iI (bI (f1325 = 0)))], S1310) _
    refine T_bif_eq xr_155_14 (t := 24) (pc' := 17) rfl rfl (fun c1551 => ?_) (fun c1551 => ?_)
    · skip
      have c1551 : ¬ (f1325 = 0) := c1551
      refine T_p xr_155_24 xn_155 (pc' := 25) (ls' := [(2, .int (iI (o 7))), (1, .int (iI a)), (0, .ref 530)]) (st' := [.int (iI 0)]) rfl ?_
      obtain ⟨b, hb2⟩ : ∃ z : Int, z = 0 := ⟨_, rfl⟩
      refine T_ie (y := iI b) (by rw [hb2]) ?_
      refine T_p xr_155_25 xn_155 (pc' := 26) (ls' := [(3, .int (iI b)), (2, .int (iI (o 7))), (1, .int (iI a)), (0, .ref 530)]) (st' := []) rfl ?_
      refine T_p xr_155_26 xn_155 (pc' := 27) (ls' := [(3, .int (iI b)), (2, .int (iI (o 7))), (1, .int (iI a)), (0, .ref 530)]) (st' := [.ref 530]) rfl ?_
      refine T_cv (S := S1310) (q := 530) xr_155_27 xf_140.1 xf_140.2.1 xn_140 (as := []) (r := []) rfl h1335 (Nat.le_of_ble_eq_true rfl) (Nat.le_of_ble_eq_true rfl) (pc' := 30) rfl (ls' := [(0, .ref 530)]) rfl ?_
      refine T_mono (r_isGood sc S1310 (X_ou (X_ou o 5 f1325) 6 g1326) nm h1335 (show 0 ≤ f1325 ∧ f1325 ≤ 5 from by omega)) (fun v1552 S1553 h1554 => ?_)
      rcases h1554 with ⟨hv1555, hf1556⟩
      rw [hv1555]
      rw [hf1556]
      show X_T sc 155 (30, [(3, .int (iI b)), (2, .int (iI (o 7))), (1, .int (iI a)), (0, .ref 530)], [.int (iI (bI (f1325 = 0)))], S1310) _
      refine T_bif_eq xr_155_30 (t := 53) (pc' := 33) rfl rfl (fun c1557 => ?_) (fun c1557 => ?_)
      · skip
        have c1557 : ¬ (f1325 = 0) := c1557
        refine T_p xr_155_53 xn_155 (pc' := 54) (ls' := [(3, .int (iI b)), (2, .int (iI (o 7))), (1, .int (iI a)), (0, .ref 530)]) (st' := [.ref 530]) rfl ?_
        refine T_cv (S := S1310) (q := 530) xr_155_54 xf_140.1 xf_140.2.1 xn_140 (as := []) (r := []) rfl h1335 (Nat.le_of_ble_eq_true rfl) (Nat.le_of_ble_eq_true rfl) (pc' := 57) rfl (ls' := [(0, .ref 530)]) rfl ?_
        refine T_mono (r_isGood sc S1310 (X_ou (X_ou o 5 f1325) 6 g1326) nm h1335 (show 0 ≤ f1325 ∧ f1325 ≤ 5 from by omega)) (fun v1558 S1559 h1560 => ?_)
        rcases h1560 with ⟨hv1561, hf1562⟩
        rw [hv1561]
        rw [hf1562]
        show X_T sc 155 (57, [(3, .int (iI b)), (2, .int (iI (o 7))), (1, .int (iI a)), (0, .ref 530)], [.int (iI (bI (f1325 = 0)))], S1310) _
        refine T_bif_eq xr_155_57 (t := 151) (pc' := 60) rfl rfl (fun c1563 => ?_) (fun c1563 => ?_)
        · skip
          have c1563 : ¬ (f1325 = 0) := c1563
          refine T_p xr_155_151 xn_155 (pc' := 152) (ls' := [(3, .int (iI b)), (2, .int (iI (o 7))), (1, .int (iI a)), (0, .ref 530)]) (st' := [.ref 530]) rfl ?_
          refine T_cv (S := S1310) (q := 530) xr_155_152 xf_140.1 xf_140.2.1 xn_140 (as := []) (r := []) rfl h1335 (Nat.le_of_ble_eq_true rfl) (Nat.le_of_ble_eq_true rfl) (pc' := 155) rfl (ls' := [(0, .ref 530)]) rfl ?_
          refine T_mono (r_isGood sc S1310 (X_ou (X_ou o 5 f1325) 6 g1326) nm h1335 (show 0 ≤ f1325 ∧ f1325 ≤ 5 from by omega)) (fun v1564 S1565 h1566 => ?_)
          rcases h1566 with ⟨hv1567, hf1568⟩
          rw [hv1567]
          rw [hf1568]
          show X_T sc 155 (155, [(3, .int (iI b)), (2, .int (iI (o 7))), (1, .int (iI a)), (0, .ref 530)], [.int (iI (bI (f1325 = 0)))], S1310) _
          refine T_bif_eq xr_155_155 (t := 164) (pc' := 158) rfl rfl (fun c1569 => ?_) (fun c1569 => ?_)
          · skip
            have c1569 : ¬ (f1325 = 0) := c1569
            refine T_vret xr_155_164 xf_155.2.2 ?_
            refine hQ _ _ ?_
            have h1570 := (hf1332.1 535 (by omega)).trans (hA535)
            refine Or.inr ⟨o 7, o 8, o 9, o 10, o 11, nm, f1325, g1326, tg, rfl, by omega, ?_, ?_, h1335, h1570, (X_Fr.rf).tr (X_Fr.mono ⟨hf1332.1, hf1332.2⟩ (fun q hq => (by omega)))⟩
            · simp only [sp_tight]
              rw [← hc]
              (try rw [← ha_])
              (try rw [← hb2])
              (repeat (first | rw [if_pos (by assumption)] | rw [if_neg (by assumption)] | rw [if_neg (by omega)] | rw [if_pos (by omega)]))
              all_goals first | rfl | ((repeat' split) <;> first | rfl | (exfalso; omega) | contradiction)
            · first | exact R_ob.rf | exact hob
          · skip
            have c1569 : (f1325 = 0) := c1569
            exact (show False by first | contradiction | omega).elim
        · skip
          have c1563 : (f1325 = 0) := c1563
          exact (show False by first | contradiction | omega).elim
      · skip
        have c1557 : (f1325 = 0) := c1557
        exact (show False by first | contradiction | omega).elim
    · skip
      have c1551 : (f1325 = 0) := c1551
      exact (show False by first | contradiction | omega).elim
