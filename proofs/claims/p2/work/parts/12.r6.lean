theorem xr_156_0 : X_row 156 0 = some (0, (.aload_n 0, 1), (0, 0, 0)) := by decide +kernel
theorem xr_156_1 : X_row 156 1 = some (1, (.getfield 27, 3), (11, 9, 18)) := by decide +kernel
theorem xr_156_4 : X_row 156 4 = some (4, (.iconst 2, 1), (0, 0, 0)) := by decide +kernel
theorem xr_156_5 : X_row 156 5 = some (5, (.if_icmp .eq 7, 3), (0, 0, 0)) := by decide +kernel
theorem xr_156_8 : X_row 156 8 = some (8, (.aload_n 0, 1), (0, 0, 0)) := by decide +kernel
theorem xr_156_9 : X_row 156 9 = some (9, (.invokevirtual 81, 3), (147, 16, 0)) := by decide +kernel
theorem xr_156_12 : X_row 156 12 = some (12, (.aload_n 0, 1), (0, 0, 0)) := by decide +kernel
theorem xr_156_13 : X_row 156 13 = some (13, (.invokevirtual 100, 3), (140, 14, 0)) := by decide +kernel
theorem xr_156_16 : X_row 156 16 = some (16, (.ifCond .eq 23, 3), (0, 0, 0)) := by decide +kernel
theorem xr_156_19 : X_row 156 19 = some (19, (.aload_n 0, 1), (0, 0, 0)) := by decide +kernel
theorem xr_156_20 : X_row 156 20 = some (20, (.aload_n 0, 1), (0, 0, 0)) := by decide +kernel
theorem xr_156_21 : X_row 156 21 = some (21, (.getfield 41, 3), (11, 12, 24)) := by decide +kernel
theorem xr_156_24 : X_row 156 24 = some (24, (.invokevirtual 108, 3), (150, 36, 0)) := by decide +kernel
theorem xr_156_27 : X_row 156 27 = some (27, (.ifCond .lt 12, 3), (0, 0, 0)) := by decide +kernel
theorem xr_156_30 : X_row 156 30 = some (30, (.aload_n 0, 1), (0, 0, 0)) := by decide +kernel
theorem xr_156_31 : X_row 156 31 = some (31, (.iconst 3, 1), (0, 0, 0)) := by decide +kernel
theorem xr_156_32 : X_row 156 32 = some (32, (.aload_n 0, 1), (0, 0, 0)) := by decide +kernel
theorem xr_156_33 : X_row 156 33 = some (33, (.getfield 20, 3), (11, 7, 14)) := by decide +kernel
theorem xr_156_36 : X_row 156 36 = some (36, (.invokevirtual 72, 3), (139, 18, 0)) := by decide +kernel
theorem xr_156_39 : X_row 156 39 = some (39, (.aload_n 0, 1), (0, 0, 0)) := by decide +kernel
theorem xr_156_40 : X_row 156 40 = some (40, (.invokevirtual 100, 3), (140, 14, 0)) := by decide +kernel
theorem xr_156_43 : X_row 156 43 = some (43, (.ifCond .ne 4, 3), (0, 0, 0)) := by decide +kernel
theorem xr_156_46 : X_row 156 46 = some (46, (.return_, 1), (0, 0, 0)) := by decide +kernel
theorem xr_156_47 : X_row 156 47 = some (47, (.aload_n 0, 1), (0, 0, 0)) := by decide +kernel
theorem xr_156_48 : X_row 156 48 = some (48, (.getfield 41, 3), (11, 12, 24)) := by decide +kernel
theorem xr_156_51 : X_row 156 51 = some (51, (.lstore_n 1, 1), (0, 0, 0)) := by decide +kernel
theorem xr_156_52 : X_row 156 52 = some (52, (.iconst 0, 1), (0, 0, 0)) := by decide +kernel
theorem xr_156_53 : X_row 156 53 = some (53, (.istore_n 3, 1), (0, 0, 0)) := by decide +kernel
theorem xr_156_54 : X_row 156 54 = some (54, (.aload_n 0, 1), (0, 0, 0)) := by decide +kernel
theorem xr_156_55 : X_row 156 55 = some (55, (.invokevirtual 78, 3), (141, 0, 0)) := by decide +kernel
theorem xr_156_58 : X_row 156 58 = some (58, (.aload_n 0, 1), (0, 0, 0)) := by decide +kernel
theorem xr_156_59 : X_row 156 59 = some (59, (.ldc2_w 51, 3), (504363246962, 1288, 0)) := by decide +kernel
theorem xr_156_62 : X_row 156 62 = some (62, (.invokevirtual 127, 3), (146, 38, 0)) := by decide +kernel
theorem xr_156_65 : X_row 156 65 = some (65, (.ifCond .eq 12, 3), (0, 0, 0)) := by decide +kernel
theorem xr_156_68 : X_row 156 68 = some (68, (.aload_n 0, 1), (0, 0, 0)) := by decide +kernel
theorem xr_156_69 : X_row 156 69 = some (69, (.invokevirtual 78, 3), (141, 0, 0)) := by decide +kernel
theorem xr_156_72 : X_row 156 72 = some (72, (.aload_n 0, 1), (0, 0, 0)) := by decide +kernel
theorem xr_156_73 : X_row 156 73 = some (73, (.invokevirtual 131, 3), (152, 40, 0)) := by decide +kernel
theorem xr_156_76 : X_row 156 76 = some (76, (.istore_n 3, 1), (0, 0, 0)) := by decide +kernel
theorem xr_156_77 : X_row 156 77 = some (77, (.aload_n 0, 1), (0, 0, 0)) := by decide +kernel
theorem xr_156_78 : X_row 156 78 = some (78, (.invokevirtual 100, 3), (140, 14, 0)) := by decide +kernel
theorem xr_156_81 : X_row 156 81 = some (81, (.ifCond .ne 4, 3), (0, 0, 0)) := by decide +kernel
theorem xr_156_84 : X_row 156 84 = some (84, (.return_, 1), (0, 0, 0)) := by decide +kernel
theorem xr_156_85 : X_row 156 85 = some (85, (.aload_n 0, 1), (0, 0, 0)) := by decide +kernel
theorem xr_156_86 : X_row 156 86 = some (86, (.getfield 97, 3), (11, 14, 28)) := by decide +kernel
theorem xr_156_89 : X_row 156 89 = some (89, (.bipush 11, 2), (0, 0, 0)) := by decide +kernel
theorem xr_156_91 : X_row 156 91 = some (91, (.aload_n 0, 1), (0, 0, 0)) := by decide +kernel
theorem xr_156_92 : X_row 156 92 = some (92, (.getfield 91, 3), (11, 4, 8)) := by decide +kernel
theorem xr_156_95 : X_row 156 95 = some (95, (.imul, 1), (0, 0, 0)) := by decide +kernel
theorem xr_156_96 : X_row 156 96 = some (96, (.aload_n 0, 1), (0, 0, 0)) := by decide +kernel
theorem xr_156_97 : X_row 156 97 = some (97, (.getfield 94, 3), (11, 29, 58)) := by decide +kernel
theorem xr_156_100 : X_row 156 100 = some (100, (.iadd, 1), (0, 0, 0)) := by decide +kernel
theorem xr_156_101 : X_row 156 101 = some (101, (.lload_n 1, 1), (0, 0, 0)) := by decide +kernel
theorem xr_156_102 : X_row 156 102 = some (102, (.lastore, 1), (0, 0, 0)) := by decide +kernel
theorem xr_156_103 : X_row 156 103 = some (103, (.aload_n 0, 1), (0, 0, 0)) := by decide +kernel
theorem xr_156_104 : X_row 156 104 = some (104, (.getfield 134, 3), (11, 16, 32)) := by decide +kernel
theorem xr_156_107 : X_row 156 107 = some (107, (.bipush 11, 2), (0, 0, 0)) := by decide +kernel
theorem xr_156_109 : X_row 156 109 = some (109, (.aload_n 0, 1), (0, 0, 0)) := by decide +kernel
theorem xr_156_110 : X_row 156 110 = some (110, (.getfield 91, 3), (11, 4, 8)) := by decide +kernel
theorem xr_156_113 : X_row 156 113 = some (113, (.imul, 1), (0, 0, 0)) := by decide +kernel
theorem xr_156_114 : X_row 156 114 = some (114, (.aload_n 0, 1), (0, 0, 0)) := by decide +kernel
theorem xr_156_115 : X_row 156 115 = some (115, (.getfield 94, 3), (11, 29, 58)) := by decide +kernel
theorem xr_156_118 : X_row 156 118 = some (118, (.iadd, 1), (0, 0, 0)) := by decide +kernel
theorem xr_156_119 : X_row 156 119 = some (119, (.iload_n 3, 1), (0, 0, 0)) := by decide +kernel
theorem xr_156_120 : X_row 156 120 = some (120, (.iastore, 1), (0, 0, 0)) := by decide +kernel
theorem xr_156_121 : X_row 156 121 = some (121, (.aload_n 0, 1), (0, 0, 0)) := by decide +kernel
theorem xr_156_122 : X_row 156 122 = some (122, (.dup, 1), (0, 0, 0)) := by decide +kernel
theorem xr_156_123 : X_row 156 123 = some (123, (.getfield 94, 3), (11, 29, 58)) := by decide +kernel
theorem xr_156_126 : X_row 156 126 = some (126, (.iconst 1, 1), (0, 0, 0)) := by decide +kernel
theorem xr_156_127 : X_row 156 127 = some (127, (.iadd, 1), (0, 0, 0)) := by decide +kernel
theorem xr_156_128 : X_row 156 128 = some (128, (.putfield 94, 3), (11, 29, 58)) := by decide +kernel
theorem xr_156_131 : X_row 156 131 = some (131, (.aload_n 0, 1), (0, 0, 0)) := by decide +kernel
theorem xr_156_132 : X_row 156 132 = some (132, (.bipush 59, 2), (0, 0, 0)) := by decide +kernel
theorem xr_156_134 : X_row 156 134 = some (134, (.invokevirtual 115, 3), (148, 24, 0)) := by decide +kernel
theorem xr_156_137 : X_row 156 137 = some (137, (.return_, 1), (0, 0, 0)) := by decide +kernel
theorem xn_156 : X_nL 156 = 4 := by decide +kernel
theorem xf_156 : X_na 156 = 0 ∧ X_ci 156 = 11 ∧ X_rt 156 = none := by decide +kernel
theorem X_vl_n {ct : Int → Int64} {c nu : Int} (h : ct c = iL nu) (hn : 0 ≤ nu ∧ nu ≤ 999999999) : X_vl ct c = nu := by
  unfold X_vl
  rw [h]
  have e : (iL nu).toInt32 = iI nu := by
    show (Int64.ofInt nu).toInt32 = Int32.ofInt nu
    rw [← Int32.toInt_inj, Int64.toInt_toInt32, Int64.toInt_ofInt_of_le (by omega) (by omega), Int32.toInt_ofInt]
  rw [e, iI_t (by omega) (by omega)]
/-- the reference's elements of word x, as told by d, q -/
def R_e (x : Int) (d : Nat → Int → Int) (q : Int → Int64) (wM wH : Int → Int) (eP : Int → Int64) (eH hK : Int → Int) : Prop := wM x = d 3 0 ∧ wH x = d 4 0 ∧ (∀ e, 0 ≤ e → e < d 3 0 → eP (8 * x + e) = q e ∧ (q e = 0 → eH (8 * x + e) = d 8 e)) ∧ (∀ h, 0 ≤ h → h < d 4 0 → hK (4 * x + h) = d 9 h)
def X_op (s : Int) : Int := if s = 4 then 110 else s
def R_s (x : Int) (d : Nat → Int → Int) (wS sO sN : Int → Int) : Prop := wS x = d 5 0 ∧ ∀ k, 0 ≤ k → k < d 5 0 → sO (30 * x + k) = X_op (d 12 k) ∧ (d 12 k = 4 → sN (30 * x + k) = d 13 k) ∧ (d 12 k = 64 → sN (30 * x + k) = d 13 k - 1)
theorem R_e_P {x : Int} {d : Nat → Int → Int} {q : Int → Int64} {wM wH : Int → Int} {eP : Int → Int64} {eH hK : Int → Int} {t : Int64} (ht : ¬ t = 0) (h0 : 0 ≤ d 3 0) (h : R_e x d q wM wH eP eH hK) {z : Int} (hz : z = 8 * x + d 3 0) {y : Int} (hy : y = d 3 0 + 1) : R_e x (X_aP d) (X_ug q (d 3 0) t) (X_ug wM x y) wH (X_ug eP z t) eH hK := by
  subst hz; subst hy
  obtain ⟨a1, a2, a3, a4⟩ := h
  refine ⟨X_ug_s _ _ _, a2, fun e g1 g2 => ?_, a4⟩
  have g2 : e < d 3 0 + 1 := g2
  by_cases he : e = d 3 0
  · subst he
    rw [X_ug_s, X_ug_s]
    exact ⟨rfl, fun z => absurd z ht⟩
  · rw [X_ug_n _ _ he, X_ug_n _ _ (by omega)]
    exact a3 e g1 (by omega)
theorem R_e_H {x k : Int} {d : Nat → Int → Int} {q : Int → Int64} {wM wH : Int → Int} {eP : Int → Int64} {eH hK : Int → Int} (h0 : 0 ≤ d 3 0) (h : R_e x d q wM wH eP eH hK) {z : Int} (hz : z = 8 * x + d 3 0) {y : Int} (hy : y = d 3 0 + 1) {y2 : Int} (hy2 : y2 = d 4 0) {z3 : Int} (hz3 : z3 = 4 * x + d 4 0) {y3 : Int} (hy3 : y3 = d 4 0 + 1) : R_e x (X_aH d k) (X_ug q (d 3 0) 0) (X_ug wM x y) (X_ug wH x y3) (X_ug eP z 0) (X_ug eH z y2) (X_ug hK z3 k) := by
  subst hz; subst hy; subst hy2; subst hz3; subst hy3
  obtain ⟨a1, a2, a3, a4⟩ := h
  refine ⟨X_ug_s _ _ _, X_ug_s _ _ _, fun e g1 g2 => ?_, fun h g1 g2 => ?_⟩
  · have g2 : e < d 3 0 + 1 := g2
    show _ ∧ (_ → _ = X_ug (d 8) (d 3 0) (d 4 0) e)
    by_cases he : e = d 3 0
    · subst he
      rw [X_ug_s, X_ug_s, X_ug_s, X_ug_s]
      exact ⟨rfl, fun _ => rfl⟩
    · rw [X_ug_n _ _ he, X_ug_n _ _ he, X_ug_n _ _ (by omega), X_ug_n _ _ (by omega)]
      exact a3 e g1 (by omega)
  · have g2 : h < d 4 0 + 1 := g2
    show _ = X_ug (d 9) (d 4 0) k h
    by_cases he : h = d 4 0
    · subst he
      rw [X_ug_s, X_ug_s]
    · rw [X_ug_n _ _ he, X_ug_n _ _ (by omega)]
      exact a4 h g1 (by omega)
theorem R_s_S {x s v n : Int} {d : Nat → Int → Int} {wS sO sN : Int → Int} (h0 : 0 ≤ d 5 0) (hv : (s = 4 → n = v) ∧ (s = 64 → n = v - 1)) (h : R_s x d wS sO sN) {z : Int} (hz : z = 30 * x + d 5 0) {y : Int} (hy : y = d 5 0 + 1) {p : Int} (hp : p = X_op s) {sN' : Int → Int} (hN : sN' z = n ∧ ∀ i, i ≠ z → sN' i = sN i) : R_s x (X_aS d s v) (X_ug wS x y) (X_ug sO z p) sN' := by
  subst hz; subst hy; subst hp
  obtain ⟨a1, a2⟩ := h
  refine ⟨X_ug_s _ _ _, fun k g1 g2 => ?_⟩
  have g2 : k < d 5 0 + 1 := g2
  show _ = X_op (X_ug (d 12) (d 5 0) s k) ∧ (X_ug (d 12) (d 5 0) s k = 4 → _ = X_ug (d 13) (d 5 0) v k) ∧ (X_ug (d 12) (d 5 0) s k = 64 → _ = X_ug (d 13) (d 5 0) v k - 1)
  by_cases hk : k = d 5 0
  · subst hk
    rw [X_ug_s, X_ug_s, X_ug_s, hN.1]
    exact ⟨rfl, hv.1, hv.2⟩
  · rw [X_ug_n _ _ hk, X_ug_n _ _ hk, X_ug_n _ _ (by omega), hN.2 _ (by omega)]
    exact a2 k g1 (by omega)
/-- one element, as sp_el takes it -/
noncomputable def sp_e1 (n : Int) (so : Int → Int) (ct : Int → Int64) (kn : Int → Int64) (kc c : Int) (d : Nat → Int → Int) (q : Int → Int64) : Option (Int × (Nat → Int → Int) × (Int → Int64)) :=
  if so c = 6 ∧ d 3 0 < 8 then some (X_av n c, X_aP d, X_ug q (d 3 0) (ct c)) else
    @ite _ (so c = 95 ∧ (d 3 0 < 8 ∧ d 4 0 < 4 ∧ ¬ X_hl d q (d 3 0 - 1))) (Classical.propDecidable _)
      (if so (X_av n c) = 2 then (if X_ix kn kc (ct (X_av n c)) = -1 then none else some (X_av n (X_av n c), X_aH d (X_ix kn kc (ct (X_av n c))), X_ug q (d 3 0) 0)) else some (X_av n c, X_aH d 0, X_ug q (d 3 0) 0)) none
theorem sp_el_e1 {n : Int} {so : Int → Int} {ct : Int → Int64} {kn : Int → Int64} {kc : Int} (k : Nat) {c : Int} {d : Nat → Int → Int} {q : Int → Int64} (h1 : ¬ so c = 61) (h2 : ¬ so c = 59) : sp_el n so ct kn kc (k + 1) c d q = (sp_e1 n so ct kn kc c d q).bind fun r => sp_el n so ct kn kc k r.1 r.2.1 r.2.2 := by
  show (if so c = 61 then _ else if so c = 59 then _ else if so c = 6 ∧ d 3 0 < 8 then _ else _) = _
  rw [if_neg h1, if_neg h2]
  unfold sp_e1
  repeat' split
  all_goals rfl
theorem R_tk_sg {tb : Int → Int} {len n : Int} {so pl : Int → Int} {ct : Int → Int64} {E : Int → Int} {c : Int} (hX : X_TxE tb len n so pl ct E) (hc : 0 ≤ c ∧ c < n) (h7 : 7 ≤ so c) : X_isSg (so c) := by
  obtain ⟨hl, hn, hK, -, -⟩ := hX
  obtain ⟨-, h⟩ := hK.2 c hc.1 hc.2
  rcases h with ⟨h1, h2, h3, h4⟩ | h | h | h | h
  · omega
  · obtain ⟨h1, h2, h3⟩ := h
    exfalso
    rcases h3 with h | ⟨-, -, h | h⟩
    · omega
    · have := h.2; omega
    · have := h.2; omega
  · obtain ⟨h1, h2, h3⟩ := h
    exfalso
    rcases h3 with h | ⟨-, -, -, h | h⟩
    · have := h.2.1; omega
    · have := h.2; omega
    · have := h.2; omega
  · obtain ⟨h1, m, h2, h3⟩ := h
    exfalso
    rcases h3 with h | h
    · have := h.2.1; omega
    · have := h.2.2.2.1; omega
  · obtain ⟨h1, h2, h3, h4, h5, h6, h7'⟩ := h
    rcases h7' with h | h
    · rw [h.2.2]; exact h.1
    · have := h.2; omega
section X_STEP
variable {n : Int} {so : Int → Int} {ct : Int → Int64} {c pile : Int} {d : Nat → Int → Int}
theorem X_op4 : ¬ X_isOp 4 := by unfold X_isOp; omega
theorem sp_step_n (h : so c = 4 ∨ so c = 5) (hp : ¬ pile = 16) : sp_step n so ct c d pile = some (X_av n c, X_aS d 4 (X_vl ct c), pile + 1) := by
  unfold sp_step sp_stF
  rw [if_pos h, if_neg (by omega), if_neg (fun z => hp z.2), if_neg (fun z => X_op4 z.1), if_neg X_op4]
theorem sp_step_nf (h : so c = 4 ∨ so c = 5) (hp : pile = 16) : sp_step n so ct c d pile = none := by
  unfold sp_step sp_stF
  rw [if_pos h, if_neg (by omega), if_pos ⟨X_op4, hp⟩]
theorem X_op64 {s : Int} (h : s = 64) : ¬ X_isOp s := by unfold X_isOp; omega
theorem sp_step_a (h : so c = 64) (h5 : so (X_av n c) = 5) (hv : ¬ (X_vl ct (X_av n c) < 1 ∨ d 4 0 < X_vl ct (X_av n c))) (hp : ¬ pile = 16) : sp_step n so ct c d pile = some (X_av n (X_av n c), X_aS d (so c) (X_vl ct (X_av n c)), pile + 1) := by
  unfold sp_step sp_stF
  rw [if_neg (by omega), if_pos h, if_pos h5, if_neg (fun z => hv z.2), if_neg (fun z => hp z.2), if_neg (fun z => X_op64 h z.1), if_neg (X_op64 h)]
theorem sp_step_af (h : so c = 64) (h5 : ¬ so (X_av n c) = 5 ∨ pile = 16 ∨ X_vl ct (X_av n c) < 1 ∨ d 4 0 < X_vl ct (X_av n c)) : sp_step n so ct c d pile = none := by
  unfold sp_step sp_stF
  rw [if_neg (by omega), if_pos h]
  by_cases g : so (X_av n c) = 5
  · rw [if_pos g]
    by_cases g2 : X_vl ct (X_av n c) < 1 ∨ d 4 0 < X_vl ct (X_av n c)
    · rw [if_pos ⟨h, g2⟩]
    · rw [if_neg (fun z => g2 z.2), if_pos ⟨X_op64 h, by omega⟩]
  · rw [if_neg g]
theorem X_op_n {s : Int} (h : X_isOp s) : ¬ (s = 4 ∨ s = 5) ∧ ¬ s = 64 := by unfold X_isOp at h; omega
theorem sp_step_o (h : X_isOp (so c)) (hp : ¬ pile < 2) : sp_step n so ct c d pile = some (X_av n c, X_aS d (so c) (X_vl ct c), pile - 1) := by
  unfold sp_step sp_stF
  rw [if_neg (X_op_n h).1, if_neg (X_op_n h).2, if_pos h, if_neg (fun z => (X_op_n h).2 z.1), if_neg (fun z => z.1 h), if_neg (fun z => hp z.2), if_pos h]
theorem sp_step_of (h : X_isOp (so c)) (hp : pile < 2) : sp_step n so ct c d pile = none := by
  unfold sp_step sp_stF
  rw [if_neg (X_op_n h).1, if_neg (X_op_n h).2, if_pos h, if_neg (fun z => (X_op_n h).2 z.1), if_neg (fun z => z.1 h), if_pos ⟨h, hp⟩]
theorem sp_step_x (h1 : ¬ (so c = 4 ∨ so c = 5)) (h2 : ¬ so c = 64) (h3 : ¬ X_isOp (so c)) : sp_step n so ct c d pile = none := by
  unfold sp_step
  rw [if_neg h1, if_neg h2, if_neg h3]
end X_STEP

theorem r_readKind (sc : X_Sc) (S : X_S) (o : Nat → Int) (nm : Int64) (tx : Int → Int) (kN : Int → Int64) (kU : Int → Int) (tb : Int → Int) (len : Int) (n : Int) (so : Int → Int) (pl : Int → Int) (ct : Int → Int64) (E : Int → Int) (c : Int) (c0 : Int) (rc : Int) (kc : Int) (wc : Int) (rn : Int → Int64) (lo : Int → Int) (kn : Int → Int64) (ab : Int → Int) (D : Int → Nat → Int → Int) (W : Int → Int → Int64) (hM : M_o S o nm) (hA532 : S.1 532 = .inl (.byte, 2000, .inl fun k : Nat => iI (tx (k : Int)))) (hA534 : S.1 534 = .inl (.long, 22, .inr (.inl fun k : Nat => kN (k : Int)))) (hA536 : S.1 536 = .inl (.int, 22, .inl fun k : Nat => iI (kU (k : Int)))) (hlen : o 3 = len) (hl : 0 ≤ len ∧ len ≤ 2000) (htx : ∀ k, 0 ≤ k → k < len → tx k = tb k) (hX : X_TxE tb len n so pl ct E) (hT : R_tk n so pl ct E c (o 7) (o 8) (o 9) (o 10) (o 11) nm) (h5 : o 5 = 0) (hkc : o 29 = kc) (hcr : 1 ≤ kc ∧ kc < 11) (hb : 0 ≤ o 4 ∧ o 4 ≤ 1) (hc : c = X_av n c0) (hR : R_kd (o 4) kc kn ab kN kU) : X_T sc 156 (0, [(0, .ref 530)], [], S) (fun v S' => (∃ (at1 : Int) (en1 : Int) (tk1 : Int) (nu1 : Int) (dg1 : Int) (nm1 : Int64) (c2 : Int) (ab1 : Int → Int) (kN1 : Int → Int64) (kU1 : Int → Int), v = none ∧ R_tk n so pl ct E c2 at1 en1 tk1 nu1 dg1 nm1 ∧ sp_kind n so ct (c0, rc, kc, wc, rn, lo, kn, ab, D, W) = some (c2, rc, kc + 1, wc, rn, lo, X_ug kn kc (ct c), ab1, D, W) ∧ R_kd (o 4) (kc + 1) (X_ug kn kc (ct c)) ab1 kN1 kU1 ∧ R_ob 11 (o 4) kN kN1 ∧ R_ob 11 (o 4) kU kU1 ∧ M_o S' (X_ou (X_ou (X_ou (X_ou (X_ou (X_ou o 7 at1) 8 en1) 9 tk1) 10 nu1) 11 dg1) 29 (kc + 1)) nm1 ∧ S'.1 534 = .inl (.long, 22, .inr (.inl fun k : Nat => kN1 (k : Int))) ∧ S'.1 536 = .inl (.int, 22, .inl fun k : Nat => iI (kU1 (k : Int))) ∧ (X_Fr (fun q => q = 530 ∨ q = 534 ∨ q = 536) S S')) ∨ (∃ (at1 : Int) (en1 : Int) (tk1 : Int) (nu1 : Int) (dg1 : Int) (nm1 : Int64) (kc1 : Int) (f1 : Int) (g1 : Int) (kN1 : Int → Int64) (kU1 : Int → Int), v = none ∧ (1 ≤ f1 ∧ f1 ≤ 5) ∧ sp_kind n so ct (c0, rc, kc, wc, rn, lo, kn, ab, D, W) = none ∧ R_ob 11 (o 4) kN kN1 ∧ R_ob 11 (o 4) kU kU1 ∧ M_o S' (X_ou (X_ou (X_ou (X_ou (X_ou (X_ou (X_ou (X_ou o 7 at1) 8 en1) 9 tk1) 10 nu1) 11 dg1) 29 kc1) 5 f1) 6 g1) nm1 ∧ S'.1 534 = .inl (.long, 22, .inr (.inl fun k : Nat => kN1 (k : Int))) ∧ S'.1 536 = .inl (.int, 22, .inl fun k : Nat => iI (kU1 (k : Int))) ∧ (X_Fr (fun q => q = 530 ∨ q = 534 ∨ q = 536) S S'))) := by
  obtain ⟨⟨hc0, hcn⟩, ⟨hs0, hs1⟩, hk0, ⟨ha0, ha1⟩, hk0e, ⟨_, _⟩, ⟨_, _⟩⟩ := R_tk_f hX hT
  have hn2 := hX.2.1
  have hN := hR.1
  refine X_QI (fun Q hQ => ?_)
  refine T_p xr_156_0 xn_156 (pc' := 1) (ls' := [(0, .ref 530)]) (st' := [.ref 530]) rfl ?_
  refine T_get xr_156_1 hM rfl (v := .int (iI (o 9))) rfl (pc' := 4) rfl ?_
  refine T_p xr_156_4 xn_156 (pc' := 5) (ls' := [(0, .ref 530)]) (st' := [.int (iI 2), .int (iI (o 9))]) rfl ?_
  refine T_zicmp_eq xr_156_5 (t := 12) (pc' := 8) rfl rfl (fun c1571 => ?_) (fun c1571 => ?_)
  · skip
    have c1571 : (o 9) = 2 := c1571
    refine T_p xr_156_12 xn_156 (pc' := 13) (ls' := [(0, .ref 530)]) (st' := [.ref 530]) rfl ?_
    refine T_cv (S := S) (q := 530) xr_156_13 xf_140.1 xf_140.2.1 xn_140 (as := []) (r := []) rfl hM (Nat.le_of_ble_eq_true rfl) (Nat.le_of_ble_eq_true rfl) (pc' := 16) rfl (ls' := [(0, .ref 530)]) rfl ?_
    refine T_mono (r_isGood sc S o nm hM (show 0 ≤ (o 5) ∧ (o 5) ≤ 5 from by omega)) (fun v1572 S1573 h1574 => ?_)
    rcases h1574 with ⟨hv1575, hf1576⟩
    rw [hv1575]
    rw [hf1576]
    show X_T sc 156 (16, [(0, .ref 530)], [.int (iI (bI ((o 5) = 0)))], S) _
    refine T_bif_eq xr_156_16 (t := 39) (pc' := 19) rfl rfl (fun c1577 => ?_) (fun c1577 => ?_)
    · skip
      have c1577 : ¬ ((o 5) = 0) := c1577
      exact (show False by first | contradiction | omega).elim
    · skip
      have c1577 : ((o 5) = 0) := c1577
      refine T_p xr_156_19 xn_156 (pc' := 20) (ls' := [(0, .ref 530)]) (st' := [.ref 530]) rfl ?_
      refine T_p xr_156_20 xn_156 (pc' := 21) (ls' := [(0, .ref 530)]) (st' := [.ref 530, .ref 530]) rfl ?_
      refine T_get xr_156_21 hM rfl (v := .long nm) rfl (pc' := 24) rfl ?_
      refine T_le (y := (ct c)) (hT.2.2.2.2.1 (Or.inl (by omega))) ?_
      refine T_cv (S := S) (q := 530) xr_156_24 xf_150.1 xf_150.2.1 xn_150 (as := [.long (ct c)]) (r := []) rfl hM (Nat.le_of_ble_eq_true rfl) (Nat.le_of_ble_eq_true rfl) (pc' := 27) rfl (ls' := [(0, .ref 530), (1, .long (ct c))]) rfl ?_
      refine T_mono (r_kindOf sc S o nm kN kn kc (ct c) hM hA534 (show (o 29) = kc from by omega) (by omega) (show 0 ≤ (o 4) ∧ (o 4) ≤ 1 from by omega) hN) (fun v1578 S1579 h1580 => ?_)
      rcases h1580 with ⟨hv1581, hf1582⟩
      rw [hv1581]
      rw [hf1582]
      have hx1583 := X_ix_r (g := kn) (n := kc) (x := (ct c)) (by omega)
      show X_T sc 156 (27, [(0, .ref 530)], [.int (iI (X_ix kn kc (ct c)))], S) _
      refine T_zif_lt xr_156_27 (t := 39) (pc' := 30) rfl rfl (fun c1584 => ?_) (fun c1584 => ?_)
      · skip
        have c1584 : (X_ix kn kc (ct c)) < 0 := c1584
        refine T_p xr_156_39 xn_156 (pc' := 40) (ls' := [(0, .ref 530)]) (st' := [.ref 530]) rfl ?_
        refine T_cv (S := S) (q := 530) xr_156_40 xf_140.1 xf_140.2.1 xn_140 (as := []) (r := []) rfl hM (Nat.le_of_ble_eq_true rfl) (Nat.le_of_ble_eq_true rfl) (pc' := 43) rfl (ls' := [(0, .ref 530)]) rfl ?_
        refine T_mono (r_isGood sc S o nm hM (show 0 ≤ (o 5) ∧ (o 5) ≤ 5 from by omega)) (fun v1585 S1586 h1587 => ?_)
        rcases h1587 with ⟨hv1588, hf1589⟩
        rw [hv1588]
        rw [hf1589]
        show X_T sc 156 (43, [(0, .ref 530)], [.int (iI (bI ((o 5) = 0)))], S) _
        refine T_bif_ne xr_156_43 (t := 47) (pc' := 46) rfl rfl (fun c1590 => ?_) (fun c1590 => ?_)
        · skip
          have c1590 : ((o 5) = 0) := c1590
          refine T_p xr_156_47 xn_156 (pc' := 48) (ls' := [(0, .ref 530)]) (st' := [.ref 530]) rfl ?_
          refine T_get xr_156_48 hM rfl (v := .long nm) rfl (pc' := 51) rfl ?_
          refine T_le (y := (ct c)) (hT.2.2.2.2.1 (Or.inl (by omega))) ?_
          refine T_p xr_156_51 xn_156 (pc' := 52) (ls' := [(1, .long (ct c)), (0, .ref 530)]) (st' := []) rfl ?_
          refine T_p xr_156_52 xn_156 (pc' := 53) (ls' := [(1, .long (ct c)), (0, .ref 530)]) (st' := [.int (iI 0)]) rfl ?_
          refine T_p xr_156_53 xn_156 (pc' := 54) (ls' := [(3, .int (iI 0)), (1, .long (ct c)), (0, .ref 530)]) (st' := []) rfl ?_
          refine T_p xr_156_54 xn_156 (pc' := 55) (ls' := [(3, .int (iI 0)), (1, .long (ct c)), (0, .ref 530)]) (st' := [.ref 530]) rfl ?_
          refine T_cv (S := S) (q := 530) xr_156_55 xf_141.1 xf_141.2.1 xn_141 (as := []) (r := []) rfl hM (Nat.le_of_ble_eq_true rfl) (Nat.le_of_ble_eq_true rfl) (pc' := 58) rfl (ls' := [(0, .ref 530)]) rfl ?_
          refine T_mono (r_nx sc S o nm tx tb len n so pl ct E c hM hA532 (show (o 3) = len from by first | assumption | omega) hl htx hX hT (by omega)) (fun v1591 S1592 h1593 => ?_)
          rcases h1593 with ⟨at1594, en1595, tk1596, nu1597, dg1598, nm1599, hv1600, hp1601, hM1602, hf1603⟩
          rw [hv1600]
          have h1604 : S1592.1 530 = .inr (11, [.ref 531, .int (iI (o 1)), .ref 532, .int (iI (o 3)), .int (iI (o 4)), .int (iI (o 5)), .int (iI (o 6)), .int (iI at1594), .int (iI en1595), .int (iI tk1596), .int (iI nu1597), .int (iI dg1598), .long nm1599, .ref 533, .ref 534, .ref 535, .ref 536, .ref 537, .ref 538, .ref 539, .ref 540, .ref 541, .ref 542, .ref 543, .ref 544, .ref 545, .ref 546, .ref 547, .int (iI (o 28)), .int (iI (o 29)), .int (iI (o 30)), .int (iI (o 31)), .int (iI (o 32)), .int (iI (o 33)), .ref 548, .ref 549, .ref 550, .ref 551, .int (iI (o 38)), .ref 552, .ref 553, .ref 554, .ref 555, .ref 556, .ref 557, .ref 558, .ref 559, .ref 560, .ref 561, .int (iI (o 49)), .ref 562, .ref 563, .ref 564, .ref 565, .ref 566, .ref 567, .ref 568, .ref 569, .int (iI (o 58)), .ref 570, .ref 571, .ref 572, .ref 573, .ref 574, .ref 575, .ref 576, .ref 577, .ref 578, .int (iI (o 68)), .int (iI (o 69)), .int (iI (o 70)), .ref 579]) := hM1602
          obtain ⟨⟨_, _⟩, ⟨_, _⟩, hk1605, ⟨_, _⟩, hk1605e, ⟨_, _⟩, ⟨_, _⟩⟩ := R_tk_f hX hp1601
          show X_T sc 156 (58, [(3, .int (iI 0)), (1, .long (ct c)), (0, .ref 530)], [], S1592) _
          refine T_p xr_156_58 xn_156 (pc' := 59) (ls' := [(3, .int (iI 0)), (1, .long (ct c)), (0, .ref 530)]) (st' := [.ref 530]) rfl ?_
          refine T_p xr_156_59 xn_156 (pc' := 62) (ls' := [(3, .int (iI 0)), (1, .long (ct c)), (0, .ref 530)]) (st' := [.long (Int64.ofNat 504363246962), .ref 530]) rfl ?_
          refine T_cv (S := S1592) (q := 530) xr_156_62 xf_146.1 xf_146.2.1 xn_146 (as := [.long (Int64.ofNat 504363246962)]) (r := []) rfl h1604 (Nat.le_of_ble_eq_true rfl) (Nat.le_of_ble_eq_true rfl) (pc' := 65) rfl (ls' := [(0, .ref 530), (1, .long (Int64.ofNat 504363246962))]) rfl ?_
          have h1606 := (hf1603.1 532 (by omega)).trans (hA532)
          refine T_mono (r_isWord sc S1592 (X_ou (X_ou (X_ou (X_ou (X_ou o 7 at1594) 8 en1595) 9 tk1596) 10 nu1597) 11 dg1598) nm1599 tx tb len n so pl ct E (X_av n c) (Int64.ofNat 504363246962) h1604 h1606 (show (o 3) = len from by first | assumption | omega) hl htx hX hp1601) (fun v1607 S1608 h1609 => ?_)
          rcases h1609 with ⟨hv1610, hf1611⟩
          rw [hv1610]
          rw [hf1611]
          show X_T sc 156 (65, [(3, .int (iI 0)), (1, .long (ct c)), (0, .ref 530)], [.int (iI (bI (so (X_av n c) = 3 ∧ ct (X_av n c) = (Int64.ofNat 504363246962))))], S1592) _
          refine T_bif_eq xr_156_65 (t := 77) (pc' := 68) rfl rfl (fun c1612 => ?_) (fun c1612 => ?_)
          · skip
            have c1612 : ¬ (so (X_av n c) = 3 ∧ ct (X_av n c) = (Int64.ofNat 504363246962)) := c1612
            refine T_p xr_156_77 xn_156 (pc' := 78) (ls' := [(3, .int (iI 0)), (1, .long (ct c)), (0, .ref 530)]) (st' := [.ref 530]) rfl ?_
            refine T_cv (S := S1592) (q := 530) xr_156_78 xf_140.1 xf_140.2.1 xn_140 (as := []) (r := []) rfl h1604 (Nat.le_of_ble_eq_true rfl) (Nat.le_of_ble_eq_true rfl) (pc' := 81) rfl (ls' := [(0, .ref 530)]) rfl ?_
            refine T_mono (r_isGood sc S1592 (X_ou (X_ou (X_ou (X_ou (X_ou o 7 at1594) 8 en1595) 9 tk1596) 10 nu1597) 11 dg1598) nm1599 h1604 (show 0 ≤ (o 5) ∧ (o 5) ≤ 5 from by omega)) (fun v1613 S1614 h1615 => ?_)
            rcases h1615 with ⟨hv1616, hf1617⟩
            rw [hv1616]
            rw [hf1617]
            show X_T sc 156 (81, [(3, .int (iI 0)), (1, .long (ct c)), (0, .ref 530)], [.int (iI (bI ((o 5) = 0)))], S1592) _
            refine T_bif_ne xr_156_81 (t := 85) (pc' := 84) rfl rfl (fun c1618 => ?_) (fun c1618 => ?_)
            · skip
              have c1618 : ((o 5) = 0) := c1618
              refine T_p xr_156_85 xn_156 (pc' := 86) (ls' := [(3, .int (iI 0)), (1, .long (ct c)), (0, .ref 530)]) (st' := [.ref 530]) rfl ?_
              refine T_get xr_156_86 h1604 rfl (v := .ref 534) rfl (pc' := 89) rfl ?_
              refine T_p xr_156_89 xn_156 (pc' := 91) (ls' := [(3, .int (iI 0)), (1, .long (ct c)), (0, .ref 530)]) (st' := [.int (iI 11), .ref 534]) rfl ?_
              refine T_p xr_156_91 xn_156 (pc' := 92) (ls' := [(3, .int (iI 0)), (1, .long (ct c)), (0, .ref 530)]) (st' := [.ref 530, .int (iI 11), .ref 534]) rfl ?_
              refine T_get xr_156_92 h1604 rfl (v := .int (iI (o 4))) rfl (pc' := 95) rfl ?_
              refine T_zimul xr_156_95 (z := 11 * (o 4)) rfl (pc' := 96) rfl ?_
              refine T_p xr_156_96 xn_156 (pc' := 97) (ls' := [(3, .int (iI 0)), (1, .long (ct c)), (0, .ref 530)]) (st' := [.ref 530, .int (iI (11 * (o 4))), .ref 534]) rfl ?_
              refine T_get xr_156_97 h1604 rfl (v := .int (iI (o 29))) rfl (pc' := 100) rfl ?_
              refine T_ziadd xr_156_100 (z := (11 * (o 4)) + (o 29)) rfl (pc' := 101) rfl ?_
              refine T_p xr_156_101 xn_156 (pc' := 102) (ls' := [(3, .int (iI 0)), (1, .long (ct c)), (0, .ref 530)]) (st' := [.long (ct c), .int (iI ((11 * (o 4)) + (o 29))), .ref 534]) rfl ?_
              have h1619 := (hf1603.1 534 (by omega)).trans (hA534)
              refine T_zlast xr_156_102 h1619 (pc' := 103) rfl (fun S1620 h1621 n1622 e1623 => ?_)
              refine T_p xr_156_103 xn_156 (pc' := 104) (ls' := [(3, .int (iI 0)), (1, .long (ct c)), (0, .ref 530)]) (st' := [.ref 530]) rfl ?_
              have h1624 := (n1622 530 (by decide)).trans (h1604)
              refine T_get xr_156_104 h1624 rfl (v := .ref 536) rfl (pc' := 107) rfl ?_
              refine T_p xr_156_107 xn_156 (pc' := 109) (ls' := [(3, .int (iI 0)), (1, .long (ct c)), (0, .ref 530)]) (st' := [.int (iI 11), .ref 536]) rfl ?_
              refine T_p xr_156_109 xn_156 (pc' := 110) (ls' := [(3, .int (iI 0)), (1, .long (ct c)), (0, .ref 530)]) (st' := [.ref 530, .int (iI 11), .ref 536]) rfl ?_
              refine T_get xr_156_110 h1624 rfl (v := .int (iI (o 4))) rfl (pc' := 113) rfl ?_
              refine T_zimul xr_156_113 (z := 11 * (o 4)) rfl (pc' := 114) rfl ?_
              refine T_p xr_156_114 xn_156 (pc' := 115) (ls' := [(3, .int (iI 0)), (1, .long (ct c)), (0, .ref 530)]) (st' := [.ref 530, .int (iI (11 * (o 4))), .ref 536]) rfl ?_
              refine T_get xr_156_115 h1624 rfl (v := .int (iI (o 29))) rfl (pc' := 118) rfl ?_
              refine T_ziadd xr_156_118 (z := (11 * (o 4)) + (o 29)) rfl (pc' := 119) rfl ?_
              refine T_p xr_156_119 xn_156 (pc' := 120) (ls' := [(3, .int (iI 0)), (1, .long (ct c)), (0, .ref 530)]) (st' := [.int (iI 0), .int (iI ((11 * (o 4)) + (o 29))), .ref 536]) rfl ?_
              have h1625 := (n1622 536 (by decide)).trans ((hf1603.1 536 (by omega)).trans (hA536))
              refine T_ziast xr_156_120 h1625 (pc' := 121) rfl (fun S1626 h1627 n1628 e1629 => ?_)
              refine T_p xr_156_121 xn_156 (pc' := 122) (ls' := [(3, .int (iI 0)), (1, .long (ct c)), (0, .ref 530)]) (st' := [.ref 530]) rfl ?_
              refine T_p xr_156_122 xn_156 (pc' := 123) (ls' := [(3, .int (iI 0)), (1, .long (ct c)), (0, .ref 530)]) (st' := [.ref 530, .ref 530]) rfl ?_
              have h1630 := (n1628 530 (by decide)).trans (h1624)
              refine T_get xr_156_123 h1630 rfl (v := .int (iI (o 29))) rfl (pc' := 126) rfl ?_
              refine T_p xr_156_126 xn_156 (pc' := 127) (ls' := [(3, .int (iI 0)), (1, .long (ct c)), (0, .ref 530)]) (st' := [.int (iI 1), .int (iI (o 29)), .ref 530]) rfl ?_
              refine T_ziadd xr_156_127 (z := (o 29) + 1) rfl (pc' := 128) rfl ?_
              refine T_ie (y := iI (kc + 1)) (by rw [hkc]) ?_
              refine T_put xr_156_128 h1630 rfl (Nat.le_of_ble_eq_true rfl) rfl (fs' := [.ref 531, .int (iI (o 1)), .ref 532, .int (iI (o 3)), .int (iI (o 4)), .int (iI (o 5)), .int (iI (o 6)), .int (iI at1594), .int (iI en1595), .int (iI tk1596), .int (iI nu1597), .int (iI dg1598), .long nm1599, .ref 533, .ref 534, .ref 535, .ref 536, .ref 537, .ref 538, .ref 539, .ref 540, .ref 541, .ref 542, .ref 543, .ref 544, .ref 545, .ref 546, .ref 547, .int (iI (o 28)), .int (iI (kc + 1)), .int (iI (o 30)), .int (iI (o 31)), .int (iI (o 32)), .int (iI (o 33)), .ref 548, .ref 549, .ref 550, .ref 551, .int (iI (o 38)), .ref 552, .ref 553, .ref 554, .ref 555, .ref 556, .ref 557, .ref 558, .ref 559, .ref 560, .ref 561, .int (iI (o 49)), .ref 562, .ref 563, .ref 564, .ref 565, .ref 566, .ref 567, .ref 568, .ref 569, .int (iI (o 58)), .ref 570, .ref 571, .ref 572, .ref 573, .ref 574, .ref 575, .ref 576, .ref 577, .ref 578, .int (iI (o 68)), .int (iI (o 69)), .int (iI (o 70)), .ref 579]) rfl (pc' := 131) rfl (fun S1631 h1632 n1633 e1634 => ?_)
              refine T_p xr_156_131 xn_156 (pc' := 132) (ls' := [(3, .int (iI 0)), (1, .long (ct c)), (0, .ref 530)]) (st' := [.ref 530]) rfl ?_
              refine T_p xr_156_132 xn_156 (pc' := 134) (ls' := [(3, .int (iI 0)), (1, .long (ct c)), (0, .ref 530)]) (st' := [.int (iI 59), .ref 530]) rfl ?_
              refine T_cv (S := S1631) (q := 530) xr_156_134 xf_148.1 xf_148.2.1 xn_148 (as := [.int (iI 59)]) (r := []) rfl h1632 (Nat.le_of_ble_eq_true rfl) (Nat.le_of_ble_eq_true rfl) (pc' := 137) rfl (ls' := [(0, .ref 530), (1, .int (iI 59))]) rfl ?_
              have h1635 := (n1633 532 (by decide)).trans ((n1628 532 (by decide)).trans ((n1622 532 (by decide)).trans (h1606)))
              refine T_mono (r_must sc S1631 (X_ou (X_ou (X_ou (X_ou (X_ou (X_ou o 7 at1594) 8 en1595) 9 tk1596) 10 nu1597) 11 dg1598) 29 (kc + 1)) nm1599 tx tb len n so pl ct E (X_av n c) 59 h1632 h1635 (show (o 3) = len from by first | assumption | omega) hl htx hX hp1601 (show (o 5) = 0 from by omega) (by omega)) (fun v1636 S1637 h1638 => ?_)
              rcases h1638 with ⟨at1639, en1640, tk1641, nu1642, dg1643, nm1644, hv1645, hp1646, hp1647, hM1648, hf1649⟩ | ⟨f1650, g1651, hv1652, hp1653, hp1654, hM1655, hf1656⟩
              · skip
                rw [hv1645]
                have h1657 : S1637.1 530 = .inr (11, [.ref 531, .int (iI (o 1)), .ref 532, .int (iI (o 3)), .int (iI (o 4)), .int (iI (o 5)), .int (iI (o 6)), .int (iI at1639), .int (iI en1640), .int (iI tk1641), .int (iI nu1642), .int (iI dg1643), .long nm1644, .ref 533, .ref 534, .ref 535, .ref 536, .ref 537, .ref 538, .ref 539, .ref 540, .ref 541, .ref 542, .ref 543, .ref 544, .ref 545, .ref 546, .ref 547, .int (iI (o 28)), .int (iI (kc + 1)), .int (iI (o 30)), .int (iI (o 31)), .int (iI (o 32)), .int (iI (o 33)), .ref 548, .ref 549, .ref 550, .ref 551, .int (iI (o 38)), .ref 552, .ref 553, .ref 554, .ref 555, .ref 556, .ref 557, .ref 558, .ref 559, .ref 560, .ref 561, .int (iI (o 49)), .ref 562, .ref 563, .ref 564, .ref 565, .ref 566, .ref 567, .ref 568, .ref 569, .int (iI (o 58)), .ref 570, .ref 571, .ref 572, .ref 573, .ref 574, .ref 575, .ref 576, .ref 577, .ref 578, .int (iI (o 68)), .int (iI (o 69)), .int (iI (o 70)), .ref 579]) := hM1648
                obtain ⟨⟨_, _⟩, ⟨_, _⟩, hk1658, ⟨_, _⟩, hk1658e, ⟨_, _⟩, ⟨_, _⟩⟩ := R_tk_f hX hp1646
                show X_T sc 156 (137, [(3, .int (iI 0)), (1, .long (ct c)), (0, .ref 530)], [], S1637) _
                refine T_vret xr_156_137 xf_156.2.2 ?_
                refine hQ _ _ ?_
                have h1660 := (hf1649.1 534 (by omega)).trans ((n1633 534 (by decide)).trans ((n1628 534 (by decide)).trans (h1621)))
                have h1661 := (hf1649.1 536 (by omega)).trans ((n1633 536 (by decide)).trans (h1627))
                refine Or.inl ⟨at1639, en1640, tk1641, nu1642, dg1643, nm1644, X_av n (X_av n c), X_ug ab kc (X_bO (ab 0) (X_bS kc)), (X_ug kN ((11 * (o 4)) + (o 29)) (ct c)), (X_ug kU ((11 * (o 4)) + (o 29)) 0), rfl, hp1646, ?_, R_kd_add (by omega) (by omega) hR (by rw [hkc]), R_ob.rf.up (by omega), R_ob.rf.up (by omega), h1657, h1660, h1661, (((((X_Fr.rf).tr (X_Fr.mono ⟨hf1603.1, hf1603.2⟩ (fun q hq => (by omega)))).tr (X_Fr.of n1622 e1623 (by omega))).tr (X_Fr.of n1628 e1629 (by omega))).tr (X_Fr.of n1633 e1634 (by omega))).tr (X_Fr.mono ⟨hf1649.1, hf1649.2⟩ (fun q hq => (by omega)))⟩
                · simp only [sp_kind]
                  rw [← hc]
                  (repeat (first | rw [if_pos (by assumption)] | rw [if_neg (by assumption)] | rw [if_neg (by omega)] | rw [if_pos (by omega)]))
                  all_goals first | rfl | ((repeat' split) <;> first | rfl | (exfalso; omega) | contradiction)
              · skip
                rw [hv1652]
                have h1659 : S1637.1 530 = .inr (11, [.ref 531, .int (iI (o 1)), .ref 532, .int (iI (o 3)), .int (iI (o 4)), .int (iI f1650), .int (iI g1651), .int (iI at1594), .int (iI en1595), .int (iI tk1596), .int (iI nu1597), .int (iI dg1598), .long nm1599, .ref 533, .ref 534, .ref 535, .ref 536, .ref 537, .ref 538, .ref 539, .ref 540, .ref 541, .ref 542, .ref 543, .ref 544, .ref 545, .ref 546, .ref 547, .int (iI (o 28)), .int (iI (kc + 1)), .int (iI (o 30)), .int (iI (o 31)), .int (iI (o 32)), .int (iI (o 33)), .ref 548, .ref 549, .ref 550, .ref 551, .int (iI (o 38)), .ref 552, .ref 553, .ref 554, .ref 555, .ref 556, .ref 557, .ref 558, .ref 559, .ref 560, .ref 561, .int (iI (o 49)), .ref 562, .ref 563, .ref 564, .ref 565, .ref 566, .ref 567, .ref 568, .ref 569, .int (iI (o 58)), .ref 570, .ref 571, .ref 572, .ref 573, .ref 574, .ref 575, .ref 576, .ref 577, .ref 578, .int (iI (o 68)), .int (iI (o 69)), .int (iI (o 70)), .ref 579]) := hM1655
                show X_T sc 156 (137, [(3, .int (iI 0)), (1, .long (ct c)), (0, .ref 530)], [], S1637) _
                refine T_vret xr_156_137 xf_156.2.2 ?_
                refine hQ _ _ ?_
                have h1662 := (hf1656.1 534 (by omega)).trans ((n1633 534 (by decide)).trans ((n1628 534 (by decide)).trans (h1621)))
                have h1663 := (hf1656.1 536 (by omega)).trans ((n1633 536 (by decide)).trans (h1627))
                refine Or.inr ⟨at1594, en1595, tk1596, nu1597, dg1598, nm1599, kc + 1, f1650, g1651, (X_ug kN ((11 * (o 4)) + (o 29)) (ct c)), (X_ug kU ((11 * (o 4)) + (o 29)) 0), rfl, by omega, ?_, ?_, ?_, h1659, h1662, h1663, (((((X_Fr.rf).tr (X_Fr.mono ⟨hf1603.1, hf1603.2⟩ (fun q hq => (by omega)))).tr (X_Fr.of n1622 e1623 (by omega))).tr (X_Fr.of n1628 e1629 (by omega))).tr (X_Fr.of n1633 e1634 (by omega))).tr (X_Fr.mono ⟨hf1656.1, hf1656.2⟩ (fun q hq => (by omega)))⟩
                · simp only [sp_kind]
                  rw [← hc]
                  (repeat (first | rw [if_pos (by assumption)] | rw [if_neg (by assumption)] | rw [if_neg (by omega)] | rw [if_pos (by omega)]))
                  all_goals first | rfl | ((repeat' split) <;> first | rfl | (exfalso; omega) | contradiction)
                · first | exact R_ob.rf | exact R_ob.rf.up (by omega)
                · first | exact R_ob.rf | exact R_ob.rf.up (by omega)
            · skip
              have c1618 : ¬ ((o 5) = 0) := c1618
              exact (show False by first | contradiction | omega).elim
          · skip
            have c1612 : (so (X_av n c) = 3 ∧ ct (X_av n c) = (Int64.ofNat 504363246962)) := c1612
            refine T_p xr_156_68 xn_156 (pc' := 69) (ls' := [(3, .int (iI 0)), (1, .long (ct c)), (0, .ref 530)]) (st' := [.ref 530]) rfl ?_
            refine T_cv (S := S1592) (q := 530) xr_156_69 xf_141.1 xf_141.2.1 xn_141 (as := []) (r := []) rfl h1604 (Nat.le_of_ble_eq_true rfl) (Nat.le_of_ble_eq_true rfl) (pc' := 72) rfl (ls' := [(0, .ref 530)]) rfl ?_
            refine T_mono (r_nx sc S1592 (X_ou (X_ou (X_ou (X_ou (X_ou o 7 at1594) 8 en1595) 9 tk1596) 10 nu1597) 11 dg1598) nm1599 tx tb len n so pl ct E (X_av n c) h1604 h1606 (show (o 3) = len from by first | assumption | omega) hl htx hX hp1601 (by omega)) (fun v1664 S1665 h1666 => ?_)
            rcases h1666 with ⟨at1667, en1668, tk1669, nu1670, dg1671, nm1672, hv1673, hp1674, hM1675, hf1676⟩
            rw [hv1673]
            have h1677 : S1665.1 530 = .inr (11, [.ref 531, .int (iI (o 1)), .ref 532, .int (iI (o 3)), .int (iI (o 4)), .int (iI (o 5)), .int (iI (o 6)), .int (iI at1667), .int (iI en1668), .int (iI tk1669), .int (iI nu1670), .int (iI dg1671), .long nm1672, .ref 533, .ref 534, .ref 535, .ref 536, .ref 537, .ref 538, .ref 539, .ref 540, .ref 541, .ref 542, .ref 543, .ref 544, .ref 545, .ref 546, .ref 547, .int (iI (o 28)), .int (iI (o 29)), .int (iI (o 30)), .int (iI (o 31)), .int (iI (o 32)), .int (iI (o 33)), .ref 548, .ref 549, .ref 550, .ref 551, .int (iI (o 38)), .ref 552, .ref 553, .ref 554, .ref 555, .ref 556, .ref 557, .ref 558, .ref 559, .ref 560, .ref 561, .int (iI (o 49)), .ref 562, .ref 563, .ref 564, .ref 565, .ref 566, .ref 567, .ref 568, .ref 569, .int (iI (o 58)), .ref 570, .ref 571, .ref 572, .ref 573, .ref 574, .ref 575, .ref 576, .ref 577, .ref 578, .int (iI (o 68)), .int (iI (o 69)), .int (iI (o 70)), .ref 579]) := hM1675
            obtain ⟨⟨_, _⟩, ⟨_, _⟩, hk1678, ⟨_, _⟩, hk1678e, ⟨_, _⟩, ⟨_, _⟩⟩ := R_tk_f hX hp1674
            show X_T sc 156 (72, [(3, .int (iI 0)), (1, .long (ct c)), (0, .ref 530)], [], S1665) _
            refine T_p xr_156_72 xn_156 (pc' := 73) (ls' := [(3, .int (iI 0)), (1, .long (ct c)), (0, .ref 530)]) (st' := [.ref 530]) rfl ?_
            refine T_cv (S := S1665) (q := 530) xr_156_73 xf_152.1 xf_152.2.1 xn_152 (as := []) (r := []) rfl h1677 (Nat.le_of_ble_eq_true rfl) (Nat.le_of_ble_eq_true rfl) (pc' := 76) rfl (ls' := [(0, .ref 530)]) rfl ?_
            have h1679 := (hf1676.1 532 (by omega)).trans (h1606)
            have h1680 := (hf1676.1 534 (by omega)).trans ((hf1603.1 534 (by omega)).trans (hA534))
            refine T_mono (r_aKind sc S1665 (X_ou (X_ou (X_ou (X_ou (X_ou o 7 at1667) 8 en1668) 9 tk1669) 10 nu1670) 11 dg1671) nm1672 tx kN tb len n so pl ct E (X_av n (X_av n c)) kn kc h1677 h1679 h1680 (show (o 3) = len from by first | assumption | omega) hl htx hX hp1674 (show (o 5) = 0 from by omega) (show (o 29) = kc from by omega) (by omega) (show 0 ≤ (o 4) ∧ (o 4) ≤ 1 from by omega) hN) (fun v1681 S1682 h1683 => ?_)
            rcases h1683 with ⟨at1684, en1685, tk1686, nu1687, dg1688, nm1689, hv1690, hp1691, hp1692, hp1693, hM1694, hf1695⟩ | ⟨r1696, f1697, g1698, hv1699, hp1700, hp1701, hp1702, hM1703, hf1704⟩
            · skip
              rw [hv1690]
              have h1705 : S1682.1 530 = .inr (11, [.ref 531, .int (iI (o 1)), .ref 532, .int (iI (o 3)), .int (iI (o 4)), .int (iI (o 5)), .int (iI (o 6)), .int (iI at1684), .int (iI en1685), .int (iI tk1686), .int (iI nu1687), .int (iI dg1688), .long nm1689, .ref 533, .ref 534, .ref 535, .ref 536, .ref 537, .ref 538, .ref 539, .ref 540, .ref 541, .ref 542, .ref 543, .ref 544, .ref 545, .ref 546, .ref 547, .int (iI (o 28)), .int (iI (o 29)), .int (iI (o 30)), .int (iI (o 31)), .int (iI (o 32)), .int (iI (o 33)), .ref 548, .ref 549, .ref 550, .ref 551, .int (iI (o 38)), .ref 552, .ref 553, .ref 554, .ref 555, .ref 556, .ref 557, .ref 558, .ref 559, .ref 560, .ref 561, .int (iI (o 49)), .ref 562, .ref 563, .ref 564, .ref 565, .ref 566, .ref 567, .ref 568, .ref 569, .int (iI (o 58)), .ref 570, .ref 571, .ref 572, .ref 573, .ref 574, .ref 575, .ref 576, .ref 577, .ref 578, .int (iI (o 68)), .int (iI (o 69)), .int (iI (o 70)), .ref 579]) := hM1694
              obtain ⟨⟨_, _⟩, ⟨_, _⟩, hk1706, ⟨_, _⟩, hk1706e, ⟨_, _⟩, ⟨_, _⟩⟩ := R_tk_f hX hp1691
              show X_T sc 156 (76, [(3, .int (iI 0)), (1, .long (ct c)), (0, .ref 530)], [.int (iI (X_ix kn kc (ct (X_av n (X_av n c)))))], S1682) _
              refine T_p xr_156_76 xn_156 (pc' := 77) (ls' := [(3, .int (iI (X_ix kn kc (ct (X_av n (X_av n c)))))), (1, .long (ct c)), (0, .ref 530)]) (st' := []) rfl ?_
              refine T_p xr_156_77 xn_156 (pc' := 78) (ls' := [(3, .int (iI (X_ix kn kc (ct (X_av n (X_av n c)))))), (1, .long (ct c)), (0, .ref 530)]) (st' := [.ref 530]) rfl ?_
              refine T_cv (S := S1682) (q := 530) xr_156_78 xf_140.1 xf_140.2.1 xn_140 (as := []) (r := []) rfl h1705 (Nat.le_of_ble_eq_true rfl) (Nat.le_of_ble_eq_true rfl) (pc' := 81) rfl (ls' := [(0, .ref 530)]) rfl ?_
              refine T_mono (r_isGood sc S1682 (X_ou (X_ou (X_ou (X_ou (X_ou o 7 at1684) 8 en1685) 9 tk1686) 10 nu1687) 11 dg1688) nm1689 h1705 (show 0 ≤ (o 5) ∧ (o 5) ≤ 5 from by omega)) (fun v1708 S1709 h1710 => ?_)
              rcases h1710 with ⟨hv1711, hf1712⟩
              rw [hv1711]
              rw [hf1712]
              show X_T sc 156 (81, [(3, .int (iI (X_ix kn kc (ct (X_av n (X_av n c)))))), (1, .long (ct c)), (0, .ref 530)], [.int (iI (bI ((o 5) = 0)))], S1682) _
              refine T_bif_ne xr_156_81 (t := 85) (pc' := 84) rfl rfl (fun c1713 => ?_) (fun c1713 => ?_)
              · skip
                have c1713 : ((o 5) = 0) := c1713
                refine T_p xr_156_85 xn_156 (pc' := 86) (ls' := [(3, .int (iI (X_ix kn kc (ct (X_av n (X_av n c)))))), (1, .long (ct c)), (0, .ref 530)]) (st' := [.ref 530]) rfl ?_
                refine T_get xr_156_86 h1705 rfl (v := .ref 534) rfl (pc' := 89) rfl ?_
                refine T_p xr_156_89 xn_156 (pc' := 91) (ls' := [(3, .int (iI (X_ix kn kc (ct (X_av n (X_av n c)))))), (1, .long (ct c)), (0, .ref 530)]) (st' := [.int (iI 11), .ref 534]) rfl ?_
                refine T_p xr_156_91 xn_156 (pc' := 92) (ls' := [(3, .int (iI (X_ix kn kc (ct (X_av n (X_av n c)))))), (1, .long (ct c)), (0, .ref 530)]) (st' := [.ref 530, .int (iI 11), .ref 534]) rfl ?_
                refine T_get xr_156_92 h1705 rfl (v := .int (iI (o 4))) rfl (pc' := 95) rfl ?_
                refine T_zimul xr_156_95 (z := 11 * (o 4)) rfl (pc' := 96) rfl ?_
                refine T_p xr_156_96 xn_156 (pc' := 97) (ls' := [(3, .int (iI (X_ix kn kc (ct (X_av n (X_av n c)))))), (1, .long (ct c)), (0, .ref 530)]) (st' := [.ref 530, .int (iI (11 * (o 4))), .ref 534]) rfl ?_
                refine T_get xr_156_97 h1705 rfl (v := .int (iI (o 29))) rfl (pc' := 100) rfl ?_
                refine T_ziadd xr_156_100 (z := (11 * (o 4)) + (o 29)) rfl (pc' := 101) rfl ?_
                refine T_p xr_156_101 xn_156 (pc' := 102) (ls' := [(3, .int (iI (X_ix kn kc (ct (X_av n (X_av n c)))))), (1, .long (ct c)), (0, .ref 530)]) (st' := [.long (ct c), .int (iI ((11 * (o 4)) + (o 29))), .ref 534]) rfl ?_
                have h1714 := (hf1695.1 534 (by omega)).trans (h1680)
                refine T_zlast xr_156_102 h1714 (pc' := 103) rfl (fun S1715 h1716 n1717 e1718 => ?_)
                refine T_p xr_156_103 xn_156 (pc' := 104) (ls' := [(3, .int (iI (X_ix kn kc (ct (X_av n (X_av n c)))))), (1, .long (ct c)), (0, .ref 530)]) (st' := [.ref 530]) rfl ?_
                have h1719 := (n1717 530 (by decide)).trans (h1705)
                refine T_get xr_156_104 h1719 rfl (v := .ref 536) rfl (pc' := 107) rfl ?_
                refine T_p xr_156_107 xn_156 (pc' := 109) (ls' := [(3, .int (iI (X_ix kn kc (ct (X_av n (X_av n c)))))), (1, .long (ct c)), (0, .ref 530)]) (st' := [.int (iI 11), .ref 536]) rfl ?_
                refine T_p xr_156_109 xn_156 (pc' := 110) (ls' := [(3, .int (iI (X_ix kn kc (ct (X_av n (X_av n c)))))), (1, .long (ct c)), (0, .ref 530)]) (st' := [.ref 530, .int (iI 11), .ref 536]) rfl ?_
                refine T_get xr_156_110 h1719 rfl (v := .int (iI (o 4))) rfl (pc' := 113) rfl ?_
                refine T_zimul xr_156_113 (z := 11 * (o 4)) rfl (pc' := 114) rfl ?_
                refine T_p xr_156_114 xn_156 (pc' := 115) (ls' := [(3, .int (iI (X_ix kn kc (ct (X_av n (X_av n c)))))), (1, .long (ct c)), (0, .ref 530)]) (st' := [.ref 530, .int (iI (11 * (o 4))), .ref 536]) rfl ?_
                refine T_get xr_156_115 h1719 rfl (v := .int (iI (o 29))) rfl (pc' := 118) rfl ?_
                refine T_ziadd xr_156_118 (z := (11 * (o 4)) + (o 29)) rfl (pc' := 119) rfl ?_
                refine T_p xr_156_119 xn_156 (pc' := 120) (ls' := [(3, .int (iI (X_ix kn kc (ct (X_av n (X_av n c)))))), (1, .long (ct c)), (0, .ref 530)]) (st' := [.int (iI (X_ix kn kc (ct (X_av n (X_av n c))))), .int (iI ((11 * (o 4)) + (o 29))), .ref 536]) rfl ?_
                have h1720 := (n1717 536 (by decide)).trans ((hf1695.1 536 (by omega)).trans ((hf1676.1 536 (by omega)).trans ((hf1603.1 536 (by omega)).trans (hA536))))
                refine T_ziast xr_156_120 h1720 (pc' := 121) rfl (fun S1721 h1722 n1723 e1724 => ?_)
                refine T_p xr_156_121 xn_156 (pc' := 122) (ls' := [(3, .int (iI (X_ix kn kc (ct (X_av n (X_av n c)))))), (1, .long (ct c)), (0, .ref 530)]) (st' := [.ref 530]) rfl ?_
                refine T_p xr_156_122 xn_156 (pc' := 123) (ls' := [(3, .int (iI (X_ix kn kc (ct (X_av n (X_av n c)))))), (1, .long (ct c)), (0, .ref 530)]) (st' := [.ref 530, .ref 530]) rfl ?_
                have h1725 := (n1723 530 (by decide)).trans (h1719)
                refine T_get xr_156_123 h1725 rfl (v := .int (iI (o 29))) rfl (pc' := 126) rfl ?_
                refine T_p xr_156_126 xn_156 (pc' := 127) (ls' := [(3, .int (iI (X_ix kn kc (ct (X_av n (X_av n c)))))), (1, .long (ct c)), (0, .ref 530)]) (st' := [.int (iI 1), .int (iI (o 29)), .ref 530]) rfl ?_
                refine T_ziadd xr_156_127 (z := (o 29) + 1) rfl (pc' := 128) rfl ?_
                refine T_ie (y := iI (kc + 1)) (by rw [hkc]) ?_
                refine T_put xr_156_128 h1725 rfl (Nat.le_of_ble_eq_true rfl) rfl (fs' := [.ref 531, .int (iI (o 1)), .ref 532, .int (iI (o 3)), .int (iI (o 4)), .int (iI (o 5)), .int (iI (o 6)), .int (iI at1684), .int (iI en1685), .int (iI tk1686), .int (iI nu1687), .int (iI dg1688), .long nm1689, .ref 533, .ref 534, .ref 535, .ref 536, .ref 537, .ref 538, .ref 539, .ref 540, .ref 541, .ref 542, .ref 543, .ref 544, .ref 545, .ref 546, .ref 547, .int (iI (o 28)), .int (iI (kc + 1)), .int (iI (o 30)), .int (iI (o 31)), .int (iI (o 32)), .int (iI (o 33)), .ref 548, .ref 549, .ref 550, .ref 551, .int (iI (o 38)), .ref 552, .ref 553, .ref 554, .ref 555, .ref 556, .ref 557, .ref 558, .ref 559, .ref 560, .ref 561, .int (iI (o 49)), .ref 562, .ref 563, .ref 564, .ref 565, .ref 566, .ref 567, .ref 568, .ref 569, .int (iI (o 58)), .ref 570, .ref 571, .ref 572, .ref 573, .ref 574, .ref 575, .ref 576, .ref 577, .ref 578, .int (iI (o 68)), .int (iI (o 69)), .int (iI (o 70)), .ref 579]) rfl (pc' := 131) rfl (fun S1726 h1727 n1728 e1729 => ?_)
                refine T_p xr_156_131 xn_156 (pc' := 132) (ls' := [(3, .int (iI (X_ix kn kc (ct (X_av n (X_av n c)))))), (1, .long (ct c)), (0, .ref 530)]) (st' := [.ref 530]) rfl ?_
                refine T_p xr_156_132 xn_156 (pc' := 134) (ls' := [(3, .int (iI (X_ix kn kc (ct (X_av n (X_av n c)))))), (1, .long (ct c)), (0, .ref 530)]) (st' := [.int (iI 59), .ref 530]) rfl ?_
                refine T_cv (S := S1726) (q := 530) xr_156_134 xf_148.1 xf_148.2.1 xn_148 (as := [.int (iI 59)]) (r := []) rfl h1727 (Nat.le_of_ble_eq_true rfl) (Nat.le_of_ble_eq_true rfl) (pc' := 137) rfl (ls' := [(0, .ref 530), (1, .int (iI 59))]) rfl ?_
                have h1730 := (n1728 532 (by decide)).trans ((n1723 532 (by decide)).trans ((n1717 532 (by decide)).trans ((hf1695.1 532 (by omega)).trans (h1679))))
                refine T_mono (r_must sc S1726 (X_ou (X_ou (X_ou (X_ou (X_ou (X_ou o 7 at1684) 8 en1685) 9 tk1686) 10 nu1687) 11 dg1688) 29 (kc + 1)) nm1689 tx tb len n so pl ct E (X_av n (X_av n (X_av n c))) 59 h1727 h1730 (show (o 3) = len from by first | assumption | omega) hl htx hX hp1691 (show (o 5) = 0 from by omega) (by omega)) (fun v1731 S1732 h1733 => ?_)
                rcases h1733 with ⟨at1734, en1735, tk1736, nu1737, dg1738, nm1739, hv1740, hp1741, hp1742, hM1743, hf1744⟩ | ⟨f1745, g1746, hv1747, hp1748, hp1749, hM1750, hf1751⟩
                · skip
                  rw [hv1740]
                  have h1752 : S1732.1 530 = .inr (11, [.ref 531, .int (iI (o 1)), .ref 532, .int (iI (o 3)), .int (iI (o 4)), .int (iI (o 5)), .int (iI (o 6)), .int (iI at1734), .int (iI en1735), .int (iI tk1736), .int (iI nu1737), .int (iI dg1738), .long nm1739, .ref 533, .ref 534, .ref 535, .ref 536, .ref 537, .ref 538, .ref 539, .ref 540, .ref 541, .ref 542, .ref 543, .ref 544, .ref 545, .ref 546, .ref 547, .int (iI (o 28)), .int (iI (kc + 1)), .int (iI (o 30)), .int (iI (o 31)), .int (iI (o 32)), .int (iI (o 33)), .ref 548, .ref 549, .ref 550, .ref 551, .int (iI (o 38)), .ref 552, .ref 553, .ref 554, .ref 555, .ref 556, .ref 557, .ref 558, .ref 559, .ref 560, .ref 561, .int (iI (o 49)), .ref 562, .ref 563, .ref 564, .ref 565, .ref 566, .ref 567, .ref 568, .ref 569, .int (iI (o 58)), .ref 570, .ref 571, .ref 572, .ref 573, .ref 574, .ref 575, .ref 576, .ref 577, .ref 578, .int (iI (o 68)), .int (iI (o 69)), .int (iI (o 70)), .ref 579]) := hM1743
                  obtain ⟨⟨_, _⟩, ⟨_, _⟩, hk1753, ⟨_, _⟩, hk1753e, ⟨_, _⟩, ⟨_, _⟩⟩ := R_tk_f hX hp1741
                  show X_T sc 156 (137, [(3, .int (iI (X_ix kn kc (ct (X_av n (X_av n c)))))), (1, .long (ct c)), (0, .ref 530)], [], S1732) _
                  refine T_vret xr_156_137 xf_156.2.2 ?_
                  refine hQ _ _ ?_
                  have h1755 := (hf1744.1 534 (by omega)).trans ((n1728 534 (by decide)).trans ((n1723 534 (by decide)).trans (h1716)))
                  have h1756 := (hf1744.1 536 (by omega)).trans ((n1728 536 (by decide)).trans (h1722))
                  refine Or.inl ⟨at1734, en1735, tk1736, nu1737, dg1738, nm1739, X_av n (X_av n (X_av n (X_av n c))), X_ug ab kc (X_bO (ab (X_ix kn kc (ct (X_av n (X_av n c))))) (X_bS kc)), (X_ug kN ((11 * (o 4)) + (o 29)) (ct c)), (X_ug kU ((11 * (o 4)) + (o 29)) (X_ix kn kc (ct (X_av n (X_av n c))))), rfl, hp1741, ?_, R_kd_add (by omega) (by omega) hR (by rw [hkc]), R_ob.rf.up (by omega), R_ob.rf.up (by omega), h1752, h1755, h1756, (((((((X_Fr.rf).tr (X_Fr.mono ⟨hf1603.1, hf1603.2⟩ (fun q hq => (by omega)))).tr (X_Fr.mono ⟨hf1676.1, hf1676.2⟩ (fun q hq => (by omega)))).tr (X_Fr.mono ⟨hf1695.1, hf1695.2⟩ (fun q hq => (by omega)))).tr (X_Fr.of n1717 e1718 (by omega))).tr (X_Fr.of n1723 e1724 (by omega))).tr (X_Fr.of n1728 e1729 (by omega))).tr (X_Fr.mono ⟨hf1744.1, hf1744.2⟩ (fun q hq => (by omega)))⟩
                  · simp only [sp_kind]
                    rw [← hc]
                    (repeat (first | rw [if_pos (by assumption)] | rw [if_neg (by assumption)] | rw [if_neg (by omega)] | rw [if_pos (by omega)]))
                    all_goals first | rfl | ((repeat' split) <;> first | rfl | (exfalso; omega) | contradiction)
                · skip
                  rw [hv1747]
                  have h1754 : S1732.1 530 = .inr (11, [.ref 531, .int (iI (o 1)), .ref 532, .int (iI (o 3)), .int (iI (o 4)), .int (iI f1745), .int (iI g1746), .int (iI at1684), .int (iI en1685), .int (iI tk1686), .int (iI nu1687), .int (iI dg1688), .long nm1689, .ref 533, .ref 534, .ref 535, .ref 536, .ref 537, .ref 538, .ref 539, .ref 540, .ref 541, .ref 542, .ref 543, .ref 544, .ref 545, .ref 546, .ref 547, .int (iI (o 28)), .int (iI (kc + 1)), .int (iI (o 30)), .int (iI (o 31)), .int (iI (o 32)), .int (iI (o 33)), .ref 548, .ref 549, .ref 550, .ref 551, .int (iI (o 38)), .ref 552, .ref 553, .ref 554, .ref 555, .ref 556, .ref 557, .ref 558, .ref 559, .ref 560, .ref 561, .int (iI (o 49)), .ref 562, .ref 563, .ref 564, .ref 565, .ref 566, .ref 567, .ref 568, .ref 569, .int (iI (o 58)), .ref 570, .ref 571, .ref 572, .ref 573, .ref 574, .ref 575, .ref 576, .ref 577, .ref 578, .int (iI (o 68)), .int (iI (o 69)), .int (iI (o 70)), .ref 579]) := hM1750
                  show X_T sc 156 (137, [(3, .int (iI (X_ix kn kc (ct (X_av n (X_av n c)))))), (1, .long (ct c)), (0, .ref 530)], [], S1732) _
                  refine T_vret xr_156_137 xf_156.2.2 ?_
                  refine hQ _ _ ?_
                  have h1757 := (hf1751.1 534 (by omega)).trans ((n1728 534 (by decide)).trans ((n1723 534 (by decide)).trans (h1716)))
                  have h1758 := (hf1751.1 536 (by omega)).trans ((n1728 536 (by decide)).trans (h1722))
                  refine Or.inr ⟨at1684, en1685, tk1686, nu1687, dg1688, nm1689, kc + 1, f1745, g1746, (X_ug kN ((11 * (o 4)) + (o 29)) (ct c)), (X_ug kU ((11 * (o 4)) + (o 29)) (X_ix kn kc (ct (X_av n (X_av n c))))), rfl, by omega, ?_, ?_, ?_, h1754, h1757, h1758, (((((((X_Fr.rf).tr (X_Fr.mono ⟨hf1603.1, hf1603.2⟩ (fun q hq => (by omega)))).tr (X_Fr.mono ⟨hf1676.1, hf1676.2⟩ (fun q hq => (by omega)))).tr (X_Fr.mono ⟨hf1695.1, hf1695.2⟩ (fun q hq => (by omega)))).tr (X_Fr.of n1717 e1718 (by omega))).tr (X_Fr.of n1723 e1724 (by omega))).tr (X_Fr.of n1728 e1729 (by omega))).tr (X_Fr.mono ⟨hf1751.1, hf1751.2⟩ (fun q hq => (by omega)))⟩
                  · simp only [sp_kind]
                    rw [← hc]
                    (repeat (first | rw [if_pos (by assumption)] | rw [if_neg (by assumption)] | rw [if_neg (by omega)] | rw [if_pos (by omega)]))
                    all_goals first | rfl | ((repeat' split) <;> first | rfl | (exfalso; omega) | contradiction)
                  · first | exact R_ob.rf | exact R_ob.rf.up (by omega)
                  · first | exact R_ob.rf | exact R_ob.rf.up (by omega)
              · skip
                have c1713 : ¬ ((o 5) = 0) := c1713
                exact (show False by first | contradiction | omega).elim
            · skip
              rw [hv1699]
              have h1707 : S1682.1 530 = .inr (11, [.ref 531, .int (iI (o 1)), .ref 532, .int (iI (o 3)), .int (iI (o 4)), .int (iI f1697), .int (iI g1698), .int (iI at1667), .int (iI en1668), .int (iI tk1669), .int (iI nu1670), .int (iI dg1671), .long nm1672, .ref 533, .ref 534, .ref 535, .ref 536, .ref 537, .ref 538, .ref 539, .ref 540, .ref 541, .ref 542, .ref 543, .ref 544, .ref 545, .ref 546, .ref 547, .int (iI (o 28)), .int (iI (o 29)), .int (iI (o 30)), .int (iI (o 31)), .int (iI (o 32)), .int (iI (o 33)), .ref 548, .ref 549, .ref 550, .ref 551, .int (iI (o 38)), .ref 552, .ref 553, .ref 554, .ref 555, .ref 556, .ref 557, .ref 558, .ref 559, .ref 560, .ref 561, .int (iI (o 49)), .ref 562, .ref 563, .ref 564, .ref 565, .ref 566, .ref 567, .ref 568, .ref 569, .int (iI (o 58)), .ref 570, .ref 571, .ref 572, .ref 573, .ref 574, .ref 575, .ref 576, .ref 577, .ref 578, .int (iI (o 68)), .int (iI (o 69)), .int (iI (o 70)), .ref 579]) := hM1703
              show X_T sc 156 (76, [(3, .int (iI 0)), (1, .long (ct c)), (0, .ref 530)], [.int (iI r1696)], S1682) _
              refine T_p xr_156_76 xn_156 (pc' := 77) (ls' := [(3, .int (iI r1696)), (1, .long (ct c)), (0, .ref 530)]) (st' := []) rfl ?_
              refine T_p xr_156_77 xn_156 (pc' := 78) (ls' := [(3, .int (iI r1696)), (1, .long (ct c)), (0, .ref 530)]) (st' := [.ref 530]) rfl ?_
              refine T_cv (S := S1682) (q := 530) xr_156_78 xf_140.1 xf_140.2.1 xn_140 (as := []) (r := []) rfl h1707 (Nat.le_of_ble_eq_true rfl) (Nat.le_of_ble_eq_true rfl) (pc' := 81) rfl (ls' := [(0, .ref 530)]) rfl ?_
              refine T_mono (r_isGood sc S1682 (X_ou (X_ou (X_ou (X_ou (X_ou (X_ou (X_ou o 5 f1697) 6 g1698) 7 at1667) 8 en1668) 9 tk1669) 10 nu1670) 11 dg1671) nm1672 h1707 (show 0 ≤ f1697 ∧ f1697 ≤ 5 from by omega)) (fun v1759 S1760 h1761 => ?_)
              rcases h1761 with ⟨hv1762, hf1763⟩
              rw [hv1762]
              rw [hf1763]
              show X_T sc 156 (81, [(3, .int (iI r1696)), (1, .long (ct c)), (0, .ref 530)], [.int (iI (bI (f1697 = 0)))], S1682) _
              refine T_bif_ne xr_156_81 (t := 85) (pc' := 84) rfl rfl (fun c1764 => ?_) (fun c1764 => ?_)
              · skip
                have c1764 : (f1697 = 0) := c1764
                exact (show False by first | contradiction | omega).elim
              · skip
                have c1764 : ¬ (f1697 = 0) := c1764
                refine T_vret xr_156_84 xf_156.2.2 ?_
                refine hQ _ _ ?_
                have h1765 := (hf1704.1 534 (by omega)).trans (h1680)
                have h1766 := (hf1704.1 536 (by omega)).trans ((hf1676.1 536 (by omega)).trans ((hf1603.1 536 (by omega)).trans (hA536)))
                refine Or.inr ⟨at1667, en1668, tk1669, nu1670, dg1671, nm1672, o 29, f1697, g1698, kN, kU, rfl, by omega, ?_, ?_, ?_, h1707, h1765, h1766, (((X_Fr.rf).tr (X_Fr.mono ⟨hf1603.1, hf1603.2⟩ (fun q hq => (by omega)))).tr (X_Fr.mono ⟨hf1676.1, hf1676.2⟩ (fun q hq => (by omega)))).tr (X_Fr.mono ⟨hf1704.1, hf1704.2⟩ (fun q hq => (by omega)))⟩
                · simp only [sp_kind]
                  rw [← hc]
                  (repeat (first | rw [if_pos (by assumption)] | rw [if_neg (by assumption)] | rw [if_neg (by omega)] | rw [if_pos (by omega)]))
                  all_goals first | rfl | ((repeat' split) <;> first | rfl | (exfalso; omega) | contradiction)
                · first | exact R_ob.rf | exact R_ob.rf.up (by omega)
                · first | exact R_ob.rf | exact R_ob.rf.up (by omega)
        · skip
          have c1590 : ¬ ((o 5) = 0) := c1590
          exact (show False by first | contradiction | omega).elim
      · skip
        have c1584 : ¬ ((X_ix kn kc (ct c)) < 0) := c1584
        refine T_p xr_156_30 xn_156 (pc' := 31) (ls' := [(0, .ref 530)]) (st' := [.ref 530]) rfl ?_
        refine T_p xr_156_31 xn_156 (pc' := 32) (ls' := [(0, .ref 530)]) (st' := [.int (iI 3), .ref 530]) rfl ?_
        refine T_p xr_156_32 xn_156 (pc' := 33) (ls' := [(0, .ref 530)]) (st' := [.ref 530, .int (iI 3), .ref 530]) rfl ?_
        refine T_get xr_156_33 hM rfl (v := .int (iI (o 7))) rfl (pc' := 36) rfl ?_
        refine T_cv (S := S) (q := 530) xr_156_36 xf_139.1 xf_139.2.1 xn_139 (as := [.int (iI 3), .int (iI (o 7))]) (r := []) rfl hM (Nat.le_of_ble_eq_true rfl) (Nat.le_of_ble_eq_true rfl) (pc' := 39) rfl (ls' := [(0, .ref 530), (1, .int (iI 3)), (2, .int (iI (o 7)))]) rfl ?_
        refine T_mono (r_fails sc S o nm 3 (o 7) hM (show 0 ≤ (o 5) ∧ (o 5) ≤ 5 from by omega) (by omega)) (fun v1767 S1768 h1769 => ?_)
        rcases h1769 with ⟨f1770, g1771, hv1772, hp1773, hM1774, hf1775⟩
        rw [hv1772]
        have h1776 : S1768.1 530 = .inr (11, [.ref 531, .int (iI (o 1)), .ref 532, .int (iI (o 3)), .int (iI (o 4)), .int (iI f1770), .int (iI g1771), .int (iI (o 7)), .int (iI (o 8)), .int (iI (o 9)), .int (iI (o 10)), .int (iI (o 11)), .long nm, .ref 533, .ref 534, .ref 535, .ref 536, .ref 537, .ref 538, .ref 539, .ref 540, .ref 541, .ref 542, .ref 543, .ref 544, .ref 545, .ref 546, .ref 547, .int (iI (o 28)), .int (iI (o 29)), .int (iI (o 30)), .int (iI (o 31)), .int (iI (o 32)), .int (iI (o 33)), .ref 548, .ref 549, .ref 550, .ref 551, .int (iI (o 38)), .ref 552, .ref 553, .ref 554, .ref 555, .ref 556, .ref 557, .ref 558, .ref 559, .ref 560, .ref 561, .int (iI (o 49)), .ref 562, .ref 563, .ref 564, .ref 565, .ref 566, .ref 567, .ref 568, .ref 569, .int (iI (o 58)), .ref 570, .ref 571, .ref 572, .ref 573, .ref 574, .ref 575, .ref 576, .ref 577, .ref 578, .int (iI (o 68)), .int (iI (o 69)), .int (iI (o 70)), .ref 579]) := hM1774
        have hp1773 : ((o 5) = 0 → f1770 = 3) ∧ (¬ (o 5) = 0 → f1770 = (o 5)) := hp1773
        have hf1777 : f1770 = 3 := hp1773.1 h5
        show X_T sc 156 (39, [(0, .ref 530)], [], S1768) _
        refine T_p xr_156_39 xn_156 (pc' := 40) (ls' := [(0, .ref 530)]) (st' := [.ref 530]) rfl ?_
        refine T_cv (S := S1768) (q := 530) xr_156_40 xf_140.1 xf_140.2.1 xn_140 (as := []) (r := []) rfl h1776 (Nat.le_of_ble_eq_true rfl) (Nat.le_of_ble_eq_true rfl) (pc' := 43) rfl (ls' := [(0, .ref 530)]) rfl ?_
        refine T_mono (r_isGood sc S1768 (X_ou (X_ou o 5 f1770) 6 g1771) nm h1776 (show 0 ≤ f1770 ∧ f1770 ≤ 5 from by omega)) (fun v1778 S1779 h1780 => ?_)
        rcases h1780 with ⟨hv1781, hf1782⟩
        rw [hv1781]
        rw [hf1782]
        show X_T sc 156 (43, [(0, .ref 530)], [.int (iI (bI (f1770 = 0)))], S1768) _
        refine T_bif_ne xr_156_43 (t := 47) (pc' := 46) rfl rfl (fun c1783 => ?_) (fun c1783 => ?_)
        · skip
          have c1783 : (f1770 = 0) := c1783
          exact (show False by first | contradiction | omega).elim
        · skip
          have c1783 : ¬ (f1770 = 0) := c1783
          refine T_vret xr_156_46 xf_156.2.2 ?_
          refine hQ _ _ ?_
          have h1784 := (hf1775.1 534 (by omega)).trans (hA534)
          have h1785 := (hf1775.1 536 (by omega)).trans (hA536)
          refine Or.inr ⟨o 7, o 8, o 9, o 10, o 11, nm, o 29, f1770, g1771, kN, kU, rfl, by omega, ?_, ?_, ?_, h1776, h1784, h1785, (X_Fr.rf).tr (X_Fr.mono ⟨hf1775.1, hf1775.2⟩ (fun q hq => (by omega)))⟩
          · simp only [sp_kind]
            rw [← hc]
            (repeat (first | rw [if_pos (by assumption)] | rw [if_neg (by assumption)] | rw [if_neg (by omega)] | rw [if_pos (by omega)]))
            all_goals first | rfl | ((repeat' split) <;> first | rfl | (exfalso; omega) | contradiction)
          · first | exact R_ob.rf | exact R_ob.rf.up (by omega)
          · first | exact R_ob.rf | exact R_ob.rf.up (by omega)
  · skip
    have c1571 : ¬ ((o 9) = 2) := c1571
    refine T_p xr_156_8 xn_156 (pc' := 9) (ls' := [(0, .ref 530)]) (st' := [.ref 530]) rfl ?_
    refine T_cv (S := S) (q := 530) xr_156_9 xf_147.1 xf_147.2.1 xn_147 (as := []) (r := []) rfl hM (Nat.le_of_ble_eq_true rfl) (Nat.le_of_ble_eq_true rfl) (pc' := 12) rfl (ls' := [(0, .ref 530)]) rfl ?_
    refine T_mono (r_wrong sc S o nm tx tb len n so pl ct E c hM hA532 (show (o 3) = len from by first | assumption | omega) hl htx hX hT (show 0 ≤ (o 5) ∧ (o 5) ≤ 5 from by omega)) (fun v1786 S1787 h1788 => ?_)
    rcases h1788 with ⟨f1789, g1790, hv1791, hp1792, hM1793, hf1794⟩
    rw [hv1791]
    have h1795 : S1787.1 530 = .inr (11, [.ref 531, .int (iI (o 1)), .ref 532, .int (iI (o 3)), .int (iI (o 4)), .int (iI f1789), .int (iI g1790), .int (iI (o 7)), .int (iI (o 8)), .int (iI (o 9)), .int (iI (o 10)), .int (iI (o 11)), .long nm, .ref 533, .ref 534, .ref 535, .ref 536, .ref 537, .ref 538, .ref 539, .ref 540, .ref 541, .ref 542, .ref 543, .ref 544, .ref 545, .ref 546, .ref 547, .int (iI (o 28)), .int (iI (o 29)), .int (iI (o 30)), .int (iI (o 31)), .int (iI (o 32)), .int (iI (o 33)), .ref 548, .ref 549, .ref 550, .ref 551, .int (iI (o 38)), .ref 552, .ref 553, .ref 554, .ref 555, .ref 556, .ref 557, .ref 558, .ref 559, .ref 560, .ref 561, .int (iI (o 49)), .ref 562, .ref 563, .ref 564, .ref 565, .ref 566, .ref 567, .ref 568, .ref 569, .int (iI (o 58)), .ref 570, .ref 571, .ref 572, .ref 573, .ref 574, .ref 575, .ref 576, .ref 577, .ref 578, .int (iI (o 68)), .int (iI (o 69)), .int (iI (o 70)), .ref 579]) := hM1793
    show X_T sc 156 (12, [(0, .ref 530)], [], S1787) _
    refine T_p xr_156_12 xn_156 (pc' := 13) (ls' := [(0, .ref 530)]) (st' := [.ref 530]) rfl ?_
    refine T_cv (S := S1787) (q := 530) xr_156_13 xf_140.1 xf_140.2.1 xn_140 (as := []) (r := []) rfl h1795 (Nat.le_of_ble_eq_true rfl) (Nat.le_of_ble_eq_true rfl) (pc' := 16) rfl (ls' := [(0, .ref 530)]) rfl ?_
    refine T_mono (r_isGood sc S1787 (X_ou (X_ou o 5 f1789) 6 g1790) nm h1795 (show 0 ≤ f1789 ∧ f1789 ≤ 5 from by omega)) (fun v1796 S1797 h1798 => ?_)
    rcases h1798 with ⟨hv1799, hf1800⟩
    rw [hv1799]
    rw [hf1800]
    show X_T sc 156 (16, [(0, .ref 530)], [.int (iI (bI (f1789 = 0)))], S1787) _
    refine T_bif_eq xr_156_16 (t := 39) (pc' := 19) rfl rfl (fun c1801 => ?_) (fun c1801 => ?_)
    · skip
      have c1801 : ¬ (f1789 = 0) := c1801
      refine T_p xr_156_39 xn_156 (pc' := 40) (ls' := [(0, .ref 530)]) (st' := [.ref 530]) rfl ?_
      refine T_cv (S := S1787) (q := 530) xr_156_40 xf_140.1 xf_140.2.1 xn_140 (as := []) (r := []) rfl h1795 (Nat.le_of_ble_eq_true rfl) (Nat.le_of_ble_eq_true rfl) (pc' := 43) rfl (ls' := [(0, .ref 530)]) rfl ?_
      refine T_mono (r_isGood sc S1787 (X_ou (X_ou o 5 f1789) 6 g1790) nm h1795 (show 0 ≤ f1789 ∧ f1789 ≤ 5 from by omega)) (fun v1802 S1803 h1804 => ?_)
      rcases h1804 with ⟨hv1805, hf1806⟩
      rw [hv1805]
      rw [hf1806]
      show X_T sc 156 (43, [(0, .ref 530)], [.int (iI (bI (f1789 = 0)))], S1787) _
      refine T_bif_ne xr_156_43 (t := 47) (pc' := 46) rfl rfl (fun c1807 => ?_) (fun c1807 => ?_)
      · skip
        have c1807 : (f1789 = 0) := c1807
        exact (show False by first | contradiction | omega).elim
      · skip
        have c1807 : ¬ (f1789 = 0) := c1807
        refine T_vret xr_156_46 xf_156.2.2 ?_
        refine hQ _ _ ?_
        have h1808 := (hf1794.1 534 (by omega)).trans (hA534)
        have h1809 := (hf1794.1 536 (by omega)).trans (hA536)
        refine Or.inr ⟨o 7, o 8, o 9, o 10, o 11, nm, o 29, f1789, g1790, kN, kU, rfl, by omega, ?_, ?_, ?_, h1795, h1808, h1809, (X_Fr.rf).tr (X_Fr.mono ⟨hf1794.1, hf1794.2⟩ (fun q hq => (by omega)))⟩
        · simp only [sp_kind]
          rw [← hc]
          (repeat (first | rw [if_pos (by assumption)] | rw [if_neg (by assumption)] | rw [if_neg (by omega)] | rw [if_pos (by omega)]))
          all_goals first | rfl | ((repeat' split) <;> first | rfl | (exfalso; omega) | contradiction)
        · first | exact R_ob.rf | exact R_ob.rf.up (by omega)
        · first | exact R_ob.rf | exact R_ob.rf.up (by omega)
    · skip
      have c1801 : (f1789 = 0) := c1801
      exact (show False by first | contradiction | omega).elim
