theorem xr_61_0 : X_row 61 0 = some (0, (.aload_n 0, 1), (0, 0, 0)) := by decide +kernel
theorem xr_61_1 : X_row 61 1 = some (1, (.aload_n 1, 1), (0, 0, 0)) := by decide +kernel
theorem xr_61_2 : X_row 61 2 = some (2, (.putfield 27, 3), (4, 1, 20)) := by decide +kernel
theorem xr_61_5 : X_row 61 5 = some (5, (.aload_n 0, 1), (0, 0, 0)) := by decide +kernel
theorem xr_61_6 : X_row 61 6 = some (6, (.getfield 27, 3), (4, 1, 20)) := by decide +kernel
theorem xr_61_9 : X_row 61 9 = some (9, (.invokevirtual 31, 3), (1, 2, 0)) := by decide +kernel
theorem xr_61_12 : X_row 61 12 = some (12, (.aload_n 0, 1), (0, 0, 0)) := by decide +kernel
theorem xr_61_13 : X_row 61 13 = some (13, (.iconst 0, 1), (0, 0, 0)) := by decide +kernel
theorem xr_61_14 : X_row 61 14 = some (14, (.putfield 9, 3), (4, 2, 22)) := by decide +kernel
theorem xr_61_17 : X_row 61 17 = some (17, (.aload_n 0, 1), (0, 0, 0)) := by decide +kernel
theorem xr_61_18 : X_row 61 18 = some (18, (.iconst (-1), 1), (0, 0, 0)) := by decide +kernel
theorem xr_61_19 : X_row 61 19 = some (19, (.putfield 15, 3), (4, 3, 24)) := by decide +kernel
theorem xr_61_22 : X_row 61 22 = some (22, (.aload_n 0, 1), (0, 0, 0)) := by decide +kernel
theorem xr_61_23 : X_row 61 23 = some (23, (.getfield 23, 3), (4, 0, 18)) := by decide +kernel
theorem xr_61_26 : X_row 61 26 = some (26, (.invokevirtual 36, 3), (49, 4, 0)) := by decide +kernel
theorem xr_61_29 : X_row 61 29 = some (29, (.iconst 0, 1), (0, 0, 0)) := by decide +kernel
theorem xr_61_30 : X_row 61 30 = some (30, (.istore_n 2, 1), (0, 0, 0)) := by decide +kernel
theorem xr_61_31 : X_row 61 31 = some (31, (.iload_n 2, 1), (0, 0, 0)) := by decide +kernel
theorem xr_61_32 : X_row 61 32 = some (32, (.sipush 2000, 3), (0, 0, 0)) := by decide +kernel
theorem xr_61_35 : X_row 61 35 = some (35, (.if_icmp .gt 110, 3), (0, 0, 0)) := by decide +kernel
theorem xr_61_38 : X_row 61 38 = some (38, (.aload_n 0, 1), (0, 0, 0)) := by decide +kernel
theorem xr_61_39 : X_row 61 39 = some (39, (.getfield 9, 3), (4, 2, 22)) := by decide +kernel
theorem xr_61_42 : X_row 61 42 = some (42, (.ifCond .ne 103, 3), (0, 0, 0)) := by decide +kernel
theorem xr_61_45 : X_row 61 45 = some (45, (.aload_n 0, 1), (0, 0, 0)) := by decide +kernel
theorem xr_61_46 : X_row 61 46 = some (46, (.getfield 23, 3), (4, 0, 18)) := by decide +kernel
theorem xr_61_49 : X_row 61 49 = some (49, (.invokevirtual 39, 3), (44, 6, 0)) := by decide +kernel
theorem xr_61_52 : X_row 61 52 = some (52, (.ifCond .eq 93, 3), (0, 0, 0)) := by decide +kernel
theorem xr_61_55 : X_row 61 55 = some (55, (.aload_n 0, 1), (0, 0, 0)) := by decide +kernel
theorem xr_61_56 : X_row 61 56 = some (56, (.getfield 23, 3), (4, 0, 18)) := by decide +kernel
theorem xr_61_59 : X_row 61 59 = some (59, (.ldc2_w 43, 3), (1918987883, 514, 0)) := by decide +kernel
theorem xr_61_62 : X_row 61 62 = some (62, (.invokevirtual 45, 3), (47, 8, 0)) := by decide +kernel
theorem xr_61_65 : X_row 61 65 = some (65, (.ifCond .eq 10, 3), (0, 0, 0)) := by decide +kernel
theorem xr_61_68 : X_row 61 68 = some (68, (.aload_n 0, 1), (0, 0, 0)) := by decide +kernel
theorem xr_61_69 : X_row 61 69 = some (69, (.invokevirtual 49, 3), (65, 10, 0)) := by decide +kernel
theorem xr_61_72 : X_row 61 72 = some (72, (.goto 67, 3), (0, 0, 0)) := by decide +kernel
theorem xr_61_75 : X_row 61 75 = some (75, (.aload_n 0, 1), (0, 0, 0)) := by decide +kernel
theorem xr_61_76 : X_row 61 76 = some (76, (.getfield 23, 3), (4, 0, 18)) := by decide +kernel
theorem xr_61_79 : X_row 61 79 = some (79, (.ldc2_w 52, 3), (32766990153442674, 560, 0)) := by decide +kernel
theorem xr_61_82 : X_row 61 82 = some (82, (.invokevirtual 45, 3), (47, 8, 0)) := by decide +kernel
theorem xr_61_85 : X_row 61 85 = some (85, (.ifCond .eq 10, 3), (0, 0, 0)) := by decide +kernel
theorem xr_61_88 : X_row 61 88 = some (88, (.aload_n 0, 1), (0, 0, 0)) := by decide +kernel
theorem xr_61_89 : X_row 61 89 = some (89, (.invokevirtual 54, 3), (66, 28, 0)) := by decide +kernel
theorem xr_61_92 : X_row 61 92 = some (92, (.goto 47, 3), (0, 0, 0)) := by decide +kernel
theorem xr_61_95 : X_row 61 95 = some (95, (.aload_n 0, 1), (0, 0, 0)) := by decide +kernel
theorem xr_61_96 : X_row 61 96 = some (96, (.getfield 23, 3), (4, 0, 18)) := by decide +kernel
theorem xr_61_99 : X_row 61 99 = some (99, (.ldc2_w 57, 3), (1802071652, 585, 0)) := by decide +kernel
theorem xr_61_102 : X_row 61 102 = some (102, (.invokevirtual 45, 3), (47, 8, 0)) := by decide +kernel
theorem xr_61_105 : X_row 61 105 = some (105, (.ifCond .eq 10, 3), (0, 0, 0)) := by decide +kernel
theorem xr_61_108 : X_row 61 108 = some (108, (.aload_n 0, 1), (0, 0, 0)) := by decide +kernel
theorem xr_61_109 : X_row 61 109 = some (109, (.invokevirtual 59, 3), (67, 38, 0)) := by decide +kernel
theorem xr_61_112 : X_row 61 112 = some (112, (.goto 27, 3), (0, 0, 0)) := by decide +kernel
theorem xr_61_115 : X_row 61 115 = some (115, (.aload_n 0, 1), (0, 0, 0)) := by decide +kernel
theorem xr_61_116 : X_row 61 116 = some (116, (.getfield 23, 3), (4, 0, 18)) := by decide +kernel
theorem xr_61_119 : X_row 61 119 = some (119, (.ldc2_w 62, 3), (2003792484, 607, 0)) := by decide +kernel
theorem xr_61_122 : X_row 61 122 = some (122, (.invokevirtual 45, 3), (47, 8, 0)) := by decide +kernel
theorem xr_61_125 : X_row 61 125 = some (125, (.ifCond .eq 10, 3), (0, 0, 0)) := by decide +kernel
theorem xr_61_128 : X_row 61 128 = some (128, (.aload_n 0, 1), (0, 0, 0)) := by decide +kernel
theorem xr_61_129 : X_row 61 129 = some (129, (.invokevirtual 64, 3), (71, 46, 0)) := by decide +kernel
theorem xr_61_132 : X_row 61 132 = some (132, (.goto 7, 3), (0, 0, 0)) := by decide +kernel
theorem xr_61_135 : X_row 61 135 = some (135, (.aload_n 0, 1), (0, 0, 0)) := by decide +kernel
theorem xr_61_136 : X_row 61 136 = some (136, (.invokevirtual 67, 3), (63, 12, 0)) := by decide +kernel
theorem xr_61_139 : X_row 61 139 = some (139, (.iinc 2 1, 3), (0, 0, 0)) := by decide +kernel
theorem xr_61_142 : X_row 61 142 = some (142, (.goto (-111), 3), (0, 0, 0)) := by decide +kernel
theorem xr_61_145 : X_row 61 145 = some (145, (.aload_n 0, 1), (0, 0, 0)) := by decide +kernel
theorem xr_61_146 : X_row 61 146 = some (146, (.getfield 9, 3), (4, 2, 22)) := by decide +kernel
theorem xr_61_149 : X_row 61 149 = some (149, (.ifCond .eq 5, 3), (0, 0, 0)) := by decide +kernel
theorem xr_61_152 : X_row 61 152 = some (152, (.iconst 0, 1), (0, 0, 0)) := by decide +kernel
theorem xr_61_153 : X_row 61 153 = some (153, (.ireturn, 1), (0, 0, 0)) := by decide +kernel
theorem xr_61_154 : X_row 61 154 = some (154, (.aload_n 0, 1), (0, 0, 0)) := by decide +kernel
theorem xr_61_155 : X_row 61 155 = some (155, (.getfield 27, 3), (4, 1, 20)) := by decide +kernel
theorem xr_61_158 : X_row 61 158 = some (158, (.invokevirtual 70, 3), (15, 72, 0)) := by decide +kernel
theorem xr_61_161 : X_row 61 161 = some (161, (.iconst 1, 1), (0, 0, 0)) := by decide +kernel
theorem xr_61_162 : X_row 61 162 = some (162, (.ireturn, 1), (0, 0, 0)) := by decide +kernel
theorem xn_61 : X_nL 61 = 3 := by decide +kernel
theorem xf_61 : X_na 61 = 1 ∧ X_ci 61 = 4 ∧ X_rt 61 = (some .boolean) := by decide +kernel
/-- how many holes stand ahead of an element -/
def X_hc (q : Int → Int64) : Nat → Int
  | 0 => 0
  | n + 1 => X_hc q n + (if q (n : Int) = 0 then 1 else 0)
def X_hn (q : Int → Int64) (e : Int) : Int := X_hc q e.toNat
theorem X_hn_s {q : Int → Int64} {e : Int} (h : 0 ≤ e) : X_hn q (e + 1) = X_hn q e + (if q e = 0 then 1 else 0) := by
  unfold X_hn
  rw [show (e + 1).toNat = e.toNat + 1 by omega]
  show X_hc q e.toNat + (if q (e.toNat : Int) = 0 then 1 else 0) = _
  rw [show (e.toNat : Int) = e by omega]
theorem X_hc_c {q q' : Int → Int64} : ∀ n : Nat, (∀ k : Int, 0 ≤ k → k < n → q k = q' k) → X_hc q n = X_hc q' n := by
  intro n
  induction n with
  | zero => intro _; rfl
  | succ n ih =>
    intro h
    show X_hc q n + _ = X_hc q' n + _
    rw [ih (fun k h1 h2 => h k h1 (by omega)), h (n : Int) (by omega) (by omega)]
theorem X_hn_c {q q' : Int → Int64} {e : Int} (h : ∀ k, 0 ≤ k → k < e → q k = q' k) : X_hn q e = X_hn q' e := X_hc_c e.toNat (fun k h1 h2 => h k h1 (by omega))
theorem X_hc_m {q : Int → Int64} : ∀ n m : Nat, X_hc q n ≤ X_hc q (n + m) := by
  intro n m
  induction m with
  | zero => exact Int.le_refl _
  | succ m ih =>
    show _ ≤ X_hc q (n + m) + (if q ((n + m : Nat) : Int) = 0 then 1 else 0)
    split <;> omega
theorem X_hn_m {q : Int → Int64} {a b : Int} (h1 : a ≤ b) : X_hn q a ≤ X_hn q b := by
  unfold X_hn
  have := X_hc_m (q := q) a.toNat (b.toNat - a.toNat)
  rw [show a.toNat + (b.toNat - a.toNat) = b.toNat by omega] at this
  exact this
theorem X_hn_l {q : Int → Int64} {a b : Int} (h0 : 0 ≤ a) (h1 : a < b) (h : q a = 0) : X_hn q a < X_hn q b := by
  have h2 := X_hn_m (q := q) (a := a + 1) (b := b) (by omega)
  rw [X_hn_s h0, if_pos h] at h2
  omega
theorem X_hc_b {q : Int → Int64} : ∀ n : Nat, 0 ≤ X_hc q n ∧ X_hc q n ≤ n := by
  intro n
  induction n with
  | zero => exact ⟨Int.le_refl _, Int.le_refl _⟩
  | succ n ih =>
    show 0 ≤ X_hc q n + (if q (n : Int) = 0 then 1 else 0) ∧ X_hc q n + (if q (n : Int) = 0 then 1 else 0) ≤ ((n + 1 : Nat) : Int)
    split <;> omega
theorem X_hn_b {q : Int → Int64} {e : Int} (h : 0 ≤ e) : 0 ≤ X_hn q e ∧ X_hn q e ≤ e := by
  have := X_hc_b (q := q) e.toNat
  unfold X_hn
  omega
/-- a word's elements are told rightly -/
def X_eok (kc : Int) (d : Nat → Int → Int) (q : Int → Int64) : Prop := (0 ≤ d 3 0 ∧ d 3 0 ≤ 8) ∧ d 4 0 = X_hn q (d 3 0) ∧ (∀ e, 0 ≤ e → e < d 3 0 → q e = 0 → d 8 e = X_hn q e) ∧ (∀ h, 0 ≤ h → h < d 4 0 → 0 ≤ d 9 h ∧ d 9 h < kc)
theorem X_eok_P {kc : Int} {d : Nat → Int → Int} {q : Int → Int64} {t : Int64} (h : X_eok kc d q) (h3 : d 3 0 < 8) (ht : ¬ t = 0) : X_eok kc (X_aP d) (X_ug q (d 3 0) t) := by
  obtain ⟨⟨a1, a1b⟩, a2, a3, a4⟩ := h
  have hc : X_hn q (d 3 0) = X_hn (X_ug q (d 3 0) t) (d 3 0) := X_hn_c (fun k h1 h2 => (X_ug_n _ _ (by omega)).symm)
  refine ⟨⟨show 0 ≤ d 3 0 + 1 by omega, show d 3 0 + 1 ≤ 8 by omega⟩, ?_, ?_, a4⟩
  · show d 4 0 = X_hn _ (d 3 0 + 1)
    rw [X_hn_s a1, X_ug_s, if_neg ht, ← hc]
    omega
  · intro e h1 h2 he
    have h2 : e < d 3 0 + 1 := h2
    by_cases hk : e = d 3 0
    · subst hk
      rw [X_ug_s] at he
      exact absurd he ht
    · rw [X_ug_n _ _ hk] at he
      show d 8 e = _
      rw [a3 e h1 (by omega) he]
      exact X_hn_c (fun k g1 g2 => (X_ug_n _ _ (by omega)).symm)
theorem X_eok_H {kc k : Int} {d : Nat → Int → Int} {q : Int → Int64} (h : X_eok kc d q) (h3 : d 3 0 < 8) (hk : 0 ≤ k ∧ k < kc) : X_eok kc (X_aH d k) (X_ug q (d 3 0) 0) := by
  obtain ⟨⟨a1, a1b⟩, a2, a3, a4⟩ := h
  have hc : X_hn q (d 3 0) = X_hn (X_ug q (d 3 0) 0) (d 3 0) := X_hn_c (fun k h1 h2 => (X_ug_n _ _ (by omega)).symm)
  refine ⟨⟨show 0 ≤ d 3 0 + 1 by omega, show d 3 0 + 1 ≤ 8 by omega⟩, ?_, ?_, ?_⟩
  · show d 4 0 + 1 = X_hn _ (d 3 0 + 1)
    rw [X_hn_s a1, X_ug_s, if_pos rfl, ← hc]
    omega
  · intro e h1 h2 he
    have h2 : e < d 3 0 + 1 := h2
    show X_ug (d 8) (d 3 0) (d 4 0) e = _
    by_cases hk : e = d 3 0
    · subst hk
      rw [X_ug_s, a2]
      exact hc
    · rw [X_ug_n _ _ hk] at he ⊢
      rw [a3 e h1 (by omega) he]
      exact X_hn_c (fun k g1 g2 => (X_ug_n _ _ (by omega)).symm)
  · intro h h1 h2
    have h2 : h < d 4 0 + 1 := h2
    show 0 ≤ X_ug (d 9) (d 4 0) k h ∧ X_ug (d 9) (d 4 0) k h < kc
    by_cases hh : h = d 4 0
    · subst hh
      rw [X_ug_s]
      exact hk
    · rw [X_ug_n _ _ hh]
      exact a4 h h1 (by omega)
theorem X_ix_r {g : Int → Int64} {n : Int} {x : Int64} (hn : 0 ≤ n) : -1 ≤ X_ix g n x ∧ X_ix g n x < n := by
  unfold X_ix
  split
  · rename_i h
    exact X_Ix_r hn (Classical.choose_spec h)
  · omega
theorem sp_el_ok {n : Int} {so : Int → Int} {ct : Int → Int64} {kn : Int → Int64} {kc : Int} (hkc : 1 ≤ kc) (hct : ∀ i, 0 ≤ i → i < n → so i = 6 → ¬ ct i = 0) : ∀ (k : Nat) (c : Int) (d : Nat → Int → Int) (q : Int → Int64) (r : Int × (Nat → Int → Int) × (Int → Int64)), (0 ≤ c ∧ c < n) → sp_el n so ct kn kc k c d q = some r → X_eok kc d q → X_eok kc r.2.1 r.2.2 ∧ (∀ f, f ≠ 3 → f ≠ 4 → f ≠ 8 → f ≠ 9 → r.2.1 f = d f) ∧ (so r.1 = 61 ∨ so r.1 = 59) ∧ (0 ≤ r.1 ∧ r.1 < n) := by
  intro k
  induction k with
  | zero => intro c d q r hcr h; cases h
  | succ k ih =>
    intro c d q r hcr h ho
    unfold sp_el at h
    split at h
    · cases h; exact ⟨ho, fun _ _ _ _ _ => rfl, Or.inl (by assumption), hcr⟩
    · split at h
      · cases h; exact ⟨ho, fun _ _ _ _ _ => rfl, Or.inr (by assumption), hcr⟩
      · split at h
        · rename_i h6
          obtain ⟨b1, b2, b3⟩ := ih _ _ _ _ (X_av_r hcr) h (X_eok_P ho h6.2 (hct _ hcr.1 hcr.2 h6.1))
          refine ⟨b1, fun f f1 f2 f3 f4 => (b2 f f1 f2 f3 f4).trans ?_, b3⟩
          unfold X_aP X_wu
          rw [if_neg f1]
        · split at h
          · rename_i h6
            have key : ∀ kk, (∀ f, f ≠ 3 → f ≠ 4 → f ≠ 8 → f ≠ 9 → X_aH d kk f = d f) := fun kk f f1 f2 f3 f4 => by
              unfold X_aH X_wu
              rw [if_neg f2, if_neg f1, if_neg f4, if_neg f3]
            split at h
            · split at h
              · cases h
              · rename_i h7
                have hr := X_ix_r (g := kn) (n := kc) (x := ct (X_av n c)) (by omega)
                obtain ⟨b1, b2, b3⟩ := ih _ _ _ _ (X_av_r (X_av_r hcr)) h (X_eok_H ho h6.2.1 (by omega))
                exact ⟨b1, fun f f1 f2 f3 f4 => (b2 f f1 f2 f3 f4).trans (key _ f f1 f2 f3 f4), b3⟩
            · obtain ⟨b1, b2, b3⟩ := ih _ _ _ _ (X_av_r hcr) h (X_eok_H ho h6.2.1 (by omega))
              exact ⟨b1, fun f f1 f2 f3 f4 => (b2 f f1 f2 f3 f4).trans (key _ f f1 f2 f3 f4), b3⟩
          · cases h
/-- the pile's height behind so many steps -/
noncomputable def X_ph (s : Int → Int) : Nat → Int
  | 0 => 0
  | k + 1 => X_ph s k + @ite Int (X_isOp (s (k : Int))) (Classical.propDecidable _) (-1) 1
theorem X_ph_c {s s' : Int → Int} : ∀ n : Nat, (∀ k : Int, 0 ≤ k → k < n → s k = s' k) → X_ph s n = X_ph s' n := by
  intro n
  induction n with
  | zero => intro _; rfl
  | succ n ih =>
    intro h
    show X_ph s n + _ = X_ph s' n + _
    rw [ih (fun k h1 h2 => h k h1 (by omega)), h (n : Int) (by omega) (by omega)]
/-- the steps that are told are sound -/
def X_st1 (ho : Int) (s y : Int → Int) (k : Int) : Prop := (X_isOp (s k) ∧ 2 ≤ X_ph s k.toNat ∧ X_ph s k.toNat ≤ 16) ∨ (¬ X_isOp (s k) ∧ (s k = 4 ∨ (s k = 64 ∧ 1 ≤ y k ∧ y k ≤ ho)) ∧ 0 ≤ X_ph s k.toNat ∧ X_ph s k.toNat < 16)
def X_sok (d : Nat → Int → Int) : Prop := 0 ≤ d 5 0 ∧ (0 ≤ X_ph (d 12) (d 5 0).toNat ∧ X_ph (d 12) (d 5 0).toNat ≤ 16) ∧ ∀ k, 0 ≤ k → k < d 5 0 → X_st1 (d 4 0) (d 12) (d 13) k
theorem X_sok_S {d : Nat → Int → Int} {s v : Int} (h : X_sok d) (hs : (X_isOp s ∧ 2 ≤ X_ph (d 12) (d 5 0).toNat) ∨ (¬ X_isOp s ∧ (s = 4 ∨ (s = 64 ∧ 1 ≤ v ∧ v ≤ d 4 0)) ∧ X_ph (d 12) (d 5 0).toNat < 16)) :
    X_sok (X_aS d s v) ∧ X_ph (X_aS d s v 12) (d 5 0 + 1).toNat = X_ph (d 12) (d 5 0).toNat + @ite Int (X_isOp s) (Classical.propDecidable _) (-1) 1 := by
  obtain ⟨a1, a2, a3⟩ := h
  have e12 : X_aS d s v 12 = X_ug (d 12) (d 5 0) s := rfl
  have e13 : X_aS d s v 13 = X_ug (d 13) (d 5 0) v := rfl
  have e5 : X_aS d s v 5 0 = d 5 0 + 1 := rfl
  have e4 : X_aS d s v 4 0 = d 4 0 := rfl
  have hp : ∀ k : Nat, (k : Int) ≤ d 5 0 → X_ph (X_ug (d 12) (d 5 0) s) k = X_ph (d 12) k := fun k hk => X_ph_c k (fun i h1 h2 => X_ug_n _ _ (by omega))
  have hn : X_ph (X_aS d s v 12) (d 5 0 + 1).toNat = X_ph (d 12) (d 5 0).toNat + @ite Int (X_isOp s) (Classical.propDecidable _) (-1) 1 := by
    rw [e12, show (d 5 0 + 1).toNat = (d 5 0).toNat + 1 by omega]
    show X_ph (X_ug (d 12) (d 5 0) s) (d 5 0).toNat + @ite Int (X_isOp (X_ug (d 12) (d 5 0) s ((d 5 0).toNat : Int))) (Classical.propDecidable _) (-1) 1 = _
    rw [hp _ (by omega), show ((d 5 0).toNat : Int) = d 5 0 by omega, X_ug_s]
  refine ⟨⟨by rw [e5]; omega, ?_, ?_⟩, hn⟩
  · rw [e5, hn]
    rcases hs with ⟨h1, h2⟩ | ⟨h1, -, h2⟩
    · rw [if_pos h1]; omega
    · rw [if_neg h1]; omega
  · intro k h1 h2
    rw [e5] at h2
    rw [e12, e13, e4]
    unfold X_st1
    rw [hp _ (by omega)]
    by_cases hk : k = d 5 0
    · subst hk
      rw [X_ug_s, X_ug_s]
      rcases hs with ⟨g1, g2⟩ | ⟨g1, g3, g2⟩
      · exact Or.inl ⟨g1, g2, a2.2⟩
      · exact Or.inr ⟨g1, g3, a2.1, g2⟩
    · rw [X_ug_n _ _ hk, X_ug_n _ _ hk]
      exact a3 k h1 (by omega)
theorem sp_step_ok {n : Int} {so : Int → Int} {ct : Int → Int64} {c : Int} {d : Nat → Int → Int} {pile : Int} {r : Int × (Nat → Int → Int) × Int} (hcr : 0 ≤ c ∧ c < n) (h : sp_step n so ct c d pile = some r) (ho : X_sok d) (hp : pile = X_ph (d 12) (d 5 0).toNat) :
    X_sok r.2.1 ∧ r.2.2 = X_ph (r.2.1 12) (r.2.1 5 0).toNat ∧ (∀ f, f ≠ 5 → f ≠ 12 → f ≠ 13 → r.2.1 f = d f) ∧ r.2.1 5 0 = d 5 0 + 1 ∧ (0 ≤ r.1 ∧ r.1 < n) := by
  have h16 := ho.2.1
  have key : ∀ c s v, (0 ≤ c ∧ c < n) → (s = 4 ∨ s = 64 ∨ X_isOp s) → sp_stF n c s v d pile = some r → X_sok r.2.1 ∧ r.2.2 = X_ph (r.2.1 12) (r.2.1 5 0).toNat ∧ (∀ f, f ≠ 5 → f ≠ 12 → f ≠ 13 → r.2.1 f = d f) ∧ r.2.1 5 0 = d 5 0 + 1 ∧ (0 ≤ r.1 ∧ r.1 < n) := by
    intro c s v hcr hsv h
    unfold sp_stF at h
    by_cases h1 : s = 64 ∧ (v < 1 ∨ d 4 0 < v)
    · rw [if_pos h1] at h; cases h
    · rw [if_neg h1] at h
      by_cases h2 : ¬ X_isOp s ∧ pile = 16
      · rw [if_pos h2] at h; cases h
      · rw [if_neg h2] at h
        by_cases h3 : X_isOp s ∧ pile < 2
        · rw [if_pos h3] at h; cases h
        · rw [if_neg h3] at h
          cases h
          have key2 : (X_isOp s ∧ 2 ≤ X_ph (d 12) (d 5 0).toNat) ∨ (¬ X_isOp s ∧ (s = 4 ∨ (s = 64 ∧ 1 ≤ v ∧ v ≤ d 4 0)) ∧ X_ph (d 12) (d 5 0).toNat < 16) := by
            by_cases h4 : X_isOp s
            · exact Or.inl ⟨h4, by have : ¬ pile < 2 := fun z => h3 ⟨h4, z⟩; omega⟩
            · refine Or.inr ⟨h4, ?_, by have : ¬ pile = 16 := fun z => h2 ⟨h4, z⟩; omega⟩
              rcases hsv with h5 | h5 | h5
              · exact Or.inl h5
              · exact Or.inr ⟨h5, by omega⟩
              · exact absurd h5 h4
          obtain ⟨b1, b2⟩ := X_sok_S ho key2
          refine ⟨b1, ?_, ?_, rfl, X_av_r hcr⟩
          · show @ite Int (X_isOp s) (Classical.propDecidable _) (pile - 1) (pile + 1) = X_ph (X_aS d s v 12) (d 5 0 + 1).toNat
            rw [b2, ← hp]
            by_cases h4 : X_isOp s
            · rw [if_pos h4, if_pos h4]; omega
            · rw [if_neg h4, if_neg h4]
          · intro f f1 f2 f3
            show X_aS d s v f = d f
            unfold X_aS X_wu
            rw [if_neg f1, if_neg f3, if_neg f2]
  unfold sp_step at h
  by_cases g1 : so c = 4 ∨ so c = 5
  · rw [if_pos g1] at h
    exact key _ _ _ hcr (Or.inl rfl) h
  · rw [if_neg g1] at h
    by_cases g2 : so c = 64
    · rw [if_pos g2] at h
      split at h
      · exact key _ _ _ (X_av_r hcr) (Or.inr (Or.inl g2)) h
      · cases h
    · rw [if_neg g2] at h
      by_cases g3 : X_isOp (so c)
      · rw [if_pos g3] at h
        exact key _ _ _ hcr (Or.inr (Or.inr g3)) h
      · rw [if_neg g3] at h
        cases h
theorem sp_sl_ok {n : Int} {so : Int → Int} {ct : Int → Int64} : ∀ (k : Nat) (c : Int) (d : Nat → Int → Int) (p : Int) (r : Int × (Nat → Int → Int) × Int), (0 ≤ c ∧ c < n) → sp_sl n so ct k c d p = some r → X_sok d → p = X_ph (d 12) (d 5 0).toNat → X_sok r.2.1 ∧ r.2.2 = X_ph (r.2.1 12) (r.2.1 5 0).toNat ∧ (∀ f, f ≠ 5 → f ≠ 12 → f ≠ 13 → r.2.1 f = d f) ∧ r.2.1 5 0 ≤ d 5 0 + k ∧ (0 ≤ r.1 ∧ r.1 < n) := by
  intro k
  induction k with
  | zero => intro c d p r hcr h ho hp; cases h; exact ⟨ho, hp, fun _ _ _ _ => rfl, by show d 5 0 ≤ d 5 0 + _; omega, hcr⟩
  | succ k ih =>
    intro c d p r hcr h ho hp
    unfold sp_sl at h
    split at h
    · cases h; exact ⟨ho, hp, fun _ _ _ _ => rfl, by show d 5 0 ≤ d 5 0 + _; omega, hcr⟩
    · cases hs : sp_step n so ct c d p with
      | none => rw [hs] at h; cases h
      | some z =>
        rw [hs] at h
        obtain ⟨b1, b2, b3, b4, b5⟩ := sp_step_ok hcr hs ho hp
        obtain ⟨e1, e2, e3, e4, e5⟩ := ih _ _ _ _ b5 h b1 b2
        exact ⟨e1, e2, fun f f1 f2 f3 => (e3 f f1 f2 f3).trans (b3 f f1 f2 f3), by omega, e5⟩
/-- a word is told rightly -/
def X_wok (rc kc : Int) (d : Nat → Int → Int) (q : Int → Int64) : Prop := X_eok kc d q ∧ ¬ d 4 0 = d 3 0 ∧ (0 ≤ d 0 0 ∧ d 0 0 < rc) ∧ (0 ≤ d 2 0 ∧ d 2 0 < kc) ∧ (0 ≤ d 1 0 ∧ d 1 0 ≤ 2) ∧ (d 6 0 = 0) ∧ (d 5 0 = -1 ∨ (X_sok d ∧ d 5 0 ≤ 30 ∧ X_ph (d 12) (d 5 0).toNat = 1))
theorem X_wok.mono {rc rc' kc kc' : Int} {d : Nat → Int → Int} {q : Int → Int64} (h : X_wok rc kc d q) (h1 : rc ≤ rc') (h2 : kc ≤ kc') : X_wok rc' kc' d q := by
  obtain ⟨⟨a1, a2, a3, a4⟩, b1, b2, b3, b4⟩ := h
  exact ⟨⟨a1, a2, a3, fun h g1 g2 => by have := a4 h g1 g2; omega⟩, b1, by omega, by omega, b4⟩
theorem X_eok.wg {kc : Int} {d : Nat → Int → Int} {q : Int → Int64} (h : X_eok kc d q) : X_wg d q := by
  obtain ⟨⟨a1, a1b⟩, a2, a3, a4⟩ := h
  constructor
  · rintro e ⟨h1, h2, h3⟩
    rw [a3 e h1 h2 h3, a2]
    exact ⟨(X_hn_b h1).1, X_hn_l h1 h2 h3⟩
  · rintro e e' ⟨h1, h2, h3⟩ ⟨g1, g2, g3⟩ he
    rw [a3 e h1 h2 h3, a3 e' g1 g2 g3] at he
    by_cases hl : e < e'
    · have := X_hn_l (q := q) h1 hl h3; omega
    · by_cases hl2 : e' < e
      · have := X_hn_l (q := q) g1 hl2 g3; omega
      · omega
theorem sp_steps_ok {n : Int} {so : Int → Int} {ct : Int → Int64} {c : Int} {d : Nat → Int → Int} {r : Int × (Nat → Int → Int)} (hcr : 0 ≤ c ∧ c < n) (h : sp_steps n so ct c d = some r) : X_sok r.2 ∧ r.2 5 0 ≤ 30 ∧ X_ph (r.2 12) (r.2 5 0).toNat = 1 ∧ (∀ f, f ≠ 5 → f ≠ 12 → f ≠ 13 → r.2 f = d f) ∧ (0 ≤ r.1 ∧ r.1 < n) := by
  unfold sp_steps at h
  cases hs : sp_sl n so ct 30 (X_av n c) (X_wu d 5 (fun _ => 0)) 0 with
  | none => rw [hs] at h; cases h
  | some z =>
    rw [hs] at h
    have h : (if so z.1 = 59 then (if z.2.2 = 1 then some (X_av n z.1, z.2.1) else none) else none) = some r := h
    split at h
    · split at h
      · cases h
        have e5 : X_wu d 5 (fun _ => 0) 5 0 = 0 := rfl
        obtain ⟨b1, b2, b3, b4, b5⟩ := sp_sl_ok _ _ _ _ _ (X_av_r hcr) hs ⟨by rw [e5]; omega, by rw [e5]; exact ⟨Int.le_refl _, (show (0 : Int) ≤ 16 by omega)⟩, fun k h1 h2 => by rw [e5] at h2; omega⟩ rfl
        rw [e5] at b4
        refine ⟨b1, by show z.2.1 5 0 ≤ 30; omega, by rw [← b2]; assumption, fun f f1 f2 f3 => (b3 f f1 f2 f3).trans ?_, X_av_r b5⟩
        unfold X_wu
        rw [if_neg f1]
      · cases h
    · cases h
theorem sp_we_ok {n : Int} {so : Int → Int} {ct : Int → Int64} {c : Int} {d : Nat → Int → Int} {q : Int → Int64} {r : Int × (Nat → Int → Int) × (Int → Int64)} (hcr : 0 ≤ c ∧ c < n) (h : sp_we n so ct c d q = some r) : r.2.2 = q ∧ ¬ d 4 0 = d 3 0 ∧ (∀ f, f ≠ 5 → f ≠ 12 → f ≠ 13 → r.2.1 f = d f) ∧ (r.2.1 = d ∨ (X_sok r.2.1 ∧ r.2.1 5 0 ≤ 30 ∧ X_ph (r.2.1 12) (r.2.1 5 0).toNat = 1)) ∧ (0 ≤ r.1 ∧ r.1 < n) := by
  have key : (if d 4 0 = d 3 0 then none else if so c = 61 then (sp_steps n so ct c d).bind fun r => some (r.1, r.2, q) else if so c = 59 then some (X_av n c, d, q) else none) = some r → r.2.2 = q ∧ ¬ d 4 0 = d 3 0 ∧ (∀ f, f ≠ 5 → f ≠ 12 → f ≠ 13 → r.2.1 f = d f) ∧ (r.2.1 = d ∨ (X_sok r.2.1 ∧ r.2.1 5 0 ≤ 30 ∧ X_ph (r.2.1 12) (r.2.1 5 0).toNat = 1)) ∧ (0 ≤ r.1 ∧ r.1 < n) := by
    intro h
    split at h
    · cases h
    · split at h
      · cases hs : sp_steps n so ct c d with
        | none => rw [hs] at h; cases h
        | some z =>
          rw [hs] at h
          cases h
          obtain ⟨b1, b2, b3, b4, b5⟩ := sp_steps_ok hcr hs
          exact ⟨rfl, by assumption, b4, Or.inr ⟨b1, b2, b3⟩, b5⟩
      · split at h
        · cases h
          exact ⟨rfl, by assumption, fun _ _ _ _ => rfl, Or.inl rfl, X_av_r hcr⟩
        · cases h
  unfold sp_we at h
  split at h
  · split at h
    · cases h
    · exact key h
  · exact key h
theorem X_lnV_r0 {so : Int → Int} {ct : Int → Int64} {c : Int} : 0 ≤ X_lnV so ct c 0 ∧ X_lnV so ct c 0 ≤ 2 := X_lnV_r (by omega)
theorem X_eok_0 {kc : Int} {d : Nat → Int → Int} {q : Int → Int64} (h3 : d 3 0 = 0) (h4 : d 4 0 = 0) : X_eok kc d q := ⟨by omega, by rw [h3, h4]; rfl, fun e h1 h2 => by omega, fun e h1 h2 => by omega⟩
theorem sp_wb_ok {n : Int} {so : Int → Int} {ct : Int → Int64} {kn : Int → Int64} {rc kc c : Int} {d : Nat → Int → Int} {q : Int → Int64} {r : Int × (Nat → Int → Int) × (Int → Int64)} (hkc : 1 ≤ kc) (hct : ∀ i, 0 ≤ i → i < n → so i = 6 → ¬ ct i = 0) (hcr : 0 ≤ c ∧ c < n) (h0 : 0 ≤ d 0 0 ∧ d 0 0 < rc) (h1 : 0 ≤ d 1 0 ∧ d 1 0 ≤ 2) (h2 : 0 ≤ d 2 0 ∧ d 2 0 < kc) (h3 : d 3 0 = 0) (h4 : d 4 0 = 0) (h5 : d 5 0 = -1) (h6 : d 6 0 = 0) (h : sp_wb n so ct kn kc c d q = some r) : X_wok rc kc r.2.1 r.2.2 ∧ (0 ≤ r.1 ∧ r.1 < n) := by
  unfold sp_wb at h
  split at h
  · cases hs : sp_el n so ct kn kc 9 (X_av n c) d q with
    | none => rw [hs] at h; cases h
    | some z =>
      rw [hs] at h
      have h : sp_we n so ct z.1 z.2.1 z.2.2 = some r := h
      obtain ⟨b1, b2, -, b3⟩ := sp_el_ok hkc hct _ _ _ _ _ (X_av_r hcr) hs (X_eok_0 h3 h4)
      obtain ⟨e1, e2, e3, e4, e5⟩ := sp_we_ok b3 h
      have g : ∀ f, f ≠ 5 → f ≠ 12 → f ≠ 13 → r.2.1 f = z.2.1 f := e3
      have q0 : r.2.1 0 = d 0 := (g 0 (by decide) (by decide) (by decide)).trans (b2 0 (by decide) (by decide) (by decide) (by decide))
      have q1 : r.2.1 1 = d 1 := (g 1 (by decide) (by decide) (by decide)).trans (b2 1 (by decide) (by decide) (by decide) (by decide))
      have q2 : r.2.1 2 = d 2 := (g 2 (by decide) (by decide) (by decide)).trans (b2 2 (by decide) (by decide) (by decide) (by decide))
      have q6 : r.2.1 6 = d 6 := (g 6 (by decide) (by decide) (by decide)).trans (b2 6 (by decide) (by decide) (by decide) (by decide))
      have q3 := g 3 (by decide) (by decide) (by decide)
      have q4 := g 4 (by decide) (by decide) (by decide)
      have q8 := g 8 (by decide) (by decide) (by decide)
      have q9 := g 9 (by decide) (by decide) (by decide)
      refine ⟨⟨?_, by rw [q3, q4]; exact e2, by rw [q0]; exact h0, by rw [q2]; exact h2, by rw [q1]; exact h1, by rw [q6]; exact h6, ?_⟩, e5⟩
      · rw [e1]
        unfold X_eok
        rw [q3, q4, q8, q9]
        exact b1
      · rcases e4 with e4 | e4
        · left
          rw [e4, b2 5 (by decide) (by decide) (by decide) (by decide)]
          exact h5
        · exact Or.inr e4
  · cases h
theorem sp_wk_ok {n : Int} {so : Int → Int} {ct : Int → Int64} {kn : Int → Int64} {rc kc c : Int} {d : Nat → Int → Int} {q : Int → Int64} {r : Int × (Nat → Int → Int) × (Int → Int64)} (hkc : 1 ≤ kc) (hct : ∀ i, 0 ≤ i → i < n → so i = 6 → ¬ ct i = 0) (hcr : 0 ≤ c ∧ c < n) (h0 : 0 ≤ d 0 0 ∧ d 0 0 < rc) (h1 : 0 ≤ d 1 0 ∧ d 1 0 ≤ 2) (h3 : d 3 0 = 0) (h4 : d 4 0 = 0) (h5 : d 5 0 = -1) (h6 : d 6 0 = 0) (h : sp_wk n so ct kn kc c d q = some r) : X_wok rc kc r.2.1 r.2.2 ∧ (0 ≤ r.1 ∧ r.1 < n) := by
  unfold sp_wk at h
  split at h
  · split at h
    · cases h
    · rename_i h7
      have hr := X_ix_r (g := kn) (n := kc) (x := ct c) (by omega)
      exact sp_wb_ok (d := X_wu d 2 (fun _ => X_ix kn kc (ct c))) hkc hct (X_av_r hcr) h0 h1 (show 0 ≤ X_ix kn kc (ct c) ∧ X_ix kn kc (ct c) < kc by omega) h3 h4 h5 h6 h
  · exact sp_wb_ok (d := X_wu d 2 (fun _ => 0)) hkc hct hcr h0 h1 (show (0 : Int) ≤ 0 ∧ (0 : Int) < kc by omega) h3 h4 h5 h6 h
/-- a text read so far is told rightly -/
def X_Kok (K : X_Kp) : Prop := (0 ≤ K.2.1 ∧ K.2.1 ≤ 12) ∧ (1 ≤ K.2.2.1 ∧ K.2.2.1 ≤ 11) ∧ (0 ≤ K.2.2.2.1 ∧ K.2.2.2.1 ≤ 30) ∧ ∀ w, 0 ≤ w → w < K.2.2.2.1 → X_wok K.2.1 K.2.2.1 (K.2.2.2.2.2.2.2.2.1 w) (K.2.2.2.2.2.2.2.2.2 w)
noncomputable def sp_line (n : Int) (so : Int → Int) (ct : Int → Int64) (K : X_Kp) : Option X_Kp :=
  if so K.1 = 3 ∧ ct K.1 = Int64.ofNat 1918987883 then sp_rank n so ct K else if so K.1 = 3 ∧ ct K.1 = Int64.ofNat 32766990153442674 then sp_tight n so ct K else
  if so K.1 = 3 ∧ ct K.1 = Int64.ofNat 1802071652 then sp_kind n so ct K else if so K.1 = 3 ∧ ct K.1 = Int64.ofNat 2003792484 then sp_word n so ct K else none
noncomputable def sp_lines (n : Int) (so : Int → Int) (ct : Int → Int64) : Nat → X_Kp → Option X_Kp
  | 0, K => some K
  | m + 1, K => if so K.1 = 0 then some K else (sp_line n so ct K).bind (sp_lines n so ct m)
theorem sp_rank_ok {n : Int} {so : Int → Int} {ct : Int → Int64} {K K' : X_Kp} (hcr : 0 ≤ K.1 ∧ K.1 < n) (hK : X_Kok K) (h : sp_rank n so ct K = some K') : X_Kok K' ∧ (0 ≤ K'.1 ∧ K'.1 < n) := by
  obtain ⟨c, rc, kc, wc, rn, lo, kn, ab, D, W⟩ := K
  obtain ⟨a1, a2, a3, a4⟩ := hK
  simp only [sp_rank] at h a1 a2 a3 a4 hcr
  repeat' split at h
  all_goals first | cases h | skip
  exact ⟨⟨show 0 ≤ rc + 1 ∧ rc + 1 ≤ 12 by omega, a2, a3, fun w h1 h2 => (a4 w h1 h2).mono (show rc ≤ rc + 1 by omega) (Int.le_refl _)⟩, X_av_r (X_av_r (X_av_r hcr))⟩
theorem sp_tight_ok {n : Int} {so : Int → Int} {ct : Int → Int64} {K K' : X_Kp} (hcr : 0 ≤ K.1 ∧ K.1 < n) (hK : X_Kok K) (h : sp_tight n so ct K = some K') : X_Kok K' ∧ (0 ≤ K'.1 ∧ K'.1 < n) := by
  obtain ⟨c, rc, kc, wc, rn, lo, kn, ab, D, W⟩ := K
  obtain ⟨a1, a2, a3, a4⟩ := hK
  simp only [sp_tight] at h a1 a2 a3 a4 hcr
  repeat' split at h
  all_goals first | cases h | skip
  exact ⟨⟨a1, a2, a3, a4⟩, X_av_r (X_av_r (X_av_r (X_av_r hcr)))⟩
theorem sp_kind_ok {n : Int} {so : Int → Int} {ct : Int → Int64} {K K' : X_Kp} (hcr : 0 ≤ K.1 ∧ K.1 < n) (hK : X_Kok K) (h : sp_kind n so ct K = some K') : X_Kok K' ∧ (0 ≤ K'.1 ∧ K'.1 < n) := by
  obtain ⟨c, rc, kc, wc, rn, lo, kn, ab, D, W⟩ := K
  obtain ⟨a1, a2, a3, a4⟩ := hK
  simp only [sp_kind] at h a1 a2 a3 a4 hcr
  repeat' split at h
  all_goals first | cases h | skip
  · exact ⟨⟨a1, show 1 ≤ kc + 1 ∧ kc + 1 ≤ 11 by omega, a3, fun w h1 h2 => (a4 w h1 h2).mono (Int.le_refl _) (show kc ≤ kc + 1 by omega)⟩, X_av_r (X_av_r (X_av_r (X_av_r (X_av_r hcr))))⟩
  · exact ⟨⟨a1, show 1 ≤ kc + 1 ∧ kc + 1 ≤ 11 by omega, a3, fun w h1 h2 => (a4 w h1 h2).mono (Int.le_refl _) (show kc ≤ kc + 1 by omega)⟩, X_av_r (X_av_r (X_av_r hcr))⟩
theorem sp_word_ok {n : Int} {so : Int → Int} {ct : Int → Int64} {K K' : X_Kp} (hct : ∀ i, 0 ≤ i → i < n → so i = 6 → ¬ ct i = 0) (hcr : 0 ≤ K.1 ∧ K.1 < n) (hK : X_Kok K) (h : sp_word n so ct K = some K') : X_Kok K' ∧ (0 ≤ K'.1 ∧ K'.1 < n) := by
  obtain ⟨c, rc, kc, wc, rn, lo, kn, ab, D, W⟩ := K
  obtain ⟨a1, a2, a3, a4⟩ := hK
  simp only [sp_word] at h a1 a2 a3 a4 hcr
  split at h
  · cases h
  · split at h
    · split at h
      · cases h
      · rename_i h1 h2 h3
        cases hs : sp_wk n so ct kn kc (X_lnC n so ct (X_av n (X_av n c))) (X_wu (X_clr (D wc) (X_ix rn rc (ct (X_av n c)))) 1 (fun _ => X_lnV so ct (X_av n (X_av n c)) 0)) (W wc) with
        | none => rw [hs] at h; cases h
        | some z =>
          rw [hs] at h
          cases h
          have hr := X_ix_r (g := rn) (n := rc) (x := ct (X_av n c)) (by omega)
          obtain ⟨b1, b2⟩ := sp_wk_ok (rc := rc) a2.1 hct (X_lnC_r (X_av_r (X_av_r hcr))) (show 0 ≤ X_ix rn rc (ct (X_av n c)) ∧ X_ix rn rc (ct (X_av n c)) < rc by omega) X_lnV_r0 rfl rfl rfl rfl hs
          refine ⟨⟨a1, a2, show 0 ≤ wc + 1 ∧ wc + 1 ≤ 30 by omega, fun w g1 g2 => ?_⟩, b2⟩
          have g2 : w < wc + 1 := g2
          show X_wok rc kc (X_ug D wc z.2.1 w) (X_ug W wc z.2.2 w)
          by_cases hw : w = wc
          · subst hw
            rw [X_ug_s, X_ug_s]
            exact b1
          · rw [X_ug_n _ _ hw, X_ug_n _ _ hw]
            exact a4 w g1 (by omega)
    · cases h
theorem sp_line_ok {n : Int} {so : Int → Int} {ct : Int → Int64} {K K' : X_Kp} (hct : ∀ i, 0 ≤ i → i < n → so i = 6 → ¬ ct i = 0) (hcr : 0 ≤ K.1 ∧ K.1 < n) (hK : X_Kok K) (h : sp_line n so ct K = some K') : X_Kok K' ∧ (0 ≤ K'.1 ∧ K'.1 < n) := by
  unfold sp_line at h
  split at h
  · exact sp_rank_ok hcr hK h
  · split at h
    · exact sp_tight_ok hcr hK h
    · split at h
      · exact sp_kind_ok hcr hK h
      · split at h
        · exact sp_word_ok hct hcr hK h
        · cases h
theorem sp_lines_s {n : Int} {so : Int → Int} {ct : Int → Int64} {i : Int} {K : X_Kp} (h : 0 ≤ i ∧ i ≤ 2000) : sp_lines n so ct (2001 - i).toNat K = if so K.1 = 0 then some K else (sp_line n so ct K).bind (sp_lines n so ct (2001 - (i + 1)).toNat) := by
  rw [show (2001 - i).toNat = (2001 - (i + 1)).toNat + 1 by omega]
  rfl
/-- part's texts are not nothing -/
theorem X_pk_b {tb : Int → Int} {len p : Int} : ∀ k : Nat, k ≤ 8 → (∀ i : Int, 0 ≤ i → i < k → 0 < X_at tb len (p + i) ∧ X_at tb len (p + i) < 256) → (X_pk tb len p k).toBitVec.toNat < 256 ^ k ∧ (0 < k → 0 < (X_pk tb len p k).toBitVec.toNat) ∧ ∀ j : Nat, j < k → (X_pk tb len p k).toBitVec.toNat / 256 ^ (k - 1 - j) % 256 = (X_at tb len (p + j)).toNat := by
  intro k
  induction k with
  | zero => intro _ _; exact ⟨(show (0 : Int64).toBitVec.toNat < 1 by decide), fun h => absurd h (by decide), fun j h => absurd h (by omega)⟩
  | succ k ih =>
    intro hk hb
    obtain ⟨a1, a2, a3⟩ := ih (by omega) (fun i h1 h2 => hb i h1 (by omega))
    have hc := hb (k : Int) (by omega) (by omega)
    have e0 : (iI (X_at tb len (p + k))).toInt64.toBitVec.toNat = (X_at tb len (p + k)).toNat := by
      rw [show (iI (X_at tb len (p + k))).toInt64 = iL (X_at tb len (p + k)) from Int32.toInt64_ofInt (by show -2147483648 ≤ _; omega) (by show _ ≤ 2147483647; omega)]
      show (BitVec.ofInt 64 _).toNat = _
      rw [BitVec.toNat_ofInt]
      have h64 : (((2 : Nat) ^ 64 : Nat) : Int) = 18446744073709551616 := by decide
      have : (X_at tb len (p + k)) % ((2 ^ 64 : Nat) : Int) = X_at tb len (p + k) := Int.emod_eq_of_lt (by omega) (by rw [h64]; omega)
      rw [this]
    have hpow : (256 : Nat) ^ k ≤ 256 ^ 7 := Nat.pow_le_pow_right (by decide) (by omega)
    have hp7 : (256 : Nat) ^ 7 = 72057594037927936 := by decide
    have e1 : (X_pk tb len p (k + 1)).toBitVec.toNat = (X_pk tb len p k).toBitVec.toNat * 256 + (X_at tb len (p + k)).toNat := by
      show (X_pk1 (X_pk tb len p k) (X_at tb len (p + k))).toBitVec.toNat = _
      unfold X_pk1
      rw [Int64.toBitVec_or, BitVec.toNat_or, e0, Int64.toBitVec_shiftLeft]
      have es : ((iI 8).toInt64 &&& 63).toBitVec.smod 64 = 8#64 := by decide
      rw [es]
      show ((X_pk tb len p k).toBitVec <<< (8 : Nat)).toNat ||| _ = _
      rw [BitVec.toNat_shiftLeft, Nat.shiftLeft_eq, Nat.mod_eq_of_lt (by omega)]
      rw [show (X_pk tb len p k).toBitVec.toNat * 2 ^ 8 = 2 ^ 8 * (X_pk tb len p k).toBitVec.toNat by omega, ← Nat.two_pow_add_eq_or_of_lt (by omega)]
    have hpk : (256 : Nat) ^ (k + 1) = 256 ^ k * 256 := Nat.pow_succ 256 k
    refine ⟨by omega, fun _ => by omega, ?_⟩
    intro j hj
    by_cases hjk : j = k
    · subst hjk
      rw [show j + 1 - 1 - j = 0 by omega, e1]
      omega
    · rw [show k + 1 - 1 - j = (k - 1 - j) + 1 by omega, e1, Nat.pow_succ, Nat.mul_comm (256 ^ (k - 1 - j)) 256, ← Nat.div_div_eq_div_mul]
      rw [show ((X_pk tb len p k).toBitVec.toNat * 256 + (X_at tb len (p + k)).toNat) / 256 = (X_pk tb len p k).toBitVec.toNat by omega]
      exact a3 j (by omega)
/-- where a run ends, what is in it is so -/
theorem X_sf_in {P : Int → Prop} {tb : Int → Int} {len : Int} : ∀ (n : Nat) (p k : Int), p ≤ k → k < X_sf P tb len n p → P (X_at tb len k) := by
  intro n
  induction n with
  | zero => intro p k h1 h2; exact absurd (show k < p from h2) (by omega)
  | succ n ih =>
    intro p k h1 h2
    by_cases h : p < len ∧ P (X_at tb len p)
    · have e : X_sf P tb len (n + 1) p = X_sf P tb len n (p + 1) := by
        show @ite Int (p < len ∧ P (X_at tb len p)) (Classical.propDecidable _) _ p = _
        rw [if_pos h]
      rw [e] at h2
      by_cases hk : k = p
      · subst hk; exact h.2
      · exact ih (p + 1) k (by omega) h2
    · have e : X_sf P tb len (n + 1) p = p := by
        show @ite Int (p < len ∧ P (X_at tb len p)) (Classical.propDecidable _) _ p = _
        rw [if_neg h]
      rw [e] at h2
      omega
theorem X_se_in {P : Int → Prop} {tb : Int → Int} {len p k : Int} (h1 : p ≤ k) (h2 : k < X_se P tb len p) : P (X_at tb len k) := X_sf_in _ p k h1 h2
/-- a part's bytes: how many, and what they are not -/
theorem X_Tok_part {tb : Int → Int} {len p r : Int} {ct : Int64} {e : Int} (h : X_Tok tb len p r ct e) (h6 : r = 6) : ∃ k : Nat, 1 ≤ k ∧ k ≤ 8 ∧ ct = X_pk tb len (p + 1) k ∧ ∀ i : Int, 0 ≤ i → i < k → X_isPB (X_at tb len (p + 1 + i)) := by
  rcases h with ⟨h1, h2, h3, h4⟩ | h | h | h | h
  · omega
  · obtain ⟨h1, h2, h3⟩ := h
    exfalso
    rcases h3 with h | ⟨-, -, h | h⟩
    · omega
    · have := h.2; omega
    · have := h.2; omega
  · obtain ⟨h1, h2, h3⟩ := h
    exfalso
    rcases h3 with h | ⟨-, -, -, h | h⟩
    · have := h.2.1; omega
    · have := h.2; omega
    · have := h.2; omega
  · obtain ⟨h1, m, h2, h3⟩ := h
    rcases h3 with ⟨-, h4, -, h5⟩ | ⟨h4, h5, h6', -, h7, -⟩
    · omega
    · have hm := X_se_r X_isPB tb len (p + 1)
      by_cases hz : m = p + 1
      · exact absurd (fun k g1 g2 => by omega) h6'
      · refine ⟨(m - (p + 1)).toNat, by omega, by omega, h7, fun i g1 g2 => X_se_in (p := p + 1) (by omega) (by rw [← h2]; omega)⟩
  · obtain ⟨h1, h2, h3, h4, h5, h6', h7⟩ := h
    exfalso
    rcases h7 with h | h
    · have h8 := h.2.2
      have h9 := h.1
      unfold X_isSg at h9
      omega
    · have := h.2; omega
theorem X_Tks_part {tb : Int → Int} {len n : Int} {so pl : Int → Int} {ct : Int → Int64} {E : Int → Int} (h : X_Tks tb len n so pl ct E) : ∀ i, 0 ≤ i → i < n → so i = 6 → ¬ ct i = 0 := by
  intro i h1 h2 h6 h0
  obtain ⟨k, k1, k2, k3, k4⟩ := X_Tok_part (h.2 i h1 h2).2 h6
  have := (X_pk_b (tb := tb) (len := len) (p := pl i + 1) k k2 (fun i g1 g2 => by have := k4 i g1 g2; unfold X_isPB at this; omega)).2.1 (by omega)
  rw [← k3, h0] at this
  exact absurd this (by decide)

theorem X_Tks_r {tb : Int → Int} {len n : Int} {so pl : Int → Int} {ct : Int → Int64} {E : Int → Int} (hl : 0 ≤ len) (h : X_Tks tb len n so pl ct E) : ∀ i : Nat, (i : Int) ≤ n → 0 ≤ E i ∧ E i ≤ len := by
  intro i
  induction i with
  | zero => intro _; have := h.1; exact ⟨by show 0 ≤ E 0; omega, by show E 0 ≤ len; omega⟩
  | succ i ih =>
    intro hi
    have h1 := ih (by omega)
    obtain ⟨h2, h3⟩ := h.2 (i : Int) (by omega) (by omega)
    have h4 := X_se_r X_isBl tb len (E i)
    have h5 := X_Tok_r (by omega) h3
    show 0 ≤ E ((i : Int) + 1) ∧ E ((i : Int) + 1) ≤ len
    omega
theorem X_Tks_q {tb : Int → Int} {len n : Int} {so pl : Int → Int} {ct : Int → Int64} {E : Int → Int} (hl : 0 ≤ len) (h : X_Tks tb len n so pl ct E) : ∀ i, 0 ≤ i → i < n → (0 ≤ so i ∧ so i ≤ 255) ∧ (E i ≤ pl i ∧ pl i ≤ len) := by
  intro i h1 h2
  have h0 := X_Tks_r hl h i.toNat (by omega)
  rw [show (i.toNat : Int) = i by omega] at h0
  obtain ⟨h3, h4⟩ := h.2 i h1 h2
  have h5 := X_se_r X_isBl tb len (E i)
  have h6 := X_Tok_r (by omega) h4
  omega
/-- a text and its tokens, up to the first END or to what is no token -/
def X_Txt (tb : Int → Int) (len n : Int) (so pl : Int → Int) (ct : Int → Int64) : Prop := (1 ≤ n ∧ n ≤ 2001) ∧ (∃ E, X_Tks tb len n so pl ct E) ∧ (∀ i, 0 ≤ i → i < n - 1 → so i ≠ 0 ∧ so i ≠ 1) ∧ (so (n - 1) = 0 ∨ so (n - 1) = 1)
theorem c_parse (sc : X_Sc) (S : X_S) (B B0 : Nat) (len : Int) (tb : Int → Int) (fl0 fp0 at0 n0 cur0 : Int) (so0 pl0 : Int → Int) (ct0 : Int → Int64) (rc kc wc : Int) (rn : Int → Int64) (lo : Int → Int) (kn : Int → Int64) (ab : Int → Int) (D : Int → Nat → Int → Int) (W : Int → Int → Int64) (hB : 4 ≤ B ∧ B + 246 ≤ 496) (ht : C_tp S len tb) (hp0 : C_pa S B0 fl0 fp0) (hx0 : C_lx S at0 n0 cur0 so0 pl0 ct0) (hb : C_bk S B rc kc wc rn lo kn ab) (hs : C_ws S B D W) : X_T sc 61 (0, [(0, .ref 496), (1, .ref B)], [], S) (fun v S' => ∃ (n : Int) (so pl : Int → Int) (ct : Int → Int64) (at_ : Int), X_Txt tb len n so pl ct ∧ ((v = some (.int (iI 1)) ∧ ∃ (c1 rc1 kc1 wc1 : Int) (rn1 : Int → Int64) (lo1 : Int → Int) (kn1 : Int → Int64) (ab1 : Int → Int) (D1 : Int → Nat → Int → Int) (W1 : Int → Int → Int64) (D2 : Int → Nat → Int → Int) (fp1 : Int), sp_lines n so ct 2001 (0, 0, 1, 0, rn, lo, X_ug kn 0 (Int64.ofNat 6384748), X_ug ab 0 1, D, W) = some (c1, rc1, kc1, wc1, rn1, lo1, kn1, ab1, D1, W1) ∧ X_Kok (c1, rc1, kc1, wc1, rn1, lo1, kn1, ab1, D1, W1) ∧ X_sD D1 D2 ∧ (∀ w, 0 ≤ w → w < wc1 → ∀ e, X_hl (D1 w) (W1 w) e → X_tkn lo1 ab1 kc1 wc1 D1 W1 w e (D2 w 11 (D1 w 8 e)) (D2 w 10 (D1 w 8 e))) ∧ C_K S' B 0 fp1 at_ n so pl ct (c1, rc1, kc1, wc1, rn1, lo1, kn1, ab1, D2, W1)) ∨
  (v = some (.int (iI 0)) ∧ sp_lines n so ct 2001 (0, 0, 1, 0, rn, lo, X_ug kn 0 (Int64.ofNat 6384748), X_ug ab 0 1, D, W) = none ∧ ∃ fl1 fp1 K, ¬ fl1 = 0 ∧ C_K S' B fl1 fp1 at_ n so pl ct K)) ∧ X_Fr (fun q => (496 ≤ q ∧ q ≤ 500) ∨ (B ≤ q ∧ q < B + 246)) S S') := by
  obtain ⟨hb0, hb1, hb2, hb3, hb4, ⟨f, hb5, hf⟩, ⟨hrc, hrcb⟩, ⟨hkc, hkcb⟩, ⟨hwc, hwcb⟩⟩ := id hb
  refine X_QI (fun Q hQ => ?_)
  refine T_p xr_61_0 xn_61 (pc' := 1) (ls' := [(0, .ref 496), (1, .ref B)]) (st' := [.ref 496]) rfl ?_
  refine T_p xr_61_1 xn_61 (pc' := 2) (ls' := [(0, .ref 496), (1, .ref B)]) (st' := [.ref B, .ref 496]) rfl ?_
  refine T_put xr_61_2 hp0 rfl (Nat.le_of_ble_eq_true rfl) rfl (fs' := [.ref 497, .ref B, .int (iI fl0), .int (iI fp0)]) rfl (pc' := 5) rfl (fun S3113 h3114 n3115 e3116 => ?_)
  refine T_p xr_61_5 xn_61 (pc' := 6) (ls' := [(0, .ref 496), (1, .ref B)]) (st' := [.ref 496]) rfl ?_
  refine T_get xr_61_6 h3114 rfl (v := .ref B) rfl (pc' := 9) rfl ?_
  have h3117 := (n3115 B (by omega)).trans (hb0)
  refine T_cv (S := S3113) (q := B) xr_61_9 xf_1.1 xf_1.2.1 xn_1 (as := []) (r := []) rfl h3117 (Nat.le_of_ble_eq_true rfl) (Nat.le_of_ble_eq_true rfl) (pc' := 12) rfl (ls' := [(0, .ref B)]) rfl ?_
  have h3124 := (n3115 (B + 1) (by omega)).trans (hb1)
  have h3125 := (n3115 (B + 2) (by omega)).trans (hb2)
  have h3126 := (n3115 (B + 3) (by omega)).trans (hb3)
  have h3127 := (n3115 (B + 4) (by omega)).trans (hb4)
  have h3128 := (n3115 (B + 5) (by omega)).trans (hb5)
  refine T_mono (c_clearb sc S3113 B rc kc wc rn lo kn ab  ⟨h3117, h3124, h3125, h3126, h3127, ⟨f, h3128, hf⟩, ⟨by omega, by omega⟩, ⟨by omega, by omega⟩, ⟨by omega, by omega⟩⟩ ) (fun v3118 S3119 h3120 => ?_)
  obtain ⟨h3121, hb3122, h3123⟩ := h3120
  rw [h3121]
  show X_T sc 61 (12, [(0, .ref 496), (1, .ref B)], [], S3119) _
  refine T_p xr_61_12 xn_61 (pc' := 13) (ls' := [(0, .ref 496), (1, .ref B)]) (st' := [.ref 496]) rfl ?_
  refine T_p xr_61_13 xn_61 (pc' := 14) (ls' := [(0, .ref 496), (1, .ref B)]) (st' := [.int (iI 0), .ref 496]) rfl ?_
  have h3129 := (h3123.1 496 (by omega)).trans (h3114)
  refine T_put xr_61_14 h3129 rfl (Nat.le_of_ble_eq_true rfl) rfl (fs' := [.ref 497, .ref B, .int (iI 0), .int (iI fp0)]) rfl (pc' := 17) rfl (fun S3130 h3131 n3132 e3133 => ?_)
  refine T_p xr_61_17 xn_61 (pc' := 18) (ls' := [(0, .ref 496), (1, .ref B)]) (st' := [.ref 496]) rfl ?_
  refine T_p xr_61_18 xn_61 (pc' := 19) (ls' := [(0, .ref 496), (1, .ref B)]) (st' := [.int (iI (-1)), .ref 496]) rfl ?_
  refine T_put xr_61_19 h3131 rfl (Nat.le_of_ble_eq_true rfl) rfl (fs' := [.ref 497, .ref B, .int (iI 0), .int (iI (-1))]) rfl (pc' := 22) rfl (fun S3134 h3135 n3136 e3137 => ?_)
  refine T_p xr_61_22 xn_61 (pc' := 23) (ls' := [(0, .ref 496), (1, .ref B)]) (st' := [.ref 496]) rfl ?_
  refine T_get xr_61_23 h3135 rfl (v := .ref 497) rfl (pc' := 26) rfl ?_
  have h3138 := (n3136 497 (by decide)).trans ((n3132 497 (by decide)).trans ((h3123.1 497 (by omega)).trans ((n3115 497 (by decide)).trans (hx0.1))))
  refine T_cv (S := S3134) (q := 497) xr_61_26 xf_49.1 xf_49.2.1 xn_49 (as := []) (r := []) rfl h3138 (Nat.le_of_ble_eq_true rfl) (Nat.le_of_ble_eq_true rfl) (pc' := 29) rfl (ls' := [(0, .ref 497)]) rfl ?_
  have h3142 := (n3136 498 (by decide)).trans ((n3132 498 (by decide)).trans ((h3123.1 498 (by omega)).trans ((n3115 498 (by decide)).trans (hx0.2.1))))
  have h3143 := (n3136 499 (by decide)).trans ((n3132 499 (by decide)).trans ((h3123.1 499 (by omega)).trans ((n3115 499 (by decide)).trans (hx0.2.2.1))))
  have h3144 := (n3136 500 (by decide)).trans ((n3132 500 (by decide)).trans ((h3123.1 500 (by omega)).trans ((n3115 500 (by decide)).trans (hx0.2.2.2))))
  have h3145 := (n3136 2 (by decide)).trans ((n3132 2 (by decide)).trans ((h3123.1 2 (by omega)).trans ((n3115 2 (by decide)).trans (ht.1))))
  have h3146 := (n3136 3 (by decide)).trans ((n3132 3 (by decide)).trans ((h3123.1 3 (by omega)).trans ((n3115 3 (by decide)).trans (ht.2.1))))
  refine T_mono (c_start sc S3134 len tb at0 n0 cur0 so0 pl0 ct0 ⟨h3145, h3146, ht.2.2⟩ ⟨h3138, h3142, h3143, h3144⟩) (fun v3139 S3140 h3141 => ?_)
  obtain ⟨hv, n, so, pl, ct, E, hn1, hx, hT, hnt, hlast, hfr⟩ := h3141
  rw [hv]
  obtain ⟨at_, hat⟩ : ∃ z, z = E n := ⟨_, rfl⟩
  rw [← hat] at hx
  have hso : ∀ i, 0 ≤ i → i < n → 0 ≤ so i ∧ so i ≤ 255 := fun i h1 h2 => (X_Tks_q ht.2.2.1 hT i h1 h2).1
  have hct := X_Tks_part hT
  show X_T sc 61 (29, [(0, .ref 496), (1, .ref B)], [], S3140) _
  refine T_p xr_61_29 xn_61 (pc' := 30) (ls' := [(0, .ref 496), (1, .ref B)]) (st' := [.int (iI 0)]) rfl ?_
  refine T_p xr_61_30 xn_61 (pc' := 31) (ls' := [(2, .int (iI 0)), (0, .ref 496), (1, .ref B)]) (st' := []) rfl ?_
  have L3147 : ∀ (m3149 : Nat) (S1 : X_S) (line : Int) (K : X_Kp) (fl : Int) (fp : Int) (hF3151 : X_Fr (fun q => (496 ≤ q ∧ q ≤ 500) ∨ (B ≤ q ∧ q < B + 246)) S3140 S1) (hli : 0 ≤ line ∧ line ≤ 2001) (hflr : 0 ≤ fl ∧ fl ≤ 5) (hK : C_K S1 B fl fp at_ n so pl ct K) (hR0 : fl = 0 → sp_lines n so ct (2001 - line).toNat K = sp_lines n so ct 2001 (0, 0, 1, 0, rn, lo, X_ug kn 0 (Int64.ofNat 6384748), X_ug ab 0 1, D, W) ∧ X_Kok K) (hR1 : ¬ fl = 0 → sp_lines n so ct 2001 (0, 0, 1, 0, rn, lo, X_ug kn 0 (Int64.ofNat 6384748), X_ug ab 0 1, D, W) = none) (hm3150 : 2001 - line < m3149), X_T sc 61 (31, [(2, .int (iI line)), (0, .ref 496)], [], S1) Q := by
    intro m3149
    induction m3149 with
    | zero =>
      intro S1 line K fl fp hF3151 hli hflr hK hR0 hR1 hm3150
      exact (show False by omega).elim
    | succ m3149 ih3148 =>
      intro S1 line K fl fp hF3151 hli hflr hK hR0 hR1 hm3150
      obtain ⟨cur, rc, kc, wc, rn, lo, kn, ab, D, W⟩ := K
      obtain ⟨hp, hx, hb, hs, hcu⟩ := id hK
      simp only at hx hb hs hcu
      obtain ⟨hb0, hb1, hb2, hb3, hb4, ⟨f, hb5, hf⟩, ⟨hrc, hrcb⟩, ⟨hkc, hkcb⟩, ⟨hwc, hwcb⟩⟩ := id hb
      refine T_p xr_61_31 xn_61 (pc' := 32) (ls' := [(2, .int (iI line)), (0, .ref 496)]) (st' := [.int (iI line)]) rfl ?_
      refine T_p xr_61_32 xn_61 (pc' := 35) (ls' := [(2, .int (iI line)), (0, .ref 496)]) (st' := [.int (iI 2000), .int (iI line)]) rfl ?_
      refine T_zicmp_gt xr_61_35 (t := 145) (pc' := 38) rfl rfl (fun c3152 => ?_) (fun c3152 => ?_)
      · skip
        have c3152 : 2000 < line := c3152
        refine T_p xr_61_145 xn_61 (pc' := 146) (ls' := [(2, .int (iI line)), (0, .ref 496)]) (st' := [.ref 496]) rfl ?_
        refine T_get xr_61_146 hp rfl (v := .int (iI fl)) rfl (pc' := 149) rfl ?_
        refine T_zif_eq xr_61_149 (t := 154) (pc' := 152) rfl rfl (fun c3153 => ?_) (fun c3153 => ?_)
        · skip
          have c3153 : fl = 0 := c3153
          obtain rfl : fl = 0 := by omega
          obtain ⟨hR, hok⟩ := hR0 rfl
          refine T_p xr_61_154 xn_61 (pc' := 155) (ls' := [(2, .int (iI line)), (0, .ref 496)]) (st' := [.ref 496]) rfl ?_
          refine T_get xr_61_155 hp rfl (v := .ref B) rfl (pc' := 158) rfl ?_
          refine T_cv (S := S1) (q := B) xr_61_158 xf_15.1 xf_15.2.1 xn_15 (as := []) (r := []) rfl hb0 (Nat.le_of_ble_eq_true rfl) (Nat.le_of_ble_eq_true rfl) (pc' := 161) rfl (ls' := [(0, .ref B)]) rfl ?_
          refine T_mono (c_settleHoles sc S1 B rc kc wc rn lo kn ab D W hb hs (fun w h1 h2 => (hok.2.2.2 w h1 h2).1.wg)) (fun v3154 S3155 h3156 => ?_)
          obtain ⟨hv3157, ⟨D3158, hw3159, hd3160, ht3161⟩, hf3162⟩ := h3156
          rw [hv3157]
          show X_T sc 61 (161, [(2, .int (iI line)), (0, .ref 496)], [], S3155) _
          refine T_p xr_61_161 xn_61 (pc' := 162) (ls' := [(2, .int (iI line)), (0, .ref 496)]) (st' := [.int (iI 1)]) rfl ?_
          refine T_iret xr_61_162 xf_61.2.2 (by decide) ?_
          refine hQ _ _ ?_
          refine ⟨n, so, pl, ct, at_, ⟨hn1, ⟨E, hT⟩, hnt, hlast⟩, Or.inl ⟨rfl, cur, rc, kc, wc, rn, lo, kn, ab, D, W, D3158, fp, ?_, hok, hd3160, ht3161, ⟨(hf3162.1 496 (by omega)).trans hp, ⟨(hf3162.1 497 (by omega)).trans hx.1, (hf3162.1 498 (by omega)).trans hx.2.1, (hf3162.1 499 (by omega)).trans hx.2.2.1, (hf3162.1 500 (by omega)).trans hx.2.2.2⟩, hb.fr hf3162 (fun k hk => by omega), hw3159, hcu⟩⟩, (((((((X_Fr.rf).tr (X_Fr.of n3115 e3116 (by omega))).tr (X_Fr.mono ⟨h3123.1, h3123.2⟩ (fun q hq => (by omega)))).tr (X_Fr.of n3132 e3133 (by omega))).tr (X_Fr.of n3136 e3137 (by omega))).tr (X_Fr.mono ⟨hfr.1, hfr.2⟩ (fun q hq => (by omega)))).tr (X_Fr.mono ⟨hF3151.1, hF3151.2⟩ (fun q hq => (by omega)))).tr (X_Fr.mono ⟨hf3162.1, hf3162.2⟩ (fun q hq => (by omega)))⟩
          rw [← hR]
          first
            | (rw [show (2001 - line).toNat = 0 by omega]; rfl)
            | (rw [sp_lines_s (i := line) (by omega), if_pos (by first | assumption | omega)])
        · skip
          have c3153 : ¬ (fl = 0) := c3153
          refine T_p xr_61_152 xn_61 (pc' := 153) (ls' := [(2, .int (iI line)), (0, .ref 496)]) (st' := [.int (iI 0)]) rfl ?_
          refine T_iret xr_61_153 xf_61.2.2 (by decide) ?_
          refine hQ _ _ ?_
          exact ⟨n, so, pl, ct, at_, ⟨hn1, ⟨E, hT⟩, hnt, hlast⟩, Or.inr ⟨rfl, hR1 (by assumption), fl, fp, _, by assumption, hK⟩, ((((((X_Fr.rf).tr (X_Fr.of n3115 e3116 (by omega))).tr (X_Fr.mono ⟨h3123.1, h3123.2⟩ (fun q hq => (by omega)))).tr (X_Fr.of n3132 e3133 (by omega))).tr (X_Fr.of n3136 e3137 (by omega))).tr (X_Fr.mono ⟨hfr.1, hfr.2⟩ (fun q hq => (by omega)))).tr (X_Fr.mono ⟨hF3151.1, hF3151.2⟩ (fun q hq => (by omega)))⟩
      · skip
        have c3152 : ¬ (2000 < line) := c3152
        refine T_p xr_61_38 xn_61 (pc' := 39) (ls' := [(2, .int (iI line)), (0, .ref 496)]) (st' := [.ref 496]) rfl ?_
        refine T_get xr_61_39 hp rfl (v := .int (iI fl)) rfl (pc' := 42) rfl ?_
        refine T_zif_ne xr_61_42 (t := 145) (pc' := 45) rfl rfl (fun c3163 => ?_) (fun c3163 => ?_)
        · skip
          have c3163 : ¬ fl = 0 := c3163
          refine T_p xr_61_145 xn_61 (pc' := 146) (ls' := [(2, .int (iI line)), (0, .ref 496)]) (st' := [.ref 496]) rfl ?_
          refine T_get xr_61_146 hp rfl (v := .int (iI fl)) rfl (pc' := 149) rfl ?_
          refine T_zif_eq xr_61_149 (t := 154) (pc' := 152) rfl rfl (fun c3164 => ?_) (fun c3164 => ?_)
          · skip
            have c3164 : fl = 0 := c3164
            obtain rfl : fl = 0 := by omega
            obtain ⟨hR, hok⟩ := hR0 rfl
            refine T_p xr_61_154 xn_61 (pc' := 155) (ls' := [(2, .int (iI line)), (0, .ref 496)]) (st' := [.ref 496]) rfl ?_
            refine T_get xr_61_155 hp rfl (v := .ref B) rfl (pc' := 158) rfl ?_
            refine T_cv (S := S1) (q := B) xr_61_158 xf_15.1 xf_15.2.1 xn_15 (as := []) (r := []) rfl hb0 (Nat.le_of_ble_eq_true rfl) (Nat.le_of_ble_eq_true rfl) (pc' := 161) rfl (ls' := [(0, .ref B)]) rfl ?_
            refine T_mono (c_settleHoles sc S1 B rc kc wc rn lo kn ab D W hb hs (fun w h1 h2 => (hok.2.2.2 w h1 h2).1.wg)) (fun v3165 S3166 h3167 => ?_)
            obtain ⟨hv3168, ⟨D3169, hw3170, hd3171, ht3172⟩, hf3173⟩ := h3167
            rw [hv3168]
            show X_T sc 61 (161, [(2, .int (iI line)), (0, .ref 496)], [], S3166) _
            refine T_p xr_61_161 xn_61 (pc' := 162) (ls' := [(2, .int (iI line)), (0, .ref 496)]) (st' := [.int (iI 1)]) rfl ?_
            refine T_iret xr_61_162 xf_61.2.2 (by decide) ?_
            refine hQ _ _ ?_
            refine ⟨n, so, pl, ct, at_, ⟨hn1, ⟨E, hT⟩, hnt, hlast⟩, Or.inl ⟨rfl, cur, rc, kc, wc, rn, lo, kn, ab, D, W, D3169, fp, ?_, hok, hd3171, ht3172, ⟨(hf3173.1 496 (by omega)).trans hp, ⟨(hf3173.1 497 (by omega)).trans hx.1, (hf3173.1 498 (by omega)).trans hx.2.1, (hf3173.1 499 (by omega)).trans hx.2.2.1, (hf3173.1 500 (by omega)).trans hx.2.2.2⟩, hb.fr hf3173 (fun k hk => by omega), hw3170, hcu⟩⟩, (((((((X_Fr.rf).tr (X_Fr.of n3115 e3116 (by omega))).tr (X_Fr.mono ⟨h3123.1, h3123.2⟩ (fun q hq => (by omega)))).tr (X_Fr.of n3132 e3133 (by omega))).tr (X_Fr.of n3136 e3137 (by omega))).tr (X_Fr.mono ⟨hfr.1, hfr.2⟩ (fun q hq => (by omega)))).tr (X_Fr.mono ⟨hF3151.1, hF3151.2⟩ (fun q hq => (by omega)))).tr (X_Fr.mono ⟨hf3173.1, hf3173.2⟩ (fun q hq => (by omega)))⟩
            rw [← hR]
            first
              | (rw [show (2001 - line).toNat = 0 by omega]; rfl)
              | (rw [sp_lines_s (i := line) (by omega), if_pos (by first | assumption | omega)])
          · skip
            have c3164 : ¬ (fl = 0) := c3164
            refine T_p xr_61_152 xn_61 (pc' := 153) (ls' := [(2, .int (iI line)), (0, .ref 496)]) (st' := [.int (iI 0)]) rfl ?_
            refine T_iret xr_61_153 xf_61.2.2 (by decide) ?_
            refine hQ _ _ ?_
            exact ⟨n, so, pl, ct, at_, ⟨hn1, ⟨E, hT⟩, hnt, hlast⟩, Or.inr ⟨rfl, hR1 (by assumption), fl, fp, _, by assumption, hK⟩, ((((((X_Fr.rf).tr (X_Fr.of n3115 e3116 (by omega))).tr (X_Fr.mono ⟨h3123.1, h3123.2⟩ (fun q hq => (by omega)))).tr (X_Fr.of n3132 e3133 (by omega))).tr (X_Fr.of n3136 e3137 (by omega))).tr (X_Fr.mono ⟨hfr.1, hfr.2⟩ (fun q hq => (by omega)))).tr (X_Fr.mono ⟨hF3151.1, hF3151.2⟩ (fun q hq => (by omega)))⟩
        · skip
          have c3163 : ¬ (¬ fl = 0) := c3163
          obtain rfl : fl = 0 := by omega
          obtain ⟨hR, hok⟩ := hR0 rfl
          refine T_p xr_61_45 xn_61 (pc' := 46) (ls' := [(2, .int (iI line)), (0, .ref 496)]) (st' := [.ref 496]) rfl ?_
          refine T_get xr_61_46 hp rfl (v := .ref 497) rfl (pc' := 49) rfl ?_
          refine T_cv (S := S1) (q := 497) xr_61_49 xf_44.1 xf_44.2.1 xn_44 (as := []) (r := []) rfl hx.1 (Nat.le_of_ble_eq_true rfl) (Nat.le_of_ble_eq_true rfl) (pc' := 52) rfl (ls' := [(0, .ref 497)]) rfl ?_
          refine T_mono (c_sort sc S1 at_ n cur so pl ct ⟨hx.1, hx.2.1, hx.2.2.1, hx.2.2.2⟩ (by omega)) (fun v3175 S3176 h3174 => ?_)
          obtain ⟨h3177, h3178⟩ := h3174
          rw [h3177, h3178]
          show X_T sc 61 (52, [(2, .int (iI line)), (0, .ref 496)], [.int (iI (so cur))], S1) _
          have hs3179 := hso cur (by omega) (by omega)
          refine T_zif_eq xr_61_52 (t := 145) (pc' := 55) rfl rfl (fun c3180 => ?_) (fun c3180 => ?_)
          · skip
            have c3180 : (so cur) = 0 := c3180
            refine T_p xr_61_145 xn_61 (pc' := 146) (ls' := [(2, .int (iI line)), (0, .ref 496)]) (st' := [.ref 496]) rfl ?_
            refine T_get xr_61_146 hp rfl (v := .int (iI 0)) rfl (pc' := 149) rfl ?_
            refine T_zif_eqt xr_61_149 (t := 154) rfl (by decide) ?_
            refine T_p xr_61_154 xn_61 (pc' := 155) (ls' := [(2, .int (iI line)), (0, .ref 496)]) (st' := [.ref 496]) rfl ?_
            refine T_get xr_61_155 hp rfl (v := .ref B) rfl (pc' := 158) rfl ?_
            refine T_cv (S := S1) (q := B) xr_61_158 xf_15.1 xf_15.2.1 xn_15 (as := []) (r := []) rfl hb0 (Nat.le_of_ble_eq_true rfl) (Nat.le_of_ble_eq_true rfl) (pc' := 161) rfl (ls' := [(0, .ref B)]) rfl ?_
            refine T_mono (c_settleHoles sc S1 B rc kc wc rn lo kn ab D W hb hs (fun w h1 h2 => (hok.2.2.2 w h1 h2).1.wg)) (fun v3181 S3182 h3183 => ?_)
            obtain ⟨hv3184, ⟨D3185, hw3186, hd3187, ht3188⟩, hf3189⟩ := h3183
            rw [hv3184]
            show X_T sc 61 (161, [(2, .int (iI line)), (0, .ref 496)], [], S3182) _
            refine T_p xr_61_161 xn_61 (pc' := 162) (ls' := [(2, .int (iI line)), (0, .ref 496)]) (st' := [.int (iI 1)]) rfl ?_
            refine T_iret xr_61_162 xf_61.2.2 (by decide) ?_
            refine hQ _ _ ?_
            refine ⟨n, so, pl, ct, at_, ⟨hn1, ⟨E, hT⟩, hnt, hlast⟩, Or.inl ⟨rfl, cur, rc, kc, wc, rn, lo, kn, ab, D, W, D3185, fp, ?_, hok, hd3187, ht3188, ⟨(hf3189.1 496 (by omega)).trans hp, ⟨(hf3189.1 497 (by omega)).trans hx.1, (hf3189.1 498 (by omega)).trans hx.2.1, (hf3189.1 499 (by omega)).trans hx.2.2.1, (hf3189.1 500 (by omega)).trans hx.2.2.2⟩, hb.fr hf3189 (fun k hk => by omega), hw3186, hcu⟩⟩, (((((((X_Fr.rf).tr (X_Fr.of n3115 e3116 (by omega))).tr (X_Fr.mono ⟨h3123.1, h3123.2⟩ (fun q hq => (by omega)))).tr (X_Fr.of n3132 e3133 (by omega))).tr (X_Fr.of n3136 e3137 (by omega))).tr (X_Fr.mono ⟨hfr.1, hfr.2⟩ (fun q hq => (by omega)))).tr (X_Fr.mono ⟨hF3151.1, hF3151.2⟩ (fun q hq => (by omega)))).tr (X_Fr.mono ⟨hf3189.1, hf3189.2⟩ (fun q hq => (by omega)))⟩
            rw [← hR]
            first
              | (rw [show (2001 - line).toNat = 0 by omega]; rfl)
              | (rw [sp_lines_s (i := line) (by omega), if_pos (by first | assumption | omega)])
          · skip
            have c3180 : ¬ ((so cur) = 0) := c3180
            refine T_p xr_61_55 xn_61 (pc' := 56) (ls' := [(2, .int (iI line)), (0, .ref 496)]) (st' := [.ref 496]) rfl ?_
            refine T_get xr_61_56 hp rfl (v := .ref 497) rfl (pc' := 59) rfl ?_
            refine T_p xr_61_59 xn_61 (pc' := 62) (ls' := [(2, .int (iI line)), (0, .ref 496)]) (st' := [.long (Int64.ofNat 1918987883), .ref 497]) rfl ?_
            refine T_cv (S := S1) (q := 497) xr_61_62 xf_47.1 xf_47.2.1 xn_47 (as := [.long (Int64.ofNat 1918987883)]) (r := []) rfl hx.1 (Nat.le_of_ble_eq_true rfl) (Nat.le_of_ble_eq_true rfl) (pc' := 65) rfl (ls' := [(0, .ref 497), (1, .long (Int64.ofNat 1918987883))]) rfl ?_
            refine T_mono (c_isKeyword sc S1 at_ n cur so pl ct (Int64.ofNat 1918987883) ⟨hx.1, hx.2.1, hx.2.2.1, hx.2.2.2⟩ (by omega) hso) (fun v3191 S3192 h3190 => ?_)
            obtain ⟨h3193, h3194⟩ := h3190
            rw [h3193, h3194]
            show X_T sc 61 (65, [(2, .int (iI line)), (0, .ref 496)], [.int (iI (bI (so cur = 3 ∧ ct cur = (Int64.ofNat 1918987883))))], S1) _
            refine T_bif_eq xr_61_65 (t := 75) (pc' := 68) rfl rfl (fun c3195 => ?_) (fun c3195 => ?_)
            · skip
              have c3195 : ¬ (so cur = 3 ∧ ct cur = (Int64.ofNat 1918987883)) := c3195
              refine T_p xr_61_75 xn_61 (pc' := 76) (ls' := [(2, .int (iI line)), (0, .ref 496)]) (st' := [.ref 496]) rfl ?_
              refine T_get xr_61_76 hp rfl (v := .ref 497) rfl (pc' := 79) rfl ?_
              refine T_p xr_61_79 xn_61 (pc' := 82) (ls' := [(2, .int (iI line)), (0, .ref 496)]) (st' := [.long (Int64.ofNat 32766990153442674), .ref 497]) rfl ?_
              refine T_cv (S := S1) (q := 497) xr_61_82 xf_47.1 xf_47.2.1 xn_47 (as := [.long (Int64.ofNat 32766990153442674)]) (r := []) rfl hx.1 (Nat.le_of_ble_eq_true rfl) (Nat.le_of_ble_eq_true rfl) (pc' := 85) rfl (ls' := [(0, .ref 497), (1, .long (Int64.ofNat 32766990153442674))]) rfl ?_
              refine T_mono (c_isKeyword sc S1 at_ n cur so pl ct (Int64.ofNat 32766990153442674) ⟨hx.1, hx.2.1, hx.2.2.1, hx.2.2.2⟩ (by omega) hso) (fun v3197 S3198 h3196 => ?_)
              obtain ⟨h3199, h3200⟩ := h3196
              rw [h3199, h3200]
              show X_T sc 61 (85, [(2, .int (iI line)), (0, .ref 496)], [.int (iI (bI (so cur = 3 ∧ ct cur = (Int64.ofNat 32766990153442674))))], S1) _
              refine T_bif_eq xr_61_85 (t := 95) (pc' := 88) rfl rfl (fun c3201 => ?_) (fun c3201 => ?_)
              · skip
                have c3201 : ¬ (so cur = 3 ∧ ct cur = (Int64.ofNat 32766990153442674)) := c3201
                refine T_p xr_61_95 xn_61 (pc' := 96) (ls' := [(2, .int (iI line)), (0, .ref 496)]) (st' := [.ref 496]) rfl ?_
                refine T_get xr_61_96 hp rfl (v := .ref 497) rfl (pc' := 99) rfl ?_
                refine T_p xr_61_99 xn_61 (pc' := 102) (ls' := [(2, .int (iI line)), (0, .ref 496)]) (st' := [.long (Int64.ofNat 1802071652), .ref 497]) rfl ?_
                refine T_cv (S := S1) (q := 497) xr_61_102 xf_47.1 xf_47.2.1 xn_47 (as := [.long (Int64.ofNat 1802071652)]) (r := []) rfl hx.1 (Nat.le_of_ble_eq_true rfl) (Nat.le_of_ble_eq_true rfl) (pc' := 105) rfl (ls' := [(0, .ref 497), (1, .long (Int64.ofNat 1802071652))]) rfl ?_
                refine T_mono (c_isKeyword sc S1 at_ n cur so pl ct (Int64.ofNat 1802071652) ⟨hx.1, hx.2.1, hx.2.2.1, hx.2.2.2⟩ (by omega) hso) (fun v3203 S3204 h3202 => ?_)
                obtain ⟨h3205, h3206⟩ := h3202
                rw [h3205, h3206]
                show X_T sc 61 (105, [(2, .int (iI line)), (0, .ref 496)], [.int (iI (bI (so cur = 3 ∧ ct cur = (Int64.ofNat 1802071652))))], S1) _
                refine T_bif_eq xr_61_105 (t := 115) (pc' := 108) rfl rfl (fun c3207 => ?_) (fun c3207 => ?_)
                · skip
                  have c3207 : ¬ (so cur = 3 ∧ ct cur = (Int64.ofNat 1802071652)) := c3207
                  refine T_p xr_61_115 xn_61 (pc' := 116) (ls' := [(2, .int (iI line)), (0, .ref 496)]) (st' := [.ref 496]) rfl ?_
                  refine T_get xr_61_116 hp rfl (v := .ref 497) rfl (pc' := 119) rfl ?_
                  refine T_p xr_61_119 xn_61 (pc' := 122) (ls' := [(2, .int (iI line)), (0, .ref 496)]) (st' := [.long (Int64.ofNat 2003792484), .ref 497]) rfl ?_
                  refine T_cv (S := S1) (q := 497) xr_61_122 xf_47.1 xf_47.2.1 xn_47 (as := [.long (Int64.ofNat 2003792484)]) (r := []) rfl hx.1 (Nat.le_of_ble_eq_true rfl) (Nat.le_of_ble_eq_true rfl) (pc' := 125) rfl (ls' := [(0, .ref 497), (1, .long (Int64.ofNat 2003792484))]) rfl ?_
                  refine T_mono (c_isKeyword sc S1 at_ n cur so pl ct (Int64.ofNat 2003792484) ⟨hx.1, hx.2.1, hx.2.2.1, hx.2.2.2⟩ (by omega) hso) (fun v3209 S3210 h3208 => ?_)
                  obtain ⟨h3211, h3212⟩ := h3208
                  rw [h3211, h3212]
                  show X_T sc 61 (125, [(2, .int (iI line)), (0, .ref 496)], [.int (iI (bI (so cur = 3 ∧ ct cur = (Int64.ofNat 2003792484))))], S1) _
                  refine T_bif_eq xr_61_125 (t := 135) (pc' := 128) rfl rfl (fun c3213 => ?_) (fun c3213 => ?_)
                  · skip
                    have c3213 : ¬ (so cur = 3 ∧ ct cur = (Int64.ofNat 2003792484)) := c3213
                    refine T_p xr_61_135 xn_61 (pc' := 136) (ls' := [(2, .int (iI line)), (0, .ref 496)]) (st' := [.ref 496]) rfl ?_
                    refine T_cv (S := S1) (q := 496) xr_61_136 xf_63.1 xf_63.2.1 xn_63 (as := []) (r := []) rfl hp (Nat.le_of_ble_eq_true rfl) (Nat.le_of_ble_eq_true rfl) (pc' := 139) rfl (ls' := [(0, .ref 496)]) rfl ?_
                    refine T_mono (c_refuse sc S1 B 0 fp at_ n cur so pl ct hp hx ⟨by omega, by omega, by omega⟩ hso) (fun v3214 S3215 h3216 => ?_)
                    obtain ⟨h3217, ⟨fl3218, fp3219, hn3220, hp3221⟩, hf3222⟩ := h3216
                    rw [h3217]
                    have hK3223 : C_K S3215 B fl3218 fp3219 at_ n so pl ct (cur, rc, kc, wc, rn, lo, kn, ab, D, W) := ⟨hp3221, ⟨(hf3222.1 497 (by omega)).trans hx.1, (hf3222.1 498 (by omega)).trans hx.2.1, (hf3222.1 499 (by omega)).trans hx.2.2.1, (hf3222.1 500 (by omega)).trans hx.2.2.2⟩, hb.fr hf3222 (fun k hk => by omega), hs.fr hf3222 (fun k h1 h2 => by omega), hcu⟩
                    show X_T sc 61 (139, [(2, .int (iI line)), (0, .ref 496)], [], S3215) _
                    refine T_ziinc xr_61_139 xn_61 (a := line) (z := line + 1) rfl (Nat.le_of_ble_eq_true rfl) (by omega) (ls' := [(2, .int (iI (line + 1))), (0, .ref 496)]) rfl (pc' := 142) rfl ?_
                    refine T_p xr_61_142 xn_61 (pc' := 31) (ls' := [(2, .int (iI (line + 1))), (0, .ref 496)]) (st' := []) rfl ?_
                    exact ih3148 S3215 (line + 1) (cur, rc, kc, wc, rn, lo, kn, ab, D, W) fl3218 fp3219 (hF3151.tr ((X_Fr.rf).tr (X_Fr.mono ⟨hf3222.1, hf3222.2⟩ (fun q hq => (by omega))))) (by omega) hn3220.2 hK3223 (fun z => absurd z hn3220.1) (fun _ => by
                          have hl3224 : sp_line n so ct (cur, rc, kc, wc, rn, lo, kn, ab, D, W) = none := (by unfold sp_line; (repeat (first | rw [if_pos (by assumption)] | rw [if_neg (by assumption)])))
                          rw [← hR, sp_lines_s (i := line) (by omega), if_neg (by assumption), hl3224]
                          rfl) (by omega)
                  · skip
                    have c3213 : (so cur = 3 ∧ ct cur = (Int64.ofNat 2003792484)) := c3213
                    refine T_p xr_61_128 xn_61 (pc' := 129) (ls' := [(2, .int (iI line)), (0, .ref 496)]) (st' := [.ref 496]) rfl ?_
                    refine T_cv (S := S1) (q := 496) xr_61_129 xf_71.1 xf_71.2.1 xn_71 (as := []) (r := []) rfl hp (Nat.le_of_ble_eq_true rfl) (Nat.le_of_ble_eq_true rfl) (pc' := 132) rfl (ls' := [(0, .ref 496)]) rfl ?_
                    have hs3229c : C_K S1 B 0 fp at_ n so pl ct (cur, rc, kc, wc, rn, lo, kn, ab, D, W) := hK
                    refine T_mono (T_void xf_71.2.2 (c_parseWord sc S1 B fp at_ n so pl ct cur rc kc wc rn lo kn ab D W hB (by omega) hso hK)) (fun v3225 S3226 h3227 => ?_)
                    obtain ⟨hv3235, h3227⟩ := h3227
                    rw [hv3235]
                    rcases h3227 with ⟨K3228, hs3229, fp3230, hK3231, hf3232⟩ | ⟨hs3229, fl3233, fp3230, K3228, hn3234, hK3231, hf3232⟩
                    · skip
                      show X_T sc 61 (132, [(2, .int (iI line)), (0, .ref 496)], [], S3226) _
                      refine T_p xr_61_132 xn_61 (pc' := 139) (ls' := [(2, .int (iI line)), (0, .ref 496)]) (st' := []) rfl ?_
                      refine T_ziinc xr_61_139 xn_61 (a := line) (z := line + 1) rfl (Nat.le_of_ble_eq_true rfl) (by omega) (ls' := [(2, .int (iI (line + 1))), (0, .ref 496)]) rfl (pc' := 142) rfl ?_
                      refine T_p xr_61_142 xn_61 (pc' := 31) (ls' := [(2, .int (iI (line + 1))), (0, .ref 496)]) (st' := []) rfl ?_
                      exact ih3148 S3226 (line + 1) K3228 0 fp3230 (hF3151.tr ((X_Fr.rf).tr (X_Fr.mono ⟨hf3232.1, hf3232.2⟩ (fun q hq => (by omega))))) (by omega) (by omega) hK3231 (fun _ => by
                            have hl3236 : sp_line n so ct (cur, rc, kc, wc, rn, lo, kn, ab, D, W) = some K3228 := (by unfold sp_line; (repeat (first | rw [if_pos (by assumption)] | rw [if_neg (by assumption)])); exact hs3229)
                            refine ⟨?_, (sp_line_ok hct hcu hok hl3236).1⟩
                            rw [← hR, sp_lines_s (i := line) (by omega), if_neg (by assumption), hl3236]
                            rfl) (fun z => absurd rfl z) (by omega)
                    · skip
                      show X_T sc 61 (132, [(2, .int (iI line)), (0, .ref 496)], [], S3226) _
                      refine T_p xr_61_132 xn_61 (pc' := 139) (ls' := [(2, .int (iI line)), (0, .ref 496)]) (st' := []) rfl ?_
                      refine T_ziinc xr_61_139 xn_61 (a := line) (z := line + 1) rfl (Nat.le_of_ble_eq_true rfl) (by omega) (ls' := [(2, .int (iI (line + 1))), (0, .ref 496)]) rfl (pc' := 142) rfl ?_
                      refine T_p xr_61_142 xn_61 (pc' := 31) (ls' := [(2, .int (iI (line + 1))), (0, .ref 496)]) (st' := []) rfl ?_
                      exact ih3148 S3226 (line + 1) K3228 fl3233 fp3230 (hF3151.tr ((X_Fr.rf).tr (X_Fr.mono ⟨hf3232.1, hf3232.2⟩ (fun q hq => (by omega))))) (by omega) hn3234.2 hK3231 (fun z => absurd z hn3234.1) (fun _ => by
                            have hl3238 : sp_line n so ct (cur, rc, kc, wc, rn, lo, kn, ab, D, W) = none := (by unfold sp_line; (repeat (first | rw [if_pos (by assumption)] | rw [if_neg (by assumption)])); exact hs3229)
                            rw [← hR, sp_lines_s (i := line) (by omega), if_neg (by assumption), hl3238]
                            rfl) (by omega)
                · skip
                  have c3207 : (so cur = 3 ∧ ct cur = (Int64.ofNat 1802071652)) := c3207
                  refine T_p xr_61_108 xn_61 (pc' := 109) (ls' := [(2, .int (iI line)), (0, .ref 496)]) (st' := [.ref 496]) rfl ?_
                  refine T_cv (S := S1) (q := 496) xr_61_109 xf_67.1 xf_67.2.1 xn_67 (as := []) (r := []) rfl hp (Nat.le_of_ble_eq_true rfl) (Nat.le_of_ble_eq_true rfl) (pc' := 112) rfl (ls' := [(0, .ref 496)]) rfl ?_
                  have hs3243c : C_K S1 B 0 fp at_ n so pl ct (cur, rc, kc, wc, rn, lo, kn, ab, D, W) := hK
                  refine T_mono (T_void xf_67.2.2 (c_parseKind sc S1 B fp at_ n so pl ct cur rc kc wc rn lo kn ab D W hB (by omega) hso hK)) (fun v3239 S3240 h3241 => ?_)
                  obtain ⟨hv3249, h3241⟩ := h3241
                  rw [hv3249]
                  rcases h3241 with ⟨K3242, hs3243, fp3244, hK3245, hf3246⟩ | ⟨hs3243, fl3247, fp3244, K3242, hn3248, hK3245, hf3246⟩
                  · skip
                    show X_T sc 61 (112, [(2, .int (iI line)), (0, .ref 496)], [], S3240) _
                    refine T_p xr_61_112 xn_61 (pc' := 139) (ls' := [(2, .int (iI line)), (0, .ref 496)]) (st' := []) rfl ?_
                    refine T_ziinc xr_61_139 xn_61 (a := line) (z := line + 1) rfl (Nat.le_of_ble_eq_true rfl) (by omega) (ls' := [(2, .int (iI (line + 1))), (0, .ref 496)]) rfl (pc' := 142) rfl ?_
                    refine T_p xr_61_142 xn_61 (pc' := 31) (ls' := [(2, .int (iI (line + 1))), (0, .ref 496)]) (st' := []) rfl ?_
                    exact ih3148 S3240 (line + 1) K3242 0 fp3244 (hF3151.tr ((X_Fr.rf).tr (X_Fr.mono ⟨hf3246.1, hf3246.2⟩ (fun q hq => (by omega))))) (by omega) (by omega) hK3245 (fun _ => by
                          have hl3250 : sp_line n so ct (cur, rc, kc, wc, rn, lo, kn, ab, D, W) = some K3242 := (by unfold sp_line; (repeat (first | rw [if_pos (by assumption)] | rw [if_neg (by assumption)])); exact hs3243)
                          refine ⟨?_, (sp_line_ok hct hcu hok hl3250).1⟩
                          rw [← hR, sp_lines_s (i := line) (by omega), if_neg (by assumption), hl3250]
                          rfl) (fun z => absurd rfl z) (by omega)
                  · skip
                    show X_T sc 61 (112, [(2, .int (iI line)), (0, .ref 496)], [], S3240) _
                    refine T_p xr_61_112 xn_61 (pc' := 139) (ls' := [(2, .int (iI line)), (0, .ref 496)]) (st' := []) rfl ?_
                    refine T_ziinc xr_61_139 xn_61 (a := line) (z := line + 1) rfl (Nat.le_of_ble_eq_true rfl) (by omega) (ls' := [(2, .int (iI (line + 1))), (0, .ref 496)]) rfl (pc' := 142) rfl ?_
                    refine T_p xr_61_142 xn_61 (pc' := 31) (ls' := [(2, .int (iI (line + 1))), (0, .ref 496)]) (st' := []) rfl ?_
                    exact ih3148 S3240 (line + 1) K3242 fl3247 fp3244 (hF3151.tr ((X_Fr.rf).tr (X_Fr.mono ⟨hf3246.1, hf3246.2⟩ (fun q hq => (by omega))))) (by omega) hn3248.2 hK3245 (fun z => absurd z hn3248.1) (fun _ => by
                          have hl3252 : sp_line n so ct (cur, rc, kc, wc, rn, lo, kn, ab, D, W) = none := (by unfold sp_line; (repeat (first | rw [if_pos (by assumption)] | rw [if_neg (by assumption)])); exact hs3243)
                          rw [← hR, sp_lines_s (i := line) (by omega), if_neg (by assumption), hl3252]
                          rfl) (by omega)
              · skip
                have c3201 : (so cur = 3 ∧ ct cur = (Int64.ofNat 32766990153442674)) := c3201
                refine T_p xr_61_88 xn_61 (pc' := 89) (ls' := [(2, .int (iI line)), (0, .ref 496)]) (st' := [.ref 496]) rfl ?_
                refine T_cv (S := S1) (q := 496) xr_61_89 xf_66.1 xf_66.2.1 xn_66 (as := []) (r := []) rfl hp (Nat.le_of_ble_eq_true rfl) (Nat.le_of_ble_eq_true rfl) (pc' := 92) rfl (ls' := [(0, .ref 496)]) rfl ?_
                have hs3257c : C_K S1 B 0 fp at_ n so pl ct (cur, rc, kc, wc, rn, lo, kn, ab, D, W) := hK
                refine T_mono (T_void xf_66.2.2 (c_parseTighter sc S1 B fp at_ n so pl ct cur rc kc wc rn lo kn ab D W hB (by omega) hso hK)) (fun v3253 S3254 h3255 => ?_)
                obtain ⟨hv3263, h3255⟩ := h3255
                rw [hv3263]
                rcases h3255 with ⟨K3256, hs3257, fp3258, hK3259, hf3260⟩ | ⟨hs3257, fl3261, fp3258, K3256, hn3262, hK3259, hf3260⟩
                · skip
                  show X_T sc 61 (92, [(2, .int (iI line)), (0, .ref 496)], [], S3254) _
                  refine T_p xr_61_92 xn_61 (pc' := 139) (ls' := [(2, .int (iI line)), (0, .ref 496)]) (st' := []) rfl ?_
                  refine T_ziinc xr_61_139 xn_61 (a := line) (z := line + 1) rfl (Nat.le_of_ble_eq_true rfl) (by omega) (ls' := [(2, .int (iI (line + 1))), (0, .ref 496)]) rfl (pc' := 142) rfl ?_
                  refine T_p xr_61_142 xn_61 (pc' := 31) (ls' := [(2, .int (iI (line + 1))), (0, .ref 496)]) (st' := []) rfl ?_
                  exact ih3148 S3254 (line + 1) K3256 0 fp3258 (hF3151.tr ((X_Fr.rf).tr (X_Fr.mono ⟨hf3260.1, hf3260.2⟩ (fun q hq => (by omega))))) (by omega) (by omega) hK3259 (fun _ => by
                        have hl3264 : sp_line n so ct (cur, rc, kc, wc, rn, lo, kn, ab, D, W) = some K3256 := (by unfold sp_line; (repeat (first | rw [if_pos (by assumption)] | rw [if_neg (by assumption)])); exact hs3257)
                        refine ⟨?_, (sp_line_ok hct hcu hok hl3264).1⟩
                        rw [← hR, sp_lines_s (i := line) (by omega), if_neg (by assumption), hl3264]
                        rfl) (fun z => absurd rfl z) (by omega)
                · skip
                  show X_T sc 61 (92, [(2, .int (iI line)), (0, .ref 496)], [], S3254) _
                  refine T_p xr_61_92 xn_61 (pc' := 139) (ls' := [(2, .int (iI line)), (0, .ref 496)]) (st' := []) rfl ?_
                  refine T_ziinc xr_61_139 xn_61 (a := line) (z := line + 1) rfl (Nat.le_of_ble_eq_true rfl) (by omega) (ls' := [(2, .int (iI (line + 1))), (0, .ref 496)]) rfl (pc' := 142) rfl ?_
                  refine T_p xr_61_142 xn_61 (pc' := 31) (ls' := [(2, .int (iI (line + 1))), (0, .ref 496)]) (st' := []) rfl ?_
                  exact ih3148 S3254 (line + 1) K3256 fl3261 fp3258 (hF3151.tr ((X_Fr.rf).tr (X_Fr.mono ⟨hf3260.1, hf3260.2⟩ (fun q hq => (by omega))))) (by omega) hn3262.2 hK3259 (fun z => absurd z hn3262.1) (fun _ => by
                        have hl3266 : sp_line n so ct (cur, rc, kc, wc, rn, lo, kn, ab, D, W) = none := (by unfold sp_line; (repeat (first | rw [if_pos (by assumption)] | rw [if_neg (by assumption)])); exact hs3257)
                        rw [← hR, sp_lines_s (i := line) (by omega), if_neg (by assumption), hl3266]
                        rfl) (by omega)
            · skip
              have c3195 : (so cur = 3 ∧ ct cur = (Int64.ofNat 1918987883)) := c3195
              refine T_p xr_61_68 xn_61 (pc' := 69) (ls' := [(2, .int (iI line)), (0, .ref 496)]) (st' := [.ref 496]) rfl ?_
              refine T_cv (S := S1) (q := 496) xr_61_69 xf_65.1 xf_65.2.1 xn_65 (as := []) (r := []) rfl hp (Nat.le_of_ble_eq_true rfl) (Nat.le_of_ble_eq_true rfl) (pc' := 72) rfl (ls' := [(0, .ref 496)]) rfl ?_
              have hs3271c : C_K S1 B 0 fp at_ n so pl ct (cur, rc, kc, wc, rn, lo, kn, ab, D, W) := hK
              refine T_mono (T_void xf_65.2.2 (c_parseRank sc S1 B fp at_ n so pl ct cur rc kc wc rn lo kn ab D W hB (by omega) hso hK)) (fun v3267 S3268 h3269 => ?_)
              obtain ⟨hv3277, h3269⟩ := h3269
              rw [hv3277]
              rcases h3269 with ⟨K3270, hs3271, fp3272, hK3273, hf3274⟩ | ⟨hs3271, fl3275, fp3272, K3270, hn3276, hK3273, hf3274⟩
              · skip
                show X_T sc 61 (72, [(2, .int (iI line)), (0, .ref 496)], [], S3268) _
                refine T_p xr_61_72 xn_61 (pc' := 139) (ls' := [(2, .int (iI line)), (0, .ref 496)]) (st' := []) rfl ?_
                refine T_ziinc xr_61_139 xn_61 (a := line) (z := line + 1) rfl (Nat.le_of_ble_eq_true rfl) (by omega) (ls' := [(2, .int (iI (line + 1))), (0, .ref 496)]) rfl (pc' := 142) rfl ?_
                refine T_p xr_61_142 xn_61 (pc' := 31) (ls' := [(2, .int (iI (line + 1))), (0, .ref 496)]) (st' := []) rfl ?_
                exact ih3148 S3268 (line + 1) K3270 0 fp3272 (hF3151.tr ((X_Fr.rf).tr (X_Fr.mono ⟨hf3274.1, hf3274.2⟩ (fun q hq => (by omega))))) (by omega) (by omega) hK3273 (fun _ => by
                      have hl3278 : sp_line n so ct (cur, rc, kc, wc, rn, lo, kn, ab, D, W) = some K3270 := (by unfold sp_line; (repeat (first | rw [if_pos (by assumption)] | rw [if_neg (by assumption)])); exact hs3271)
                      refine ⟨?_, (sp_line_ok hct hcu hok hl3278).1⟩
                      rw [← hR, sp_lines_s (i := line) (by omega), if_neg (by assumption), hl3278]
                      rfl) (fun z => absurd rfl z) (by omega)
              · skip
                show X_T sc 61 (72, [(2, .int (iI line)), (0, .ref 496)], [], S3268) _
                refine T_p xr_61_72 xn_61 (pc' := 139) (ls' := [(2, .int (iI line)), (0, .ref 496)]) (st' := []) rfl ?_
                refine T_ziinc xr_61_139 xn_61 (a := line) (z := line + 1) rfl (Nat.le_of_ble_eq_true rfl) (by omega) (ls' := [(2, .int (iI (line + 1))), (0, .ref 496)]) rfl (pc' := 142) rfl ?_
                refine T_p xr_61_142 xn_61 (pc' := 31) (ls' := [(2, .int (iI (line + 1))), (0, .ref 496)]) (st' := []) rfl ?_
                exact ih3148 S3268 (line + 1) K3270 fl3275 fp3272 (hF3151.tr ((X_Fr.rf).tr (X_Fr.mono ⟨hf3274.1, hf3274.2⟩ (fun q hq => (by omega))))) (by omega) hn3276.2 hK3273 (fun z => absurd z hn3276.1) (fun _ => by
                      have hl3280 : sp_line n so ct (cur, rc, kc, wc, rn, lo, kn, ab, D, W) = none := (by unfold sp_line; (repeat (first | rw [if_pos (by assumption)] | rw [if_neg (by assumption)])); exact hs3271)
                      rw [← hR, sp_lines_s (i := line) (by omega), if_neg (by assumption), hl3280]
                      rfl) (by omega)
  have h3281 := (hfr.1 B (by omega)).trans ((n3136 B (by omega)).trans ((n3132 B (by omega)).trans (hb3122.1)))
  have h3282 := (hfr.1 (B + 1) (by omega)).trans ((n3136 (B + 1) (by omega)).trans ((n3132 (B + 1) (by omega)).trans (hb3122.2.1)))
  have h3283 := (hfr.1 (B + 2) (by omega)).trans ((n3136 (B + 2) (by omega)).trans ((n3132 (B + 2) (by omega)).trans (hb3122.2.2.1)))
  have h3284 := (hfr.1 (B + 3) (by omega)).trans ((n3136 (B + 3) (by omega)).trans ((n3132 (B + 3) (by omega)).trans (hb3122.2.2.2.1)))
  have h3285 := (hfr.1 (B + 4) (by omega)).trans ((n3136 (B + 4) (by omega)).trans ((n3132 (B + 4) (by omega)).trans (hb3122.2.2.2.2.1)))
  have h3286 := (hfr.1 (B + 5) (by omega)).trans ((n3136 (B + 5) (by omega)).trans ((n3132 (B + 5) (by omega)).trans ((h3123.1 (B + 5) (by omega)).trans (h3128))))
  have hb3287 : C_bk S3140 B 0 1 0 rn lo (X_ug kn 0 (Int64.ofNat 6384748)) (X_ug ab 0 1) := ⟨h3281, h3282, h3283, h3284, h3285, ⟨f, h3286, hf⟩, ⟨by omega, by omega⟩, ⟨by omega, by omega⟩, ⟨by omega, by omega⟩⟩
  have h3288 := (hfr.1 496 (by omega)).trans (h3135)
  have hs3289 : C_ws S3140 B D W := C_ws.fr (P := fun r => (B ≤ r ∧ r ≤ B + 4) ∨ (496 ≤ r ∧ r ≤ 500)) hs ((((((X_Fr.rf).tr (X_Fr.of n3115 e3116 (by omega))).tr (X_Fr.mono ⟨h3123.1, h3123.2⟩ (fun q hq => (by omega)))).tr (X_Fr.of n3132 e3133 (by omega))).tr (X_Fr.of n3136 e3137 (by omega))).tr (X_Fr.mono ⟨hfr.1, hfr.2⟩ (fun q hq => (by omega)))) (fun k h1 h2 => by omega)
  have hK0 : C_K S3140 B 0 (-1) at_ n so pl ct (0, 0, 1, 0, rn, lo, X_ug kn 0 (Int64.ofNat 6384748), X_ug ab 0 1, D, W) := ⟨h3288, ⟨hx.1, hx.2.1, hx.2.2.1, hx.2.2.2⟩, hb3287, hs3289, by show (0 : Int) ≤ 0 ∧ (0 : Int) < n; omega⟩
  refine T_sub (ls := [(2, .int (iI 0)), (0, .ref 496)]) ⟨rfl, rfl, trivial⟩ rfl rfl ?_
  exact L3147 ((2001 : Int) + 1).toNat S3140 0 (0, 0, 1, 0, rn, lo, X_ug kn 0 (Int64.ofNat 6384748), X_ug ab 0 1, D, W) 0 (-1) ((X_Fr.rf)) (by omega) (by omega) hK0 (fun _ => ⟨rfl, ⟨by show (0 : Int) ≤ 0 ∧ (0 : Int) ≤ 12; omega, by show (1 : Int) ≤ 1 ∧ (1 : Int) ≤ 11; omega, by show (0 : Int) ≤ 0 ∧ (0 : Int) ≤ 30; omega, fun w h1 h2 => absurd (show w < 0 from h2) (by omega)⟩⟩) (fun z => absurd rfl z) (by omega)
