theorem xr_139_0 : X_row 139 0 = some (0, (.aload_n 0, 1), (0, 0, 0)) := by decide +kernel
theorem xr_139_1 : X_row 139 1 = some (1, (.getfield 11, 3), (11, 5, 10)) := by decide +kernel
theorem xr_139_4 : X_row 139 4 = some (4, (.ifCond .le 4, 3), (0, 0, 0)) := by decide +kernel
theorem xr_139_7 : X_row 139 7 = some (7, (.return_, 1), (0, 0, 0)) := by decide +kernel
theorem xr_139_8 : X_row 139 8 = some (8, (.aload_n 0, 1), (0, 0, 0)) := by decide +kernel
theorem xr_139_9 : X_row 139 9 = some (9, (.iload_n 1, 1), (0, 0, 0)) := by decide +kernel
theorem xr_139_10 : X_row 139 10 = some (10, (.putfield 11, 3), (11, 5, 10)) := by decide +kernel
theorem xr_139_13 : X_row 139 13 = some (13, (.aload_n 0, 1), (0, 0, 0)) := by decide +kernel
theorem xr_139_14 : X_row 139 14 = some (14, (.iload_n 2, 1), (0, 0, 0)) := by decide +kernel
theorem xr_139_15 : X_row 139 15 = some (15, (.putfield 14, 3), (11, 6, 12)) := by decide +kernel
theorem xr_139_18 : X_row 139 18 = some (18, (.return_, 1), (0, 0, 0)) := by decide +kernel
theorem xr_140_0 : X_row 140 0 = some (0, (.aload_n 0, 1), (0, 0, 0)) := by decide +kernel
theorem xr_140_1 : X_row 140 1 = some (1, (.getfield 11, 3), (11, 5, 10)) := by decide +kernel
theorem xr_140_4 : X_row 140 4 = some (4, (.ifCond .ne 7, 3), (0, 0, 0)) := by decide +kernel
theorem xr_140_7 : X_row 140 7 = some (7, (.iconst 1, 1), (0, 0, 0)) := by decide +kernel
theorem xr_140_8 : X_row 140 8 = some (8, (.goto 4, 3), (0, 0, 0)) := by decide +kernel
theorem xr_140_11 : X_row 140 11 = some (11, (.iconst 0, 1), (0, 0, 0)) := by decide +kernel
theorem xr_140_12 : X_row 140 12 = some (12, (.ireturn, 1), (0, 0, 0)) := by decide +kernel
theorem xr_145_0 : X_row 145 0 = some (0, (.aload_n 0, 1), (0, 0, 0)) := by decide +kernel
theorem xr_145_1 : X_row 145 1 = some (1, (.getfield 27, 3), (11, 9, 18)) := by decide +kernel
theorem xr_145_4 : X_row 145 4 = some (4, (.bipush 6, 2), (0, 0, 0)) := by decide +kernel
theorem xr_145_6 : X_row 145 6 = some (6, (.if_icmp .ne 19, 3), (0, 0, 0)) := by decide +kernel
theorem xr_145_9 : X_row 145 9 = some (9, (.aload_n 0, 1), (0, 0, 0)) := by decide +kernel
theorem xr_145_10 : X_row 145 10 = some (10, (.aload_n 0, 1), (0, 0, 0)) := by decide +kernel
theorem xr_145_11 : X_row 145 11 = some (11, (.getfield 20, 3), (11, 7, 14)) := by decide +kernel
theorem xr_145_14 : X_row 145 14 = some (14, (.invokevirtual 23, 3), (136, 2, 0)) := by decide +kernel
theorem xr_145_17 : X_row 145 17 = some (17, (.iload_n 1, 1), (0, 0, 0)) := by decide +kernel
theorem xr_145_18 : X_row 145 18 = some (18, (.if_icmp .ne 7, 3), (0, 0, 0)) := by decide +kernel
theorem xr_145_21 : X_row 145 21 = some (21, (.iconst 1, 1), (0, 0, 0)) := by decide +kernel
theorem xr_145_22 : X_row 145 22 = some (22, (.goto 4, 3), (0, 0, 0)) := by decide +kernel
theorem xr_145_25 : X_row 145 25 = some (25, (.iconst 0, 1), (0, 0, 0)) := by decide +kernel
theorem xr_145_26 : X_row 145 26 = some (26, (.ireturn, 1), (0, 0, 0)) := by decide +kernel
theorem xr_146_0 : X_row 146 0 = some (0, (.aload_n 0, 1), (0, 0, 0)) := by decide +kernel
theorem xr_146_1 : X_row 146 1 = some (1, (.getfield 27, 3), (11, 9, 18)) := by decide +kernel
theorem xr_146_4 : X_row 146 4 = some (4, (.iconst 3, 1), (0, 0, 0)) := by decide +kernel
theorem xr_146_5 : X_row 146 5 = some (5, (.if_icmp .ne 16, 3), (0, 0, 0)) := by decide +kernel
theorem xr_146_8 : X_row 146 8 = some (8, (.aload_n 0, 1), (0, 0, 0)) := by decide +kernel
theorem xr_146_9 : X_row 146 9 = some (9, (.getfield 41, 3), (11, 12, 24)) := by decide +kernel
theorem xr_146_12 : X_row 146 12 = some (12, (.lload_n 1, 1), (0, 0, 0)) := by decide +kernel
theorem xr_146_13 : X_row 146 13 = some (13, (.lcmp, 1), (0, 0, 0)) := by decide +kernel
theorem xr_146_14 : X_row 146 14 = some (14, (.ifCond .ne 7, 3), (0, 0, 0)) := by decide +kernel
theorem xr_146_17 : X_row 146 17 = some (17, (.iconst 1, 1), (0, 0, 0)) := by decide +kernel
theorem xr_146_18 : X_row 146 18 = some (18, (.goto 4, 3), (0, 0, 0)) := by decide +kernel
theorem xr_146_21 : X_row 146 21 = some (21, (.iconst 0, 1), (0, 0, 0)) := by decide +kernel
theorem xr_146_22 : X_row 146 22 = some (22, (.ireturn, 1), (0, 0, 0)) := by decide +kernel
theorem xr_147_0 : X_row 147 0 = some (0, (.aload_n 0, 1), (0, 0, 0)) := by decide +kernel
theorem xr_147_1 : X_row 147 1 = some (1, (.aload_n 0, 1), (0, 0, 0)) := by decide +kernel
theorem xr_147_2 : X_row 147 2 = some (2, (.getfield 27, 3), (11, 9, 18)) := by decide +kernel
theorem xr_147_5 : X_row 147 5 = some (5, (.iconst 1, 1), (0, 0, 0)) := by decide +kernel
theorem xr_147_6 : X_row 147 6 = some (6, (.if_icmp .ne 7, 3), (0, 0, 0)) := by decide +kernel
theorem xr_147_9 : X_row 147 9 = some (9, (.iconst 1, 1), (0, 0, 0)) := by decide +kernel
theorem xr_147_10 : X_row 147 10 = some (10, (.goto 4, 3), (0, 0, 0)) := by decide +kernel
theorem xr_147_13 : X_row 147 13 = some (13, (.iconst 2, 1), (0, 0, 0)) := by decide +kernel
theorem xr_147_14 : X_row 147 14 = some (14, (.aload_n 0, 1), (0, 0, 0)) := by decide +kernel
theorem xr_147_15 : X_row 147 15 = some (15, (.getfield 20, 3), (11, 7, 14)) := by decide +kernel
theorem xr_147_18 : X_row 147 18 = some (18, (.invokevirtual 72, 3), (139, 18, 0)) := by decide +kernel
theorem xr_147_21 : X_row 147 21 = some (21, (.return_, 1), (0, 0, 0)) := by decide +kernel
theorem xr_148_0 : X_row 148 0 = some (0, (.aload_n 0, 1), (0, 0, 0)) := by decide +kernel
theorem xr_148_1 : X_row 148 1 = some (1, (.iload_n 1, 1), (0, 0, 0)) := by decide +kernel
theorem xr_148_2 : X_row 148 2 = some (2, (.invokevirtual 75, 3), (145, 26, 0)) := by decide +kernel
theorem xr_148_5 : X_row 148 5 = some (5, (.ifCond .eq 10, 3), (0, 0, 0)) := by decide +kernel
theorem xr_148_8 : X_row 148 8 = some (8, (.aload_n 0, 1), (0, 0, 0)) := by decide +kernel
theorem xr_148_9 : X_row 148 9 = some (9, (.invokevirtual 78, 3), (141, 0, 0)) := by decide +kernel
theorem xr_148_12 : X_row 148 12 = some (12, (.goto 7, 3), (0, 0, 0)) := by decide +kernel
theorem xr_148_15 : X_row 148 15 = some (15, (.aload_n 0, 1), (0, 0, 0)) := by decide +kernel
theorem xr_148_16 : X_row 148 16 = some (16, (.invokevirtual 81, 3), (147, 16, 0)) := by decide +kernel
theorem xr_148_19 : X_row 148 19 = some (19, (.return_, 1), (0, 0, 0)) := by decide +kernel
theorem xn_139 : X_nL 139 = 3 := by decide +kernel
theorem xf_139 : X_na 139 = 2 ∧ X_ci 139 = 11 ∧ X_rt 139 = none := by decide +kernel
theorem xn_140 : X_nL 140 = 1 := by decide +kernel
theorem xf_140 : X_na 140 = 0 ∧ X_ci 140 = 11 ∧ X_rt 140 = (some .boolean) := by decide +kernel
theorem xn_145 : X_nL 145 = 2 := by decide +kernel
theorem xf_145 : X_na 145 = 1 ∧ X_ci 145 = 11 ∧ X_rt 145 = (some .boolean) := by decide +kernel
theorem xn_146 : X_nL 146 = 3 := by decide +kernel
theorem xf_146 : X_na 146 = 1 ∧ X_ci 146 = 11 ∧ X_rt 146 = (some .boolean) := by decide +kernel
theorem xn_147 : X_nL 147 = 1 := by decide +kernel
theorem xf_147 : X_na 147 = 0 ∧ X_ci 147 = 11 ∧ X_rt 147 = none := by decide +kernel
theorem xn_148 : X_nL 148 = 2 := by decide +kernel
theorem xf_148 : X_na 148 = 1 ∧ X_ci 148 = 11 ∧ X_rt 148 = none := by decide +kernel
/-- a token is one alone -/
theorem X_TokN_u {tb : Int → Int} {len p r r' : Int} {ct ct' : Int64} {e e' : Int} (h : X_TokN tb len p r ct e) (h' : X_TokN tb len p r' ct' e') : r = r' ∧ ct = ct' ∧ e = e' := by
  obtain ⟨-, h1, h2⟩ := h
  obtain ⟨-, g1, g2⟩ := h'
  have he : e = e' := h1.trans g1.symm
  subst he
  rcases h2 with ⟨a1, a2, a3⟩ | ⟨a1, a2, a3⟩ <;> rcases g2 with ⟨b1, b2, b3⟩ | ⟨b1, b2, b3⟩
  · exact ⟨a2.trans b2.symm, a3.trans b3.symm, rfl⟩
  · omega
  · omega
  · have hc : ct = ct' := a2.trans b2.symm
    subst hc
    rcases a3 with ⟨c1, c2⟩ | ⟨c1, c2⟩ <;> rcases b3 with ⟨d1, d2⟩ | ⟨d1, d2⟩
    · exact ⟨c2.trans d2.symm, rfl, rfl⟩
    · exact absurd c1 d1
    · exact absurd d1 c1
    · exact ⟨c2.trans d2.symm, rfl, rfl⟩
theorem X_TokD_u {tb : Int → Int} {len p r r' : Int} {ct ct' : Int64} {e e' : Int} (h : X_TokD tb len p r ct e) (h' : X_TokD tb len p r' ct' e') : r = r' ∧ ct = ct' ∧ e = e' := by
  obtain ⟨-, h1, h2⟩ := h
  obtain ⟨-, g1, g2⟩ := h'
  have he : e = e' := h1.trans g1.symm
  subst he
  rcases h2 with ⟨a1, a2, a3⟩ | ⟨a1, a2, a3, a4⟩ <;> rcases g2 with ⟨b1, b2, b3⟩ | ⟨b1, b2, b3, b4⟩
  · exact ⟨a2.trans b2.symm, a3.trans b3.symm, rfl⟩
  · rcases a1 with a1 | a1
    · omega
    · exact absurd a1 b2
  · rcases b1 with b1 | b1
    · omega
    · exact absurd b1 a2
  · exact ⟨by omega, a3.trans b3.symm, rfl⟩
theorem X_TokP_u {tb : Int → Int} {len p r r' : Int} {ct ct' : Int64} {e e' : Int} (h : X_TokP tb len p r ct e) (h' : X_TokP tb len p r' ct' e') : r = r' ∧ ct = ct' ∧ e = e' := by
  obtain ⟨-, m, h1, h2⟩ := h
  obtain ⟨-, m', g1, g2⟩ := h'
  have he : m = m' := h1.trans g1.symm
  subst he
  rcases h2 with ⟨a1, a2, a3, a4⟩ | ⟨a1, a2, a3, a4, a5, a6⟩ <;> rcases g2 with ⟨b1, b2, b3, b4⟩ | ⟨b1, b2, b3, b4, b5, b6⟩
  · exact ⟨a2.trans b2.symm, a3.trans b3.symm, a4.trans b4.symm⟩
  · rcases a1 with a1 | a1 | a1
    · exact absurd b1 a1
    · omega
    · exact absurd a1 b3
  · rcases b1 with b1 | b1 | b1
    · exact absurd a1 b1
    · omega
    · exact absurd b1 a3
  · exact ⟨a4.trans b4.symm, a5.trans b5.symm, a6.trans b6.symm⟩
theorem X_TokS_u {tb : Int → Int} {len p r r' : Int} {ct ct' : Int64} {e e' : Int} (h : X_TokS tb len p r ct e) (h' : X_TokS tb len p r' ct' e') : r = r' ∧ ct = ct' ∧ e = e' := by
  obtain ⟨-, -, -, -, h1, h2, h3⟩ := h
  obtain ⟨-, -, -, -, g1, g2, g3⟩ := h'
  refine ⟨?_, h1.trans g1.symm, h2.trans g2.symm⟩
  rcases h3 with ⟨a1, a2, a3⟩ | ⟨a1, a2⟩ <;> rcases g3 with ⟨b1, b2, b3⟩ | ⟨b1, b2⟩
  · exact a3.trans b3.symm
  · rcases b1 with b1 | b1
    · exact absurd a1 b1
    · exact absurd b1 a2
  · rcases a1 with a1 | a1
    · exact absurd b1 a1
    · exact absurd a1 b2
  · exact a2.trans b2.symm
theorem X_Tok_u {tb : Int → Int} {len p r r' : Int} {ct ct' : Int64} {e e' : Int} (h : X_Tok tb len p r ct e) (h' : X_Tok tb len p r' ct' e') : r = r' ∧ ct = ct' ∧ e = e' := by
  have k1 : ∀ {r ct e}, X_TokN tb len p r ct e → X_isL (X_at tb len p) := fun h => h.1
  have k2 : ∀ {r ct e}, X_TokD tb len p r ct e → X_isD (X_at tb len p) := fun h => h.1
  have k3 : ∀ {r ct e}, X_TokP tb len p r ct e → X_at tb len p = 34 := fun h => h.1
  have k4 : ∀ {r ct e}, X_TokS tb len p r ct e → ¬ X_isL (X_at tb len p) ∧ ¬ X_isD (X_at tb len p) ∧ ¬ X_at tb len p = 34 ∧ ¬ X_at tb len p = -1 := fun h => ⟨h.1, h.2.1, h.2.2.1, h.2.2.2.1⟩
  unfold X_isL at k1 k4
  unfold X_isD at k2 k4
  rcases h with ⟨a1, a2, a3, a4⟩ | h | h | h | h <;> rcases h' with ⟨b1, b2, b3, b4⟩ | h' | h' | h' | h'
  · exact ⟨a2.trans b2.symm, a3.trans b3.symm, a4.trans b4.symm⟩
  · have := k1 h'; omega
  · have := k2 h'; omega
  · have := k3 h'; omega
  · have := k4 h'; omega
  · have := k1 h; omega
  · exact X_TokN_u h h'
  · have := k1 h; have := k2 h'; omega
  · have := k1 h; have := k3 h'; omega
  · have := k1 h; have := k4 h'; omega
  · have := k2 h; omega
  · have := k2 h; have := k1 h'; omega
  · exact X_TokD_u h h'
  · have := k2 h; have := k3 h'; omega
  · have := k2 h; have := k4 h'; omega
  · have := k3 h; omega
  · have := k3 h; have := k1 h'; omega
  · have := k3 h; have := k2 h'; omega
  · exact X_TokP_u h h'
  · have := k3 h; have := k4 h'; omega
  · have := k4 h; omega
  · have := k4 h; have := k1 h'; omega
  · have := k4 h; have := k2 h'; omega
  · have := k4 h; have := k3 h'; omega
  · exact X_TokS_u h h'
/-- a text's tokens with their ends -/
def X_TxE (tb : Int → Int) (len n : Int) (so pl : Int → Int) (ct : Int → Int64) (E : Int → Int) : Prop := (0 ≤ len ∧ len ≤ 2000) ∧ (1 ≤ n ∧ n ≤ 2001) ∧ X_Tks tb len n so pl ct E ∧ (∀ i, 0 ≤ i → i < n - 1 → so i ≠ 0 ∧ so i ≠ 1) ∧ (so (n - 1) = 0 ∨ so (n - 1) = 1)
/-- the reference looks at token c: where it begins and ends, its sort, number, digits, name -/
def R_tk (n : Int) (so pl : Int → Int) (ct : Int → Int64) (E : Int → Int) (c at_ en tk nu dg : Int) (nm : Int64) : Prop :=
  (0 ≤ c ∧ c < n) ∧ at_ = pl c ∧ tk = X_rk (so c) ∧ (¬ so c = 1 → en = E (c + 1)) ∧ ((so c = 2 ∨ so c = 3 ∨ so c = 6) → nm = ct c) ∧ ((so c = 4 ∨ so c = 5) → ct c = iL nu ∧ (dg = 1 ↔ so c = 5) ∧ (1 ≤ dg ∧ dg ≤ 9) ∧ 0 ≤ nu ∧ nu ≤ 999999999)
theorem X_rk_c {r : Int} (h : 0 ≤ r) : (r ≤ 3 ∧ X_rk r = r) ∨ (4 ≤ r ∧ r ≤ 5 ∧ X_rk r = 4) ∨ (r = 6 ∧ X_rk r = 5) ∨ (7 ≤ r ∧ X_rk r = 6) := by
  unfold X_rk
  split
  · omega
  · split
    · omega
    · split <;> omega
theorem R_tk_f {tb : Int → Int} {len n : Int} {so pl : Int → Int} {ct : Int → Int64} {E : Int → Int} {c at_ en tk nu dg : Int} {nm : Int64} (hX : X_TxE tb len n so pl ct E) (h : R_tk n so pl ct E c at_ en tk nu dg nm) :
    (0 ≤ c ∧ c < n) ∧ (0 ≤ so c ∧ so c ≤ 255) ∧ ((so c ≤ 3 ∧ tk = so c) ∨ (4 ≤ so c ∧ so c ≤ 5 ∧ tk = 4) ∨ (so c = 6 ∧ tk = 5) ∨ (7 ≤ so c ∧ tk = 6)) ∧ (0 ≤ at_ ∧ at_ ≤ len) ∧ (¬ so c = 1 → 0 ≤ en ∧ en ≤ len) ∧ (True ∧ True) ∧ (True ∧ True) := by
  obtain ⟨hl, hn, hK, -, -⟩ := hX
  obtain ⟨h1, h2, h3, h4, h5, h6⟩ := h
  have q := X_Tks_q hl.1 hK c h1.1 h1.2
  have r1 := X_Tks_r hl.1 hK c.toNat (by omega)
  have r2 := X_Tks_r hl.1 hK (c + 1).toNat (by omega)
  rw [show (c.toNat : Int) = c by omega] at r1
  rw [show ((c + 1).toNat : Int) = c + 1 by omega] at r2
  have k := X_rk_c q.1.1
  rw [← h3] at k
  exact ⟨h1, q.1, k, by omega, fun z => by rw [h4 z]; exact r2, ⟨trivial, trivial⟩, ⟨trivial, trivial⟩⟩
/-- a sign's byte -/
theorem R_tk_s {tb : Int → Int} {len n : Int} {so pl : Int → Int} {ct : Int → Int64} {E : Int → Int} {c : Int} (hX : X_TxE tb len n so pl ct E) (hc : 0 ≤ c ∧ c < n) (h7 : 7 ≤ so c) : X_at tb len (pl c) = so c ∧ pl c < len := by
  obtain ⟨hl, hn, hK, -, -⟩ := hX
  obtain ⟨-, h⟩ := hK.2 c hc.1 hc.2
  have key : X_at tb len (pl c) = so c := by
    rcases h with ⟨h1, h2, h3, h4⟩ | h | h | h | h
    · omega
    · obtain ⟨h1, h2, h3⟩ := h
      exfalso
      rcases h3 with h | ⟨-, -, h | h⟩
      · omega
      · have := h.2; omega
      · have := h.2; omega
    · obtain ⟨h1, h2, h3⟩ := h
      exfalso
      rcases h3 with h | ⟨-, -, -, h | h⟩
      · have := h.2.1; omega
      · have := h.2; omega
      · have := h.2; omega
    · obtain ⟨h1, m, h2, h3⟩ := h
      exfalso
      rcases h3 with h | h
      · have := h.2.1; omega
      · have := h.2.2.2.1; omega
    · obtain ⟨h1, h2, h3, h4, h5, h6, h7'⟩ := h
      rcases h7' with h | h
      · exact h.2.2.symm
      · have := h.2; omega
  refine ⟨key, ?_⟩
  by_cases hz : 0 ≤ pl c ∧ pl c < len
  · exact hz.2
  · rw [X_at_out hz] at key
    omega
theorem R_tk_nx {tb : Int → Int} {len n : Int} {so pl : Int → Int} {ct : Int → Int64} {E : Int → Int} {c at_ en tk nu dg : Int} {nm : Int64} (hX : X_TxE tb len n so pl ct E) (h : R_tk n so pl ct E c at_ en tk nu dg nm) (hc : ¬ so c = 1) {at1 en1 tk1 nu1 dg1 r1 e1 : Int} {nm1 ct1 : Int64}
    (g1 : at1 = X_se X_isBl tb len en) (g2 : X_Tok tb len at1 r1 ct1 e1) (g3 : tk1 = X_rk r1) (g4 : ¬ r1 = 1 → en1 = e1) (g5 : (r1 = 2 ∨ r1 = 3 ∨ r1 = 6) → nm1 = ct1) (g6 : (r1 = 4 ∨ r1 = 5) → ct1 = iL nu1 ∧ (dg1 = 1 ↔ r1 = 5) ∧ (1 ≤ dg1 ∧ dg1 ≤ 9) ∧ 0 ≤ nu1 ∧ nu1 ≤ 999999999) :
    R_tk n so pl ct E (X_av n c) at1 en1 tk1 nu1 dg1 nm1 := by
  obtain ⟨hl, hn, hK, hnt, hla⟩ := hX
  obtain ⟨h1, h2, h3, h4, h5, h6⟩ := h
  rw [h4 hc] at g1
  have key : at1 = pl (X_av n c) ∧ X_Tok tb len (pl (X_av n c)) (so (X_av n c)) (ct (X_av n c)) (E (X_av n c + 1)) := by
    by_cases hl2 : c + 1 < n
    · have e : X_av n c = c + 1 := by unfold X_av; rw [if_pos hl2]
      rw [e]
      have := hK.2 (c + 1) (by omega) hl2
      exact ⟨g1.trans this.1.symm, this.2⟩
    · have e : X_av n c = c := by unfold X_av; rw [if_neg hl2]
      rw [e]
      obtain ⟨k1, k2⟩ := hK.2 c h1.1 h1.2
      refine ⟨?_, k2⟩
      have hc0 : so c = 0 := by
        rw [show n - 1 = c by omega] at hla
        exact hla.resolve_right hc
      have hE : X_at tb len (pl c) = -1 ∧ E (c + 1) = pl c := by
        rcases k2 with z | z | z | z | z
        · exact ⟨z.1, z.2.2.2⟩
        · exfalso
          rcases z.2.2 with y | y
          · omega
          · rcases y.2.2 with w | w <;> have := w.2 <;> omega
        · exfalso
          rcases z.2.2 with y | y
          · have := y.2.1; omega
          · rcases y.2.2.2 with w | w <;> have := w.2 <;> omega
        · exfalso
          obtain ⟨-, m, -, y | y⟩ := z
          · have := y.2.1; omega
          · have := y.2.2.2.1; omega
        · exfalso
          rcases z.2.2.2.2.2.2 with y | y
          · have y1 := y.1
            have := y.2.2
            unfold X_isSg at y1
            omega
          · have := y.2; omega
      rw [g1, hE.2]
      exact X_se_no (by rintro ⟨-, w⟩; unfold X_isBl at w; omega)
  obtain ⟨k1, k2⟩ := key
  rw [k1] at g2
  obtain ⟨u1, u2, u3⟩ := X_Tok_u g2 k2
  subst u1; subst u2
  exact ⟨X_av_r h1, k1, g3, fun z => (g4 z).trans u3, g5, g6⟩
theorem R_tk_0 {tb : Int → Int} {len n : Int} {so pl : Int → Int} {ct : Int → Int64} {E : Int → Int} (hX : X_TxE tb len n so pl ct E) {at1 en1 tk1 nu1 dg1 r1 e1 : Int} {nm1 ct1 : Int64}
    (g1 : at1 = X_se X_isBl tb len 0) (g2 : X_Tok tb len at1 r1 ct1 e1) (g3 : tk1 = X_rk r1) (g4 : ¬ r1 = 1 → en1 = e1) (g5 : (r1 = 2 ∨ r1 = 3 ∨ r1 = 6) → nm1 = ct1) (g6 : (r1 = 4 ∨ r1 = 5) → ct1 = iL nu1 ∧ (dg1 = 1 ↔ r1 = 5) ∧ (1 ≤ dg1 ∧ dg1 ≤ 9) ∧ 0 ≤ nu1 ∧ nu1 ≤ 999999999) :
    R_tk n so pl ct E 0 at1 en1 tk1 nu1 dg1 nm1 := by
  obtain ⟨hl, hn, hK, hnt, hla⟩ := hX
  have k := hK.2 0 (by omega) (by omega)
  have k1 : at1 = pl 0 := by rw [g1, k.1, hK.1]
  rw [k1] at g2
  obtain ⟨u1, u2, u3⟩ := X_Tok_u g2 k.2
  subst u1; subst u2
  exact ⟨by omega, k1, g3, fun z => (g4 z).trans u3, g5, g6⟩

theorem r_nx (sc : X_Sc) (S : X_S) (o : Nat → Int) (nm : Int64) (tx : Int → Int) (tb : Int → Int) (len : Int) (n : Int) (so : Int → Int) (pl : Int → Int) (ct : Int → Int64) (E : Int → Int) (c : Int) (hM : M_o S o nm) (hA532 : S.1 532 = .inl (.byte, 2000, .inl fun k : Nat => iI (tx (k : Int)))) (hlen : o 3 = len) (hl : 0 ≤ len ∧ len ≤ 2000) (htx : ∀ k, 0 ≤ k → k < len → tx k = tb k) (hX : X_TxE tb len n so pl ct E) (hT : R_tk n so pl ct E c (o 7) (o 8) (o 9) (o 10) (o 11) nm) (hc1 : ¬ so c = 1) : X_T sc 141 (0, [(0, .ref 530)], [], S) (fun v S' => ∃ (at1 : Int) (en1 : Int) (tk1 : Int) (nu1 : Int) (dg1 : Int) (nm1 : Int64), v = none ∧ R_tk n so pl ct E (X_av n c) at1 en1 tk1 nu1 dg1 nm1 ∧ M_o S' (X_ou (X_ou (X_ou (X_ou (X_ou o 7 at1) 8 en1) 9 tk1) 10 nu1) 11 dg1) nm1 ∧ X_Fr (fun q => q = 530) S S') := by
  obtain ⟨⟨hc0, hcn⟩, ⟨hs0, hs1⟩, hk0, ⟨ha0, ha1⟩, hk0e, hnu, hdg⟩ := R_tk_f hX hT
  refine T_mono (r_next sc S o nm tx tb len hM hA532 hlen hl htx (hk0e hc1)) (fun v S' h => ?_)
  obtain ⟨at1, en1, tk1, nu1, dg1, nm1, r1, ct1, e1, hv, g1, g2, g3, g4, g5, g6, g7, hM1, hf⟩ := h
  exact ⟨at1, en1, tk1, nu1, dg1, nm1, hv, R_tk_nx hX hT hc1 g1 g2 g3 g4 g5 g6, hM1, hf⟩
theorem r_nx0 (sc : X_Sc) (S : X_S) (o : Nat → Int) (nm : Int64) (tx : Int → Int) (tb : Int → Int) (len : Int) (n : Int) (so : Int → Int) (pl : Int → Int) (ct : Int → Int64) (E : Int → Int) (hM : M_o S o nm) (hA532 : S.1 532 = .inl (.byte, 2000, .inl fun k : Nat => iI (tx (k : Int)))) (hlen : o 3 = len) (hl : 0 ≤ len ∧ len ≤ 2000) (htx : ∀ k, 0 ≤ k → k < len → tx k = tb k) (hX : X_TxE tb len n so pl ct E) (he : o 8 = 0) : X_T sc 141 (0, [(0, .ref 530)], [], S) (fun v S' => ∃ (at1 : Int) (en1 : Int) (tk1 : Int) (nu1 : Int) (dg1 : Int) (nm1 : Int64), v = none ∧ R_tk n so pl ct E 0 at1 en1 tk1 nu1 dg1 nm1 ∧ M_o S' (X_ou (X_ou (X_ou (X_ou (X_ou o 7 at1) 8 en1) 9 tk1) 10 nu1) 11 dg1) nm1 ∧ X_Fr (fun q => q = 530) S S') := by
  refine T_mono (r_next sc S o nm tx tb len hM hA532 hlen hl htx (by omega)) (fun v S' h => ?_)
  obtain ⟨at1, en1, tk1, nu1, dg1, nm1, r1, ct1, e1, hv, g1, g2, g3, g4, g5, g6, g7, hM1, hf⟩ := h
  rw [he] at g1
  exact ⟨at1, en1, tk1, nu1, dg1, nm1, hv, R_tk_0 hX g1 g2 g3 g4 g5 g6, hM1, hf⟩
theorem r_fails (sc : X_Sc) (S : X_S) (o : Nat → Int) (nm : Int64) (k : Int) (pp : Int) (hM : M_o S o nm) (h5 : 0 ≤ o 5 ∧ o 5 ≤ 5) (hk : 1 ≤ k ∧ k ≤ 5) : X_T sc 139 (0, [(0, .ref 530), (1, .int (iI k)), (2, .int (iI pp))], [], S) (fun v S' => ∃ (f1 : Int) (g1 : Int), v = none ∧ ((o 5 = 0 → f1 = k) ∧ (¬ o 5 = 0 → f1 = o 5)) ∧ M_o S' (X_ou (X_ou o 5 f1) 6 g1) nm ∧ X_Fr (fun q => q = 530) S S') := by
  refine X_QI (fun Q hQ => ?_)
  refine T_p xr_139_0 xn_139 (pc' := 1) (ls' := [(0, .ref 530), (1, .int (iI k)), (2, .int (iI pp))]) (st' := [.ref 530]) rfl ?_
  refine T_get xr_139_1 hM rfl (v := .int (iI (o 5))) rfl (pc' := 4) rfl ?_
  refine T_zif_le xr_139_4 (t := 8) (pc' := 7) rfl rfl (fun c915 => ?_) (fun c915 => ?_)
  · skip
    have c915 : (o 5) ≤ 0 := c915
    refine T_p xr_139_8 xn_139 (pc' := 9) (ls' := [(0, .ref 530), (1, .int (iI k)), (2, .int (iI pp))]) (st' := [.ref 530]) rfl ?_
    refine T_p xr_139_9 xn_139 (pc' := 10) (ls' := [(0, .ref 530), (1, .int (iI k)), (2, .int (iI pp))]) (st' := [.int (iI k), .ref 530]) rfl ?_
    refine T_put xr_139_10 hM rfl (Nat.le_of_ble_eq_true rfl) rfl (fs' := [.ref 531, .int (iI (o 1)), .ref 532, .int (iI (o 3)), .int (iI (o 4)), .int (iI k), .int (iI (o 6)), .int (iI (o 7)), .int (iI (o 8)), .int (iI (o 9)), .int (iI (o 10)), .int (iI (o 11)), .long nm, .ref 533, .ref 534, .ref 535, .ref 536, .ref 537, .ref 538, .ref 539, .ref 540, .ref 541, .ref 542, .ref 543, .ref 544, .ref 545, .ref 546, .ref 547, .int (iI (o 28)), .int (iI (o 29)), .int (iI (o 30)), .int (iI (o 31)), .int (iI (o 32)), .int (iI (o 33)), .ref 548, .ref 549, .ref 550, .ref 551, .int (iI (o 38)), .ref 552, .ref 553, .ref 554, .ref 555, .ref 556, .ref 557, .ref 558, .ref 559, .ref 560, .ref 561, .int (iI (o 49)), .ref 562, .ref 563, .ref 564, .ref 565, .ref 566, .ref 567, .ref 568, .ref 569, .int (iI (o 58)), .ref 570, .ref 571, .ref 572, .ref 573, .ref 574, .ref 575, .ref 576, .ref 577, .ref 578, .int (iI (o 68)), .int (iI (o 69)), .int (iI (o 70)), .ref 579]) rfl (pc' := 13) rfl (fun S916 h917 n918 e919 => ?_)
    refine T_p xr_139_13 xn_139 (pc' := 14) (ls' := [(0, .ref 530), (1, .int (iI k)), (2, .int (iI pp))]) (st' := [.ref 530]) rfl ?_
    refine T_p xr_139_14 xn_139 (pc' := 15) (ls' := [(0, .ref 530), (1, .int (iI k)), (2, .int (iI pp))]) (st' := [.int (iI pp), .ref 530]) rfl ?_
    refine T_put xr_139_15 h917 rfl (Nat.le_of_ble_eq_true rfl) rfl (fs' := [.ref 531, .int (iI (o 1)), .ref 532, .int (iI (o 3)), .int (iI (o 4)), .int (iI k), .int (iI pp), .int (iI (o 7)), .int (iI (o 8)), .int (iI (o 9)), .int (iI (o 10)), .int (iI (o 11)), .long nm, .ref 533, .ref 534, .ref 535, .ref 536, .ref 537, .ref 538, .ref 539, .ref 540, .ref 541, .ref 542, .ref 543, .ref 544, .ref 545, .ref 546, .ref 547, .int (iI (o 28)), .int (iI (o 29)), .int (iI (o 30)), .int (iI (o 31)), .int (iI (o 32)), .int (iI (o 33)), .ref 548, .ref 549, .ref 550, .ref 551, .int (iI (o 38)), .ref 552, .ref 553, .ref 554, .ref 555, .ref 556, .ref 557, .ref 558, .ref 559, .ref 560, .ref 561, .int (iI (o 49)), .ref 562, .ref 563, .ref 564, .ref 565, .ref 566, .ref 567, .ref 568, .ref 569, .int (iI (o 58)), .ref 570, .ref 571, .ref 572, .ref 573, .ref 574, .ref 575, .ref 576, .ref 577, .ref 578, .int (iI (o 68)), .int (iI (o 69)), .int (iI (o 70)), .ref 579]) rfl (pc' := 18) rfl (fun S920 h921 n922 e923 => ?_)
    refine T_vret xr_139_18 xf_139.2.2 ?_
    refine hQ _ _ ?_
    exact ⟨k, pp, rfl, ⟨fun _ => by omega, fun _ => by omega⟩, h921, ((X_Fr.rf).tr (X_Fr.of n918 e919 (by omega))).tr (X_Fr.of n922 e923 (by omega))⟩
  · skip
    have c915 : ¬ ((o 5) ≤ 0) := c915
    refine T_vret xr_139_7 xf_139.2.2 ?_
    refine hQ _ _ ?_
    exact ⟨o 5, o 6, rfl, ⟨fun _ => by omega, fun _ => by omega⟩, hM, X_Fr.rf⟩
theorem r_isGood (sc : X_Sc) (S : X_S) (o : Nat → Int) (nm : Int64) (hM : M_o S o nm) (h5 : 0 ≤ o 5 ∧ o 5 ≤ 5) : X_T sc 140 (0, [(0, .ref 530)], [], S) (fun v S' => v = some (.int (iI (bI (o 5 = 0)))) ∧ S' = S) := by
  refine X_QI (fun Q hQ => ?_)
  refine T_p xr_140_0 xn_140 (pc' := 1) (ls' := [(0, .ref 530)]) (st' := [.ref 530]) rfl ?_
  refine T_get xr_140_1 hM rfl (v := .int (iI (o 5))) rfl (pc' := 4) rfl ?_
  refine T_zif_ne xr_140_4 (t := 11) (pc' := 7) rfl rfl (fun c924 => ?_) (fun c924 => ?_)
  · skip
    have c924 : ¬ (o 5) = 0 := c924
    refine T_p xr_140_11 xn_140 (pc' := 12) (ls' := [(0, .ref 530)]) (st' := [.int (iI 0)]) rfl ?_
    refine T_iret xr_140_12 xf_140.2.2 (by decide) ?_
    refine hQ _ _ ?_
    exact ⟨by rw [bI_f (by omega)], rfl⟩
  · skip
    have c924 : ¬ (¬ (o 5) = 0) := c924
    refine T_p xr_140_7 xn_140 (pc' := 8) (ls' := [(0, .ref 530)]) (st' := [.int (iI 1)]) rfl ?_
    refine T_p xr_140_8 xn_140 (pc' := 12) (ls' := [(0, .ref 530)]) (st' := [.int (iI 1)]) rfl ?_
    refine T_iret xr_140_12 xf_140.2.2 (by decide) ?_
    refine hQ _ _ ?_
    exact ⟨by rw [bI_t (by omega)], rfl⟩
theorem r_is (sc : X_Sc) (S : X_S) (o : Nat → Int) (nm : Int64) (tx : Int → Int) (tb : Int → Int) (len : Int) (n : Int) (so : Int → Int) (pl : Int → Int) (ct : Int → Int64) (E : Int → Int) (c : Int) (s : Int) (hM : M_o S o nm) (hA532 : S.1 532 = .inl (.byte, 2000, .inl fun k : Nat => iI (tx (k : Int)))) (hlen : o 3 = len) (hl : 0 ≤ len ∧ len ≤ 2000) (htx : ∀ k, 0 ≤ k → k < len → tx k = tb k) (hX : X_TxE tb len n so pl ct E) (hT : R_tk n so pl ct E c (o 7) (o 8) (o 9) (o 10) (o 11) nm) (hs : 37 ≤ s ∧ s ≤ 95) : X_T sc 145 (0, [(0, .ref 530), (1, .int (iI s))], [], S) (fun v S' => v = some (.int (iI (bI (so c = s)))) ∧ S' = S) := by
  obtain ⟨⟨hc0, hcn⟩, ⟨hs0, hs1⟩, hk0, ⟨ha0, ha1⟩, hk0e, ⟨_, _⟩, ⟨_, _⟩⟩ := R_tk_f hX hT
  have hn2 := hX.2.1
  refine X_QI (fun Q hQ => ?_)
  refine T_p xr_145_0 xn_145 (pc' := 1) (ls' := [(0, .ref 530), (1, .int (iI s))]) (st' := [.ref 530]) rfl ?_
  refine T_get xr_145_1 hM rfl (v := .int (iI (o 9))) rfl (pc' := 4) rfl ?_
  refine T_p xr_145_4 xn_145 (pc' := 6) (ls' := [(0, .ref 530), (1, .int (iI s))]) (st' := [.int (iI 6), .int (iI (o 9))]) rfl ?_
  refine T_zicmp_ne xr_145_6 (t := 25) (pc' := 9) rfl rfl (fun c925 => ?_) (fun c925 => ?_)
  · skip
    have c925 : ¬ (o 9) = 6 := c925
    refine T_p xr_145_25 xn_145 (pc' := 26) (ls' := [(0, .ref 530), (1, .int (iI s))]) (st' := [.int (iI 0)]) rfl ?_
    refine T_iret xr_145_26 xf_145.2.2 (by decide) ?_
    refine hQ _ _ ?_
    exact ⟨by rw [bI_f (by omega)], rfl⟩
  · skip
    have c925 : ¬ (¬ (o 9) = 6) := c925
    have hs7 := R_tk_s hX ⟨hc0, hcn⟩ (by omega)
    have hpl := hT.2.1
    rw [← hpl] at hs7
    refine T_p xr_145_9 xn_145 (pc' := 10) (ls' := [(0, .ref 530), (1, .int (iI s))]) (st' := [.ref 530]) rfl ?_
    refine T_p xr_145_10 xn_145 (pc' := 11) (ls' := [(0, .ref 530), (1, .int (iI s))]) (st' := [.ref 530, .ref 530]) rfl ?_
    refine T_get xr_145_11 hM rfl (v := .int (iI (o 7))) rfl (pc' := 14) rfl ?_
    refine T_cv (S := S) (q := 530) xr_145_14 xf_136.1 xf_136.2.1 xn_136 (as := [.int (iI (o 7))]) (r := []) rfl hM (Nat.le_of_ble_eq_true rfl) (Nat.le_of_ble_eq_true rfl) (pc' := 17) rfl (ls' := [(0, .ref 530), (1, .int (iI (o 7)))]) rfl ?_
    refine T_mono (r_sign sc S o nm tx tb len (o 7) hM hA532 (show (o 3) = len from by first | assumption | omega) hl htx (by omega)) (fun v926 S927 h928 => ?_)
    rcases h928 with ⟨hv929, hf930⟩
    rw [hv929]
    rw [hf930]
    have hg931 := X_sg_r (tb := tb) (len := len) (k := (o 7)) (by omega)
    have hg932 := X_sg_c (tb := tb) (len := len) (k := (o 7))
    show X_T sc 145 (17, [(0, .ref 530), (1, .int (iI s))], [.int (iI (X_sg tb len (o 7)))], S) _
    refine T_p xr_145_17 xn_145 (pc' := 18) (ls' := [(0, .ref 530), (1, .int (iI s))]) (st' := [.int (iI s), .int (iI (X_sg tb len (o 7)))]) rfl ?_
    refine T_zicmp_ne xr_145_18 (t := 25) (pc' := 21) rfl rfl (fun c933 => ?_) (fun c933 => ?_)
    · skip
      have c933 : ¬ (X_sg tb len (o 7)) = s := c933
      refine T_p xr_145_25 xn_145 (pc' := 26) (ls' := [(0, .ref 530), (1, .int (iI s))]) (st' := [.int (iI 0)]) rfl ?_
      refine T_iret xr_145_26 xf_145.2.2 (by decide) ?_
      refine hQ _ _ ?_
      exact ⟨by rw [bI_f (by omega)], rfl⟩
    · skip
      have c933 : ¬ (¬ (X_sg tb len (o 7)) = s) := c933
      refine T_p xr_145_21 xn_145 (pc' := 22) (ls' := [(0, .ref 530), (1, .int (iI s))]) (st' := [.int (iI 1)]) rfl ?_
      refine T_p xr_145_22 xn_145 (pc' := 26) (ls' := [(0, .ref 530), (1, .int (iI s))]) (st' := [.int (iI 1)]) rfl ?_
      refine T_iret xr_145_26 xf_145.2.2 (by decide) ?_
      refine hQ _ _ ?_
      exact ⟨by rw [bI_t (by omega)], rfl⟩
theorem r_isWord (sc : X_Sc) (S : X_S) (o : Nat → Int) (nm : Int64) (tx : Int → Int) (tb : Int → Int) (len : Int) (n : Int) (so : Int → Int) (pl : Int → Int) (ct : Int → Int64) (E : Int → Int) (c : Int) (w : Int64) (hM : M_o S o nm) (hA532 : S.1 532 = .inl (.byte, 2000, .inl fun k : Nat => iI (tx (k : Int)))) (hlen : o 3 = len) (hl : 0 ≤ len ∧ len ≤ 2000) (htx : ∀ k, 0 ≤ k → k < len → tx k = tb k) (hX : X_TxE tb len n so pl ct E) (hT : R_tk n so pl ct E c (o 7) (o 8) (o 9) (o 10) (o 11) nm) : X_T sc 146 (0, [(0, .ref 530), (1, .long w)], [], S) (fun v S' => (v = some (.int (iI (bI (so c = 3 ∧ ct c = w))))) ∧ S' = S) := by
  obtain ⟨⟨hc0, hcn⟩, ⟨hs0, hs1⟩, hk0, ⟨ha0, ha1⟩, hk0e, ⟨_, _⟩, ⟨_, _⟩⟩ := R_tk_f hX hT
  have hn2 := hX.2.1
  refine X_QI (fun Q hQ => ?_)
  refine T_p xr_146_0 xn_146 (pc' := 1) (ls' := [(0, .ref 530), (1, .long w)]) (st' := [.ref 530]) rfl ?_
  refine T_get xr_146_1 hM rfl (v := .int (iI (o 9))) rfl (pc' := 4) rfl ?_
  refine T_p xr_146_4 xn_146 (pc' := 5) (ls' := [(0, .ref 530), (1, .long w)]) (st' := [.int (iI 3), .int (iI (o 9))]) rfl ?_
  refine T_zicmp_ne xr_146_5 (t := 21) (pc' := 8) rfl rfl (fun c934 => ?_) (fun c934 => ?_)
  · skip
    have c934 : ¬ (o 9) = 3 := c934
    refine T_p xr_146_21 xn_146 (pc' := 22) (ls' := [(0, .ref 530), (1, .long w)]) (st' := [.int (iI 0)]) rfl ?_
    refine T_iret xr_146_22 xf_146.2.2 (by decide) ?_
    refine hQ _ _ ?_
    exact ⟨by rw [bI_f (by rintro ⟨h1, h2⟩; rw [← hT.2.2.2.2.1 (by omega)] at h2; first | omega | contradiction)], rfl⟩
  · skip
    have c934 : ¬ (¬ (o 9) = 3) := c934
    refine T_p xr_146_8 xn_146 (pc' := 9) (ls' := [(0, .ref 530), (1, .long w)]) (st' := [.ref 530]) rfl ?_
    refine T_get xr_146_9 hM rfl (v := .long nm) rfl (pc' := 12) rfl ?_
    refine T_p xr_146_12 xn_146 (pc' := 13) (ls' := [(0, .ref 530), (1, .long w)]) (st' := [.long w, .long nm]) rfl ?_
    refine T_lc_ne xr_146_13 xr_146_14 (t := 21) (pc' := 17) rfl rfl (fun c935 => ?_) (fun c935 => ?_)
    · skip
      have c935 : ¬ nm = w := c935
      refine T_p xr_146_21 xn_146 (pc' := 22) (ls' := [(0, .ref 530), (1, .long w)]) (st' := [.int (iI 0)]) rfl ?_
      refine T_iret xr_146_22 xf_146.2.2 (by decide) ?_
      refine hQ _ _ ?_
      exact ⟨by rw [bI_f (by rintro ⟨h1, h2⟩; rw [← hT.2.2.2.2.1 (by omega)] at h2; first | omega | contradiction)], rfl⟩
    · skip
      have c935 : ¬ (¬ nm = w) := c935
      refine T_p xr_146_17 xn_146 (pc' := 18) (ls' := [(0, .ref 530), (1, .long w)]) (st' := [.int (iI 1)]) rfl ?_
      refine T_p xr_146_18 xn_146 (pc' := 22) (ls' := [(0, .ref 530), (1, .long w)]) (st' := [.int (iI 1)]) rfl ?_
      refine T_iret xr_146_22 xf_146.2.2 (by decide) ?_
      refine hQ _ _ ?_
      exact ⟨by rw [bI_t ⟨by omega, by rw [← hT.2.2.2.2.1 (by omega)]; first | assumption | exact Classical.not_not.mp (by assumption)⟩], rfl⟩
theorem r_wrong (sc : X_Sc) (S : X_S) (o : Nat → Int) (nm : Int64) (tx : Int → Int) (tb : Int → Int) (len : Int) (n : Int) (so : Int → Int) (pl : Int → Int) (ct : Int → Int64) (E : Int → Int) (c : Int) (hM : M_o S o nm) (hA532 : S.1 532 = .inl (.byte, 2000, .inl fun k : Nat => iI (tx (k : Int)))) (hlen : o 3 = len) (hl : 0 ≤ len ∧ len ≤ 2000) (htx : ∀ k, 0 ≤ k → k < len → tx k = tb k) (hX : X_TxE tb len n so pl ct E) (hT : R_tk n so pl ct E c (o 7) (o 8) (o 9) (o 10) (o 11) nm) (h5 : 0 ≤ o 5 ∧ o 5 ≤ 5) : X_T sc 147 (0, [(0, .ref 530)], [], S) (fun v S' => ∃ (f1 : Int) (g1 : Int), v = none ∧ (1 ≤ f1 ∧ f1 ≤ 5) ∧ M_o S' (X_ou (X_ou o 5 f1) 6 g1) nm ∧ X_Fr (fun q => q = 530) S S') := by
  obtain ⟨⟨hc0, hcn⟩, ⟨hs0, hs1⟩, hk0, ⟨ha0, ha1⟩, hk0e, ⟨_, _⟩, ⟨_, _⟩⟩ := R_tk_f hX hT
  have hn2 := hX.2.1
  refine X_QI (fun Q hQ => ?_)
  refine T_p xr_147_0 xn_147 (pc' := 1) (ls' := [(0, .ref 530)]) (st' := [.ref 530]) rfl ?_
  refine T_p xr_147_1 xn_147 (pc' := 2) (ls' := [(0, .ref 530)]) (st' := [.ref 530, .ref 530]) rfl ?_
  refine T_get xr_147_2 hM rfl (v := .int (iI (o 9))) rfl (pc' := 5) rfl ?_
  refine T_p xr_147_5 xn_147 (pc' := 6) (ls' := [(0, .ref 530)]) (st' := [.int (iI 1), .int (iI (o 9)), .ref 530]) rfl ?_
  refine T_zicmp_ne xr_147_6 (t := 13) (pc' := 9) rfl rfl (fun c936 => ?_) (fun c936 => ?_)
  · skip
    have c936 : ¬ (o 9) = 1 := c936
    refine T_p xr_147_13 xn_147 (pc' := 14) (ls' := [(0, .ref 530)]) (st' := [.int (iI 2), .ref 530]) rfl ?_
    refine T_p xr_147_14 xn_147 (pc' := 15) (ls' := [(0, .ref 530)]) (st' := [.ref 530, .int (iI 2), .ref 530]) rfl ?_
    refine T_get xr_147_15 hM rfl (v := .int (iI (o 7))) rfl (pc' := 18) rfl ?_
    refine T_cv (S := S) (q := 530) xr_147_18 xf_139.1 xf_139.2.1 xn_139 (as := [.int (iI 2), .int (iI (o 7))]) (r := []) rfl hM (Nat.le_of_ble_eq_true rfl) (Nat.le_of_ble_eq_true rfl) (pc' := 21) rfl (ls' := [(0, .ref 530), (1, .int (iI 2)), (2, .int (iI (o 7)))]) rfl ?_
    refine T_mono (r_fails sc S o nm 2 (o 7) hM (show 0 ≤ (o 5) ∧ (o 5) ≤ 5 from by omega) (by omega)) (fun v937 S938 h939 => ?_)
    rcases h939 with ⟨f940, g941, hv942, hp943, hM944, hf945⟩
    rw [hv942]
    have h946 : S938.1 530 = .inr (11, [.ref 531, .int (iI (o 1)), .ref 532, .int (iI (o 3)), .int (iI (o 4)), .int (iI f940), .int (iI g941), .int (iI (o 7)), .int (iI (o 8)), .int (iI (o 9)), .int (iI (o 10)), .int (iI (o 11)), .long nm, .ref 533, .ref 534, .ref 535, .ref 536, .ref 537, .ref 538, .ref 539, .ref 540, .ref 541, .ref 542, .ref 543, .ref 544, .ref 545, .ref 546, .ref 547, .int (iI (o 28)), .int (iI (o 29)), .int (iI (o 30)), .int (iI (o 31)), .int (iI (o 32)), .int (iI (o 33)), .ref 548, .ref 549, .ref 550, .ref 551, .int (iI (o 38)), .ref 552, .ref 553, .ref 554, .ref 555, .ref 556, .ref 557, .ref 558, .ref 559, .ref 560, .ref 561, .int (iI (o 49)), .ref 562, .ref 563, .ref 564, .ref 565, .ref 566, .ref 567, .ref 568, .ref 569, .int (iI (o 58)), .ref 570, .ref 571, .ref 572, .ref 573, .ref 574, .ref 575, .ref 576, .ref 577, .ref 578, .int (iI (o 68)), .int (iI (o 69)), .int (iI (o 70)), .ref 579]) := hM944
    have hp943 : ((o 5) = 0 → f940 = 2) ∧ (¬ (o 5) = 0 → f940 = (o 5)) := hp943
    show X_T sc 147 (21, [(0, .ref 530)], [], S938) _
    refine T_vret xr_147_21 xf_147.2.2 ?_
    refine hQ _ _ ?_
    exact ⟨f940, g941, rfl, by omega, h946, (X_Fr.rf).tr (X_Fr.mono ⟨hf945.1, hf945.2⟩ (fun q hq => (by omega)))⟩
  · skip
    have c936 : ¬ (¬ (o 9) = 1) := c936
    refine T_p xr_147_9 xn_147 (pc' := 10) (ls' := [(0, .ref 530)]) (st' := [.int (iI 1), .ref 530]) rfl ?_
    refine T_p xr_147_10 xn_147 (pc' := 14) (ls' := [(0, .ref 530)]) (st' := [.int (iI 1), .ref 530]) rfl ?_
    refine T_p xr_147_14 xn_147 (pc' := 15) (ls' := [(0, .ref 530)]) (st' := [.ref 530, .int (iI 1), .ref 530]) rfl ?_
    refine T_get xr_147_15 hM rfl (v := .int (iI (o 7))) rfl (pc' := 18) rfl ?_
    refine T_cv (S := S) (q := 530) xr_147_18 xf_139.1 xf_139.2.1 xn_139 (as := [.int (iI 1), .int (iI (o 7))]) (r := []) rfl hM (Nat.le_of_ble_eq_true rfl) (Nat.le_of_ble_eq_true rfl) (pc' := 21) rfl (ls' := [(0, .ref 530), (1, .int (iI 1)), (2, .int (iI (o 7)))]) rfl ?_
    refine T_mono (r_fails sc S o nm 1 (o 7) hM (show 0 ≤ (o 5) ∧ (o 5) ≤ 5 from by omega) (by omega)) (fun v947 S948 h949 => ?_)
    rcases h949 with ⟨f950, g951, hv952, hp953, hM954, hf955⟩
    rw [hv952]
    have h956 : S948.1 530 = .inr (11, [.ref 531, .int (iI (o 1)), .ref 532, .int (iI (o 3)), .int (iI (o 4)), .int (iI f950), .int (iI g951), .int (iI (o 7)), .int (iI (o 8)), .int (iI (o 9)), .int (iI (o 10)), .int (iI (o 11)), .long nm, .ref 533, .ref 534, .ref 535, .ref 536, .ref 537, .ref 538, .ref 539, .ref 540, .ref 541, .ref 542, .ref 543, .ref 544, .ref 545, .ref 546, .ref 547, .int (iI (o 28)), .int (iI (o 29)), .int (iI (o 30)), .int (iI (o 31)), .int (iI (o 32)), .int (iI (o 33)), .ref 548, .ref 549, .ref 550, .ref 551, .int (iI (o 38)), .ref 552, .ref 553, .ref 554, .ref 555, .ref 556, .ref 557, .ref 558, .ref 559, .ref 560, .ref 561, .int (iI (o 49)), .ref 562, .ref 563, .ref 564, .ref 565, .ref 566, .ref 567, .ref 568, .ref 569, .int (iI (o 58)), .ref 570, .ref 571, .ref 572, .ref 573, .ref 574, .ref 575, .ref 576, .ref 577, .ref 578, .int (iI (o 68)), .int (iI (o 69)), .int (iI (o 70)), .ref 579]) := hM954
    have hp953 : ((o 5) = 0 → f950 = 1) ∧ (¬ (o 5) = 0 → f950 = (o 5)) := hp953
    show X_T sc 147 (21, [(0, .ref 530)], [], S948) _
    refine T_vret xr_147_21 xf_147.2.2 ?_
    refine hQ _ _ ?_
    exact ⟨f950, g951, rfl, by omega, h956, (X_Fr.rf).tr (X_Fr.mono ⟨hf955.1, hf955.2⟩ (fun q hq => (by omega)))⟩
theorem r_must (sc : X_Sc) (S : X_S) (o : Nat → Int) (nm : Int64) (tx : Int → Int) (tb : Int → Int) (len : Int) (n : Int) (so : Int → Int) (pl : Int → Int) (ct : Int → Int64) (E : Int → Int) (c : Int) (s : Int) (hM : M_o S o nm) (hA532 : S.1 532 = .inl (.byte, 2000, .inl fun k : Nat => iI (tx (k : Int)))) (hlen : o 3 = len) (hl : 0 ≤ len ∧ len ≤ 2000) (htx : ∀ k, 0 ≤ k → k < len → tx k = tb k) (hX : X_TxE tb len n so pl ct E) (hT : R_tk n so pl ct E c (o 7) (o 8) (o 9) (o 10) (o 11) nm) (h5 : o 5 = 0) (hs : 37 ≤ s ∧ s ≤ 95) : X_T sc 148 (0, [(0, .ref 530), (1, .int (iI s))], [], S) (fun v S' => (∃ (at1 : Int) (en1 : Int) (tk1 : Int) (nu1 : Int) (dg1 : Int) (nm1 : Int64), v = none ∧ R_tk n so pl ct E (X_av n c) at1 en1 tk1 nu1 dg1 nm1 ∧ so c = s ∧ M_o S' (X_ou (X_ou (X_ou (X_ou (X_ou o 7 at1) 8 en1) 9 tk1) 10 nu1) 11 dg1) nm1 ∧ X_Fr (fun q => q = 530) S S') ∨ (∃ (f1 : Int) (g1 : Int), v = none ∧ (1 ≤ f1 ∧ f1 ≤ 5) ∧ ¬ so c = s ∧ M_o S' (X_ou (X_ou o 5 f1) 6 g1) nm ∧ X_Fr (fun q => q = 530) S S')) := by
  obtain ⟨⟨hc0, hcn⟩, ⟨hs0, hs1⟩, hk0, ⟨ha0, ha1⟩, hk0e, ⟨_, _⟩, ⟨_, _⟩⟩ := R_tk_f hX hT
  have hn2 := hX.2.1
  refine X_QI (fun Q hQ => ?_)
  refine T_p xr_148_0 xn_148 (pc' := 1) (ls' := [(0, .ref 530), (1, .int (iI s))]) (st' := [.ref 530]) rfl ?_
  refine T_p xr_148_1 xn_148 (pc' := 2) (ls' := [(0, .ref 530), (1, .int (iI s))]) (st' := [.int (iI s), .ref 530]) rfl ?_
  refine T_cv (S := S) (q := 530) xr_148_2 xf_145.1 xf_145.2.1 xn_145 (as := [.int (iI s)]) (r := []) rfl hM (Nat.le_of_ble_eq_true rfl) (Nat.le_of_ble_eq_true rfl) (pc' := 5) rfl (ls' := [(0, .ref 530), (1, .int (iI s))]) rfl ?_
  refine T_mono (r_is sc S o nm tx tb len n so pl ct E c s hM hA532 (show (o 3) = len from by first | assumption | omega) hl htx hX hT (by omega)) (fun v957 S958 h959 => ?_)
  rcases h959 with ⟨hv960, hf961⟩
  rw [hv960]
  rw [hf961]
  show X_T sc 148 (5, [(0, .ref 530), (1, .int (iI s))], [.int (iI (bI (so c = s)))], S) _
  refine T_bif_eq xr_148_5 (t := 15) (pc' := 8) rfl rfl (fun c962 => ?_) (fun c962 => ?_)
  · skip
    have c962 : ¬ (so c = s) := c962
    refine T_p xr_148_15 xn_148 (pc' := 16) (ls' := [(0, .ref 530), (1, .int (iI s))]) (st' := [.ref 530]) rfl ?_
    refine T_cv (S := S) (q := 530) xr_148_16 xf_147.1 xf_147.2.1 xn_147 (as := []) (r := []) rfl hM (Nat.le_of_ble_eq_true rfl) (Nat.le_of_ble_eq_true rfl) (pc' := 19) rfl (ls' := [(0, .ref 530)]) rfl ?_
    refine T_mono (r_wrong sc S o nm tx tb len n so pl ct E c hM hA532 (show (o 3) = len from by first | assumption | omega) hl htx hX hT (show 0 ≤ (o 5) ∧ (o 5) ≤ 5 from by omega)) (fun v963 S964 h965 => ?_)
    rcases h965 with ⟨f966, g967, hv968, hp969, hM970, hf971⟩
    rw [hv968]
    have h972 : S964.1 530 = .inr (11, [.ref 531, .int (iI (o 1)), .ref 532, .int (iI (o 3)), .int (iI (o 4)), .int (iI f966), .int (iI g967), .int (iI (o 7)), .int (iI (o 8)), .int (iI (o 9)), .int (iI (o 10)), .int (iI (o 11)), .long nm, .ref 533, .ref 534, .ref 535, .ref 536, .ref 537, .ref 538, .ref 539, .ref 540, .ref 541, .ref 542, .ref 543, .ref 544, .ref 545, .ref 546, .ref 547, .int (iI (o 28)), .int (iI (o 29)), .int (iI (o 30)), .int (iI (o 31)), .int (iI (o 32)), .int (iI (o 33)), .ref 548, .ref 549, .ref 550, .ref 551, .int (iI (o 38)), .ref 552, .ref 553, .ref 554, .ref 555, .ref 556, .ref 557, .ref 558, .ref 559, .ref 560, .ref 561, .int (iI (o 49)), .ref 562, .ref 563, .ref 564, .ref 565, .ref 566, .ref 567, .ref 568, .ref 569, .int (iI (o 58)), .ref 570, .ref 571, .ref 572, .ref 573, .ref 574, .ref 575, .ref 576, .ref 577, .ref 578, .int (iI (o 68)), .int (iI (o 69)), .int (iI (o 70)), .ref 579]) := hM970
    show X_T sc 148 (19, [(0, .ref 530), (1, .int (iI s))], [], S964) _
    refine T_vret xr_148_19 xf_148.2.2 ?_
    refine hQ _ _ ?_
    exact Or.inr ⟨f966, g967, rfl, by omega, by assumption, h972, (X_Fr.rf).tr (X_Fr.mono ⟨hf971.1, hf971.2⟩ (fun q hq => (by omega)))⟩
  · skip
    have c962 : (so c = s) := c962
    refine T_p xr_148_8 xn_148 (pc' := 9) (ls' := [(0, .ref 530), (1, .int (iI s))]) (st' := [.ref 530]) rfl ?_
    refine T_cv (S := S) (q := 530) xr_148_9 xf_141.1 xf_141.2.1 xn_141 (as := []) (r := []) rfl hM (Nat.le_of_ble_eq_true rfl) (Nat.le_of_ble_eq_true rfl) (pc' := 12) rfl (ls' := [(0, .ref 530)]) rfl ?_
    refine T_mono (r_nx sc S o nm tx tb len n so pl ct E c hM hA532 (show (o 3) = len from by first | assumption | omega) hl htx hX hT (by omega)) (fun v973 S974 h975 => ?_)
    rcases h975 with ⟨at976, en977, tk978, nu979, dg980, nm981, hv982, hp983, hM984, hf985⟩
    rw [hv982]
    have h986 : S974.1 530 = .inr (11, [.ref 531, .int (iI (o 1)), .ref 532, .int (iI (o 3)), .int (iI (o 4)), .int (iI (o 5)), .int (iI (o 6)), .int (iI at976), .int (iI en977), .int (iI tk978), .int (iI nu979), .int (iI dg980), .long nm981, .ref 533, .ref 534, .ref 535, .ref 536, .ref 537, .ref 538, .ref 539, .ref 540, .ref 541, .ref 542, .ref 543, .ref 544, .ref 545, .ref 546, .ref 547, .int (iI (o 28)), .int (iI (o 29)), .int (iI (o 30)), .int (iI (o 31)), .int (iI (o 32)), .int (iI (o 33)), .ref 548, .ref 549, .ref 550, .ref 551, .int (iI (o 38)), .ref 552, .ref 553, .ref 554, .ref 555, .ref 556, .ref 557, .ref 558, .ref 559, .ref 560, .ref 561, .int (iI (o 49)), .ref 562, .ref 563, .ref 564, .ref 565, .ref 566, .ref 567, .ref 568, .ref 569, .int (iI (o 58)), .ref 570, .ref 571, .ref 572, .ref 573, .ref 574, .ref 575, .ref 576, .ref 577, .ref 578, .int (iI (o 68)), .int (iI (o 69)), .int (iI (o 70)), .ref 579]) := hM984
    obtain ⟨⟨_, _⟩, ⟨_, _⟩, hk987, ⟨_, _⟩, hk987e, ⟨_, _⟩, ⟨_, _⟩⟩ := R_tk_f hX hp983
    show X_T sc 148 (12, [(0, .ref 530), (1, .int (iI s))], [], S974) _
    refine T_p xr_148_12 xn_148 (pc' := 19) (ls' := [(0, .ref 530), (1, .int (iI s))]) (st' := []) rfl ?_
    refine T_vret xr_148_19 xf_148.2.2 ?_
    refine hQ _ _ ?_
    exact Or.inl ⟨at976, en977, tk978, nu979, dg980, nm981, rfl, hp983, by assumption, h986, (X_Fr.rf).tr (X_Fr.mono ⟨hf985.1, hf985.2⟩ (fun q hq => (by omega)))⟩
