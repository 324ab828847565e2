section
theorem xr_136_0 : X_row 136 0 = some (0, (.iload_n 1, 1), (0, 0, 0)) := by decide +kernel
theorem xr_136_1 : X_row 136 1 = some (1, (.aload_n 0, 1), (0, 0, 0)) := by decide +kernel
theorem xr_136_2 : X_row 136 2 = some (2, (.getfield 1, 3), (11, 3, 6)) := by decide +kernel
theorem xr_136_5 : X_row 136 5 = some (5, (.if_icmp .ge 16, 3), (0, 0, 0)) := by decide +kernel
theorem xr_136_8 : X_row 136 8 = some (8, (.aload_n 0, 1), (0, 0, 0)) := by decide +kernel
theorem xr_136_9 : X_row 136 9 = some (9, (.getfield 7, 3), (11, 2, 4)) := by decide +kernel
theorem xr_136_12 : X_row 136 12 = some (12, (.iload_n 1, 1), (0, 0, 0)) := by decide +kernel
theorem xr_136_13 : X_row 136 13 = some (13, (.baload, 1), (0, 0, 0)) := by decide +kernel
theorem xr_136_14 : X_row 136 14 = some (14, (.sipush 255, 3), (0, 0, 0)) := by decide +kernel
theorem xr_136_17 : X_row 136 17 = some (17, (.iand, 1), (0, 0, 0)) := by decide +kernel
theorem xr_136_18 : X_row 136 18 = some (18, (.goto 4, 3), (0, 0, 0)) := by decide +kernel
theorem xr_136_21 : X_row 136 21 = some (21, (.iconst 0, 1), (0, 0, 0)) := by decide +kernel
theorem xr_136_22 : X_row 136 22 = some (22, (.ireturn, 1), (0, 0, 0)) := by decide +kernel
theorem xr_137_0 : X_row 137 0 = some (0, (.iload_n 0, 1), (0, 0, 0)) := by decide +kernel
theorem xr_137_1 : X_row 137 1 = some (1, (.bipush 97, 2), (0, 0, 0)) := by decide +kernel
theorem xr_137_3 : X_row 137 3 = some (3, (.if_icmp .lt 13, 3), (0, 0, 0)) := by decide +kernel
theorem xr_137_6 : X_row 137 6 = some (6, (.iload_n 0, 1), (0, 0, 0)) := by decide +kernel
theorem xr_137_7 : X_row 137 7 = some (7, (.bipush 122, 2), (0, 0, 0)) := by decide +kernel
theorem xr_137_9 : X_row 137 9 = some (9, (.if_icmp .gt 7, 3), (0, 0, 0)) := by decide +kernel
theorem xr_137_12 : X_row 137 12 = some (12, (.iconst 1, 1), (0, 0, 0)) := by decide +kernel
theorem xr_137_13 : X_row 137 13 = some (13, (.goto 4, 3), (0, 0, 0)) := by decide +kernel
theorem xr_137_16 : X_row 137 16 = some (16, (.iconst 0, 1), (0, 0, 0)) := by decide +kernel
theorem xr_137_17 : X_row 137 17 = some (17, (.ireturn, 1), (0, 0, 0)) := by decide +kernel
theorem xr_138_0 : X_row 138 0 = some (0, (.iload_n 0, 1), (0, 0, 0)) := by decide +kernel
theorem xr_138_1 : X_row 138 1 = some (1, (.bipush 48, 2), (0, 0, 0)) := by decide +kernel
theorem xr_138_3 : X_row 138 3 = some (3, (.if_icmp .lt 13, 3), (0, 0, 0)) := by decide +kernel
theorem xr_138_6 : X_row 138 6 = some (6, (.iload_n 0, 1), (0, 0, 0)) := by decide +kernel
theorem xr_138_7 : X_row 138 7 = some (7, (.bipush 57, 2), (0, 0, 0)) := by decide +kernel
theorem xr_138_9 : X_row 138 9 = some (9, (.if_icmp .gt 7, 3), (0, 0, 0)) := by decide +kernel
theorem xr_138_12 : X_row 138 12 = some (12, (.iconst 1, 1), (0, 0, 0)) := by decide +kernel
theorem xr_138_13 : X_row 138 13 = some (13, (.goto 4, 3), (0, 0, 0)) := by decide +kernel
theorem xr_138_16 : X_row 138 16 = some (16, (.iconst 0, 1), (0, 0, 0)) := by decide +kernel
theorem xr_138_17 : X_row 138 17 = some (17, (.ireturn, 1), (0, 0, 0)) := by decide +kernel
theorem xr_142_0 : X_row 142 0 = some (0, (.aload_n 0, 1), (0, 0, 0)) := by decide +kernel
theorem xr_142_1 : X_row 142 1 = some (1, (.lconst 0, 1), (0, 0, 0)) := by decide +kernel
theorem xr_142_2 : X_row 142 2 = some (2, (.putfield 41, 3), (11, 12, 24)) := by decide +kernel
theorem xr_142_5 : X_row 142 5 = some (5, (.iload_n 1, 1), (0, 0, 0)) := by decide +kernel
theorem xr_142_6 : X_row 142 6 = some (6, (.istore_n 3, 1), (0, 0, 0)) := by decide +kernel
theorem xr_142_7 : X_row 142 7 = some (7, (.iload_n 3, 1), (0, 0, 0)) := by decide +kernel
theorem xr_142_8 : X_row 142 8 = some (8, (.iload_n 2, 1), (0, 0, 0)) := by decide +kernel
theorem xr_142_9 : X_row 142 9 = some (9, (.if_icmp .ge 35, 3), (0, 0, 0)) := by decide +kernel
theorem xr_142_12 : X_row 142 12 = some (12, (.iload_n 3, 1), (0, 0, 0)) := by decide +kernel
theorem xr_142_13 : X_row 142 13 = some (13, (.iload_n 1, 1), (0, 0, 0)) := by decide +kernel
theorem xr_142_14 : X_row 142 14 = some (14, (.bipush 8, 2), (0, 0, 0)) := by decide +kernel
theorem xr_142_16 : X_row 142 16 = some (16, (.iadd, 1), (0, 0, 0)) := by decide +kernel
theorem xr_142_17 : X_row 142 17 = some (17, (.if_icmp .ge 27, 3), (0, 0, 0)) := by decide +kernel
theorem xr_142_20 : X_row 142 20 = some (20, (.aload_n 0, 1), (0, 0, 0)) := by decide +kernel
theorem xr_142_21 : X_row 142 21 = some (21, (.aload_n 0, 1), (0, 0, 0)) := by decide +kernel
theorem xr_142_22 : X_row 142 22 = some (22, (.getfield 41, 3), (11, 12, 24)) := by decide +kernel
theorem xr_142_25 : X_row 142 25 = some (25, (.bipush 8, 2), (0, 0, 0)) := by decide +kernel
theorem xr_142_27 : X_row 142 27 = some (27, (.lshl, 1), (0, 0, 0)) := by decide +kernel
theorem xr_142_28 : X_row 142 28 = some (28, (.aload_n 0, 1), (0, 0, 0)) := by decide +kernel
theorem xr_142_29 : X_row 142 29 = some (29, (.iload_n 3, 1), (0, 0, 0)) := by decide +kernel
theorem xr_142_30 : X_row 142 30 = some (30, (.invokevirtual 23, 3), (136, 2, 0)) := by decide +kernel
theorem xr_142_33 : X_row 142 33 = some (33, (.i2l, 1), (0, 0, 0)) := by decide +kernel
theorem xr_142_34 : X_row 142 34 = some (34, (.lor, 1), (0, 0, 0)) := by decide +kernel
theorem xr_142_35 : X_row 142 35 = some (35, (.putfield 41, 3), (11, 12, 24)) := by decide +kernel
theorem xr_142_38 : X_row 142 38 = some (38, (.iinc 3 1, 3), (0, 0, 0)) := by decide +kernel
theorem xr_142_41 : X_row 142 41 = some (41, (.goto (-34), 3), (0, 0, 0)) := by decide +kernel
theorem xr_142_44 : X_row 142 44 = some (44, (.return_, 1), (0, 0, 0)) := by decide +kernel
theorem xr_144_0 : X_row 144 0 = some (0, (.iload_n 0, 1), (0, 0, 0)) := by decide +kernel
theorem xr_144_1 : X_row 144 1 = some (1, (.bipush 33, 2), (0, 0, 0)) := by decide +kernel
theorem xr_144_3 : X_row 144 3 = some (3, (.if_icmp .lt 31, 3), (0, 0, 0)) := by decide +kernel
theorem xr_144_6 : X_row 144 6 = some (6, (.iload_n 0, 1), (0, 0, 0)) := by decide +kernel
theorem xr_144_7 : X_row 144 7 = some (7, (.bipush 126, 2), (0, 0, 0)) := by decide +kernel
theorem xr_144_9 : X_row 144 9 = some (9, (.if_icmp .gt 25, 3), (0, 0, 0)) := by decide +kernel
theorem xr_144_12 : X_row 144 12 = some (12, (.iload_n 0, 1), (0, 0, 0)) := by decide +kernel
theorem xr_144_13 : X_row 144 13 = some (13, (.bipush 34, 2), (0, 0, 0)) := by decide +kernel
theorem xr_144_15 : X_row 144 15 = some (15, (.if_icmp .eq 19, 3), (0, 0, 0)) := by decide +kernel
theorem xr_144_18 : X_row 144 18 = some (18, (.iload_n 0, 1), (0, 0, 0)) := by decide +kernel
theorem xr_144_19 : X_row 144 19 = some (19, (.bipush 40, 2), (0, 0, 0)) := by decide +kernel
theorem xr_144_21 : X_row 144 21 = some (21, (.if_icmp .eq 13, 3), (0, 0, 0)) := by decide +kernel
theorem xr_144_24 : X_row 144 24 = some (24, (.iload_n 0, 1), (0, 0, 0)) := by decide +kernel
theorem xr_144_25 : X_row 144 25 = some (25, (.bipush 41, 2), (0, 0, 0)) := by decide +kernel
theorem xr_144_27 : X_row 144 27 = some (27, (.if_icmp .eq 7, 3), (0, 0, 0)) := by decide +kernel
theorem xr_144_30 : X_row 144 30 = some (30, (.iconst 1, 1), (0, 0, 0)) := by decide +kernel
theorem xr_144_31 : X_row 144 31 = some (31, (.goto 4, 3), (0, 0, 0)) := by decide +kernel
theorem xr_144_34 : X_row 144 34 = some (34, (.iconst 0, 1), (0, 0, 0)) := by decide +kernel
theorem xr_144_35 : X_row 144 35 = some (35, (.ireturn, 1), (0, 0, 0)) := by decide +kernel
theorem xn_136 : X_nL 136 = 2 := by decide +kernel
theorem xf_136 : X_na 136 = 1 ∧ X_ci 136 = 11 ∧ X_rt 136 = (some .int) := by decide +kernel
theorem xn_137 : X_nL 137 = 1 := by decide +kernel
theorem xf_137 : X_na 137 = 1 ∧ X_ci 137 = 11 ∧ X_rt 137 = (some .boolean) := by decide +kernel
theorem xn_138 : X_nL 138 = 1 := by decide +kernel
theorem xf_138 : X_na 138 = 1 ∧ X_ci 138 = 11 ∧ X_rt 138 = (some .boolean) := by decide +kernel
theorem xn_142 : X_nL 142 = 4 := by decide +kernel
theorem xf_142 : X_na 142 = 2 ∧ X_ci 142 = 11 ∧ X_rt 142 = none := by decide +kernel
theorem xn_144 : X_nL 144 = 1 := by decide +kernel
theorem xf_144 : X_na 144 = 1 ∧ X_ci 144 = 11 ∧ X_rt 144 = (some .boolean) := by decide +kernel
/-! the reference's object: its int fields by number, the one long field -/
def X_ou (o : Nat → Int) (k : Nat) (v : Int) : Nat → Int := fun i => if i = k then v else o i
def M_o (S : X_S) (o : Nat → Int) (nm : Int64) : Prop := S.1 530 = .inr (11, [.ref 531, .int (iI (o 1)), .ref 532, .int (iI (o 3)), .int (iI (o 4)), .int (iI (o 5)), .int (iI (o 6)), .int (iI (o 7)), .int (iI (o 8)), .int (iI (o 9)), .int (iI (o 10)), .int (iI (o 11)), .long nm, .ref 533, .ref 534, .ref 535, .ref 536, .ref 537, .ref 538, .ref 539, .ref 540, .ref 541, .ref 542, .ref 543, .ref 544, .ref 545, .ref 546, .ref 547, .int (iI (o 28)), .int (iI (o 29)), .int (iI (o 30)), .int (iI (o 31)), .int (iI (o 32)), .int (iI (o 33)), .ref 548, .ref 549, .ref 550, .ref 551, .int (iI (o 38)), .ref 552, .ref 553, .ref 554, .ref 555, .ref 556, .ref 557, .ref 558, .ref 559, .ref 560, .ref 561, .int (iI (o 49)), .ref 562, .ref 563, .ref 564, .ref 565, .ref 566, .ref 567, .ref 568, .ref 569, .int (iI (o 58)), .ref 570, .ref 571, .ref 572, .ref 573, .ref 574, .ref 575, .ref 576, .ref 577, .ref 578, .int (iI (o 68)), .int (iI (o 69)), .int (iI (o 70)), .ref 579])
/-- the sign at a place, 0 behind the text -/
noncomputable def X_sg (tb : Int → Int) (len k : Int) : Int := if k < len then X_at tb len k else 0
theorem X_sg_r {tb : Int → Int} {len k : Int} (h : 0 ≤ k) : 0 ≤ X_sg tb len k ∧ X_sg tb len k ≤ 255 := by
  unfold X_sg
  split
  · rw [X_at_in ⟨h, by assumption⟩]; omega
  · omega
theorem X_sg_c {tb : Int → Int} {len k : Int} : (k < len ∧ X_sg tb len k = X_at tb len k) ∨ (len ≤ k ∧ X_sg tb len k = 0 ∧ X_at tb len k = -1) := by
  unfold X_sg
  split
  · exact Or.inl ⟨by assumption, rfl⟩
  · exact Or.inr ⟨by omega, rfl, X_at_out (by omega)⟩
theorem X_sg_L {tb : Int → Int} {len k : Int} : X_isL (X_sg tb len k) ↔ k < len ∧ X_isL (X_at tb len k) := by
  rcases X_sg_c (tb := tb) (len := len) (k := k) with ⟨h1, h2⟩ | ⟨h1, h2, -⟩
  · rw [h2]; exact ⟨fun h => ⟨h1, h⟩, fun h => h.2⟩
  · rw [h2]; unfold X_isL; omega
theorem X_sg_D {tb : Int → Int} {len k : Int} : X_isD (X_sg tb len k) ↔ k < len ∧ X_isD (X_at tb len k) := by
  rcases X_sg_c (tb := tb) (len := len) (k := k) with ⟨h1, h2⟩ | ⟨h1, h2, -⟩
  · rw [h2]; exact ⟨fun h => ⟨h1, h⟩, fun h => h.2⟩
  · rw [h2]; unfold X_isD; omega
theorem X_sg_B {tb : Int → Int} {len k : Int} : X_isPB (X_sg tb len k) ↔ k < len ∧ X_isPB (X_at tb len k) := by
  rcases X_sg_c (tb := tb) (len := len) (k := k) with ⟨h1, h2⟩ | ⟨h1, h2, -⟩
  · rw [h2]; exact ⟨fun h => ⟨h1, h⟩, fun h => h.2⟩
  · rw [h2]; unfold X_isPB; omega
theorem X_sg_LD {tb : Int → Int} {len k : Int} : X_isLD (X_at tb len k) ↔ X_isL (X_sg tb len k) ∨ X_isD (X_sg tb len k) := by
  rcases X_sg_c (tb := tb) (len := len) (k := k) with ⟨h1, h2⟩ | ⟨h1, h2, h3⟩
  · rw [h2]; exact Iff.rfl
  · rw [h2, h3]; unfold X_isLD X_isL X_isD; omega
theorem X_sg_n {tb : Int → Int} {len k : Int} (h1 : ¬ X_isL (X_sg tb len k)) (h2 : ¬ X_isD (X_sg tb len k)) : ¬ X_isLD (X_at tb len k) := fun h => (X_sg_LD.mp h).elim h1 h2
/-- the reference's sort of a token -/
def X_rk (r : Int) : Int := if r ≤ 3 then r else if r ≤ 5 then 4 else if r = 6 then 5 else 6
theorem X_dv_b {tb : Int → Int} {len p : Int} : ∀ k : Nat, (∀ i : Int, 0 ≤ i → i < k → X_isD (X_at tb len (p + i))) → 0 ≤ X_dv tb len p k ∧ X_dv tb len p k < ((10 ^ k : Nat) : Int) := by
  intro k
  induction k with
  | zero => intro _; exact ⟨(show (0 : Int) ≤ 0 by omega), (show (0 : Int) < 1 by omega)⟩
  | succ k ih =>
    intro h
    have h1 := ih (fun i g1 g2 => h i g1 (by omega))
    have h2 := h (k : Int) (by omega) (by omega)
    unfold X_isD at h2
    show 0 ≤ X_dv tb len p k * 10 + X_at tb len (p + k) - 48 ∧ X_dv tb len p k * 10 + X_at tb len (p + k) - 48 < ((10 ^ (k + 1) : Nat) : Int)
    rw [show (10 : Nat) ^ (k + 1) = 10 ^ k * 10 from Nat.pow_succ 10 k]
    omega
theorem X_dv_9 {tb : Int → Int} {len p : Int} (k : Nat) (hk : k ≤ 9) (h : ∀ i : Int, 0 ≤ i → i < k → X_isD (X_at tb len (p + i))) : 0 ≤ X_dv tb len p k ∧ X_dv tb len p k ≤ 999999999 := by
  have h1 := X_dv_b (tb := tb) (len := len) (p := p) k h
  have h2 : (10 : Nat) ^ k ≤ 10 ^ 9 := Nat.pow_le_pow_right (by omega) hk
  have h3 : (10 : Nat) ^ 9 = 1000000000 := by decide
  omega
theorem r_isLetter (sc : X_Sc) (S : X_S) (c : Int) (hc : -1 ≤ c ∧ c ≤ 255) : X_T sc 137 (0, [(0, .int (iI c))], [], S) (fun v S' => v = some (.int (iI (bI (X_isL c)))) ∧ S' = S) := by
  refine X_QI (fun Q hQ => ?_)
  refine T_p xr_137_0 xn_137 (pc' := 1) (ls' := [(0, .int (iI c))]) (st' := [.int (iI c)]) rfl ?_
  refine T_p xr_137_1 xn_137 (pc' := 3) (ls' := [(0, .int (iI c))]) (st' := [.int (iI 97), .int (iI c)]) rfl ?_
  refine T_zicmp_lt xr_137_3 (t := 16) (pc' := 6) rfl rfl (fun c1 => ?_) (fun c1 => ?_)
  · skip
    have c1 : c < 97 := c1
    refine T_p xr_137_16 xn_137 (pc' := 17) (ls' := [(0, .int (iI c))]) (st' := [.int (iI 0)]) rfl ?_
    refine T_iret xr_137_17 xf_137.2.2 (by decide) ?_
    refine hQ _ _ ?_
    exact ⟨by rw [bI_f (by unfold X_isL; omega)], rfl⟩
  · skip
    have c1 : ¬ (c < 97) := c1
    refine T_p xr_137_6 xn_137 (pc' := 7) (ls' := [(0, .int (iI c))]) (st' := [.int (iI c)]) rfl ?_
    refine T_p xr_137_7 xn_137 (pc' := 9) (ls' := [(0, .int (iI c))]) (st' := [.int (iI 122), .int (iI c)]) rfl ?_
    refine T_zicmp_gt xr_137_9 (t := 16) (pc' := 12) rfl rfl (fun c2 => ?_) (fun c2 => ?_)
    · skip
      have c2 : 122 < c := c2
      refine T_p xr_137_16 xn_137 (pc' := 17) (ls' := [(0, .int (iI c))]) (st' := [.int (iI 0)]) rfl ?_
      refine T_iret xr_137_17 xf_137.2.2 (by decide) ?_
      refine hQ _ _ ?_
      exact ⟨by rw [bI_f (by unfold X_isL; omega)], rfl⟩
    · skip
      have c2 : ¬ (122 < c) := c2
      refine T_p xr_137_12 xn_137 (pc' := 13) (ls' := [(0, .int (iI c))]) (st' := [.int (iI 1)]) rfl ?_
      refine T_p xr_137_13 xn_137 (pc' := 17) (ls' := [(0, .int (iI c))]) (st' := [.int (iI 1)]) rfl ?_
      refine T_iret xr_137_17 xf_137.2.2 (by decide) ?_
      refine hQ _ _ ?_
      exact ⟨by rw [bI_t (by unfold X_isL; omega)], rfl⟩
theorem r_isDigit (sc : X_Sc) (S : X_S) (c : Int) (hc : -1 ≤ c ∧ c ≤ 255) : X_T sc 138 (0, [(0, .int (iI c))], [], S) (fun v S' => v = some (.int (iI (bI (X_isD c)))) ∧ S' = S) := by
  refine X_QI (fun Q hQ => ?_)
  refine T_p xr_138_0 xn_138 (pc' := 1) (ls' := [(0, .int (iI c))]) (st' := [.int (iI c)]) rfl ?_
  refine T_p xr_138_1 xn_138 (pc' := 3) (ls' := [(0, .int (iI c))]) (st' := [.int (iI 48), .int (iI c)]) rfl ?_
  refine T_zicmp_lt xr_138_3 (t := 16) (pc' := 6) rfl rfl (fun c3 => ?_) (fun c3 => ?_)
  · skip
    have c3 : c < 48 := c3
    refine T_p xr_138_16 xn_138 (pc' := 17) (ls' := [(0, .int (iI c))]) (st' := [.int (iI 0)]) rfl ?_
    refine T_iret xr_138_17 xf_138.2.2 (by decide) ?_
    refine hQ _ _ ?_
    exact ⟨by rw [bI_f (by unfold X_isD; omega)], rfl⟩
  · skip
    have c3 : ¬ (c < 48) := c3
    refine T_p xr_138_6 xn_138 (pc' := 7) (ls' := [(0, .int (iI c))]) (st' := [.int (iI c)]) rfl ?_
    refine T_p xr_138_7 xn_138 (pc' := 9) (ls' := [(0, .int (iI c))]) (st' := [.int (iI 57), .int (iI c)]) rfl ?_
    refine T_zicmp_gt xr_138_9 (t := 16) (pc' := 12) rfl rfl (fun c4 => ?_) (fun c4 => ?_)
    · skip
      have c4 : 57 < c := c4
      refine T_p xr_138_16 xn_138 (pc' := 17) (ls' := [(0, .int (iI c))]) (st' := [.int (iI 0)]) rfl ?_
      refine T_iret xr_138_17 xf_138.2.2 (by decide) ?_
      refine hQ _ _ ?_
      exact ⟨by rw [bI_f (by unfold X_isD; omega)], rfl⟩
    · skip
      have c4 : ¬ (57 < c) := c4
      refine T_p xr_138_12 xn_138 (pc' := 13) (ls' := [(0, .int (iI c))]) (st' := [.int (iI 1)]) rfl ?_
      refine T_p xr_138_13 xn_138 (pc' := 17) (ls' := [(0, .int (iI c))]) (st' := [.int (iI 1)]) rfl ?_
      refine T_iret xr_138_17 xf_138.2.2 (by decide) ?_
      refine hQ _ _ ?_
      exact ⟨by rw [bI_t (by unfold X_isD; omega)], rfl⟩
theorem r_isPartSign (sc : X_Sc) (S : X_S) (c : Int) (hc : -1 ≤ c ∧ c ≤ 255) : X_T sc 144 (0, [(0, .int (iI c))], [], S) (fun v S' => v = some (.int (iI (bI (X_isPB c)))) ∧ S' = S) := by
  refine X_QI (fun Q hQ => ?_)
  refine T_p xr_144_0 xn_144 (pc' := 1) (ls' := [(0, .int (iI c))]) (st' := [.int (iI c)]) rfl ?_
  refine T_p xr_144_1 xn_144 (pc' := 3) (ls' := [(0, .int (iI c))]) (st' := [.int (iI 33), .int (iI c)]) rfl ?_
  refine T_zicmp_lt xr_144_3 (t := 34) (pc' := 6) rfl rfl (fun c5 => ?_) (fun c5 => ?_)
  · skip
    have c5 : c < 33 := c5
    refine T_p xr_144_34 xn_144 (pc' := 35) (ls' := [(0, .int (iI c))]) (st' := [.int (iI 0)]) rfl ?_
    refine T_iret xr_144_35 xf_144.2.2 (by decide) ?_
    refine hQ _ _ ?_
    exact ⟨by rw [bI_f (by unfold X_isPB; omega)], rfl⟩
  · skip
    have c5 : ¬ (c < 33) := c5
    refine T_p xr_144_6 xn_144 (pc' := 7) (ls' := [(0, .int (iI c))]) (st' := [.int (iI c)]) rfl ?_
    refine T_p xr_144_7 xn_144 (pc' := 9) (ls' := [(0, .int (iI c))]) (st' := [.int (iI 126), .int (iI c)]) rfl ?_
    refine T_zicmp_gt xr_144_9 (t := 34) (pc' := 12) rfl rfl (fun c6 => ?_) (fun c6 => ?_)
    · skip
      have c6 : 126 < c := c6
      refine T_p xr_144_34 xn_144 (pc' := 35) (ls' := [(0, .int (iI c))]) (st' := [.int (iI 0)]) rfl ?_
      refine T_iret xr_144_35 xf_144.2.2 (by decide) ?_
      refine hQ _ _ ?_
      exact ⟨by rw [bI_f (by unfold X_isPB; omega)], rfl⟩
    · skip
      have c6 : ¬ (126 < c) := c6
      refine T_p xr_144_12 xn_144 (pc' := 13) (ls' := [(0, .int (iI c))]) (st' := [.int (iI c)]) rfl ?_
      refine T_p xr_144_13 xn_144 (pc' := 15) (ls' := [(0, .int (iI c))]) (st' := [.int (iI 34), .int (iI c)]) rfl ?_
      refine T_zicmp_eq xr_144_15 (t := 34) (pc' := 18) rfl rfl (fun c7 => ?_) (fun c7 => ?_)
      · skip
        have c7 : c = 34 := c7
        refine T_p xr_144_34 xn_144 (pc' := 35) (ls' := [(0, .int (iI c))]) (st' := [.int (iI 0)]) rfl ?_
        refine T_iret xr_144_35 xf_144.2.2 (by decide) ?_
        refine hQ _ _ ?_
        exact ⟨by rw [bI_f (by unfold X_isPB; omega)], rfl⟩
      · skip
        have c7 : ¬ (c = 34) := c7
        refine T_p xr_144_18 xn_144 (pc' := 19) (ls' := [(0, .int (iI c))]) (st' := [.int (iI c)]) rfl ?_
        refine T_p xr_144_19 xn_144 (pc' := 21) (ls' := [(0, .int (iI c))]) (st' := [.int (iI 40), .int (iI c)]) rfl ?_
        refine T_zicmp_eq xr_144_21 (t := 34) (pc' := 24) rfl rfl (fun c8 => ?_) (fun c8 => ?_)
        · skip
          have c8 : c = 40 := c8
          refine T_p xr_144_34 xn_144 (pc' := 35) (ls' := [(0, .int (iI c))]) (st' := [.int (iI 0)]) rfl ?_
          refine T_iret xr_144_35 xf_144.2.2 (by decide) ?_
          refine hQ _ _ ?_
          exact ⟨by rw [bI_f (by unfold X_isPB; omega)], rfl⟩
        · skip
          have c8 : ¬ (c = 40) := c8
          refine T_p xr_144_24 xn_144 (pc' := 25) (ls' := [(0, .int (iI c))]) (st' := [.int (iI c)]) rfl ?_
          refine T_p xr_144_25 xn_144 (pc' := 27) (ls' := [(0, .int (iI c))]) (st' := [.int (iI 41), .int (iI c)]) rfl ?_
          refine T_zicmp_eq xr_144_27 (t := 34) (pc' := 30) rfl rfl (fun c9 => ?_) (fun c9 => ?_)
          · skip
            have c9 : c = 41 := c9
            refine T_p xr_144_34 xn_144 (pc' := 35) (ls' := [(0, .int (iI c))]) (st' := [.int (iI 0)]) rfl ?_
            refine T_iret xr_144_35 xf_144.2.2 (by decide) ?_
            refine hQ _ _ ?_
            exact ⟨by rw [bI_f (by unfold X_isPB; omega)], rfl⟩
          · skip
            have c9 : ¬ (c = 41) := c9
            refine T_p xr_144_30 xn_144 (pc' := 31) (ls' := [(0, .int (iI c))]) (st' := [.int (iI 1)]) rfl ?_
            refine T_p xr_144_31 xn_144 (pc' := 35) (ls' := [(0, .int (iI c))]) (st' := [.int (iI 1)]) rfl ?_
            refine T_iret xr_144_35 xf_144.2.2 (by decide) ?_
            refine hQ _ _ ?_
            exact ⟨by rw [bI_t (by unfold X_isPB; omega)], rfl⟩
theorem r_sign (sc : X_Sc) (S : X_S) (o : Nat → Int) (nm : Int64) (tx : Int → Int) (tb : Int → Int) (len : Int) (k : Int) (hM : M_o S o nm) (hA532 : S.1 532 = .inl (.byte, 2000, .inl fun k : Nat => iI (tx (k : Int)))) (hlen : o 3 = len) (hl : 0 ≤ len ∧ len ≤ 2000) (htx : ∀ k, 0 ≤ k → k < len → tx k = tb k) (hk : 0 ≤ k ∧ k ≤ 4000) : X_T sc 136 (0, [(0, .ref 530), (1, .int (iI k))], [], S) (fun v S' => v = some (.int (iI (X_sg tb len k))) ∧ S' = S) := by
  refine X_QI (fun Q hQ => ?_)
  refine T_p xr_136_0 xn_136 (pc' := 1) (ls' := [(0, .ref 530), (1, .int (iI k))]) (st' := [.int (iI k)]) rfl ?_
  refine T_p xr_136_1 xn_136 (pc' := 2) (ls' := [(0, .ref 530), (1, .int (iI k))]) (st' := [.ref 530, .int (iI k)]) rfl ?_
  refine T_get xr_136_2 hM rfl (v := .int (iI (o 3))) rfl (pc' := 5) rfl ?_
  refine T_zicmp_ge xr_136_5 (t := 21) (pc' := 8) rfl rfl (fun c10 => ?_) (fun c10 => ?_)
  · skip
    have c10 : (o 3) ≤ k := c10
    refine T_p xr_136_21 xn_136 (pc' := 22) (ls' := [(0, .ref 530), (1, .int (iI k))]) (st' := [.int (iI 0)]) rfl ?_
    refine T_iret xr_136_22 xf_136.2.2 rfl ?_
    refine hQ _ _ ?_
    exact ⟨by rw [show X_sg tb len k = 0 from by unfold X_sg; rw [if_neg (by omega)]], rfl⟩
  · skip
    have c10 : ¬ ((o 3) ≤ k) := c10
    refine T_p xr_136_8 xn_136 (pc' := 9) (ls' := [(0, .ref 530), (1, .int (iI k))]) (st' := [.ref 530]) rfl ?_
    refine T_get xr_136_9 hM rfl (v := .ref 532) rfl (pc' := 12) rfl ?_
    refine T_p xr_136_12 xn_136 (pc' := 13) (ls' := [(0, .ref 530), (1, .int (iI k))]) (st' := [.int (iI k), .ref 532]) rfl ?_
    refine T_zbald xr_136_13 hA532 (pc' := 14) rfl ?_
    refine T_p xr_136_14 xn_136 (pc' := 17) (ls' := [(0, .ref 530), (1, .int (iI k))]) (st' := [.int (iI 255), .int (iI (tx k))]) rfl ?_
    refine T_zop xr_136_17 (pc' := 18) rfl (z := (tx k) % 256) (iI_m255 _) ?_
    refine T_p xr_136_18 xn_136 (pc' := 22) (ls' := [(0, .ref 530), (1, .int (iI k))]) (st' := [.int (iI ((tx k) % 256))]) rfl ?_
    refine T_iret xr_136_22 xf_136.2.2 rfl ?_
    refine hQ _ _ ?_
    exact ⟨by rw [show X_sg tb len k = tx k % 256 from by unfold X_sg; rw [if_pos (by omega), X_at_in (by omega), htx k (by omega) (by omega)]], rfl⟩
theorem r_pack (sc : X_Sc) (S : X_S) (o : Nat → Int) (nm : Int64) (tx : Int → Int) (tb : Int → Int) (len : Int) (f : Int) (t : Int) (hM : M_o S o nm) (hA532 : S.1 532 = .inl (.byte, 2000, .inl fun k : Nat => iI (tx (k : Int)))) (hlen : o 3 = len) (hl : 0 ≤ len ∧ len ≤ 2000) (htx : ∀ k, 0 ≤ k → k < len → tx k = tb k) (hf : 0 ≤ f ∧ f ≤ 2001) (ht : t ≤ len ∧ -1 ≤ t) : X_T sc 142 (0, [(0, .ref 530), (1, .int (iI f)), (2, .int (iI t))], [], S) (fun v S' => ∃ (nm1 : Int64), v = none ∧ (t - f ≤ 8 → nm1 = X_pk tb len f (t - f).toNat) ∧ M_o S' o nm1 ∧ X_Fr (fun q => q = 530) S S') := by
  refine X_QI (fun Q hQ => ?_)
  refine T_p xr_142_0 xn_142 (pc' := 1) (ls' := [(0, .ref 530), (1, .int (iI f)), (2, .int (iI t))]) (st' := [.ref 530]) rfl ?_
  refine T_p xr_142_1 xn_142 (pc' := 2) (ls' := [(0, .ref 530), (1, .int (iI f)), (2, .int (iI t))]) (st' := [.long (0 : Int64), .ref 530]) rfl ?_
  refine T_put xr_142_2 hM rfl (Nat.le_of_ble_eq_true rfl) rfl (fs' := [.ref 531, .int (iI (o 1)), .ref 532, .int (iI (o 3)), .int (iI (o 4)), .int (iI (o 5)), .int (iI (o 6)), .int (iI (o 7)), .int (iI (o 8)), .int (iI (o 9)), .int (iI (o 10)), .int (iI (o 11)), .long (0 : Int64), .ref 533, .ref 534, .ref 535, .ref 536, .ref 537, .ref 538, .ref 539, .ref 540, .ref 541, .ref 542, .ref 543, .ref 544, .ref 545, .ref 546, .ref 547, .int (iI (o 28)), .int (iI (o 29)), .int (iI (o 30)), .int (iI (o 31)), .int (iI (o 32)), .int (iI (o 33)), .ref 548, .ref 549, .ref 550, .ref 551, .int (iI (o 38)), .ref 552, .ref 553, .ref 554, .ref 555, .ref 556, .ref 557, .ref 558, .ref 559, .ref 560, .ref 561, .int (iI (o 49)), .ref 562, .ref 563, .ref 564, .ref 565, .ref 566, .ref 567, .ref 568, .ref 569, .int (iI (o 58)), .ref 570, .ref 571, .ref 572, .ref 573, .ref 574, .ref 575, .ref 576, .ref 577, .ref 578, .int (iI (o 68)), .int (iI (o 69)), .int (iI (o 70)), .ref 579]) rfl (pc' := 5) rfl (fun S11 h12 n13 e14 => ?_)
  refine T_p xr_142_5 xn_142 (pc' := 6) (ls' := [(0, .ref 530), (1, .int (iI f)), (2, .int (iI t))]) (st' := [.int (iI f)]) rfl ?_
  refine T_p xr_142_6 xn_142 (pc' := 7) (ls' := [(3, .int (iI f)), (0, .ref 530), (1, .int (iI f)), (2, .int (iI t))]) (st' := []) rfl ?_
  have L15 : ∀ (m17 : Nat) (S20 : X_S) (k : Int) (n1 : Int64) (hM1 : S20.1 530 = .inr (11, [.ref 531, .int (iI (o 1)), .ref 532, .int (iI (o 3)), .int (iI (o 4)), .int (iI (o 5)), .int (iI (o 6)), .int (iI (o 7)), .int (iI (o 8)), .int (iI (o 9)), .int (iI (o 10)), .int (iI (o 11)), .long n1, .ref 533, .ref 534, .ref 535, .ref 536, .ref 537, .ref 538, .ref 539, .ref 540, .ref 541, .ref 542, .ref 543, .ref 544, .ref 545, .ref 546, .ref 547, .int (iI (o 28)), .int (iI (o 29)), .int (iI (o 30)), .int (iI (o 31)), .int (iI (o 32)), .int (iI (o 33)), .ref 548, .ref 549, .ref 550, .ref 551, .int (iI (o 38)), .ref 552, .ref 553, .ref 554, .ref 555, .ref 556, .ref 557, .ref 558, .ref 559, .ref 560, .ref 561, .int (iI (o 49)), .ref 562, .ref 563, .ref 564, .ref 565, .ref 566, .ref 567, .ref 568, .ref 569, .int (iI (o 58)), .ref 570, .ref 571, .ref 572, .ref 573, .ref 574, .ref 575, .ref 576, .ref 577, .ref 578, .int (iI (o 68)), .int (iI (o 69)), .int (iI (o 70)), .ref 579])) (hF19 : X_Fr (fun q => q = 530) S11 S20) (hk : f ≤ k ∧ (k ≤ t ∨ k = f) ∧ k ≤ f + 8) (hn1 : n1 = X_pk tb len f (k - f).toNat) (hm18 : f + 8 - k < m17), X_T sc 142 (7, [(3, .int (iI k)), (0, .ref 530), (1, .int (iI f)), (2, .int (iI t))], [], S20) Q := by
    intro m17
    induction m17 with
    | zero =>
      intro S20 k n1 hM1 hF19 hk hn1 hm18
      exact (show False by omega).elim
    | succ m17 ih16 =>
      intro S20 k n1 hM1 hF19 hk hn1 hm18
      refine T_p xr_142_7 xn_142 (pc' := 8) (ls' := [(3, .int (iI k)), (0, .ref 530), (1, .int (iI f)), (2, .int (iI t))]) (st' := [.int (iI k)]) rfl ?_
      refine T_p xr_142_8 xn_142 (pc' := 9) (ls' := [(3, .int (iI k)), (0, .ref 530), (1, .int (iI f)), (2, .int (iI t))]) (st' := [.int (iI t), .int (iI k)]) rfl ?_
      refine T_zicmp_ge xr_142_9 (t := 44) (pc' := 12) rfl rfl (fun c21 => ?_) (fun c21 => ?_)
      · skip
        have c21 : t ≤ k := c21
        refine T_vret xr_142_44 xf_142.2.2 ?_
        refine hQ _ _ ?_
        exact ⟨n1, rfl, fun h => by
              rw [hn1]
              rw [show (k - f).toNat = (t - f).toNat by omega], hM1, ((X_Fr.rf).tr (X_Fr.of n13 e14 (by first | decide | exact ⟨Nat.le_add_right _ _, Nat.add_le_add_left (by decide) _⟩ | omega))).tr (X_Fr.mono ⟨hF19.1, hF19.2⟩ (fun q hq => by first | exact hq | (rcases hq with rfl <;> decide) | (rcases hq with rfl | rfl <;> decide) | (rcases hq with rfl | rfl | rfl <;> decide) | (rcases hq with rfl | rfl | rfl | rfl <;> decide) | (rcases hq with rfl | rfl | rfl | rfl | rfl <;> decide) | (rcases hq with rfl | rfl | rfl | rfl | rfl | rfl <;> decide) | (rcases hq with rfl | rfl | rfl | rfl | rfl | rfl | rfl <;> decide) | omega))⟩
      · skip
        have c21 : ¬ (t ≤ k) := c21
        refine T_p xr_142_12 xn_142 (pc' := 13) (ls' := [(3, .int (iI k)), (0, .ref 530), (1, .int (iI f)), (2, .int (iI t))]) (st' := [.int (iI k)]) rfl ?_
        refine T_p xr_142_13 xn_142 (pc' := 14) (ls' := [(3, .int (iI k)), (0, .ref 530), (1, .int (iI f)), (2, .int (iI t))]) (st' := [.int (iI f), .int (iI k)]) rfl ?_
        refine T_p xr_142_14 xn_142 (pc' := 16) (ls' := [(3, .int (iI k)), (0, .ref 530), (1, .int (iI f)), (2, .int (iI t))]) (st' := [.int (iI 8), .int (iI f), .int (iI k)]) rfl ?_
        refine T_ziadd xr_142_16 (z := f + 8) rfl (pc' := 17) rfl ?_
        refine T_zicmp_ge xr_142_17 (t := 44) (pc' := 20) rfl rfl (fun c22 => ?_) (fun c22 => ?_)
        · skip
          have c22 : (f + 8) ≤ k := c22
          refine T_vret xr_142_44 xf_142.2.2 ?_
          refine hQ _ _ ?_
          exact ⟨n1, rfl, fun h => by
                rw [hn1]
                rw [show (k - f).toNat = (t - f).toNat by omega], hM1, ((X_Fr.rf).tr (X_Fr.of n13 e14 (by first | decide | exact ⟨Nat.le_add_right _ _, Nat.add_le_add_left (by decide) _⟩ | omega))).tr (X_Fr.mono ⟨hF19.1, hF19.2⟩ (fun q hq => by first | exact hq | (rcases hq with rfl <;> decide) | (rcases hq with rfl | rfl <;> decide) | (rcases hq with rfl | rfl | rfl <;> decide) | (rcases hq with rfl | rfl | rfl | rfl <;> decide) | (rcases hq with rfl | rfl | rfl | rfl | rfl <;> decide) | (rcases hq with rfl | rfl | rfl | rfl | rfl | rfl <;> decide) | (rcases hq with rfl | rfl | rfl | rfl | rfl | rfl | rfl <;> decide) | omega))⟩
        · skip
          have c22 : ¬ ((f + 8) ≤ k) := c22
          refine T_p xr_142_20 xn_142 (pc' := 21) (ls' := [(3, .int (iI k)), (0, .ref 530), (1, .int (iI f)), (2, .int (iI t))]) (st' := [.ref 530]) rfl ?_
          refine T_p xr_142_21 xn_142 (pc' := 22) (ls' := [(3, .int (iI k)), (0, .ref 530), (1, .int (iI f)), (2, .int (iI t))]) (st' := [.ref 530, .ref 530]) rfl ?_
          refine T_get xr_142_22 hM1 rfl (v := .long n1) rfl (pc' := 25) rfl ?_
          refine T_p xr_142_25 xn_142 (pc' := 27) (ls' := [(3, .int (iI k)), (0, .ref 530), (1, .int (iI f)), (2, .int (iI t))]) (st' := [.int (iI 8), .long n1, .ref 530]) rfl ?_
          refine T_p xr_142_27 xn_142 (pc' := 28) (ls' := [(3, .int (iI k)), (0, .ref 530), (1, .int (iI f)), (2, .int (iI t))]) (st' := [.long (n1 <<< ((iI 8).toInt64 &&& 63)), .ref 530]) rfl ?_
          refine T_p xr_142_28 xn_142 (pc' := 29) (ls' := [(3, .int (iI k)), (0, .ref 530), (1, .int (iI f)), (2, .int (iI t))]) (st' := [.ref 530, .long (n1 <<< ((iI 8).toInt64 &&& 63)), .ref 530]) rfl ?_
          refine T_p xr_142_29 xn_142 (pc' := 30) (ls' := [(3, .int (iI k)), (0, .ref 530), (1, .int (iI f)), (2, .int (iI t))]) (st' := [.int (iI k), .ref 530, .long (n1 <<< ((iI 8).toInt64 &&& 63)), .ref 530]) rfl ?_
          refine T_cv (S := S20) (q := 530) xr_142_30 xf_136.1 xf_136.2.1 xn_136 (as := [.int (iI k)]) (r := [.long (n1 <<< ((iI 8).toInt64 &&& 63)), .ref 530]) rfl hM1 (Nat.le_of_ble_eq_true rfl) (Nat.le_of_ble_eq_true rfl) (pc' := 33) rfl (ls' := [(0, .ref 530), (1, .int (iI k))]) rfl ?_
          have h23 := (hF19.1 532 (by first | decide | omega)).trans ((n13 532 (by decide)).trans (hA532))
          refine T_mono (r_sign sc S20 o n1 tx tb len k hM1 h23 (show (o 3) = len from by first | assumption | omega) hl htx (by omega)) (fun v24 S25 h26 => ?_)
          rcases h26 with ⟨hv27, hf28⟩
          rw [hv27]
          rw [hf28]
          have hg29 := X_sg_r (tb := tb) (len := len) (k := k) (by omega)
          have hg30 := X_sg_c (tb := tb) (len := len) (k := k)
          show X_T sc 142 (33, [(3, .int (iI k)), (0, .ref 530), (1, .int (iI f)), (2, .int (iI t))], [.int (iI (X_sg tb len k)), .long (n1 <<< ((iI 8).toInt64 &&& 63)), .ref 530], S20) _
          refine T_p xr_142_33 xn_142 (pc' := 34) (ls' := [(3, .int (iI k)), (0, .ref 530), (1, .int (iI f)), (2, .int (iI t))]) (st' := [.long ((iI (X_sg tb len k)).toInt64), .long (n1 <<< ((iI 8).toInt64 &&& 63)), .ref 530]) rfl ?_
          refine T_p xr_142_34 xn_142 (pc' := 35) (ls' := [(3, .int (iI k)), (0, .ref 530), (1, .int (iI f)), (2, .int (iI t))]) (st' := [.long ((n1 <<< ((iI 8).toInt64 &&& 63)) ||| ((iI (X_sg tb len k)).toInt64)), .ref 530]) rfl ?_
          refine T_le (y := (X_pk tb len f (k + 1 - f).toNat)) (by rw [hn1, show X_sg tb len k = X_at tb len k by omega]; exact X_pk_go (by omega)) ?_
          refine T_put xr_142_35 hM1 rfl (Nat.le_of_ble_eq_true rfl) rfl (fs' := [.ref 531, .int (iI (o 1)), .ref 532, .int (iI (o 3)), .int (iI (o 4)), .int (iI (o 5)), .int (iI (o 6)), .int (iI (o 7)), .int (iI (o 8)), .int (iI (o 9)), .int (iI (o 10)), .int (iI (o 11)), .long (X_pk tb len f (k + 1 - f).toNat), .ref 533, .ref 534, .ref 535, .ref 536, .ref 537, .ref 538, .ref 539, .ref 540, .ref 541, .ref 542, .ref 543, .ref 544, .ref 545, .ref 546, .ref 547, .int (iI (o 28)), .int (iI (o 29)), .int (iI (o 30)), .int (iI (o 31)), .int (iI (o 32)), .int (iI (o 33)), .ref 548, .ref 549, .ref 550, .ref 551, .int (iI (o 38)), .ref 552, .ref 553, .ref 554, .ref 555, .ref 556, .ref 557, .ref 558, .ref 559, .ref 560, .ref 561, .int (iI (o 49)), .ref 562, .ref 563, .ref 564, .ref 565, .ref 566, .ref 567, .ref 568, .ref 569, .int (iI (o 58)), .ref 570, .ref 571, .ref 572, .ref 573, .ref 574, .ref 575, .ref 576, .ref 577, .ref 578, .int (iI (o 68)), .int (iI (o 69)), .int (iI (o 70)), .ref 579]) rfl (pc' := 38) rfl (fun S31 h32 n33 e34 => ?_)
          refine T_ziinc xr_142_38 xn_142 (a := k) (z := k + 1) rfl (Nat.le_of_ble_eq_true rfl) (by omega) (ls' := [(3, .int (iI (k + 1))), (0, .ref 530), (1, .int (iI f)), (2, .int (iI t))]) rfl (pc' := 41) rfl ?_
          refine T_p xr_142_41 xn_142 (pc' := 7) (ls' := [(3, .int (iI (k + 1))), (0, .ref 530), (1, .int (iI f)), (2, .int (iI t))]) (st' := []) rfl ?_
          exact ih16 S31 (k + 1) (X_pk tb len f (k + 1 - f).toNat) h32 (hF19.tr ((X_Fr.rf).tr (X_Fr.of n33 e34 (by first | decide | exact ⟨Nat.le_add_right _ _, Nat.add_le_add_left (by decide) _⟩ | omega)))) (by omega) rfl (by omega)
  exact L15 (f + 8 + 1).toNat S11 f (0 : Int64) h12 ((X_Fr.rf)) (by omega) (by rw [show (f - f).toNat = 0 by omega]; rfl) (by omega)
end
section
theorem xr_141_0 : X_row 141 0 = some (0, (.aload_n 0, 1), (0, 0, 0)) := by decide +kernel
theorem xr_141_1 : X_row 141 1 = some (1, (.aload_n 0, 1), (0, 0, 0)) := by decide +kernel
theorem xr_141_2 : X_row 141 2 = some (2, (.getfield 17, 3), (11, 8, 16)) := by decide +kernel
theorem xr_141_5 : X_row 141 5 = some (5, (.putfield 20, 3), (11, 7, 14)) := by decide +kernel
theorem xr_141_8 : X_row 141 8 = some (8, (.aload_n 0, 1), (0, 0, 0)) := by decide +kernel
theorem xr_141_9 : X_row 141 9 = some (9, (.getfield 20, 3), (11, 7, 14)) := by decide +kernel
theorem xr_141_12 : X_row 141 12 = some (12, (.aload_n 0, 1), (0, 0, 0)) := by decide +kernel
theorem xr_141_13 : X_row 141 13 = some (13, (.getfield 1, 3), (11, 3, 6)) := by decide +kernel
theorem xr_141_16 : X_row 141 16 = some (16, (.if_icmp .ge 42, 3), (0, 0, 0)) := by decide +kernel
theorem xr_141_19 : X_row 141 19 = some (19, (.aload_n 0, 1), (0, 0, 0)) := by decide +kernel
theorem xr_141_20 : X_row 141 20 = some (20, (.aload_n 0, 1), (0, 0, 0)) := by decide +kernel
theorem xr_141_21 : X_row 141 21 = some (21, (.getfield 20, 3), (11, 7, 14)) := by decide +kernel
theorem xr_141_24 : X_row 141 24 = some (24, (.invokevirtual 23, 3), (136, 2, 0)) := by decide +kernel
theorem xr_141_27 : X_row 141 27 = some (27, (.bipush 32, 2), (0, 0, 0)) := by decide +kernel
theorem xr_141_29 : X_row 141 29 = some (29, (.if_icmp .eq 16, 3), (0, 0, 0)) := by decide +kernel
theorem xr_141_32 : X_row 141 32 = some (32, (.aload_n 0, 1), (0, 0, 0)) := by decide +kernel
theorem xr_141_33 : X_row 141 33 = some (33, (.aload_n 0, 1), (0, 0, 0)) := by decide +kernel
theorem xr_141_34 : X_row 141 34 = some (34, (.getfield 20, 3), (11, 7, 14)) := by decide +kernel
theorem xr_141_37 : X_row 141 37 = some (37, (.invokevirtual 23, 3), (136, 2, 0)) := by decide +kernel
theorem xr_141_40 : X_row 141 40 = some (40, (.bipush 10, 2), (0, 0, 0)) := by decide +kernel
theorem xr_141_42 : X_row 141 42 = some (42, (.if_icmp .ne 16, 3), (0, 0, 0)) := by decide +kernel
theorem xr_141_45 : X_row 141 45 = some (45, (.aload_n 0, 1), (0, 0, 0)) := by decide +kernel
theorem xr_141_46 : X_row 141 46 = some (46, (.dup, 1), (0, 0, 0)) := by decide +kernel
theorem xr_141_47 : X_row 141 47 = some (47, (.getfield 20, 3), (11, 7, 14)) := by decide +kernel
theorem xr_141_50 : X_row 141 50 = some (50, (.iconst 1, 1), (0, 0, 0)) := by decide +kernel
theorem xr_141_51 : X_row 141 51 = some (51, (.iadd, 1), (0, 0, 0)) := by decide +kernel
theorem xr_141_52 : X_row 141 52 = some (52, (.putfield 20, 3), (11, 7, 14)) := by decide +kernel
theorem xr_141_55 : X_row 141 55 = some (55, (.goto (-47), 3), (0, 0, 0)) := by decide +kernel
theorem xr_141_58 : X_row 141 58 = some (58, (.aload_n 0, 1), (0, 0, 0)) := by decide +kernel
theorem xr_141_59 : X_row 141 59 = some (59, (.aload_n 0, 1), (0, 0, 0)) := by decide +kernel
theorem xr_141_60 : X_row 141 60 = some (60, (.getfield 20, 3), (11, 7, 14)) := by decide +kernel
theorem xr_141_63 : X_row 141 63 = some (63, (.invokevirtual 23, 3), (136, 2, 0)) := by decide +kernel
theorem xr_141_66 : X_row 141 66 = some (66, (.istore_n 1, 1), (0, 0, 0)) := by decide +kernel
theorem xr_141_67 : X_row 141 67 = some (67, (.aload_n 0, 1), (0, 0, 0)) := by decide +kernel
theorem xr_141_68 : X_row 141 68 = some (68, (.aload_n 0, 1), (0, 0, 0)) := by decide +kernel
theorem xr_141_69 : X_row 141 69 = some (69, (.getfield 20, 3), (11, 7, 14)) := by decide +kernel
theorem xr_141_72 : X_row 141 72 = some (72, (.iconst 1, 1), (0, 0, 0)) := by decide +kernel
theorem xr_141_73 : X_row 141 73 = some (73, (.iadd, 1), (0, 0, 0)) := by decide +kernel
theorem xr_141_74 : X_row 141 74 = some (74, (.putfield 17, 3), (11, 8, 16)) := by decide +kernel
theorem xr_141_77 : X_row 141 77 = some (77, (.aload_n 0, 1), (0, 0, 0)) := by decide +kernel
theorem xr_141_78 : X_row 141 78 = some (78, (.getfield 20, 3), (11, 7, 14)) := by decide +kernel
theorem xr_141_81 : X_row 141 81 = some (81, (.aload_n 0, 1), (0, 0, 0)) := by decide +kernel
theorem xr_141_82 : X_row 141 82 = some (82, (.getfield 1, 3), (11, 3, 6)) := by decide +kernel
theorem xr_141_85 : X_row 141 85 = some (85, (.if_icmp .lt 27, 3), (0, 0, 0)) := by decide +kernel
theorem xr_141_88 : X_row 141 88 = some (88, (.aload_n 0, 1), (0, 0, 0)) := by decide +kernel
theorem xr_141_89 : X_row 141 89 = some (89, (.iconst 0, 1), (0, 0, 0)) := by decide +kernel
theorem xr_141_90 : X_row 141 90 = some (90, (.putfield 27, 3), (11, 9, 18)) := by decide +kernel
theorem xr_141_93 : X_row 141 93 = some (93, (.aload_n 0, 1), (0, 0, 0)) := by decide +kernel
theorem xr_141_94 : X_row 141 94 = some (94, (.aload_n 0, 1), (0, 0, 0)) := by decide +kernel
theorem xr_141_95 : X_row 141 95 = some (95, (.getfield 1, 3), (11, 3, 6)) := by decide +kernel
theorem xr_141_98 : X_row 141 98 = some (98, (.putfield 20, 3), (11, 7, 14)) := by decide +kernel
theorem xr_141_101 : X_row 141 101 = some (101, (.aload_n 0, 1), (0, 0, 0)) := by decide +kernel
theorem xr_141_102 : X_row 141 102 = some (102, (.aload_n 0, 1), (0, 0, 0)) := by decide +kernel
theorem xr_141_103 : X_row 141 103 = some (103, (.getfield 1, 3), (11, 3, 6)) := by decide +kernel
theorem xr_141_106 : X_row 141 106 = some (106, (.putfield 17, 3), (11, 8, 16)) := by decide +kernel
theorem xr_141_109 : X_row 141 109 = some (109, (.goto 442, 3), (0, 0, 0)) := by decide +kernel
theorem xr_141_112 : X_row 141 112 = some (112, (.iload_n 1, 1), (0, 0, 0)) := by decide +kernel
theorem xr_141_113 : X_row 141 113 = some (113, (.invokestatic 30, 3), (137, 4, 0)) := by decide +kernel
theorem xr_141_116 : X_row 141 116 = some (116, (.ifCond .eq 173, 3), (0, 0, 0)) := by decide +kernel
theorem xr_141_119 : X_row 141 119 = some (119, (.aload_n 0, 1), (0, 0, 0)) := by decide +kernel
theorem xr_141_120 : X_row 141 120 = some (120, (.aload_n 0, 1), (0, 0, 0)) := by decide +kernel
theorem xr_141_121 : X_row 141 121 = some (121, (.getfield 17, 3), (11, 8, 16)) := by decide +kernel
theorem xr_141_124 : X_row 141 124 = some (124, (.invokevirtual 23, 3), (136, 2, 0)) := by decide +kernel
theorem xr_141_127 : X_row 141 127 = some (127, (.invokestatic 30, 3), (137, 4, 0)) := by decide +kernel
theorem xr_141_130 : X_row 141 130 = some (130, (.ifCond .ne 17, 3), (0, 0, 0)) := by decide +kernel
theorem xr_141_133 : X_row 141 133 = some (133, (.aload_n 0, 1), (0, 0, 0)) := by decide +kernel
theorem xr_141_134 : X_row 141 134 = some (134, (.aload_n 0, 1), (0, 0, 0)) := by decide +kernel
theorem xr_141_135 : X_row 141 135 = some (135, (.getfield 17, 3), (11, 8, 16)) := by decide +kernel
theorem xr_141_138 : X_row 141 138 = some (138, (.invokevirtual 23, 3), (136, 2, 0)) := by decide +kernel
theorem xr_141_141 : X_row 141 141 = some (141, (.invokestatic 34, 3), (138, 6, 0)) := by decide +kernel
theorem xr_141_144 : X_row 141 144 = some (144, (.ifCond .eq 16, 3), (0, 0, 0)) := by decide +kernel
theorem xr_141_147 : X_row 141 147 = some (147, (.aload_n 0, 1), (0, 0, 0)) := by decide +kernel
theorem xr_141_148 : X_row 141 148 = some (148, (.dup, 1), (0, 0, 0)) := by decide +kernel
theorem xr_141_149 : X_row 141 149 = some (149, (.getfield 17, 3), (11, 8, 16)) := by decide +kernel
theorem xr_141_152 : X_row 141 152 = some (152, (.iconst 1, 1), (0, 0, 0)) := by decide +kernel
theorem xr_141_153 : X_row 141 153 = some (153, (.iadd, 1), (0, 0, 0)) := by decide +kernel
theorem xr_141_154 : X_row 141 154 = some (154, (.putfield 17, 3), (11, 8, 16)) := by decide +kernel
theorem xr_141_157 : X_row 141 157 = some (157, (.goto (-38), 3), (0, 0, 0)) := by decide +kernel
theorem xr_141_160 : X_row 141 160 = some (160, (.aload_n 0, 1), (0, 0, 0)) := by decide +kernel
theorem xr_141_161 : X_row 141 161 = some (161, (.aload_n 0, 1), (0, 0, 0)) := by decide +kernel
theorem xr_141_162 : X_row 141 162 = some (162, (.getfield 20, 3), (11, 7, 14)) := by decide +kernel
theorem xr_141_165 : X_row 141 165 = some (165, (.aload_n 0, 1), (0, 0, 0)) := by decide +kernel
theorem xr_141_166 : X_row 141 166 = some (166, (.getfield 17, 3), (11, 8, 16)) := by decide +kernel
theorem xr_141_169 : X_row 141 169 = some (169, (.invokevirtual 37, 3), (142, 8, 0)) := by decide +kernel
theorem xr_141_172 : X_row 141 172 = some (172, (.aload_n 0, 1), (0, 0, 0)) := by decide +kernel
theorem xr_141_173 : X_row 141 173 = some (173, (.getfield 41, 3), (11, 12, 24)) := by decide +kernel
theorem xr_141_176 : X_row 141 176 = some (176, (.ldc2_w 45, 3), (1918987883, 1285, 0)) := by decide +kernel
theorem xr_141_179 : X_row 141 179 = some (179, (.lcmp, 1), (0, 0, 0)) := by decide +kernel
theorem xr_141_180 : X_row 141 180 = some (180, (.ifCond .eq 69, 3), (0, 0, 0)) := by decide +kernel
theorem xr_141_183 : X_row 141 183 = some (183, (.aload_n 0, 1), (0, 0, 0)) := by decide +kernel
theorem xr_141_184 : X_row 141 184 = some (184, (.getfield 41, 3), (11, 12, 24)) := by decide +kernel
theorem xr_141_187 : X_row 141 187 = some (187, (.ldc2_w 47, 3), (32766990153442674, 1286, 0)) := by decide +kernel
theorem xr_141_190 : X_row 141 190 = some (190, (.lcmp, 1), (0, 0, 0)) := by decide +kernel
theorem xr_141_191 : X_row 141 191 = some (191, (.ifCond .eq 58, 3), (0, 0, 0)) := by decide +kernel
theorem xr_141_194 : X_row 141 194 = some (194, (.aload_n 0, 1), (0, 0, 0)) := by decide +kernel
theorem xr_141_195 : X_row 141 195 = some (195, (.getfield 41, 3), (11, 12, 24)) := by decide +kernel
theorem xr_141_198 : X_row 141 198 = some (198, (.ldc2_w 49, 3), (1802071652, 1287, 0)) := by decide +kernel
theorem xr_141_201 : X_row 141 201 = some (201, (.lcmp, 1), (0, 0, 0)) := by decide +kernel
theorem xr_141_202 : X_row 141 202 = some (202, (.ifCond .eq 47, 3), (0, 0, 0)) := by decide +kernel
theorem xr_141_205 : X_row 141 205 = some (205, (.aload_n 0, 1), (0, 0, 0)) := by decide +kernel
theorem xr_141_206 : X_row 141 206 = some (206, (.getfield 41, 3), (11, 12, 24)) := by decide +kernel
theorem xr_141_209 : X_row 141 209 = some (209, (.ldc2_w 51, 3), (504363246962, 1288, 0)) := by decide +kernel
theorem xr_141_212 : X_row 141 212 = some (212, (.lcmp, 1), (0, 0, 0)) := by decide +kernel
theorem xr_141_213 : X_row 141 213 = some (213, (.ifCond .eq 36, 3), (0, 0, 0)) := by decide +kernel
theorem xr_141_216 : X_row 141 216 = some (216, (.aload_n 0, 1), (0, 0, 0)) := by decide +kernel
theorem xr_141_217 : X_row 141 217 = some (217, (.getfield 41, 3), (11, 12, 24)) := by decide +kernel
theorem xr_141_220 : X_row 141 220 = some (220, (.ldc2_w 53, 3), (2003792484, 1289, 0)) := by decide +kernel
theorem xr_141_223 : X_row 141 223 = some (223, (.lcmp, 1), (0, 0, 0)) := by decide +kernel
theorem xr_141_224 : X_row 141 224 = some (224, (.ifCond .eq 25, 3), (0, 0, 0)) := by decide +kernel
theorem xr_141_227 : X_row 141 227 = some (227, (.aload_n 0, 1), (0, 0, 0)) := by decide +kernel
theorem xr_141_228 : X_row 141 228 = some (228, (.getfield 41, 3), (11, 12, 24)) := by decide +kernel
theorem xr_141_231 : X_row 141 231 = some (231, (.ldc2_w 55, 3), (1818584692, 1290, 0)) := by decide +kernel
theorem xr_141_234 : X_row 141 234 = some (234, (.lcmp, 1), (0, 0, 0)) := by decide +kernel
theorem xr_141_235 : X_row 141 235 = some (235, (.ifCond .eq 14, 3), (0, 0, 0)) := by decide +kernel
theorem xr_141_238 : X_row 141 238 = some (238, (.aload_n 0, 1), (0, 0, 0)) := by decide +kernel
theorem xr_141_239 : X_row 141 239 = some (239, (.getfield 41, 3), (11, 12, 24)) := by decide +kernel
theorem xr_141_242 : X_row 141 242 = some (242, (.ldc2_w 57, 3), (491394656372, 1291, 0)) := by decide +kernel
theorem xr_141_245 : X_row 141 245 = some (245, (.lcmp, 1), (0, 0, 0)) := by decide +kernel
theorem xr_141_246 : X_row 141 246 = some (246, (.ifCond .ne 7, 3), (0, 0, 0)) := by decide +kernel
theorem xr_141_249 : X_row 141 249 = some (249, (.iconst 1, 1), (0, 0, 0)) := by decide +kernel
theorem xr_141_250 : X_row 141 250 = some (250, (.goto 4, 3), (0, 0, 0)) := by decide +kernel
theorem xr_141_253 : X_row 141 253 = some (253, (.iconst 0, 1), (0, 0, 0)) := by decide +kernel
theorem xr_141_254 : X_row 141 254 = some (254, (.istore_n 2, 1), (0, 0, 0)) := by decide +kernel
theorem xr_141_255 : X_row 141 255 = some (255, (.aload_n 0, 1), (0, 0, 0)) := by decide +kernel
theorem xr_141_256 : X_row 141 256 = some (256, (.aload_n 0, 1), (0, 0, 0)) := by decide +kernel
theorem xr_141_257 : X_row 141 257 = some (257, (.getfield 17, 3), (11, 8, 16)) := by decide +kernel
theorem xr_141_260 : X_row 141 260 = some (260, (.aload_n 0, 1), (0, 0, 0)) := by decide +kernel
theorem xr_141_261 : X_row 141 261 = some (261, (.getfield 20, 3), (11, 7, 14)) := by decide +kernel
theorem xr_141_264 : X_row 141 264 = some (264, (.isub, 1), (0, 0, 0)) := by decide +kernel
theorem xr_141_265 : X_row 141 265 = some (265, (.bipush 8, 2), (0, 0, 0)) := by decide +kernel
theorem xr_141_267 : X_row 141 267 = some (267, (.if_icmp .le 7, 3), (0, 0, 0)) := by decide +kernel
theorem xr_141_270 : X_row 141 270 = some (270, (.iconst 1, 1), (0, 0, 0)) := by decide +kernel
theorem xr_141_271 : X_row 141 271 = some (271, (.goto 12, 3), (0, 0, 0)) := by decide +kernel
theorem xr_141_274 : X_row 141 274 = some (274, (.iload_n 2, 1), (0, 0, 0)) := by decide +kernel
theorem xr_141_275 : X_row 141 275 = some (275, (.ifCond .eq 7, 3), (0, 0, 0)) := by decide +kernel
theorem xr_141_278 : X_row 141 278 = some (278, (.iconst 3, 1), (0, 0, 0)) := by decide +kernel
theorem xr_141_279 : X_row 141 279 = some (279, (.goto 4, 3), (0, 0, 0)) := by decide +kernel
theorem xr_141_282 : X_row 141 282 = some (282, (.iconst 2, 1), (0, 0, 0)) := by decide +kernel
theorem xr_141_283 : X_row 141 283 = some (283, (.putfield 27, 3), (11, 9, 18)) := by decide +kernel
theorem xr_141_286 : X_row 141 286 = some (286, (.goto 265, 3), (0, 0, 0)) := by decide +kernel
theorem xr_141_289 : X_row 141 289 = some (289, (.iload_n 1, 1), (0, 0, 0)) := by decide +kernel
theorem xr_141_290 : X_row 141 290 = some (290, (.invokestatic 34, 3), (138, 6, 0)) := by decide +kernel
theorem xr_141_293 : X_row 141 293 = some (293, (.ifCond .eq 128, 3), (0, 0, 0)) := by decide +kernel
theorem xr_141_296 : X_row 141 296 = some (296, (.aload_n 0, 1), (0, 0, 0)) := by decide +kernel
theorem xr_141_297 : X_row 141 297 = some (297, (.iconst 0, 1), (0, 0, 0)) := by decide +kernel
theorem xr_141_298 : X_row 141 298 = some (298, (.putfield 59, 3), (11, 10, 20)) := by decide +kernel
theorem xr_141_301 : X_row 141 301 = some (301, (.aload_n 0, 1), (0, 0, 0)) := by decide +kernel
theorem xr_141_302 : X_row 141 302 = some (302, (.aload_n 0, 1), (0, 0, 0)) := by decide +kernel
theorem xr_141_303 : X_row 141 303 = some (303, (.getfield 20, 3), (11, 7, 14)) := by decide +kernel
theorem xr_141_306 : X_row 141 306 = some (306, (.putfield 17, 3), (11, 8, 16)) := by decide +kernel
theorem xr_141_309 : X_row 141 309 = some (309, (.aload_n 0, 1), (0, 0, 0)) := by decide +kernel
theorem xr_141_310 : X_row 141 310 = some (310, (.aload_n 0, 1), (0, 0, 0)) := by decide +kernel
theorem xr_141_311 : X_row 141 311 = some (311, (.getfield 17, 3), (11, 8, 16)) := by decide +kernel
theorem xr_141_314 : X_row 141 314 = some (314, (.invokevirtual 23, 3), (136, 2, 0)) := by decide +kernel
theorem xr_141_317 : X_row 141 317 = some (317, (.invokestatic 34, 3), (138, 6, 0)) := by decide +kernel
theorem xr_141_320 : X_row 141 320 = some (320, (.ifCond .eq 53, 3), (0, 0, 0)) := by decide +kernel
theorem xr_141_323 : X_row 141 323 = some (323, (.aload_n 0, 1), (0, 0, 0)) := by decide +kernel
theorem xr_141_324 : X_row 141 324 = some (324, (.getfield 17, 3), (11, 8, 16)) := by decide +kernel
theorem xr_141_327 : X_row 141 327 = some (327, (.aload_n 0, 1), (0, 0, 0)) := by decide +kernel
theorem xr_141_328 : X_row 141 328 = some (328, (.getfield 20, 3), (11, 7, 14)) := by decide +kernel
theorem xr_141_331 : X_row 141 331 = some (331, (.isub, 1), (0, 0, 0)) := by decide +kernel
theorem xr_141_332 : X_row 141 332 = some (332, (.bipush 9, 2), (0, 0, 0)) := by decide +kernel
theorem xr_141_334 : X_row 141 334 = some (334, (.if_icmp .ge 26, 3), (0, 0, 0)) := by decide +kernel
theorem xr_141_337 : X_row 141 337 = some (337, (.aload_n 0, 1), (0, 0, 0)) := by decide +kernel
theorem xr_141_338 : X_row 141 338 = some (338, (.bipush 10, 2), (0, 0, 0)) := by decide +kernel
theorem xr_141_340 : X_row 141 340 = some (340, (.aload_n 0, 1), (0, 0, 0)) := by decide +kernel
theorem xr_141_341 : X_row 141 341 = some (341, (.getfield 59, 3), (11, 10, 20)) := by decide +kernel
theorem xr_141_344 : X_row 141 344 = some (344, (.imul, 1), (0, 0, 0)) := by decide +kernel
theorem xr_141_345 : X_row 141 345 = some (345, (.aload_n 0, 1), (0, 0, 0)) := by decide +kernel
theorem xr_141_346 : X_row 141 346 = some (346, (.aload_n 0, 1), (0, 0, 0)) := by decide +kernel
theorem xr_141_347 : X_row 141 347 = some (347, (.getfield 17, 3), (11, 8, 16)) := by decide +kernel
theorem xr_141_350 : X_row 141 350 = some (350, (.invokevirtual 23, 3), (136, 2, 0)) := by decide +kernel
theorem xr_141_353 : X_row 141 353 = some (353, (.iadd, 1), (0, 0, 0)) := by decide +kernel
theorem xr_141_354 : X_row 141 354 = some (354, (.bipush 48, 2), (0, 0, 0)) := by decide +kernel
theorem xr_141_356 : X_row 141 356 = some (356, (.isub, 1), (0, 0, 0)) := by decide +kernel
theorem xr_141_357 : X_row 141 357 = some (357, (.putfield 59, 3), (11, 10, 20)) := by decide +kernel
theorem xr_141_360 : X_row 141 360 = some (360, (.aload_n 0, 1), (0, 0, 0)) := by decide +kernel
theorem xr_141_361 : X_row 141 361 = some (361, (.dup, 1), (0, 0, 0)) := by decide +kernel
theorem xr_141_362 : X_row 141 362 = some (362, (.getfield 17, 3), (11, 8, 16)) := by decide +kernel
theorem xr_141_365 : X_row 141 365 = some (365, (.iconst 1, 1), (0, 0, 0)) := by decide +kernel
theorem xr_141_366 : X_row 141 366 = some (366, (.iadd, 1), (0, 0, 0)) := by decide +kernel
theorem xr_141_367 : X_row 141 367 = some (367, (.putfield 17, 3), (11, 8, 16)) := by decide +kernel
theorem xr_141_370 : X_row 141 370 = some (370, (.goto (-61), 3), (0, 0, 0)) := by decide +kernel
theorem xr_141_373 : X_row 141 373 = some (373, (.aload_n 0, 1), (0, 0, 0)) := by decide +kernel
theorem xr_141_374 : X_row 141 374 = some (374, (.aload_n 0, 1), (0, 0, 0)) := by decide +kernel
theorem xr_141_375 : X_row 141 375 = some (375, (.getfield 17, 3), (11, 8, 16)) := by decide +kernel
theorem xr_141_378 : X_row 141 378 = some (378, (.aload_n 0, 1), (0, 0, 0)) := by decide +kernel
theorem xr_141_379 : X_row 141 379 = some (379, (.getfield 20, 3), (11, 7, 14)) := by decide +kernel
theorem xr_141_382 : X_row 141 382 = some (382, (.isub, 1), (0, 0, 0)) := by decide +kernel
theorem xr_141_383 : X_row 141 383 = some (383, (.putfield 62, 3), (11, 11, 22)) := by decide +kernel
theorem xr_141_386 : X_row 141 386 = some (386, (.aload_n 0, 1), (0, 0, 0)) := by decide +kernel
theorem xr_141_387 : X_row 141 387 = some (387, (.aload_n 0, 1), (0, 0, 0)) := by decide +kernel
theorem xr_141_388 : X_row 141 388 = some (388, (.getfield 62, 3), (11, 11, 22)) := by decide +kernel
theorem xr_141_391 : X_row 141 391 = some (391, (.bipush 9, 2), (0, 0, 0)) := by decide +kernel
theorem xr_141_393 : X_row 141 393 = some (393, (.if_icmp .gt 17, 3), (0, 0, 0)) := by decide +kernel
theorem xr_141_396 : X_row 141 396 = some (396, (.aload_n 0, 1), (0, 0, 0)) := by decide +kernel
theorem xr_141_397 : X_row 141 397 = some (397, (.aload_n 0, 1), (0, 0, 0)) := by decide +kernel
theorem xr_141_398 : X_row 141 398 = some (398, (.getfield 17, 3), (11, 8, 16)) := by decide +kernel
theorem xr_141_401 : X_row 141 401 = some (401, (.invokevirtual 23, 3), (136, 2, 0)) := by decide +kernel
theorem xr_141_404 : X_row 141 404 = some (404, (.invokestatic 30, 3), (137, 4, 0)) := by decide +kernel
theorem xr_141_407 : X_row 141 407 = some (407, (.ifCond .eq 7, 3), (0, 0, 0)) := by decide +kernel
theorem xr_141_410 : X_row 141 410 = some (410, (.iconst 1, 1), (0, 0, 0)) := by decide +kernel
theorem xr_141_411 : X_row 141 411 = some (411, (.goto 4, 3), (0, 0, 0)) := by decide +kernel
theorem xr_141_414 : X_row 141 414 = some (414, (.iconst 4, 1), (0, 0, 0)) := by decide +kernel
theorem xr_141_415 : X_row 141 415 = some (415, (.putfield 27, 3), (11, 9, 18)) := by decide +kernel
theorem xr_141_418 : X_row 141 418 = some (418, (.goto 133, 3), (0, 0, 0)) := by decide +kernel
theorem xr_141_421 : X_row 141 421 = some (421, (.iload_n 1, 1), (0, 0, 0)) := by decide +kernel
theorem xr_141_422 : X_row 141 422 = some (422, (.bipush 34, 2), (0, 0, 0)) := by decide +kernel
theorem xr_141_424 : X_row 141 424 = some (424, (.if_icmp .ne 10, 3), (0, 0, 0)) := by decide +kernel
theorem xr_141_427 : X_row 141 427 = some (427, (.aload_n 0, 1), (0, 0, 0)) := by decide +kernel
theorem xr_141_428 : X_row 141 428 = some (428, (.invokevirtual 65, 3), (143, 10, 0)) := by decide +kernel
theorem xr_141_431 : X_row 141 431 = some (431, (.goto 120, 3), (0, 0, 0)) := by decide +kernel
theorem xr_141_434 : X_row 141 434 = some (434, (.iload_n 1, 1), (0, 0, 0)) := by decide +kernel
theorem xr_141_435 : X_row 141 435 = some (435, (.bipush 95, 2), (0, 0, 0)) := by decide +kernel
theorem xr_141_437 : X_row 141 437 = some (437, (.if_icmp .ne 44, 3), (0, 0, 0)) := by decide +kernel
theorem xr_141_440 : X_row 141 440 = some (440, (.aload_n 0, 1), (0, 0, 0)) := by decide +kernel
theorem xr_141_441 : X_row 141 441 = some (441, (.aload_n 0, 1), (0, 0, 0)) := by decide +kernel
theorem xr_141_442 : X_row 141 442 = some (442, (.aload_n 0, 1), (0, 0, 0)) := by decide +kernel
theorem xr_141_443 : X_row 141 443 = some (443, (.getfield 17, 3), (11, 8, 16)) := by decide +kernel
theorem xr_141_446 : X_row 141 446 = some (446, (.invokevirtual 23, 3), (136, 2, 0)) := by decide +kernel
theorem xr_141_449 : X_row 141 449 = some (449, (.invokestatic 30, 3), (137, 4, 0)) := by decide +kernel
theorem xr_141_452 : X_row 141 452 = some (452, (.ifCond .ne 17, 3), (0, 0, 0)) := by decide +kernel
theorem xr_141_455 : X_row 141 455 = some (455, (.aload_n 0, 1), (0, 0, 0)) := by decide +kernel
theorem xr_141_456 : X_row 141 456 = some (456, (.aload_n 0, 1), (0, 0, 0)) := by decide +kernel
theorem xr_141_457 : X_row 141 457 = some (457, (.getfield 17, 3), (11, 8, 16)) := by decide +kernel
theorem xr_141_460 : X_row 141 460 = some (460, (.invokevirtual 23, 3), (136, 2, 0)) := by decide +kernel
theorem xr_141_463 : X_row 141 463 = some (463, (.invokestatic 34, 3), (138, 6, 0)) := by decide +kernel
theorem xr_141_466 : X_row 141 466 = some (466, (.ifCond .eq 7, 3), (0, 0, 0)) := by decide +kernel
theorem xr_141_469 : X_row 141 469 = some (469, (.iconst 1, 1), (0, 0, 0)) := by decide +kernel
theorem xr_141_470 : X_row 141 470 = some (470, (.goto 5, 3), (0, 0, 0)) := by decide +kernel
theorem xr_141_473 : X_row 141 473 = some (473, (.bipush 6, 2), (0, 0, 0)) := by decide +kernel
theorem xr_141_475 : X_row 141 475 = some (475, (.putfield 27, 3), (11, 9, 18)) := by decide +kernel
theorem xr_141_478 : X_row 141 478 = some (478, (.goto 73, 3), (0, 0, 0)) := by decide +kernel
theorem xr_141_481 : X_row 141 481 = some (481, (.aload_n 0, 1), (0, 0, 0)) := by decide +kernel
theorem xr_141_482 : X_row 141 482 = some (482, (.iload_n 1, 1), (0, 0, 0)) := by decide +kernel
theorem xr_141_483 : X_row 141 483 = some (483, (.bipush 59, 2), (0, 0, 0)) := by decide +kernel
theorem xr_141_485 : X_row 141 485 = some (485, (.if_icmp .eq 57, 3), (0, 0, 0)) := by decide +kernel
theorem xr_141_488 : X_row 141 488 = some (488, (.iload_n 1, 1), (0, 0, 0)) := by decide +kernel
theorem xr_141_489 : X_row 141 489 = some (489, (.bipush 58, 2), (0, 0, 0)) := by decide +kernel
theorem xr_141_491 : X_row 141 491 = some (491, (.if_icmp .eq 51, 3), (0, 0, 0)) := by decide +kernel
theorem xr_141_494 : X_row 141 494 = some (494, (.iload_n 1, 1), (0, 0, 0)) := by decide +kernel
theorem xr_141_495 : X_row 141 495 = some (495, (.bipush 61, 2), (0, 0, 0)) := by decide +kernel
theorem xr_141_497 : X_row 141 497 = some (497, (.if_icmp .eq 45, 3), (0, 0, 0)) := by decide +kernel
theorem xr_141_500 : X_row 141 500 = some (500, (.iload_n 1, 1), (0, 0, 0)) := by decide +kernel
theorem xr_141_501 : X_row 141 501 = some (501, (.bipush 64, 2), (0, 0, 0)) := by decide +kernel
theorem xr_141_503 : X_row 141 503 = some (503, (.if_icmp .eq 39, 3), (0, 0, 0)) := by decide +kernel
theorem xr_141_506 : X_row 141 506 = some (506, (.iload_n 1, 1), (0, 0, 0)) := by decide +kernel
theorem xr_141_507 : X_row 141 507 = some (507, (.bipush 43, 2), (0, 0, 0)) := by decide +kernel
theorem xr_141_509 : X_row 141 509 = some (509, (.if_icmp .eq 33, 3), (0, 0, 0)) := by decide +kernel
theorem xr_141_512 : X_row 141 512 = some (512, (.iload_n 1, 1), (0, 0, 0)) := by decide +kernel
theorem xr_141_513 : X_row 141 513 = some (513, (.bipush 45, 2), (0, 0, 0)) := by decide +kernel
theorem xr_141_515 : X_row 141 515 = some (515, (.if_icmp .eq 27, 3), (0, 0, 0)) := by decide +kernel
theorem xr_141_518 : X_row 141 518 = some (518, (.iload_n 1, 1), (0, 0, 0)) := by decide +kernel
theorem xr_141_519 : X_row 141 519 = some (519, (.bipush 42, 2), (0, 0, 0)) := by decide +kernel
theorem xr_141_521 : X_row 141 521 = some (521, (.if_icmp .eq 21, 3), (0, 0, 0)) := by decide +kernel
theorem xr_141_524 : X_row 141 524 = some (524, (.iload_n 1, 1), (0, 0, 0)) := by decide +kernel
theorem xr_141_525 : X_row 141 525 = some (525, (.bipush 47, 2), (0, 0, 0)) := by decide +kernel
theorem xr_141_527 : X_row 141 527 = some (527, (.if_icmp .eq 15, 3), (0, 0, 0)) := by decide +kernel
theorem xr_141_530 : X_row 141 530 = some (530, (.iload_n 1, 1), (0, 0, 0)) := by decide +kernel
theorem xr_141_531 : X_row 141 531 = some (531, (.bipush 37, 2), (0, 0, 0)) := by decide +kernel
theorem xr_141_533 : X_row 141 533 = some (533, (.if_icmp .eq 9, 3), (0, 0, 0)) := by decide +kernel
theorem xr_141_536 : X_row 141 536 = some (536, (.iload_n 1, 1), (0, 0, 0)) := by decide +kernel
theorem xr_141_537 : X_row 141 537 = some (537, (.bipush 60, 2), (0, 0, 0)) := by decide +kernel
theorem xr_141_539 : X_row 141 539 = some (539, (.if_icmp .ne 8, 3), (0, 0, 0)) := by decide +kernel
theorem xr_141_542 : X_row 141 542 = some (542, (.bipush 6, 2), (0, 0, 0)) := by decide +kernel
theorem xr_141_544 : X_row 141 544 = some (544, (.goto 4, 3), (0, 0, 0)) := by decide +kernel
theorem xr_141_547 : X_row 141 547 = some (547, (.iconst 1, 1), (0, 0, 0)) := by decide +kernel
theorem xr_141_548 : X_row 141 548 = some (548, (.putfield 27, 3), (11, 9, 18)) := by decide +kernel
theorem xr_141_551 : X_row 141 551 = some (551, (.return_, 1), (0, 0, 0)) := by decide +kernel
theorem xr_143_0 : X_row 143 0 = some (0, (.iconst 0, 1), (0, 0, 0)) := by decide +kernel
theorem xr_143_1 : X_row 143 1 = some (1, (.istore_n 1, 1), (0, 0, 0)) := by decide +kernel
theorem xr_143_2 : X_row 143 2 = some (2, (.aload_n 0, 1), (0, 0, 0)) := by decide +kernel
theorem xr_143_3 : X_row 143 3 = some (3, (.getfield 17, 3), (11, 8, 16)) := by decide +kernel
theorem xr_143_6 : X_row 143 6 = some (6, (.aload_n 0, 1), (0, 0, 0)) := by decide +kernel
theorem xr_143_7 : X_row 143 7 = some (7, (.getfield 1, 3), (11, 3, 6)) := by decide +kernel
theorem xr_143_10 : X_row 143 10 = some (10, (.if_icmp .ge 54, 3), (0, 0, 0)) := by decide +kernel
theorem xr_143_13 : X_row 143 13 = some (13, (.aload_n 0, 1), (0, 0, 0)) := by decide +kernel
theorem xr_143_14 : X_row 143 14 = some (14, (.aload_n 0, 1), (0, 0, 0)) := by decide +kernel
theorem xr_143_15 : X_row 143 15 = some (15, (.getfield 17, 3), (11, 8, 16)) := by decide +kernel
theorem xr_143_18 : X_row 143 18 = some (18, (.invokevirtual 23, 3), (136, 2, 0)) := by decide +kernel
theorem xr_143_21 : X_row 143 21 = some (21, (.invokestatic 69, 3), (144, 12, 0)) := by decide +kernel
theorem xr_143_24 : X_row 143 24 = some (24, (.ifCond .eq 40, 3), (0, 0, 0)) := by decide +kernel
theorem xr_143_27 : X_row 143 27 = some (27, (.iload_n 1, 1), (0, 0, 0)) := by decide +kernel
theorem xr_143_28 : X_row 143 28 = some (28, (.ifCond .ne 17, 3), (0, 0, 0)) := by decide +kernel
theorem xr_143_31 : X_row 143 31 = some (31, (.aload_n 0, 1), (0, 0, 0)) := by decide +kernel
theorem xr_143_32 : X_row 143 32 = some (32, (.aload_n 0, 1), (0, 0, 0)) := by decide +kernel
theorem xr_143_33 : X_row 143 33 = some (33, (.getfield 17, 3), (11, 8, 16)) := by decide +kernel
theorem xr_143_36 : X_row 143 36 = some (36, (.invokevirtual 23, 3), (136, 2, 0)) := by decide +kernel
theorem xr_143_39 : X_row 143 39 = some (39, (.invokestatic 34, 3), (138, 6, 0)) := by decide +kernel
theorem xr_143_42 : X_row 143 42 = some (42, (.ifCond .ne 7, 3), (0, 0, 0)) := by decide +kernel
theorem xr_143_45 : X_row 143 45 = some (45, (.iconst 1, 1), (0, 0, 0)) := by decide +kernel
theorem xr_143_46 : X_row 143 46 = some (46, (.goto 4, 3), (0, 0, 0)) := by decide +kernel
theorem xr_143_49 : X_row 143 49 = some (49, (.iconst 0, 1), (0, 0, 0)) := by decide +kernel
theorem xr_143_50 : X_row 143 50 = some (50, (.istore_n 1, 1), (0, 0, 0)) := by decide +kernel
theorem xr_143_51 : X_row 143 51 = some (51, (.aload_n 0, 1), (0, 0, 0)) := by decide +kernel
theorem xr_143_52 : X_row 143 52 = some (52, (.dup, 1), (0, 0, 0)) := by decide +kernel
theorem xr_143_53 : X_row 143 53 = some (53, (.getfield 17, 3), (11, 8, 16)) := by decide +kernel
theorem xr_143_56 : X_row 143 56 = some (56, (.iconst 1, 1), (0, 0, 0)) := by decide +kernel
theorem xr_143_57 : X_row 143 57 = some (57, (.iadd, 1), (0, 0, 0)) := by decide +kernel
theorem xr_143_58 : X_row 143 58 = some (58, (.putfield 17, 3), (11, 8, 16)) := by decide +kernel
theorem xr_143_61 : X_row 143 61 = some (61, (.goto (-59), 3), (0, 0, 0)) := by decide +kernel
theorem xr_143_64 : X_row 143 64 = some (64, (.aload_n 0, 1), (0, 0, 0)) := by decide +kernel
theorem xr_143_65 : X_row 143 65 = some (65, (.getfield 17, 3), (11, 8, 16)) := by decide +kernel
theorem xr_143_68 : X_row 143 68 = some (68, (.aload_n 0, 1), (0, 0, 0)) := by decide +kernel
theorem xr_143_69 : X_row 143 69 = some (69, (.getfield 20, 3), (11, 7, 14)) := by decide +kernel
theorem xr_143_72 : X_row 143 72 = some (72, (.isub, 1), (0, 0, 0)) := by decide +kernel
theorem xr_143_73 : X_row 143 73 = some (73, (.iconst 1, 1), (0, 0, 0)) := by decide +kernel
theorem xr_143_74 : X_row 143 74 = some (74, (.isub, 1), (0, 0, 0)) := by decide +kernel
theorem xr_143_75 : X_row 143 75 = some (75, (.istore_n 2, 1), (0, 0, 0)) := by decide +kernel
theorem xr_143_76 : X_row 143 76 = some (76, (.aload_n 0, 1), (0, 0, 0)) := by decide +kernel
theorem xr_143_77 : X_row 143 77 = some (77, (.aload_n 0, 1), (0, 0, 0)) := by decide +kernel
theorem xr_143_78 : X_row 143 78 = some (78, (.aload_n 0, 1), (0, 0, 0)) := by decide +kernel
theorem xr_143_79 : X_row 143 79 = some (79, (.getfield 17, 3), (11, 8, 16)) := by decide +kernel
theorem xr_143_82 : X_row 143 82 = some (82, (.invokevirtual 23, 3), (136, 2, 0)) := by decide +kernel
theorem xr_143_85 : X_row 143 85 = some (85, (.bipush 34, 2), (0, 0, 0)) := by decide +kernel
theorem xr_143_87 : X_row 143 87 = some (87, (.if_icmp .ne 21, 3), (0, 0, 0)) := by decide +kernel
theorem xr_143_90 : X_row 143 90 = some (90, (.iload_n 2, 1), (0, 0, 0)) := by decide +kernel
theorem xr_143_91 : X_row 143 91 = some (91, (.ifCond .le 17, 3), (0, 0, 0)) := by decide +kernel
theorem xr_143_94 : X_row 143 94 = some (94, (.iload_n 2, 1), (0, 0, 0)) := by decide +kernel
theorem xr_143_95 : X_row 143 95 = some (95, (.bipush 9, 2), (0, 0, 0)) := by decide +kernel
theorem xr_143_97 : X_row 143 97 = some (97, (.if_icmp .ge 11, 3), (0, 0, 0)) := by decide +kernel
theorem xr_143_100 : X_row 143 100 = some (100, (.iload_n 1, 1), (0, 0, 0)) := by decide +kernel
theorem xr_143_101 : X_row 143 101 = some (101, (.ifCond .eq 7, 3), (0, 0, 0)) := by decide +kernel
theorem xr_143_104 : X_row 143 104 = some (104, (.iconst 5, 1), (0, 0, 0)) := by decide +kernel
theorem xr_143_105 : X_row 143 105 = some (105, (.goto 4, 3), (0, 0, 0)) := by decide +kernel
theorem xr_143_108 : X_row 143 108 = some (108, (.iconst 1, 1), (0, 0, 0)) := by decide +kernel
theorem xr_143_109 : X_row 143 109 = some (109, (.putfield 27, 3), (11, 9, 18)) := by decide +kernel
theorem xr_143_112 : X_row 143 112 = some (112, (.aload_n 0, 1), (0, 0, 0)) := by decide +kernel
theorem xr_143_113 : X_row 143 113 = some (113, (.aload_n 0, 1), (0, 0, 0)) := by decide +kernel
theorem xr_143_114 : X_row 143 114 = some (114, (.getfield 20, 3), (11, 7, 14)) := by decide +kernel
theorem xr_143_117 : X_row 143 117 = some (117, (.iconst 1, 1), (0, 0, 0)) := by decide +kernel
theorem xr_143_118 : X_row 143 118 = some (118, (.iadd, 1), (0, 0, 0)) := by decide +kernel
theorem xr_143_119 : X_row 143 119 = some (119, (.aload_n 0, 1), (0, 0, 0)) := by decide +kernel
theorem xr_143_120 : X_row 143 120 = some (120, (.getfield 17, 3), (11, 8, 16)) := by decide +kernel
theorem xr_143_123 : X_row 143 123 = some (123, (.invokevirtual 37, 3), (142, 8, 0)) := by decide +kernel
theorem xr_143_126 : X_row 143 126 = some (126, (.aload_n 0, 1), (0, 0, 0)) := by decide +kernel
theorem xr_143_127 : X_row 143 127 = some (127, (.dup, 1), (0, 0, 0)) := by decide +kernel
theorem xr_143_128 : X_row 143 128 = some (128, (.getfield 17, 3), (11, 8, 16)) := by decide +kernel
theorem xr_143_131 : X_row 143 131 = some (131, (.iconst 1, 1), (0, 0, 0)) := by decide +kernel
theorem xr_143_132 : X_row 143 132 = some (132, (.iadd, 1), (0, 0, 0)) := by decide +kernel
theorem xr_143_133 : X_row 143 133 = some (133, (.putfield 17, 3), (11, 8, 16)) := by decide +kernel
theorem xr_143_136 : X_row 143 136 = some (136, (.return_, 1), (0, 0, 0)) := by decide +kernel
theorem xn_141 : X_nL 141 = 3 := by decide +kernel
theorem xf_141 : X_na 141 = 0 ∧ X_ci 141 = 11 ∧ X_rt 141 = none := by decide +kernel
theorem xn_143 : X_nL 143 = 3 := by decide +kernel
theorem xf_143 : X_na 143 = 0 ∧ X_ci 143 = 11 ∧ X_rt 143 = none := by decide +kernel
theorem r_nextPart (sc : X_Sc) (S : X_S) (o : Nat → Int) (nm : Int64) (tx : Int → Int) (tb : Int → Int) (len : Int) (p : Int) (hM : M_o S o nm) (hA532 : S.1 532 = .inl (.byte, 2000, .inl fun k : Nat => iI (tx (k : Int)))) (hlen : o 3 = len) (hl : 0 ≤ len ∧ len ≤ 2000) (htx : ∀ k, 0 ≤ k → k < len → tx k = tb k) (hp1 : o 7 = p) (hp2 : o 8 = p + 1) (hp3 : 0 ≤ p ∧ p < len) (hp4 : X_at tb len p = 34) : X_T sc 143 (0, [(0, .ref 530)], [], S) (fun v S' => ∃ (en1 : Int) (tk1 : Int) (nm1 : Int64) (r1 : Int) (ct1 : Int64) (e1 : Int), v = none ∧ X_TokP tb len p r1 ct1 e1 ∧ tk1 = X_rk r1 ∧ (¬ r1 = 1 → en1 = e1 ∧ nm1 = ct1) ∧ (p + 1 ≤ en1 ∧ en1 ≤ len + 1) ∧ M_o S' (X_ou (X_ou o 8 en1) 9 tk1) nm1 ∧ X_Fr (fun q => q = 530) S S') := by
  refine X_QI (fun Q hQ => ?_)
  refine T_p xr_143_0 xn_143 (pc' := 1) (ls' := [(0, .ref 530)]) (st' := [.int (iI 0)]) rfl ?_
  refine T_ie (y := iI (bI (¬ X_DA tb len (p + 1) (o 8)))) (by rw [bI_f (fun z => z (fun k g1 g2 => (show False by omega).elim))]) ?_
  refine T_p xr_143_1 xn_143 (pc' := 2) (ls' := [(1, .int (iI (bI (¬ X_DA tb len (p + 1) (o 8))))), (0, .ref 530)]) (st' := []) rfl ?_
  have L35 : ∀ (m37 : Nat) (S40 : X_S) (en : Int) (hM1 : S40.1 530 = .inr (11, [.ref 531, .int (iI (o 1)), .ref 532, .int (iI (o 3)), .int (iI (o 4)), .int (iI (o 5)), .int (iI (o 6)), .int (iI (o 7)), .int (iI en), .int (iI (o 9)), .int (iI (o 10)), .int (iI (o 11)), .long nm, .ref 533, .ref 534, .ref 535, .ref 536, .ref 537, .ref 538, .ref 539, .ref 540, .ref 541, .ref 542, .ref 543, .ref 544, .ref 545, .ref 546, .ref 547, .int (iI (o 28)), .int (iI (o 29)), .int (iI (o 30)), .int (iI (o 31)), .int (iI (o 32)), .int (iI (o 33)), .ref 548, .ref 549, .ref 550, .ref 551, .int (iI (o 38)), .ref 552, .ref 553, .ref 554, .ref 555, .ref 556, .ref 557, .ref 558, .ref 559, .ref 560, .ref 561, .int (iI (o 49)), .ref 562, .ref 563, .ref 564, .ref 565, .ref 566, .ref 567, .ref 568, .ref 569, .int (iI (o 58)), .ref 570, .ref 571, .ref 572, .ref 573, .ref 574, .ref 575, .ref 576, .ref 577, .ref 578, .int (iI (o 68)), .int (iI (o 69)), .int (iI (o 70)), .ref 579])) (hF39 : X_Fr (fun q => q = 530) S S40) (hen : p + 1 ≤ en ∧ en ≤ len) (hse : X_se X_isPB tb len en = X_se X_isPB tb len (p + 1)) (hm38 : len - en < m37), X_T sc 143 (2, [(1, .int (iI (bI (¬ X_DA tb len (p + 1) en)))), (0, .ref 530)], [], S40) Q := by
    intro m37
    induction m37 with
    | zero =>
      intro S40 en hM1 hF39 hen hse hm38
      exact (show False by omega).elim
    | succ m37 ih36 =>
      intro S40 en hM1 hF39 hen hse hm38
      refine T_p xr_143_2 xn_143 (pc' := 3) (ls' := [(1, .int (iI (bI (¬ X_DA tb len (p + 1) en)))), (0, .ref 530)]) (st' := [.ref 530]) rfl ?_
      refine T_get xr_143_3 hM1 rfl (v := .int (iI en)) rfl (pc' := 6) rfl ?_
      refine T_p xr_143_6 xn_143 (pc' := 7) (ls' := [(1, .int (iI (bI (¬ X_DA tb len (p + 1) en)))), (0, .ref 530)]) (st' := [.ref 530, .int (iI en)]) rfl ?_
      refine T_get xr_143_7 hM1 rfl (v := .int (iI (o 3))) rfl (pc' := 10) rfl ?_
      refine T_zicmp_ge xr_143_10 (t := 64) (pc' := 13) rfl rfl (fun c41 => ?_) (fun c41 => ?_)
      · skip
        have c41 : (o 3) ≤ en := c41
        have hm : X_se X_isPB tb len (p + 1) = en := hse.symm.trans (X_se_no (by first | (intro h; omega) | (intro h; exact absurd (X_sg_B.mpr h) (by assumption))))
        refine T_p xr_143_64 xn_143 (pc' := 65) (ls' := [(1, .int (iI (bI (¬ X_DA tb len (p + 1) en)))), (0, .ref 530)]) (st' := [.ref 530]) rfl ?_
        refine T_get xr_143_65 hM1 rfl (v := .int (iI en)) rfl (pc' := 68) rfl ?_
        refine T_p xr_143_68 xn_143 (pc' := 69) (ls' := [(1, .int (iI (bI (¬ X_DA tb len (p + 1) en)))), (0, .ref 530)]) (st' := [.ref 530, .int (iI en)]) rfl ?_
        refine T_get xr_143_69 hM1 rfl (v := .int (iI (o 7))) rfl (pc' := 72) rfl ?_
        refine T_zisub xr_143_72 (z := en - (o 7)) rfl (pc' := 73) rfl ?_
        refine T_p xr_143_73 xn_143 (pc' := 74) (ls' := [(1, .int (iI (bI (¬ X_DA tb len (p + 1) en)))), (0, .ref 530)]) (st' := [.int (iI 1), .int (iI (en - (o 7)))]) rfl ?_
        refine T_zisub xr_143_74 (z := (en - (o 7)) - 1) rfl (pc' := 75) rfl ?_
        refine T_p xr_143_75 xn_143 (pc' := 76) (ls' := [(2, .int (iI ((en - (o 7)) - 1))), (1, .int (iI (bI (¬ X_DA tb len (p + 1) en)))), (0, .ref 530)]) (st' := []) rfl ?_
        refine T_p xr_143_76 xn_143 (pc' := 77) (ls' := [(2, .int (iI ((en - (o 7)) - 1))), (1, .int (iI (bI (¬ X_DA tb len (p + 1) en)))), (0, .ref 530)]) (st' := [.ref 530]) rfl ?_
        refine T_p xr_143_77 xn_143 (pc' := 78) (ls' := [(2, .int (iI ((en - (o 7)) - 1))), (1, .int (iI (bI (¬ X_DA tb len (p + 1) en)))), (0, .ref 530)]) (st' := [.ref 530, .ref 530]) rfl ?_
        refine T_p xr_143_78 xn_143 (pc' := 79) (ls' := [(2, .int (iI ((en - (o 7)) - 1))), (1, .int (iI (bI (¬ X_DA tb len (p + 1) en)))), (0, .ref 530)]) (st' := [.ref 530, .ref 530, .ref 530]) rfl ?_
        refine T_get xr_143_79 hM1 rfl (v := .int (iI en)) rfl (pc' := 82) rfl ?_
        refine T_cv (S := S40) (q := 530) xr_143_82 xf_136.1 xf_136.2.1 xn_136 (as := [.int (iI en)]) (r := [.ref 530]) rfl hM1 (Nat.le_of_ble_eq_true rfl) (Nat.le_of_ble_eq_true rfl) (pc' := 85) rfl (ls' := [(0, .ref 530), (1, .int (iI en))]) rfl ?_
        have h42 := (hF39.1 532 (by first | decide | omega)).trans (hA532)
        refine T_mono (r_sign sc S40 (X_ou o 8 en) nm tx tb len en hM1 h42 (show (o 3) = len from by first | assumption | omega) hl htx (by omega)) (fun v43 S44 h45 => ?_)
        rcases h45 with ⟨hv46, hf47⟩
        rw [hv46]
        rw [hf47]
        have hg48 := X_sg_r (tb := tb) (len := len) (k := en) (by omega)
        have hg49 := X_sg_c (tb := tb) (len := len) (k := en)
        show X_T sc 143 (85, [(2, .int (iI ((en - (o 7)) - 1))), (1, .int (iI (bI (¬ X_DA tb len (p + 1) en)))), (0, .ref 530)], [.int (iI (X_sg tb len en)), .ref 530], S40) _
        refine T_p xr_143_85 xn_143 (pc' := 87) (ls' := [(2, .int (iI ((en - (o 7)) - 1))), (1, .int (iI (bI (¬ X_DA tb len (p + 1) en)))), (0, .ref 530)]) (st' := [.int (iI 34), .int (iI (X_sg tb len en)), .ref 530]) rfl ?_
        refine T_zicmp_ne xr_143_87 (t := 108) (pc' := 90) rfl rfl (fun c50 => ?_) (fun c50 => ?_)
        · skip
          have c50 : ¬ (X_sg tb len en) = 34 := c50
          refine T_p xr_143_108 xn_143 (pc' := 109) (ls' := [(2, .int (iI ((en - (o 7)) - 1))), (1, .int (iI (bI (¬ X_DA tb len (p + 1) en)))), (0, .ref 530)]) (st' := [.int (iI 1), .ref 530]) rfl ?_
          refine T_put xr_143_109 hM1 rfl (Nat.le_of_ble_eq_true rfl) rfl (fs' := [.ref 531, .int (iI (o 1)), .ref 532, .int (iI (o 3)), .int (iI (o 4)), .int (iI (o 5)), .int (iI (o 6)), .int (iI (o 7)), .int (iI en), .int (iI 1), .int (iI (o 10)), .int (iI (o 11)), .long nm, .ref 533, .ref 534, .ref 535, .ref 536, .ref 537, .ref 538, .ref 539, .ref 540, .ref 541, .ref 542, .ref 543, .ref 544, .ref 545, .ref 546, .ref 547, .int (iI (o 28)), .int (iI (o 29)), .int (iI (o 30)), .int (iI (o 31)), .int (iI (o 32)), .int (iI (o 33)), .ref 548, .ref 549, .ref 550, .ref 551, .int (iI (o 38)), .ref 552, .ref 553, .ref 554, .ref 555, .ref 556, .ref 557, .ref 558, .ref 559, .ref 560, .ref 561, .int (iI (o 49)), .ref 562, .ref 563, .ref 564, .ref 565, .ref 566, .ref 567, .ref 568, .ref 569, .int (iI (o 58)), .ref 570, .ref 571, .ref 572, .ref 573, .ref 574, .ref 575, .ref 576, .ref 577, .ref 578, .int (iI (o 68)), .int (iI (o 69)), .int (iI (o 70)), .ref 579]) rfl (pc' := 112) rfl (fun S51 h52 n53 e54 => ?_)
          refine T_p xr_143_112 xn_143 (pc' := 113) (ls' := [(2, .int (iI ((en - (o 7)) - 1))), (1, .int (iI (bI (¬ X_DA tb len (p + 1) en)))), (0, .ref 530)]) (st' := [.ref 530]) rfl ?_
          refine T_p xr_143_113 xn_143 (pc' := 114) (ls' := [(2, .int (iI ((en - (o 7)) - 1))), (1, .int (iI (bI (¬ X_DA tb len (p + 1) en)))), (0, .ref 530)]) (st' := [.ref 530, .ref 530]) rfl ?_
          refine T_get xr_143_114 h52 rfl (v := .int (iI (o 7))) rfl (pc' := 117) rfl ?_
          refine T_p xr_143_117 xn_143 (pc' := 118) (ls' := [(2, .int (iI ((en - (o 7)) - 1))), (1, .int (iI (bI (¬ X_DA tb len (p + 1) en)))), (0, .ref 530)]) (st' := [.int (iI 1), .int (iI (o 7)), .ref 530]) rfl ?_
          refine T_ziadd xr_143_118 (z := (o 7) + 1) rfl (pc' := 119) rfl ?_
          refine T_p xr_143_119 xn_143 (pc' := 120) (ls' := [(2, .int (iI ((en - (o 7)) - 1))), (1, .int (iI (bI (¬ X_DA tb len (p + 1) en)))), (0, .ref 530)]) (st' := [.ref 530, .int (iI ((o 7) + 1)), .ref 530]) rfl ?_
          refine T_get xr_143_120 h52 rfl (v := .int (iI en)) rfl (pc' := 123) rfl ?_
          refine T_cv (S := S51) (q := 530) xr_143_123 xf_142.1 xf_142.2.1 xn_142 (as := [.int (iI ((o 7) + 1)), .int (iI en)]) (r := []) rfl h52 (Nat.le_of_ble_eq_true rfl) (Nat.le_of_ble_eq_true rfl) (pc' := 126) rfl (ls' := [(0, .ref 530), (1, .int (iI ((o 7) + 1))), (2, .int (iI en))]) rfl ?_
          have h55 := (n53 532 (by decide)).trans (h42)
          refine T_mono (r_pack sc S51 (X_ou (X_ou o 8 en) 9 1) nm tx tb len ((o 7) + 1) en h52 h55 (show (o 3) = len from by first | assumption | omega) hl htx (by omega) (by omega)) (fun v56 S57 h58 => ?_)
          rcases h58 with ⟨nm59, hv60, hp61, hM62, hf63⟩
          rw [hv60]
          have h64 : S57.1 530 = .inr (11, [.ref 531, .int (iI (o 1)), .ref 532, .int (iI (o 3)), .int (iI (o 4)), .int (iI (o 5)), .int (iI (o 6)), .int (iI (o 7)), .int (iI en), .int (iI 1), .int (iI (o 10)), .int (iI (o 11)), .long nm59, .ref 533, .ref 534, .ref 535, .ref 536, .ref 537, .ref 538, .ref 539, .ref 540, .ref 541, .ref 542, .ref 543, .ref 544, .ref 545, .ref 546, .ref 547, .int (iI (o 28)), .int (iI (o 29)), .int (iI (o 30)), .int (iI (o 31)), .int (iI (o 32)), .int (iI (o 33)), .ref 548, .ref 549, .ref 550, .ref 551, .int (iI (o 38)), .ref 552, .ref 553, .ref 554, .ref 555, .ref 556, .ref 557, .ref 558, .ref 559, .ref 560, .ref 561, .int (iI (o 49)), .ref 562, .ref 563, .ref 564, .ref 565, .ref 566, .ref 567, .ref 568, .ref 569, .int (iI (o 58)), .ref 570, .ref 571, .ref 572, .ref 573, .ref 574, .ref 575, .ref 576, .ref 577, .ref 578, .int (iI (o 68)), .int (iI (o 69)), .int (iI (o 70)), .ref 579]) := hM62
          show X_T sc 143 (126, [(2, .int (iI ((en - (o 7)) - 1))), (1, .int (iI (bI (¬ X_DA tb len (p + 1) en)))), (0, .ref 530)], [], S57) _
          refine T_p xr_143_126 xn_143 (pc' := 127) (ls' := [(2, .int (iI ((en - (o 7)) - 1))), (1, .int (iI (bI (¬ X_DA tb len (p + 1) en)))), (0, .ref 530)]) (st' := [.ref 530]) rfl ?_
          refine T_p xr_143_127 xn_143 (pc' := 128) (ls' := [(2, .int (iI ((en - (o 7)) - 1))), (1, .int (iI (bI (¬ X_DA tb len (p + 1) en)))), (0, .ref 530)]) (st' := [.ref 530, .ref 530]) rfl ?_
          refine T_get xr_143_128 h64 rfl (v := .int (iI en)) rfl (pc' := 131) rfl ?_
          refine T_p xr_143_131 xn_143 (pc' := 132) (ls' := [(2, .int (iI ((en - (o 7)) - 1))), (1, .int (iI (bI (¬ X_DA tb len (p + 1) en)))), (0, .ref 530)]) (st' := [.int (iI 1), .int (iI en), .ref 530]) rfl ?_
          refine T_ziadd xr_143_132 (z := en + 1) rfl (pc' := 133) rfl ?_
          refine T_put xr_143_133 h64 rfl (Nat.le_of_ble_eq_true rfl) rfl (fs' := [.ref 531, .int (iI (o 1)), .ref 532, .int (iI (o 3)), .int (iI (o 4)), .int (iI (o 5)), .int (iI (o 6)), .int (iI (o 7)), .int (iI (en + 1)), .int (iI 1), .int (iI (o 10)), .int (iI (o 11)), .long nm59, .ref 533, .ref 534, .ref 535, .ref 536, .ref 537, .ref 538, .ref 539, .ref 540, .ref 541, .ref 542, .ref 543, .ref 544, .ref 545, .ref 546, .ref 547, .int (iI (o 28)), .int (iI (o 29)), .int (iI (o 30)), .int (iI (o 31)), .int (iI (o 32)), .int (iI (o 33)), .ref 548, .ref 549, .ref 550, .ref 551, .int (iI (o 38)), .ref 552, .ref 553, .ref 554, .ref 555, .ref 556, .ref 557, .ref 558, .ref 559, .ref 560, .ref 561, .int (iI (o 49)), .ref 562, .ref 563, .ref 564, .ref 565, .ref 566, .ref 567, .ref 568, .ref 569, .int (iI (o 58)), .ref 570, .ref 571, .ref 572, .ref 573, .ref 574, .ref 575, .ref 576, .ref 577, .ref 578, .int (iI (o 68)), .int (iI (o 69)), .int (iI (o 70)), .ref 579]) rfl (pc' := 136) rfl (fun S65 h66 n67 e68 => ?_)
          refine T_vret xr_143_136 xf_143.2.2 ?_
          refine hQ _ _ ?_
          exact ⟨en + 1, 1, nm59, 1, 0, en, rfl, ⟨hp4, en, hm.symm, Or.inl ⟨by first | exact Or.inl (by omega) | exact Or.inr (Or.inl (by omega)) | exact Or.inr (Or.inr (fun k g1 g2 => absurd g2 (by omega))) | exact Or.inr (Or.inr (Classical.not_not.mp (by assumption))), rfl, rfl, rfl⟩⟩, rfl, fun h => absurd rfl h, by first | assumption | omega, h66, ((((X_Fr.rf).tr (X_Fr.mono ⟨hF39.1, hF39.2⟩ (fun q hq => by first | exact hq | (rcases hq with rfl <;> decide) | (rcases hq with rfl | rfl <;> decide) | (rcases hq with rfl | rfl | rfl <;> decide) | (rcases hq with rfl | rfl | rfl | rfl <;> decide) | (rcases hq with rfl | rfl | rfl | rfl | rfl <;> decide) | (rcases hq with rfl | rfl | rfl | rfl | rfl | rfl <;> decide) | (rcases hq with rfl | rfl | rfl | rfl | rfl | rfl | rfl <;> decide) | omega))).tr (X_Fr.of n53 e54 (by first | decide | exact ⟨Nat.le_add_right _ _, Nat.add_le_add_left (by decide) _⟩ | omega))).tr (X_Fr.mono ⟨hf63.1, hf63.2⟩ (fun q hq => by first | exact hq | (rcases hq with rfl <;> decide) | (rcases hq with rfl | rfl <;> decide) | (rcases hq with rfl | rfl | rfl <;> decide) | (rcases hq with rfl | rfl | rfl | rfl <;> decide) | (rcases hq with rfl | rfl | rfl | rfl | rfl <;> decide) | (rcases hq with rfl | rfl | rfl | rfl | rfl | rfl <;> decide) | (rcases hq with rfl | rfl | rfl | rfl | rfl | rfl | rfl <;> decide) | omega))).tr (X_Fr.of n67 e68 (by first | decide | exact ⟨Nat.le_add_right _ _, Nat.add_le_add_left (by decide) _⟩ | omega))⟩
        · skip
          have c50 : ¬ (¬ (X_sg tb len en) = 34) := c50
          refine T_p xr_143_90 xn_143 (pc' := 91) (ls' := [(2, .int (iI ((en - (o 7)) - 1))), (1, .int (iI (bI (¬ X_DA tb len (p + 1) en)))), (0, .ref 530)]) (st' := [.int (iI ((en - (o 7)) - 1)), .ref 530]) rfl ?_
          refine T_zif_le xr_143_91 (t := 108) (pc' := 94) rfl rfl (fun c69 => ?_) (fun c69 => ?_)
          · skip
            have c69 : ((en - (o 7)) - 1) ≤ 0 := c69
            refine T_p xr_143_108 xn_143 (pc' := 109) (ls' := [(2, .int (iI ((en - (o 7)) - 1))), (1, .int (iI (bI (¬ X_DA tb len (p + 1) en)))), (0, .ref 530)]) (st' := [.int (iI 1), .ref 530]) rfl ?_
            refine T_put xr_143_109 hM1 rfl (Nat.le_of_ble_eq_true rfl) rfl (fs' := [.ref 531, .int (iI (o 1)), .ref 532, .int (iI (o 3)), .int (iI (o 4)), .int (iI (o 5)), .int (iI (o 6)), .int (iI (o 7)), .int (iI en), .int (iI 1), .int (iI (o 10)), .int (iI (o 11)), .long nm, .ref 533, .ref 534, .ref 535, .ref 536, .ref 537, .ref 538, .ref 539, .ref 540, .ref 541, .ref 542, .ref 543, .ref 544, .ref 545, .ref 546, .ref 547, .int (iI (o 28)), .int (iI (o 29)), .int (iI (o 30)), .int (iI (o 31)), .int (iI (o 32)), .int (iI (o 33)), .ref 548, .ref 549, .ref 550, .ref 551, .int (iI (o 38)), .ref 552, .ref 553, .ref 554, .ref 555, .ref 556, .ref 557, .ref 558, .ref 559, .ref 560, .ref 561, .int (iI (o 49)), .ref 562, .ref 563, .ref 564, .ref 565, .ref 566, .ref 567, .ref 568, .ref 569, .int (iI (o 58)), .ref 570, .ref 571, .ref 572, .ref 573, .ref 574, .ref 575, .ref 576, .ref 577, .ref 578, .int (iI (o 68)), .int (iI (o 69)), .int (iI (o 70)), .ref 579]) rfl (pc' := 112) rfl (fun S70 h71 n72 e73 => ?_)
            refine T_p xr_143_112 xn_143 (pc' := 113) (ls' := [(2, .int (iI ((en - (o 7)) - 1))), (1, .int (iI (bI (¬ X_DA tb len (p + 1) en)))), (0, .ref 530)]) (st' := [.ref 530]) rfl ?_
            refine T_p xr_143_113 xn_143 (pc' := 114) (ls' := [(2, .int (iI ((en - (o 7)) - 1))), (1, .int (iI (bI (¬ X_DA tb len (p + 1) en)))), (0, .ref 530)]) (st' := [.ref 530, .ref 530]) rfl ?_
            refine T_get xr_143_114 h71 rfl (v := .int (iI (o 7))) rfl (pc' := 117) rfl ?_
            refine T_p xr_143_117 xn_143 (pc' := 118) (ls' := [(2, .int (iI ((en - (o 7)) - 1))), (1, .int (iI (bI (¬ X_DA tb len (p + 1) en)))), (0, .ref 530)]) (st' := [.int (iI 1), .int (iI (o 7)), .ref 530]) rfl ?_
            refine T_ziadd xr_143_118 (z := (o 7) + 1) rfl (pc' := 119) rfl ?_
            refine T_p xr_143_119 xn_143 (pc' := 120) (ls' := [(2, .int (iI ((en - (o 7)) - 1))), (1, .int (iI (bI (¬ X_DA tb len (p + 1) en)))), (0, .ref 530)]) (st' := [.ref 530, .int (iI ((o 7) + 1)), .ref 530]) rfl ?_
            refine T_get xr_143_120 h71 rfl (v := .int (iI en)) rfl (pc' := 123) rfl ?_
            refine T_cv (S := S70) (q := 530) xr_143_123 xf_142.1 xf_142.2.1 xn_142 (as := [.int (iI ((o 7) + 1)), .int (iI en)]) (r := []) rfl h71 (Nat.le_of_ble_eq_true rfl) (Nat.le_of_ble_eq_true rfl) (pc' := 126) rfl (ls' := [(0, .ref 530), (1, .int (iI ((o 7) + 1))), (2, .int (iI en))]) rfl ?_
            have h74 := (n72 532 (by decide)).trans (h42)
            refine T_mono (r_pack sc S70 (X_ou (X_ou o 8 en) 9 1) nm tx tb len ((o 7) + 1) en h71 h74 (show (o 3) = len from by first | assumption | omega) hl htx (by omega) (by omega)) (fun v75 S76 h77 => ?_)
            rcases h77 with ⟨nm78, hv79, hp80, hM81, hf82⟩
            rw [hv79]
            have h83 : S76.1 530 = .inr (11, [.ref 531, .int (iI (o 1)), .ref 532, .int (iI (o 3)), .int (iI (o 4)), .int (iI (o 5)), .int (iI (o 6)), .int (iI (o 7)), .int (iI en), .int (iI 1), .int (iI (o 10)), .int (iI (o 11)), .long nm78, .ref 533, .ref 534, .ref 535, .ref 536, .ref 537, .ref 538, .ref 539, .ref 540, .ref 541, .ref 542, .ref 543, .ref 544, .ref 545, .ref 546, .ref 547, .int (iI (o 28)), .int (iI (o 29)), .int (iI (o 30)), .int (iI (o 31)), .int (iI (o 32)), .int (iI (o 33)), .ref 548, .ref 549, .ref 550, .ref 551, .int (iI (o 38)), .ref 552, .ref 553, .ref 554, .ref 555, .ref 556, .ref 557, .ref 558, .ref 559, .ref 560, .ref 561, .int (iI (o 49)), .ref 562, .ref 563, .ref 564, .ref 565, .ref 566, .ref 567, .ref 568, .ref 569, .int (iI (o 58)), .ref 570, .ref 571, .ref 572, .ref 573, .ref 574, .ref 575, .ref 576, .ref 577, .ref 578, .int (iI (o 68)), .int (iI (o 69)), .int (iI (o 70)), .ref 579]) := hM81
            show X_T sc 143 (126, [(2, .int (iI ((en - (o 7)) - 1))), (1, .int (iI (bI (¬ X_DA tb len (p + 1) en)))), (0, .ref 530)], [], S76) _
            refine T_p xr_143_126 xn_143 (pc' := 127) (ls' := [(2, .int (iI ((en - (o 7)) - 1))), (1, .int (iI (bI (¬ X_DA tb len (p + 1) en)))), (0, .ref 530)]) (st' := [.ref 530]) rfl ?_
            refine T_p xr_143_127 xn_143 (pc' := 128) (ls' := [(2, .int (iI ((en - (o 7)) - 1))), (1, .int (iI (bI (¬ X_DA tb len (p + 1) en)))), (0, .ref 530)]) (st' := [.ref 530, .ref 530]) rfl ?_
            refine T_get xr_143_128 h83 rfl (v := .int (iI en)) rfl (pc' := 131) rfl ?_
            refine T_p xr_143_131 xn_143 (pc' := 132) (ls' := [(2, .int (iI ((en - (o 7)) - 1))), (1, .int (iI (bI (¬ X_DA tb len (p + 1) en)))), (0, .ref 530)]) (st' := [.int (iI 1), .int (iI en), .ref 530]) rfl ?_
            refine T_ziadd xr_143_132 (z := en + 1) rfl (pc' := 133) rfl ?_
            refine T_put xr_143_133 h83 rfl (Nat.le_of_ble_eq_true rfl) rfl (fs' := [.ref 531, .int (iI (o 1)), .ref 532, .int (iI (o 3)), .int (iI (o 4)), .int (iI (o 5)), .int (iI (o 6)), .int (iI (o 7)), .int (iI (en + 1)), .int (iI 1), .int (iI (o 10)), .int (iI (o 11)), .long nm78, .ref 533, .ref 534, .ref 535, .ref 536, .ref 537, .ref 538, .ref 539, .ref 540, .ref 541, .ref 542, .ref 543, .ref 544, .ref 545, .ref 546, .ref 547, .int (iI (o 28)), .int (iI (o 29)), .int (iI (o 30)), .int (iI (o 31)), .int (iI (o 32)), .int (iI (o 33)), .ref 548, .ref 549, .ref 550, .ref 551, .int (iI (o 38)), .ref 552, .ref 553, .ref 554, .ref 555, .ref 556, .ref 557, .ref 558, .ref 559, .ref 560, .ref 561, .int (iI (o 49)), .ref 562, .ref 563, .ref 564, .ref 565, .ref 566, .ref 567, .ref 568, .ref 569, .int (iI (o 58)), .ref 570, .ref 571, .ref 572, .ref 573, .ref 574, .ref 575, .ref 576, .ref 577, .ref 578, .int (iI (o 68)), .int (iI (o 69)), .int (iI (o 70)), .ref 579]) rfl (pc' := 136) rfl (fun S84 h85 n86 e87 => ?_)
            refine T_vret xr_143_136 xf_143.2.2 ?_
            refine hQ _ _ ?_
            exact ⟨en + 1, 1, nm78, 1, 0, en, rfl, ⟨hp4, en, hm.symm, Or.inl ⟨by first | exact Or.inl (by omega) | exact Or.inr (Or.inl (by omega)) | exact Or.inr (Or.inr (fun k g1 g2 => absurd g2 (by omega))) | exact Or.inr (Or.inr (Classical.not_not.mp (by assumption))), rfl, rfl, rfl⟩⟩, rfl, fun h => absurd rfl h, by first | assumption | omega, h85, ((((X_Fr.rf).tr (X_Fr.mono ⟨hF39.1, hF39.2⟩ (fun q hq => by first | exact hq | (rcases hq with rfl <;> decide) | (rcases hq with rfl | rfl <;> decide) | (rcases hq with rfl | rfl | rfl <;> decide) | (rcases hq with rfl | rfl | rfl | rfl <;> decide) | (rcases hq with rfl | rfl | rfl | rfl | rfl <;> decide) | (rcases hq with rfl | rfl | rfl | rfl | rfl | rfl <;> decide) | (rcases hq with rfl | rfl | rfl | rfl | rfl | rfl | rfl <;> decide) | omega))).tr (X_Fr.of n72 e73 (by first | decide | exact ⟨Nat.le_add_right _ _, Nat.add_le_add_left (by decide) _⟩ | omega))).tr (X_Fr.mono ⟨hf82.1, hf82.2⟩ (fun q hq => by first | exact hq | (rcases hq with rfl <;> decide) | (rcases hq with rfl | rfl <;> decide) | (rcases hq with rfl | rfl | rfl <;> decide) | (rcases hq with rfl | rfl | rfl | rfl <;> decide) | (rcases hq with rfl | rfl | rfl | rfl | rfl <;> decide) | (rcases hq with rfl | rfl | rfl | rfl | rfl | rfl <;> decide) | (rcases hq with rfl | rfl | rfl | rfl | rfl | rfl | rfl <;> decide) | omega))).tr (X_Fr.of n86 e87 (by first | decide | exact ⟨Nat.le_add_right _ _, Nat.add_le_add_left (by decide) _⟩ | omega))⟩
          · skip
            have c69 : ¬ (((en - (o 7)) - 1) ≤ 0) := c69
            refine T_p xr_143_94 xn_143 (pc' := 95) (ls' := [(2, .int (iI ((en - (o 7)) - 1))), (1, .int (iI (bI (¬ X_DA tb len (p + 1) en)))), (0, .ref 530)]) (st' := [.int (iI ((en - (o 7)) - 1)), .ref 530]) rfl ?_
            refine T_p xr_143_95 xn_143 (pc' := 97) (ls' := [(2, .int (iI ((en - (o 7)) - 1))), (1, .int (iI (bI (¬ X_DA tb len (p + 1) en)))), (0, .ref 530)]) (st' := [.int (iI 9), .int (iI ((en - (o 7)) - 1)), .ref 530]) rfl ?_
            refine T_zicmp_ge xr_143_97 (t := 108) (pc' := 100) rfl rfl (fun c88 => ?_) (fun c88 => ?_)
            · skip
              have c88 : 9 ≤ ((en - (o 7)) - 1) := c88
              refine T_p xr_143_108 xn_143 (pc' := 109) (ls' := [(2, .int (iI ((en - (o 7)) - 1))), (1, .int (iI (bI (¬ X_DA tb len (p + 1) en)))), (0, .ref 530)]) (st' := [.int (iI 1), .ref 530]) rfl ?_
              refine T_put xr_143_109 hM1 rfl (Nat.le_of_ble_eq_true rfl) rfl (fs' := [.ref 531, .int (iI (o 1)), .ref 532, .int (iI (o 3)), .int (iI (o 4)), .int (iI (o 5)), .int (iI (o 6)), .int (iI (o 7)), .int (iI en), .int (iI 1), .int (iI (o 10)), .int (iI (o 11)), .long nm, .ref 533, .ref 534, .ref 535, .ref 536, .ref 537, .ref 538, .ref 539, .ref 540, .ref 541, .ref 542, .ref 543, .ref 544, .ref 545, .ref 546, .ref 547, .int (iI (o 28)), .int (iI (o 29)), .int (iI (o 30)), .int (iI (o 31)), .int (iI (o 32)), .int (iI (o 33)), .ref 548, .ref 549, .ref 550, .ref 551, .int (iI (o 38)), .ref 552, .ref 553, .ref 554, .ref 555, .ref 556, .ref 557, .ref 558, .ref 559, .ref 560, .ref 561, .int (iI (o 49)), .ref 562, .ref 563, .ref 564, .ref 565, .ref 566, .ref 567, .ref 568, .ref 569, .int (iI (o 58)), .ref 570, .ref 571, .ref 572, .ref 573, .ref 574, .ref 575, .ref 576, .ref 577, .ref 578, .int (iI (o 68)), .int (iI (o 69)), .int (iI (o 70)), .ref 579]) rfl (pc' := 112) rfl (fun S89 h90 n91 e92 => ?_)
              refine T_p xr_143_112 xn_143 (pc' := 113) (ls' := [(2, .int (iI ((en - (o 7)) - 1))), (1, .int (iI (bI (¬ X_DA tb len (p + 1) en)))), (0, .ref 530)]) (st' := [.ref 530]) rfl ?_
              refine T_p xr_143_113 xn_143 (pc' := 114) (ls' := [(2, .int (iI ((en - (o 7)) - 1))), (1, .int (iI (bI (¬ X_DA tb len (p + 1) en)))), (0, .ref 530)]) (st' := [.ref 530, .ref 530]) rfl ?_
              refine T_get xr_143_114 h90 rfl (v := .int (iI (o 7))) rfl (pc' := 117) rfl ?_
              refine T_p xr_143_117 xn_143 (pc' := 118) (ls' := [(2, .int (iI ((en - (o 7)) - 1))), (1, .int (iI (bI (¬ X_DA tb len (p + 1) en)))), (0, .ref 530)]) (st' := [.int (iI 1), .int (iI (o 7)), .ref 530]) rfl ?_
              refine T_ziadd xr_143_118 (z := (o 7) + 1) rfl (pc' := 119) rfl ?_
              refine T_p xr_143_119 xn_143 (pc' := 120) (ls' := [(2, .int (iI ((en - (o 7)) - 1))), (1, .int (iI (bI (¬ X_DA tb len (p + 1) en)))), (0, .ref 530)]) (st' := [.ref 530, .int (iI ((o 7) + 1)), .ref 530]) rfl ?_
              refine T_get xr_143_120 h90 rfl (v := .int (iI en)) rfl (pc' := 123) rfl ?_
              refine T_cv (S := S89) (q := 530) xr_143_123 xf_142.1 xf_142.2.1 xn_142 (as := [.int (iI ((o 7) + 1)), .int (iI en)]) (r := []) rfl h90 (Nat.le_of_ble_eq_true rfl) (Nat.le_of_ble_eq_true rfl) (pc' := 126) rfl (ls' := [(0, .ref 530), (1, .int (iI ((o 7) + 1))), (2, .int (iI en))]) rfl ?_
              have h93 := (n91 532 (by decide)).trans (h42)
              refine T_mono (r_pack sc S89 (X_ou (X_ou o 8 en) 9 1) nm tx tb len ((o 7) + 1) en h90 h93 (show (o 3) = len from by first | assumption | omega) hl htx (by omega) (by omega)) (fun v94 S95 h96 => ?_)
              rcases h96 with ⟨nm97, hv98, hp99, hM100, hf101⟩
              rw [hv98]
              have h102 : S95.1 530 = .inr (11, [.ref 531, .int (iI (o 1)), .ref 532, .int (iI (o 3)), .int (iI (o 4)), .int (iI (o 5)), .int (iI (o 6)), .int (iI (o 7)), .int (iI en), .int (iI 1), .int (iI (o 10)), .int (iI (o 11)), .long nm97, .ref 533, .ref 534, .ref 535, .ref 536, .ref 537, .ref 538, .ref 539, .ref 540, .ref 541, .ref 542, .ref 543, .ref 544, .ref 545, .ref 546, .ref 547, .int (iI (o 28)), .int (iI (o 29)), .int (iI (o 30)), .int (iI (o 31)), .int (iI (o 32)), .int (iI (o 33)), .ref 548, .ref 549, .ref 550, .ref 551, .int (iI (o 38)), .ref 552, .ref 553, .ref 554, .ref 555, .ref 556, .ref 557, .ref 558, .ref 559, .ref 560, .ref 561, .int (iI (o 49)), .ref 562, .ref 563, .ref 564, .ref 565, .ref 566, .ref 567, .ref 568, .ref 569, .int (iI (o 58)), .ref 570, .ref 571, .ref 572, .ref 573, .ref 574, .ref 575, .ref 576, .ref 577, .ref 578, .int (iI (o 68)), .int (iI (o 69)), .int (iI (o 70)), .ref 579]) := hM100
              show X_T sc 143 (126, [(2, .int (iI ((en - (o 7)) - 1))), (1, .int (iI (bI (¬ X_DA tb len (p + 1) en)))), (0, .ref 530)], [], S95) _
              refine T_p xr_143_126 xn_143 (pc' := 127) (ls' := [(2, .int (iI ((en - (o 7)) - 1))), (1, .int (iI (bI (¬ X_DA tb len (p + 1) en)))), (0, .ref 530)]) (st' := [.ref 530]) rfl ?_
              refine T_p xr_143_127 xn_143 (pc' := 128) (ls' := [(2, .int (iI ((en - (o 7)) - 1))), (1, .int (iI (bI (¬ X_DA tb len (p + 1) en)))), (0, .ref 530)]) (st' := [.ref 530, .ref 530]) rfl ?_
              refine T_get xr_143_128 h102 rfl (v := .int (iI en)) rfl (pc' := 131) rfl ?_
              refine T_p xr_143_131 xn_143 (pc' := 132) (ls' := [(2, .int (iI ((en - (o 7)) - 1))), (1, .int (iI (bI (¬ X_DA tb len (p + 1) en)))), (0, .ref 530)]) (st' := [.int (iI 1), .int (iI en), .ref 530]) rfl ?_
              refine T_ziadd xr_143_132 (z := en + 1) rfl (pc' := 133) rfl ?_
              refine T_put xr_143_133 h102 rfl (Nat.le_of_ble_eq_true rfl) rfl (fs' := [.ref 531, .int (iI (o 1)), .ref 532, .int (iI (o 3)), .int (iI (o 4)), .int (iI (o 5)), .int (iI (o 6)), .int (iI (o 7)), .int (iI (en + 1)), .int (iI 1), .int (iI (o 10)), .int (iI (o 11)), .long nm97, .ref 533, .ref 534, .ref 535, .ref 536, .ref 537, .ref 538, .ref 539, .ref 540, .ref 541, .ref 542, .ref 543, .ref 544, .ref 545, .ref 546, .ref 547, .int (iI (o 28)), .int (iI (o 29)), .int (iI (o 30)), .int (iI (o 31)), .int (iI (o 32)), .int (iI (o 33)), .ref 548, .ref 549, .ref 550, .ref 551, .int (iI (o 38)), .ref 552, .ref 553, .ref 554, .ref 555, .ref 556, .ref 557, .ref 558, .ref 559, .ref 560, .ref 561, .int (iI (o 49)), .ref 562, .ref 563, .ref 564, .ref 565, .ref 566, .ref 567, .ref 568, .ref 569, .int (iI (o 58)), .ref 570, .ref 571, .ref 572, .ref 573, .ref 574, .ref 575, .ref 576, .ref 577, .ref 578, .int (iI (o 68)), .int (iI (o 69)), .int (iI (o 70)), .ref 579]) rfl (pc' := 136) rfl (fun S103 h104 n105 e106 => ?_)
              refine T_vret xr_143_136 xf_143.2.2 ?_
              refine hQ _ _ ?_
              exact ⟨en + 1, 1, nm97, 1, 0, en, rfl, ⟨hp4, en, hm.symm, Or.inl ⟨by first | exact Or.inl (by omega) | exact Or.inr (Or.inl (by omega)) | exact Or.inr (Or.inr (fun k g1 g2 => absurd g2 (by omega))) | exact Or.inr (Or.inr (Classical.not_not.mp (by assumption))), rfl, rfl, rfl⟩⟩, rfl, fun h => absurd rfl h, by first | assumption | omega, h104, ((((X_Fr.rf).tr (X_Fr.mono ⟨hF39.1, hF39.2⟩ (fun q hq => by first | exact hq | (rcases hq with rfl <;> decide) | (rcases hq with rfl | rfl <;> decide) | (rcases hq with rfl | rfl | rfl <;> decide) | (rcases hq with rfl | rfl | rfl | rfl <;> decide) | (rcases hq with rfl | rfl | rfl | rfl | rfl <;> decide) | (rcases hq with rfl | rfl | rfl | rfl | rfl | rfl <;> decide) | (rcases hq with rfl | rfl | rfl | rfl | rfl | rfl | rfl <;> decide) | omega))).tr (X_Fr.of n91 e92 (by first | decide | exact ⟨Nat.le_add_right _ _, Nat.add_le_add_left (by decide) _⟩ | omega))).tr (X_Fr.mono ⟨hf101.1, hf101.2⟩ (fun q hq => by first | exact hq | (rcases hq with rfl <;> decide) | (rcases hq with rfl | rfl <;> decide) | (rcases hq with rfl | rfl | rfl <;> decide) | (rcases hq with rfl | rfl | rfl | rfl <;> decide) | (rcases hq with rfl | rfl | rfl | rfl | rfl <;> decide) | (rcases hq with rfl | rfl | rfl | rfl | rfl | rfl <;> decide) | (rcases hq with rfl | rfl | rfl | rfl | rfl | rfl | rfl <;> decide) | omega))).tr (X_Fr.of n105 e106 (by first | decide | exact ⟨Nat.le_add_right _ _, Nat.add_le_add_left (by decide) _⟩ | omega))⟩
            · skip
              have c88 : ¬ (9 ≤ ((en - (o 7)) - 1)) := c88
              refine T_p xr_143_100 xn_143 (pc' := 101) (ls' := [(2, .int (iI ((en - (o 7)) - 1))), (1, .int (iI (bI (¬ X_DA tb len (p + 1) en)))), (0, .ref 530)]) (st' := [.int (iI (bI (¬ X_DA tb len (p + 1) en))), .ref 530]) rfl ?_
              refine T_bif_eq xr_143_101 (t := 108) (pc' := 104) rfl rfl (fun c107 => ?_) (fun c107 => ?_)
              · skip
                have c107 : ¬ (¬ X_DA tb len (p + 1) en) := c107
                refine T_p xr_143_108 xn_143 (pc' := 109) (ls' := [(2, .int (iI ((en - (o 7)) - 1))), (1, .int (iI (bI (¬ X_DA tb len (p + 1) en)))), (0, .ref 530)]) (st' := [.int (iI 1), .ref 530]) rfl ?_
                refine T_put xr_143_109 hM1 rfl (Nat.le_of_ble_eq_true rfl) rfl (fs' := [.ref 531, .int (iI (o 1)), .ref 532, .int (iI (o 3)), .int (iI (o 4)), .int (iI (o 5)), .int (iI (o 6)), .int (iI (o 7)), .int (iI en), .int (iI 1), .int (iI (o 10)), .int (iI (o 11)), .long nm, .ref 533, .ref 534, .ref 535, .ref 536, .ref 537, .ref 538, .ref 539, .ref 540, .ref 541, .ref 542, .ref 543, .ref 544, .ref 545, .ref 546, .ref 547, .int (iI (o 28)), .int (iI (o 29)), .int (iI (o 30)), .int (iI (o 31)), .int (iI (o 32)), .int (iI (o 33)), .ref 548, .ref 549, .ref 550, .ref 551, .int (iI (o 38)), .ref 552, .ref 553, .ref 554, .ref 555, .ref 556, .ref 557, .ref 558, .ref 559, .ref 560, .ref 561, .int (iI (o 49)), .ref 562, .ref 563, .ref 564, .ref 565, .ref 566, .ref 567, .ref 568, .ref 569, .int (iI (o 58)), .ref 570, .ref 571, .ref 572, .ref 573, .ref 574, .ref 575, .ref 576, .ref 577, .ref 578, .int (iI (o 68)), .int (iI (o 69)), .int (iI (o 70)), .ref 579]) rfl (pc' := 112) rfl (fun S108 h109 n110 e111 => ?_)
                refine T_p xr_143_112 xn_143 (pc' := 113) (ls' := [(2, .int (iI ((en - (o 7)) - 1))), (1, .int (iI (bI (¬ X_DA tb len (p + 1) en)))), (0, .ref 530)]) (st' := [.ref 530]) rfl ?_
                refine T_p xr_143_113 xn_143 (pc' := 114) (ls' := [(2, .int (iI ((en - (o 7)) - 1))), (1, .int (iI (bI (¬ X_DA tb len (p + 1) en)))), (0, .ref 530)]) (st' := [.ref 530, .ref 530]) rfl ?_
                refine T_get xr_143_114 h109 rfl (v := .int (iI (o 7))) rfl (pc' := 117) rfl ?_
                refine T_p xr_143_117 xn_143 (pc' := 118) (ls' := [(2, .int (iI ((en - (o 7)) - 1))), (1, .int (iI (bI (¬ X_DA tb len (p + 1) en)))), (0, .ref 530)]) (st' := [.int (iI 1), .int (iI (o 7)), .ref 530]) rfl ?_
                refine T_ziadd xr_143_118 (z := (o 7) + 1) rfl (pc' := 119) rfl ?_
                refine T_p xr_143_119 xn_143 (pc' := 120) (ls' := [(2, .int (iI ((en - (o 7)) - 1))), (1, .int (iI (bI (¬ X_DA tb len (p + 1) en)))), (0, .ref 530)]) (st' := [.ref 530, .int (iI ((o 7) + 1)), .ref 530]) rfl ?_
                refine T_get xr_143_120 h109 rfl (v := .int (iI en)) rfl (pc' := 123) rfl ?_
                refine T_cv (S := S108) (q := 530) xr_143_123 xf_142.1 xf_142.2.1 xn_142 (as := [.int (iI ((o 7) + 1)), .int (iI en)]) (r := []) rfl h109 (Nat.le_of_ble_eq_true rfl) (Nat.le_of_ble_eq_true rfl) (pc' := 126) rfl (ls' := [(0, .ref 530), (1, .int (iI ((o 7) + 1))), (2, .int (iI en))]) rfl ?_
                have h112 := (n110 532 (by decide)).trans (h42)
                refine T_mono (r_pack sc S108 (X_ou (X_ou o 8 en) 9 1) nm tx tb len ((o 7) + 1) en h109 h112 (show (o 3) = len from by first | assumption | omega) hl htx (by omega) (by omega)) (fun v113 S114 h115 => ?_)
                rcases h115 with ⟨nm116, hv117, hp118, hM119, hf120⟩
                rw [hv117]
                have h121 : S114.1 530 = .inr (11, [.ref 531, .int (iI (o 1)), .ref 532, .int (iI (o 3)), .int (iI (o 4)), .int (iI (o 5)), .int (iI (o 6)), .int (iI (o 7)), .int (iI en), .int (iI 1), .int (iI (o 10)), .int (iI (o 11)), .long nm116, .ref 533, .ref 534, .ref 535, .ref 536, .ref 537, .ref 538, .ref 539, .ref 540, .ref 541, .ref 542, .ref 543, .ref 544, .ref 545, .ref 546, .ref 547, .int (iI (o 28)), .int (iI (o 29)), .int (iI (o 30)), .int (iI (o 31)), .int (iI (o 32)), .int (iI (o 33)), .ref 548, .ref 549, .ref 550, .ref 551, .int (iI (o 38)), .ref 552, .ref 553, .ref 554, .ref 555, .ref 556, .ref 557, .ref 558, .ref 559, .ref 560, .ref 561, .int (iI (o 49)), .ref 562, .ref 563, .ref 564, .ref 565, .ref 566, .ref 567, .ref 568, .ref 569, .int (iI (o 58)), .ref 570, .ref 571, .ref 572, .ref 573, .ref 574, .ref 575, .ref 576, .ref 577, .ref 578, .int (iI (o 68)), .int (iI (o 69)), .int (iI (o 70)), .ref 579]) := hM119
                show X_T sc 143 (126, [(2, .int (iI ((en - (o 7)) - 1))), (1, .int (iI (bI (¬ X_DA tb len (p + 1) en)))), (0, .ref 530)], [], S114) _
                refine T_p xr_143_126 xn_143 (pc' := 127) (ls' := [(2, .int (iI ((en - (o 7)) - 1))), (1, .int (iI (bI (¬ X_DA tb len (p + 1) en)))), (0, .ref 530)]) (st' := [.ref 530]) rfl ?_
                refine T_p xr_143_127 xn_143 (pc' := 128) (ls' := [(2, .int (iI ((en - (o 7)) - 1))), (1, .int (iI (bI (¬ X_DA tb len (p + 1) en)))), (0, .ref 530)]) (st' := [.ref 530, .ref 530]) rfl ?_
                refine T_get xr_143_128 h121 rfl (v := .int (iI en)) rfl (pc' := 131) rfl ?_
                refine T_p xr_143_131 xn_143 (pc' := 132) (ls' := [(2, .int (iI ((en - (o 7)) - 1))), (1, .int (iI (bI (¬ X_DA tb len (p + 1) en)))), (0, .ref 530)]) (st' := [.int (iI 1), .int (iI en), .ref 530]) rfl ?_
                refine T_ziadd xr_143_132 (z := en + 1) rfl (pc' := 133) rfl ?_
                refine T_put xr_143_133 h121 rfl (Nat.le_of_ble_eq_true rfl) rfl (fs' := [.ref 531, .int (iI (o 1)), .ref 532, .int (iI (o 3)), .int (iI (o 4)), .int (iI (o 5)), .int (iI (o 6)), .int (iI (o 7)), .int (iI (en + 1)), .int (iI 1), .int (iI (o 10)), .int (iI (o 11)), .long nm116, .ref 533, .ref 534, .ref 535, .ref 536, .ref 537, .ref 538, .ref 539, .ref 540, .ref 541, .ref 542, .ref 543, .ref 544, .ref 545, .ref 546, .ref 547, .int (iI (o 28)), .int (iI (o 29)), .int (iI (o 30)), .int (iI (o 31)), .int (iI (o 32)), .int (iI (o 33)), .ref 548, .ref 549, .ref 550, .ref 551, .int (iI (o 38)), .ref 552, .ref 553, .ref 554, .ref 555, .ref 556, .ref 557, .ref 558, .ref 559, .ref 560, .ref 561, .int (iI (o 49)), .ref 562, .ref 563, .ref 564, .ref 565, .ref 566, .ref 567, .ref 568, .ref 569, .int (iI (o 58)), .ref 570, .ref 571, .ref 572, .ref 573, .ref 574, .ref 575, .ref 576, .ref 577, .ref 578, .int (iI (o 68)), .int (iI (o 69)), .int (iI (o 70)), .ref 579]) rfl (pc' := 136) rfl (fun S122 h123 n124 e125 => ?_)
                refine T_vret xr_143_136 xf_143.2.2 ?_
                refine hQ _ _ ?_
                exact ⟨en + 1, 1, nm116, 1, 0, en, rfl, ⟨hp4, en, hm.symm, Or.inl ⟨by first | exact Or.inl (by omega) | exact Or.inr (Or.inl (by omega)) | exact Or.inr (Or.inr (fun k g1 g2 => absurd g2 (by omega))) | exact Or.inr (Or.inr (Classical.not_not.mp (by assumption))), rfl, rfl, rfl⟩⟩, rfl, fun h => absurd rfl h, by first | assumption | omega, h123, ((((X_Fr.rf).tr (X_Fr.mono ⟨hF39.1, hF39.2⟩ (fun q hq => by first | exact hq | (rcases hq with rfl <;> decide) | (rcases hq with rfl | rfl <;> decide) | (rcases hq with rfl | rfl | rfl <;> decide) | (rcases hq with rfl | rfl | rfl | rfl <;> decide) | (rcases hq with rfl | rfl | rfl | rfl | rfl <;> decide) | (rcases hq with rfl | rfl | rfl | rfl | rfl | rfl <;> decide) | (rcases hq with rfl | rfl | rfl | rfl | rfl | rfl | rfl <;> decide) | omega))).tr (X_Fr.of n110 e111 (by first | decide | exact ⟨Nat.le_add_right _ _, Nat.add_le_add_left (by decide) _⟩ | omega))).tr (X_Fr.mono ⟨hf120.1, hf120.2⟩ (fun q hq => by first | exact hq | (rcases hq with rfl <;> decide) | (rcases hq with rfl | rfl <;> decide) | (rcases hq with rfl | rfl | rfl <;> decide) | (rcases hq with rfl | rfl | rfl | rfl <;> decide) | (rcases hq with rfl | rfl | rfl | rfl | rfl <;> decide) | (rcases hq with rfl | rfl | rfl | rfl | rfl | rfl <;> decide) | (rcases hq with rfl | rfl | rfl | rfl | rfl | rfl | rfl <;> decide) | omega))).tr (X_Fr.of n124 e125 (by first | decide | exact ⟨Nat.le_add_right _ _, Nat.add_le_add_left (by decide) _⟩ | omega))⟩
              · skip
                have c107 : (¬ X_DA tb len (p + 1) en) := c107
                refine T_p xr_143_104 xn_143 (pc' := 105) (ls' := [(2, .int (iI ((en - (o 7)) - 1))), (1, .int (iI (bI (¬ X_DA tb len (p + 1) en)))), (0, .ref 530)]) (st' := [.int (iI 5), .ref 530]) rfl ?_
                refine T_p xr_143_105 xn_143 (pc' := 109) (ls' := [(2, .int (iI ((en - (o 7)) - 1))), (1, .int (iI (bI (¬ X_DA tb len (p + 1) en)))), (0, .ref 530)]) (st' := [.int (iI 5), .ref 530]) rfl ?_
                refine T_put xr_143_109 hM1 rfl (Nat.le_of_ble_eq_true rfl) rfl (fs' := [.ref 531, .int (iI (o 1)), .ref 532, .int (iI (o 3)), .int (iI (o 4)), .int (iI (o 5)), .int (iI (o 6)), .int (iI (o 7)), .int (iI en), .int (iI 5), .int (iI (o 10)), .int (iI (o 11)), .long nm, .ref 533, .ref 534, .ref 535, .ref 536, .ref 537, .ref 538, .ref 539, .ref 540, .ref 541, .ref 542, .ref 543, .ref 544, .ref 545, .ref 546, .ref 547, .int (iI (o 28)), .int (iI (o 29)), .int (iI (o 30)), .int (iI (o 31)), .int (iI (o 32)), .int (iI (o 33)), .ref 548, .ref 549, .ref 550, .ref 551, .int (iI (o 38)), .ref 552, .ref 553, .ref 554, .ref 555, .ref 556, .ref 557, .ref 558, .ref 559, .ref 560, .ref 561, .int (iI (o 49)), .ref 562, .ref 563, .ref 564, .ref 565, .ref 566, .ref 567, .ref 568, .ref 569, .int (iI (o 58)), .ref 570, .ref 571, .ref 572, .ref 573, .ref 574, .ref 575, .ref 576, .ref 577, .ref 578, .int (iI (o 68)), .int (iI (o 69)), .int (iI (o 70)), .ref 579]) rfl (pc' := 112) rfl (fun S126 h127 n128 e129 => ?_)
                refine T_p xr_143_112 xn_143 (pc' := 113) (ls' := [(2, .int (iI ((en - (o 7)) - 1))), (1, .int (iI (bI (¬ X_DA tb len (p + 1) en)))), (0, .ref 530)]) (st' := [.ref 530]) rfl ?_
                refine T_p xr_143_113 xn_143 (pc' := 114) (ls' := [(2, .int (iI ((en - (o 7)) - 1))), (1, .int (iI (bI (¬ X_DA tb len (p + 1) en)))), (0, .ref 530)]) (st' := [.ref 530, .ref 530]) rfl ?_
                refine T_get xr_143_114 h127 rfl (v := .int (iI (o 7))) rfl (pc' := 117) rfl ?_
                refine T_p xr_143_117 xn_143 (pc' := 118) (ls' := [(2, .int (iI ((en - (o 7)) - 1))), (1, .int (iI (bI (¬ X_DA tb len (p + 1) en)))), (0, .ref 530)]) (st' := [.int (iI 1), .int (iI (o 7)), .ref 530]) rfl ?_
                refine T_ziadd xr_143_118 (z := (o 7) + 1) rfl (pc' := 119) rfl ?_
                refine T_p xr_143_119 xn_143 (pc' := 120) (ls' := [(2, .int (iI ((en - (o 7)) - 1))), (1, .int (iI (bI (¬ X_DA tb len (p + 1) en)))), (0, .ref 530)]) (st' := [.ref 530, .int (iI ((o 7) + 1)), .ref 530]) rfl ?_
                refine T_get xr_143_120 h127 rfl (v := .int (iI en)) rfl (pc' := 123) rfl ?_
                refine T_cv (S := S126) (q := 530) xr_143_123 xf_142.1 xf_142.2.1 xn_142 (as := [.int (iI ((o 7) + 1)), .int (iI en)]) (r := []) rfl h127 (Nat.le_of_ble_eq_true rfl) (Nat.le_of_ble_eq_true rfl) (pc' := 126) rfl (ls' := [(0, .ref 530), (1, .int (iI ((o 7) + 1))), (2, .int (iI en))]) rfl ?_
                have h130 := (n128 532 (by decide)).trans (h42)
                refine T_mono (r_pack sc S126 (X_ou (X_ou o 8 en) 9 5) nm tx tb len ((o 7) + 1) en h127 h130 (show (o 3) = len from by first | assumption | omega) hl htx (by omega) (by omega)) (fun v131 S132 h133 => ?_)
                rcases h133 with ⟨nm134, hv135, hp136, hM137, hf138⟩
                rw [hv135]
                have h139 : S132.1 530 = .inr (11, [.ref 531, .int (iI (o 1)), .ref 532, .int (iI (o 3)), .int (iI (o 4)), .int (iI (o 5)), .int (iI (o 6)), .int (iI (o 7)), .int (iI en), .int (iI 5), .int (iI (o 10)), .int (iI (o 11)), .long nm134, .ref 533, .ref 534, .ref 535, .ref 536, .ref 537, .ref 538, .ref 539, .ref 540, .ref 541, .ref 542, .ref 543, .ref 544, .ref 545, .ref 546, .ref 547, .int (iI (o 28)), .int (iI (o 29)), .int (iI (o 30)), .int (iI (o 31)), .int (iI (o 32)), .int (iI (o 33)), .ref 548, .ref 549, .ref 550, .ref 551, .int (iI (o 38)), .ref 552, .ref 553, .ref 554, .ref 555, .ref 556, .ref 557, .ref 558, .ref 559, .ref 560, .ref 561, .int (iI (o 49)), .ref 562, .ref 563, .ref 564, .ref 565, .ref 566, .ref 567, .ref 568, .ref 569, .int (iI (o 58)), .ref 570, .ref 571, .ref 572, .ref 573, .ref 574, .ref 575, .ref 576, .ref 577, .ref 578, .int (iI (o 68)), .int (iI (o 69)), .int (iI (o 70)), .ref 579]) := hM137
                show X_T sc 143 (126, [(2, .int (iI ((en - (o 7)) - 1))), (1, .int (iI (bI (¬ X_DA tb len (p + 1) en)))), (0, .ref 530)], [], S132) _
                refine T_p xr_143_126 xn_143 (pc' := 127) (ls' := [(2, .int (iI ((en - (o 7)) - 1))), (1, .int (iI (bI (¬ X_DA tb len (p + 1) en)))), (0, .ref 530)]) (st' := [.ref 530]) rfl ?_
                refine T_p xr_143_127 xn_143 (pc' := 128) (ls' := [(2, .int (iI ((en - (o 7)) - 1))), (1, .int (iI (bI (¬ X_DA tb len (p + 1) en)))), (0, .ref 530)]) (st' := [.ref 530, .ref 530]) rfl ?_
                refine T_get xr_143_128 h139 rfl (v := .int (iI en)) rfl (pc' := 131) rfl ?_
                refine T_p xr_143_131 xn_143 (pc' := 132) (ls' := [(2, .int (iI ((en - (o 7)) - 1))), (1, .int (iI (bI (¬ X_DA tb len (p + 1) en)))), (0, .ref 530)]) (st' := [.int (iI 1), .int (iI en), .ref 530]) rfl ?_
                refine T_ziadd xr_143_132 (z := en + 1) rfl (pc' := 133) rfl ?_
                refine T_put xr_143_133 h139 rfl (Nat.le_of_ble_eq_true rfl) rfl (fs' := [.ref 531, .int (iI (o 1)), .ref 532, .int (iI (o 3)), .int (iI (o 4)), .int (iI (o 5)), .int (iI (o 6)), .int (iI (o 7)), .int (iI (en + 1)), .int (iI 5), .int (iI (o 10)), .int (iI (o 11)), .long nm134, .ref 533, .ref 534, .ref 535, .ref 536, .ref 537, .ref 538, .ref 539, .ref 540, .ref 541, .ref 542, .ref 543, .ref 544, .ref 545, .ref 546, .ref 547, .int (iI (o 28)), .int (iI (o 29)), .int (iI (o 30)), .int (iI (o 31)), .int (iI (o 32)), .int (iI (o 33)), .ref 548, .ref 549, .ref 550, .ref 551, .int (iI (o 38)), .ref 552, .ref 553, .ref 554, .ref 555, .ref 556, .ref 557, .ref 558, .ref 559, .ref 560, .ref 561, .int (iI (o 49)), .ref 562, .ref 563, .ref 564, .ref 565, .ref 566, .ref 567, .ref 568, .ref 569, .int (iI (o 58)), .ref 570, .ref 571, .ref 572, .ref 573, .ref 574, .ref 575, .ref 576, .ref 577, .ref 578, .int (iI (o 68)), .int (iI (o 69)), .int (iI (o 70)), .ref 579]) rfl (pc' := 136) rfl (fun S140 h141 n142 e143 => ?_)
                refine T_vret xr_143_136 xf_143.2.2 ?_
                refine hQ _ _ ?_
                refine ⟨en + 1, 5, nm134, 6, nm134, en + 1, rfl, ?_, rfl, ?_, by first | assumption | omega, h141, ((((X_Fr.rf).tr (X_Fr.mono ⟨hF39.1, hF39.2⟩ (fun q hq => by first | exact hq | (rcases hq with rfl <;> decide) | (rcases hq with rfl | rfl <;> decide) | (rcases hq with rfl | rfl | rfl <;> decide) | (rcases hq with rfl | rfl | rfl | rfl <;> decide) | (rcases hq with rfl | rfl | rfl | rfl | rfl <;> decide) | (rcases hq with rfl | rfl | rfl | rfl | rfl | rfl <;> decide) | (rcases hq with rfl | rfl | rfl | rfl | rfl | rfl | rfl <;> decide) | omega))).tr (X_Fr.of n128 e129 (by first | decide | exact ⟨Nat.le_add_right _ _, Nat.add_le_add_left (by decide) _⟩ | omega))).tr (X_Fr.mono ⟨hf138.1, hf138.2⟩ (fun q hq => by first | exact hq | (rcases hq with rfl <;> decide) | (rcases hq with rfl | rfl <;> decide) | (rcases hq with rfl | rfl | rfl <;> decide) | (rcases hq with rfl | rfl | rfl | rfl <;> decide) | (rcases hq with rfl | rfl | rfl | rfl | rfl <;> decide) | (rcases hq with rfl | rfl | rfl | rfl | rfl | rfl <;> decide) | (rcases hq with rfl | rfl | rfl | rfl | rfl | rfl | rfl <;> decide) | omega))).tr (X_Fr.of n142 e143 (by first | decide | exact ⟨Nat.le_add_right _ _, Nat.add_le_add_left (by decide) _⟩ | omega))⟩
                · refine ⟨hp4, en, hm.symm, Or.inr ⟨by omega, by omega, by assumption, rfl, ?_, rfl⟩⟩
                  have h9 := hp136 (by omega)
                  rw [hp1] at h9
                  exact h9
                · intro _
                  exact ⟨rfl, rfl⟩
      · skip
        have c41 : ¬ ((o 3) ≤ en) := c41
        refine T_p xr_143_13 xn_143 (pc' := 14) (ls' := [(1, .int (iI (bI (¬ X_DA tb len (p + 1) en)))), (0, .ref 530)]) (st' := [.ref 530]) rfl ?_
        refine T_p xr_143_14 xn_143 (pc' := 15) (ls' := [(1, .int (iI (bI (¬ X_DA tb len (p + 1) en)))), (0, .ref 530)]) (st' := [.ref 530, .ref 530]) rfl ?_
        refine T_get xr_143_15 hM1 rfl (v := .int (iI en)) rfl (pc' := 18) rfl ?_
        refine T_cv (S := S40) (q := 530) xr_143_18 xf_136.1 xf_136.2.1 xn_136 (as := [.int (iI en)]) (r := []) rfl hM1 (Nat.le_of_ble_eq_true rfl) (Nat.le_of_ble_eq_true rfl) (pc' := 21) rfl (ls' := [(0, .ref 530), (1, .int (iI en))]) rfl ?_
        have h144 := (hF39.1 532 (by first | decide | omega)).trans (hA532)
        refine T_mono (r_sign sc S40 (X_ou o 8 en) nm tx tb len en hM1 h144 (show (o 3) = len from by first | assumption | omega) hl htx (by omega)) (fun v145 S146 h147 => ?_)
        rcases h147 with ⟨hv148, hf149⟩
        rw [hv148]
        rw [hf149]
        have hg150 := X_sg_r (tb := tb) (len := len) (k := en) (by omega)
        have hg151 := X_sg_c (tb := tb) (len := len) (k := en)
        show X_T sc 143 (21, [(1, .int (iI (bI (¬ X_DA tb len (p + 1) en)))), (0, .ref 530)], [.int (iI (X_sg tb len en))], S40) _
        refine T_cs xr_143_21 (by decide) xf_144.1 xn_144 (as := [.int (iI (X_sg tb len en))]) (r := []) rfl (Nat.le_of_ble_eq_true rfl) (Nat.le_of_ble_eq_true rfl) (pc' := 24) rfl (ls' := [(0, .int (iI (X_sg tb len en)))]) rfl ?_
        refine T_mono (r_isPartSign sc S40 (X_sg tb len en) (by omega)) (fun v152 S153 h154 => ?_)
        rcases h154 with ⟨hv155, hf156⟩
        rw [hv155]
        rw [hf156]
        show X_T sc 143 (24, [(1, .int (iI (bI (¬ X_DA tb len (p + 1) en)))), (0, .ref 530)], [.int (iI (bI (X_isPB (X_sg tb len en))))], S40) _
        refine T_bif_eq xr_143_24 (t := 64) (pc' := 27) rfl rfl (fun c157 => ?_) (fun c157 => ?_)
        · skip
          have c157 : ¬ (X_isPB (X_sg tb len en)) := c157
          have hm : X_se X_isPB tb len (p + 1) = en := hse.symm.trans (X_se_no (by first | (intro h; omega) | (intro h; exact absurd (X_sg_B.mpr h) (by assumption))))
          refine T_p xr_143_64 xn_143 (pc' := 65) (ls' := [(1, .int (iI (bI (¬ X_DA tb len (p + 1) en)))), (0, .ref 530)]) (st' := [.ref 530]) rfl ?_
          refine T_get xr_143_65 hM1 rfl (v := .int (iI en)) rfl (pc' := 68) rfl ?_
          refine T_p xr_143_68 xn_143 (pc' := 69) (ls' := [(1, .int (iI (bI (¬ X_DA tb len (p + 1) en)))), (0, .ref 530)]) (st' := [.ref 530, .int (iI en)]) rfl ?_
          refine T_get xr_143_69 hM1 rfl (v := .int (iI (o 7))) rfl (pc' := 72) rfl ?_
          refine T_zisub xr_143_72 (z := en - (o 7)) rfl (pc' := 73) rfl ?_
          refine T_p xr_143_73 xn_143 (pc' := 74) (ls' := [(1, .int (iI (bI (¬ X_DA tb len (p + 1) en)))), (0, .ref 530)]) (st' := [.int (iI 1), .int (iI (en - (o 7)))]) rfl ?_
          refine T_zisub xr_143_74 (z := (en - (o 7)) - 1) rfl (pc' := 75) rfl ?_
          refine T_p xr_143_75 xn_143 (pc' := 76) (ls' := [(2, .int (iI ((en - (o 7)) - 1))), (1, .int (iI (bI (¬ X_DA tb len (p + 1) en)))), (0, .ref 530)]) (st' := []) rfl ?_
          refine T_p xr_143_76 xn_143 (pc' := 77) (ls' := [(2, .int (iI ((en - (o 7)) - 1))), (1, .int (iI (bI (¬ X_DA tb len (p + 1) en)))), (0, .ref 530)]) (st' := [.ref 530]) rfl ?_
          refine T_p xr_143_77 xn_143 (pc' := 78) (ls' := [(2, .int (iI ((en - (o 7)) - 1))), (1, .int (iI (bI (¬ X_DA tb len (p + 1) en)))), (0, .ref 530)]) (st' := [.ref 530, .ref 530]) rfl ?_
          refine T_p xr_143_78 xn_143 (pc' := 79) (ls' := [(2, .int (iI ((en - (o 7)) - 1))), (1, .int (iI (bI (¬ X_DA tb len (p + 1) en)))), (0, .ref 530)]) (st' := [.ref 530, .ref 530, .ref 530]) rfl ?_
          refine T_get xr_143_79 hM1 rfl (v := .int (iI en)) rfl (pc' := 82) rfl ?_
          refine T_cv (S := S40) (q := 530) xr_143_82 xf_136.1 xf_136.2.1 xn_136 (as := [.int (iI en)]) (r := [.ref 530]) rfl hM1 (Nat.le_of_ble_eq_true rfl) (Nat.le_of_ble_eq_true rfl) (pc' := 85) rfl (ls' := [(0, .ref 530), (1, .int (iI en))]) rfl ?_
          refine T_mono (r_sign sc S40 (X_ou o 8 en) nm tx tb len en hM1 h144 (show (o 3) = len from by first | assumption | omega) hl htx (by omega)) (fun v158 S159 h160 => ?_)
          rcases h160 with ⟨hv161, hf162⟩
          rw [hv161]
          rw [hf162]
          have hg163 := X_sg_r (tb := tb) (len := len) (k := en) (by omega)
          have hg164 := X_sg_c (tb := tb) (len := len) (k := en)
          show X_T sc 143 (85, [(2, .int (iI ((en - (o 7)) - 1))), (1, .int (iI (bI (¬ X_DA tb len (p + 1) en)))), (0, .ref 530)], [.int (iI (X_sg tb len en)), .ref 530], S40) _
          refine T_p xr_143_85 xn_143 (pc' := 87) (ls' := [(2, .int (iI ((en - (o 7)) - 1))), (1, .int (iI (bI (¬ X_DA tb len (p + 1) en)))), (0, .ref 530)]) (st' := [.int (iI 34), .int (iI (X_sg tb len en)), .ref 530]) rfl ?_
          refine T_zicmp_ne xr_143_87 (t := 108) (pc' := 90) rfl rfl (fun c165 => ?_) (fun c165 => ?_)
          · skip
            have c165 : ¬ (X_sg tb len en) = 34 := c165
            refine T_p xr_143_108 xn_143 (pc' := 109) (ls' := [(2, .int (iI ((en - (o 7)) - 1))), (1, .int (iI (bI (¬ X_DA tb len (p + 1) en)))), (0, .ref 530)]) (st' := [.int (iI 1), .ref 530]) rfl ?_
            refine T_put xr_143_109 hM1 rfl (Nat.le_of_ble_eq_true rfl) rfl (fs' := [.ref 531, .int (iI (o 1)), .ref 532, .int (iI (o 3)), .int (iI (o 4)), .int (iI (o 5)), .int (iI (o 6)), .int (iI (o 7)), .int (iI en), .int (iI 1), .int (iI (o 10)), .int (iI (o 11)), .long nm, .ref 533, .ref 534, .ref 535, .ref 536, .ref 537, .ref 538, .ref 539, .ref 540, .ref 541, .ref 542, .ref 543, .ref 544, .ref 545, .ref 546, .ref 547, .int (iI (o 28)), .int (iI (o 29)), .int (iI (o 30)), .int (iI (o 31)), .int (iI (o 32)), .int (iI (o 33)), .ref 548, .ref 549, .ref 550, .ref 551, .int (iI (o 38)), .ref 552, .ref 553, .ref 554, .ref 555, .ref 556, .ref 557, .ref 558, .ref 559, .ref 560, .ref 561, .int (iI (o 49)), .ref 562, .ref 563, .ref 564, .ref 565, .ref 566, .ref 567, .ref 568, .ref 569, .int (iI (o 58)), .ref 570, .ref 571, .ref 572, .ref 573, .ref 574, .ref 575, .ref 576, .ref 577, .ref 578, .int (iI (o 68)), .int (iI (o 69)), .int (iI (o 70)), .ref 579]) rfl (pc' := 112) rfl (fun S166 h167 n168 e169 => ?_)
            refine T_p xr_143_112 xn_143 (pc' := 113) (ls' := [(2, .int (iI ((en - (o 7)) - 1))), (1, .int (iI (bI (¬ X_DA tb len (p + 1) en)))), (0, .ref 530)]) (st' := [.ref 530]) rfl ?_
            refine T_p xr_143_113 xn_143 (pc' := 114) (ls' := [(2, .int (iI ((en - (o 7)) - 1))), (1, .int (iI (bI (¬ X_DA tb len (p + 1) en)))), (0, .ref 530)]) (st' := [.ref 530, .ref 530]) rfl ?_
            refine T_get xr_143_114 h167 rfl (v := .int (iI (o 7))) rfl (pc' := 117) rfl ?_
            refine T_p xr_143_117 xn_143 (pc' := 118) (ls' := [(2, .int (iI ((en - (o 7)) - 1))), (1, .int (iI (bI (¬ X_DA tb len (p + 1) en)))), (0, .ref 530)]) (st' := [.int (iI 1), .int (iI (o 7)), .ref 530]) rfl ?_
            refine T_ziadd xr_143_118 (z := (o 7) + 1) rfl (pc' := 119) rfl ?_
            refine T_p xr_143_119 xn_143 (pc' := 120) (ls' := [(2, .int (iI ((en - (o 7)) - 1))), (1, .int (iI (bI (¬ X_DA tb len (p + 1) en)))), (0, .ref 530)]) (st' := [.ref 530, .int (iI ((o 7) + 1)), .ref 530]) rfl ?_
            refine T_get xr_143_120 h167 rfl (v := .int (iI en)) rfl (pc' := 123) rfl ?_
            refine T_cv (S := S166) (q := 530) xr_143_123 xf_142.1 xf_142.2.1 xn_142 (as := [.int (iI ((o 7) + 1)), .int (iI en)]) (r := []) rfl h167 (Nat.le_of_ble_eq_true rfl) (Nat.le_of_ble_eq_true rfl) (pc' := 126) rfl (ls' := [(0, .ref 530), (1, .int (iI ((o 7) + 1))), (2, .int (iI en))]) rfl ?_
            have h170 := (n168 532 (by decide)).trans (h144)
            refine T_mono (r_pack sc S166 (X_ou (X_ou o 8 en) 9 1) nm tx tb len ((o 7) + 1) en h167 h170 (show (o 3) = len from by first | assumption | omega) hl htx (by omega) (by omega)) (fun v171 S172 h173 => ?_)
            rcases h173 with ⟨nm174, hv175, hp176, hM177, hf178⟩
            rw [hv175]
            have h179 : S172.1 530 = .inr (11, [.ref 531, .int (iI (o 1)), .ref 532, .int (iI (o 3)), .int (iI (o 4)), .int (iI (o 5)), .int (iI (o 6)), .int (iI (o 7)), .int (iI en), .int (iI 1), .int (iI (o 10)), .int (iI (o 11)), .long nm174, .ref 533, .ref 534, .ref 535, .ref 536, .ref 537, .ref 538, .ref 539, .ref 540, .ref 541, .ref 542, .ref 543, .ref 544, .ref 545, .ref 546, .ref 547, .int (iI (o 28)), .int (iI (o 29)), .int (iI (o 30)), .int (iI (o 31)), .int (iI (o 32)), .int (iI (o 33)), .ref 548, .ref 549, .ref 550, .ref 551, .int (iI (o 38)), .ref 552, .ref 553, .ref 554, .ref 555, .ref 556, .ref 557, .ref 558, .ref 559, .ref 560, .ref 561, .int (iI (o 49)), .ref 562, .ref 563, .ref 564, .ref 565, .ref 566, .ref 567, .ref 568, .ref 569, .int (iI (o 58)), .ref 570, .ref 571, .ref 572, .ref 573, .ref 574, .ref 575, .ref 576, .ref 577, .ref 578, .int (iI (o 68)), .int (iI (o 69)), .int (iI (o 70)), .ref 579]) := hM177
            show X_T sc 143 (126, [(2, .int (iI ((en - (o 7)) - 1))), (1, .int (iI (bI (¬ X_DA tb len (p + 1) en)))), (0, .ref 530)], [], S172) _
            refine T_p xr_143_126 xn_143 (pc' := 127) (ls' := [(2, .int (iI ((en - (o 7)) - 1))), (1, .int (iI (bI (¬ X_DA tb len (p + 1) en)))), (0, .ref 530)]) (st' := [.ref 530]) rfl ?_
            refine T_p xr_143_127 xn_143 (pc' := 128) (ls' := [(2, .int (iI ((en - (o 7)) - 1))), (1, .int (iI (bI (¬ X_DA tb len (p + 1) en)))), (0, .ref 530)]) (st' := [.ref 530, .ref 530]) rfl ?_
            refine T_get xr_143_128 h179 rfl (v := .int (iI en)) rfl (pc' := 131) rfl ?_
            refine T_p xr_143_131 xn_143 (pc' := 132) (ls' := [(2, .int (iI ((en - (o 7)) - 1))), (1, .int (iI (bI (¬ X_DA tb len (p + 1) en)))), (0, .ref 530)]) (st' := [.int (iI 1), .int (iI en), .ref 530]) rfl ?_
            refine T_ziadd xr_143_132 (z := en + 1) rfl (pc' := 133) rfl ?_
            refine T_put xr_143_133 h179 rfl (Nat.le_of_ble_eq_true rfl) rfl (fs' := [.ref 531, .int (iI (o 1)), .ref 532, .int (iI (o 3)), .int (iI (o 4)), .int (iI (o 5)), .int (iI (o 6)), .int (iI (o 7)), .int (iI (en + 1)), .int (iI 1), .int (iI (o 10)), .int (iI (o 11)), .long nm174, .ref 533, .ref 534, .ref 535, .ref 536, .ref 537, .ref 538, .ref 539, .ref 540, .ref 541, .ref 542, .ref 543, .ref 544, .ref 545, .ref 546, .ref 547, .int (iI (o 28)), .int (iI (o 29)), .int (iI (o 30)), .int (iI (o 31)), .int (iI (o 32)), .int (iI (o 33)), .ref 548, .ref 549, .ref 550, .ref 551, .int (iI (o 38)), .ref 552, .ref 553, .ref 554, .ref 555, .ref 556, .ref 557, .ref 558, .ref 559, .ref 560, .ref 561, .int (iI (o 49)), .ref 562, .ref 563, .ref 564, .ref 565, .ref 566, .ref 567, .ref 568, .ref 569, .int (iI (o 58)), .ref 570, .ref 571, .ref 572, .ref 573, .ref 574, .ref 575, .ref 576, .ref 577, .ref 578, .int (iI (o 68)), .int (iI (o 69)), .int (iI (o 70)), .ref 579]) rfl (pc' := 136) rfl (fun S180 h181 n182 e183 => ?_)
            refine T_vret xr_143_136 xf_143.2.2 ?_
            refine hQ _ _ ?_
            exact ⟨en + 1, 1, nm174, 1, 0, en, rfl, ⟨hp4, en, hm.symm, Or.inl ⟨by first | exact Or.inl (by omega) | exact Or.inr (Or.inl (by omega)) | exact Or.inr (Or.inr (fun k g1 g2 => absurd g2 (by omega))) | exact Or.inr (Or.inr (Classical.not_not.mp (by assumption))), rfl, rfl, rfl⟩⟩, rfl, fun h => absurd rfl h, by first | assumption | omega, h181, ((((X_Fr.rf).tr (X_Fr.mono ⟨hF39.1, hF39.2⟩ (fun q hq => by first | exact hq | (rcases hq with rfl <;> decide) | (rcases hq with rfl | rfl <;> decide) | (rcases hq with rfl | rfl | rfl <;> decide) | (rcases hq with rfl | rfl | rfl | rfl <;> decide) | (rcases hq with rfl | rfl | rfl | rfl | rfl <;> decide) | (rcases hq with rfl | rfl | rfl | rfl | rfl | rfl <;> decide) | (rcases hq with rfl | rfl | rfl | rfl | rfl | rfl | rfl <;> decide) | omega))).tr (X_Fr.of n168 e169 (by first | decide | exact ⟨Nat.le_add_right _ _, Nat.add_le_add_left (by decide) _⟩ | omega))).tr (X_Fr.mono ⟨hf178.1, hf178.2⟩ (fun q hq => by first | exact hq | (rcases hq with rfl <;> decide) | (rcases hq with rfl | rfl <;> decide) | (rcases hq with rfl | rfl | rfl <;> decide) | (rcases hq with rfl | rfl | rfl | rfl <;> decide) | (rcases hq with rfl | rfl | rfl | rfl | rfl <;> decide) | (rcases hq with rfl | rfl | rfl | rfl | rfl | rfl <;> decide) | (rcases hq with rfl | rfl | rfl | rfl | rfl | rfl | rfl <;> decide) | omega))).tr (X_Fr.of n182 e183 (by first | decide | exact ⟨Nat.le_add_right _ _, Nat.add_le_add_left (by decide) _⟩ | omega))⟩
          · skip
            have c165 : ¬ (¬ (X_sg tb len en) = 34) := c165
            refine T_p xr_143_90 xn_143 (pc' := 91) (ls' := [(2, .int (iI ((en - (o 7)) - 1))), (1, .int (iI (bI (¬ X_DA tb len (p + 1) en)))), (0, .ref 530)]) (st' := [.int (iI ((en - (o 7)) - 1)), .ref 530]) rfl ?_
            refine T_zif_le xr_143_91 (t := 108) (pc' := 94) rfl rfl (fun c184 => ?_) (fun c184 => ?_)
            · skip
              have c184 : ((en - (o 7)) - 1) ≤ 0 := c184
              refine T_p xr_143_108 xn_143 (pc' := 109) (ls' := [(2, .int (iI ((en - (o 7)) - 1))), (1, .int (iI (bI (¬ X_DA tb len (p + 1) en)))), (0, .ref 530)]) (st' := [.int (iI 1), .ref 530]) rfl ?_
              refine T_put xr_143_109 hM1 rfl (Nat.le_of_ble_eq_true rfl) rfl (fs' := [.ref 531, .int (iI (o 1)), .ref 532, .int (iI (o 3)), .int (iI (o 4)), .int (iI (o 5)), .int (iI (o 6)), .int (iI (o 7)), .int (iI en), .int (iI 1), .int (iI (o 10)), .int (iI (o 11)), .long nm, .ref 533, .ref 534, .ref 535, .ref 536, .ref 537, .ref 538, .ref 539, .ref 540, .ref 541, .ref 542, .ref 543, .ref 544, .ref 545, .ref 546, .ref 547, .int (iI (o 28)), .int (iI (o 29)), .int (iI (o 30)), .int (iI (o 31)), .int (iI (o 32)), .int (iI (o 33)), .ref 548, .ref 549, .ref 550, .ref 551, .int (iI (o 38)), .ref 552, .ref 553, .ref 554, .ref 555, .ref 556, .ref 557, .ref 558, .ref 559, .ref 560, .ref 561, .int (iI (o 49)), .ref 562, .ref 563, .ref 564, .ref 565, .ref 566, .ref 567, .ref 568, .ref 569, .int (iI (o 58)), .ref 570, .ref 571, .ref 572, .ref 573, .ref 574, .ref 575, .ref 576, .ref 577, .ref 578, .int (iI (o 68)), .int (iI (o 69)), .int (iI (o 70)), .ref 579]) rfl (pc' := 112) rfl (fun S185 h186 n187 e188 => ?_)
              refine T_p xr_143_112 xn_143 (pc' := 113) (ls' := [(2, .int (iI ((en - (o 7)) - 1))), (1, .int (iI (bI (¬ X_DA tb len (p + 1) en)))), (0, .ref 530)]) (st' := [.ref 530]) rfl ?_
              refine T_p xr_143_113 xn_143 (pc' := 114) (ls' := [(2, .int (iI ((en - (o 7)) - 1))), (1, .int (iI (bI (¬ X_DA tb len (p + 1) en)))), (0, .ref 530)]) (st' := [.ref 530, .ref 530]) rfl ?_
              refine T_get xr_143_114 h186 rfl (v := .int (iI (o 7))) rfl (pc' := 117) rfl ?_
              refine T_p xr_143_117 xn_143 (pc' := 118) (ls' := [(2, .int (iI ((en - (o 7)) - 1))), (1, .int (iI (bI (¬ X_DA tb len (p + 1) en)))), (0, .ref 530)]) (st' := [.int (iI 1), .int (iI (o 7)), .ref 530]) rfl ?_
              refine T_ziadd xr_143_118 (z := (o 7) + 1) rfl (pc' := 119) rfl ?_
              refine T_p xr_143_119 xn_143 (pc' := 120) (ls' := [(2, .int (iI ((en - (o 7)) - 1))), (1, .int (iI (bI (¬ X_DA tb len (p + 1) en)))), (0, .ref 530)]) (st' := [.ref 530, .int (iI ((o 7) + 1)), .ref 530]) rfl ?_
              refine T_get xr_143_120 h186 rfl (v := .int (iI en)) rfl (pc' := 123) rfl ?_
              refine T_cv (S := S185) (q := 530) xr_143_123 xf_142.1 xf_142.2.1 xn_142 (as := [.int (iI ((o 7) + 1)), .int (iI en)]) (r := []) rfl h186 (Nat.le_of_ble_eq_true rfl) (Nat.le_of_ble_eq_true rfl) (pc' := 126) rfl (ls' := [(0, .ref 530), (1, .int (iI ((o 7) + 1))), (2, .int (iI en))]) rfl ?_
              have h189 := (n187 532 (by decide)).trans (h144)
              refine T_mono (r_pack sc S185 (X_ou (X_ou o 8 en) 9 1) nm tx tb len ((o 7) + 1) en h186 h189 (show (o 3) = len from by first | assumption | omega) hl htx (by omega) (by omega)) (fun v190 S191 h192 => ?_)
              rcases h192 with ⟨nm193, hv194, hp195, hM196, hf197⟩
              rw [hv194]
              have h198 : S191.1 530 = .inr (11, [.ref 531, .int (iI (o 1)), .ref 532, .int (iI (o 3)), .int (iI (o 4)), .int (iI (o 5)), .int (iI (o 6)), .int (iI (o 7)), .int (iI en), .int (iI 1), .int (iI (o 10)), .int (iI (o 11)), .long nm193, .ref 533, .ref 534, .ref 535, .ref 536, .ref 537, .ref 538, .ref 539, .ref 540, .ref 541, .ref 542, .ref 543, .ref 544, .ref 545, .ref 546, .ref 547, .int (iI (o 28)), .int (iI (o 29)), .int (iI (o 30)), .int (iI (o 31)), .int (iI (o 32)), .int (iI (o 33)), .ref 548, .ref 549, .ref 550, .ref 551, .int (iI (o 38)), .ref 552, .ref 553, .ref 554, .ref 555, .ref 556, .ref 557, .ref 558, .ref 559, .ref 560, .ref 561, .int (iI (o 49)), .ref 562, .ref 563, .ref 564, .ref 565, .ref 566, .ref 567, .ref 568, .ref 569, .int (iI (o 58)), .ref 570, .ref 571, .ref 572, .ref 573, .ref 574, .ref 575, .ref 576, .ref 577, .ref 578, .int (iI (o 68)), .int (iI (o 69)), .int (iI (o 70)), .ref 579]) := hM196
              show X_T sc 143 (126, [(2, .int (iI ((en - (o 7)) - 1))), (1, .int (iI (bI (¬ X_DA tb len (p + 1) en)))), (0, .ref 530)], [], S191) _
              refine T_p xr_143_126 xn_143 (pc' := 127) (ls' := [(2, .int (iI ((en - (o 7)) - 1))), (1, .int (iI (bI (¬ X_DA tb len (p + 1) en)))), (0, .ref 530)]) (st' := [.ref 530]) rfl ?_
              refine T_p xr_143_127 xn_143 (pc' := 128) (ls' := [(2, .int (iI ((en - (o 7)) - 1))), (1, .int (iI (bI (¬ X_DA tb len (p + 1) en)))), (0, .ref 530)]) (st' := [.ref 530, .ref 530]) rfl ?_
              refine T_get xr_143_128 h198 rfl (v := .int (iI en)) rfl (pc' := 131) rfl ?_
              refine T_p xr_143_131 xn_143 (pc' := 132) (ls' := [(2, .int (iI ((en - (o 7)) - 1))), (1, .int (iI (bI (¬ X_DA tb len (p + 1) en)))), (0, .ref 530)]) (st' := [.int (iI 1), .int (iI en), .ref 530]) rfl ?_
              refine T_ziadd xr_143_132 (z := en + 1) rfl (pc' := 133) rfl ?_
              refine T_put xr_143_133 h198 rfl (Nat.le_of_ble_eq_true rfl) rfl (fs' := [.ref 531, .int (iI (o 1)), .ref 532, .int (iI (o 3)), .int (iI (o 4)), .int (iI (o 5)), .int (iI (o 6)), .int (iI (o 7)), .int (iI (en + 1)), .int (iI 1), .int (iI (o 10)), .int (iI (o 11)), .long nm193, .ref 533, .ref 534, .ref 535, .ref 536, .ref 537, .ref 538, .ref 539, .ref 540, .ref 541, .ref 542, .ref 543, .ref 544, .ref 545, .ref 546, .ref 547, .int (iI (o 28)), .int (iI (o 29)), .int (iI (o 30)), .int (iI (o 31)), .int (iI (o 32)), .int (iI (o 33)), .ref 548, .ref 549, .ref 550, .ref 551, .int (iI (o 38)), .ref 552, .ref 553, .ref 554, .ref 555, .ref 556, .ref 557, .ref 558, .ref 559, .ref 560, .ref 561, .int (iI (o 49)), .ref 562, .ref 563, .ref 564, .ref 565, .ref 566, .ref 567, .ref 568, .ref 569, .int (iI (o 58)), .ref 570, .ref 571, .ref 572, .ref 573, .ref 574, .ref 575, .ref 576, .ref 577, .ref 578, .int (iI (o 68)), .int (iI (o 69)), .int (iI (o 70)), .ref 579]) rfl (pc' := 136) rfl (fun S199 h200 n201 e202 => ?_)
              refine T_vret xr_143_136 xf_143.2.2 ?_
              refine hQ _ _ ?_
              exact ⟨en + 1, 1, nm193, 1, 0, en, rfl, ⟨hp4, en, hm.symm, Or.inl ⟨by first | exact Or.inl (by omega) | exact Or.inr (Or.inl (by omega)) | exact Or.inr (Or.inr (fun k g1 g2 => absurd g2 (by omega))) | exact Or.inr (Or.inr (Classical.not_not.mp (by assumption))), rfl, rfl, rfl⟩⟩, rfl, fun h => absurd rfl h, by first | assumption | omega, h200, ((((X_Fr.rf).tr (X_Fr.mono ⟨hF39.1, hF39.2⟩ (fun q hq => by first | exact hq | (rcases hq with rfl <;> decide) | (rcases hq with rfl | rfl <;> decide) | (rcases hq with rfl | rfl | rfl <;> decide) | (rcases hq with rfl | rfl | rfl | rfl <;> decide) | (rcases hq with rfl | rfl | rfl | rfl | rfl <;> decide) | (rcases hq with rfl | rfl | rfl | rfl | rfl | rfl <;> decide) | (rcases hq with rfl | rfl | rfl | rfl | rfl | rfl | rfl <;> decide) | omega))).tr (X_Fr.of n187 e188 (by first | decide | exact ⟨Nat.le_add_right _ _, Nat.add_le_add_left (by decide) _⟩ | omega))).tr (X_Fr.mono ⟨hf197.1, hf197.2⟩ (fun q hq => by first | exact hq | (rcases hq with rfl <;> decide) | (rcases hq with rfl | rfl <;> decide) | (rcases hq with rfl | rfl | rfl <;> decide) | (rcases hq with rfl | rfl | rfl | rfl <;> decide) | (rcases hq with rfl | rfl | rfl | rfl | rfl <;> decide) | (rcases hq with rfl | rfl | rfl | rfl | rfl | rfl <;> decide) | (rcases hq with rfl | rfl | rfl | rfl | rfl | rfl | rfl <;> decide) | omega))).tr (X_Fr.of n201 e202 (by first | decide | exact ⟨Nat.le_add_right _ _, Nat.add_le_add_left (by decide) _⟩ | omega))⟩
            · skip
              have c184 : ¬ (((en - (o 7)) - 1) ≤ 0) := c184
              refine T_p xr_143_94 xn_143 (pc' := 95) (ls' := [(2, .int (iI ((en - (o 7)) - 1))), (1, .int (iI (bI (¬ X_DA tb len (p + 1) en)))), (0, .ref 530)]) (st' := [.int (iI ((en - (o 7)) - 1)), .ref 530]) rfl ?_
              refine T_p xr_143_95 xn_143 (pc' := 97) (ls' := [(2, .int (iI ((en - (o 7)) - 1))), (1, .int (iI (bI (¬ X_DA tb len (p + 1) en)))), (0, .ref 530)]) (st' := [.int (iI 9), .int (iI ((en - (o 7)) - 1)), .ref 530]) rfl ?_
              refine T_zicmp_ge xr_143_97 (t := 108) (pc' := 100) rfl rfl (fun c203 => ?_) (fun c203 => ?_)
              · skip
                have c203 : 9 ≤ ((en - (o 7)) - 1) := c203
                refine T_p xr_143_108 xn_143 (pc' := 109) (ls' := [(2, .int (iI ((en - (o 7)) - 1))), (1, .int (iI (bI (¬ X_DA tb len (p + 1) en)))), (0, .ref 530)]) (st' := [.int (iI 1), .ref 530]) rfl ?_
                refine T_put xr_143_109 hM1 rfl (Nat.le_of_ble_eq_true rfl) rfl (fs' := [.ref 531, .int (iI (o 1)), .ref 532, .int (iI (o 3)), .int (iI (o 4)), .int (iI (o 5)), .int (iI (o 6)), .int (iI (o 7)), .int (iI en), .int (iI 1), .int (iI (o 10)), .int (iI (o 11)), .long nm, .ref 533, .ref 534, .ref 535, .ref 536, .ref 537, .ref 538, .ref 539, .ref 540, .ref 541, .ref 542, .ref 543, .ref 544, .ref 545, .ref 546, .ref 547, .int (iI (o 28)), .int (iI (o 29)), .int (iI (o 30)), .int (iI (o 31)), .int (iI (o 32)), .int (iI (o 33)), .ref 548, .ref 549, .ref 550, .ref 551, .int (iI (o 38)), .ref 552, .ref 553, .ref 554, .ref 555, .ref 556, .ref 557, .ref 558, .ref 559, .ref 560, .ref 561, .int (iI (o 49)), .ref 562, .ref 563, .ref 564, .ref 565, .ref 566, .ref 567, .ref 568, .ref 569, .int (iI (o 58)), .ref 570, .ref 571, .ref 572, .ref 573, .ref 574, .ref 575, .ref 576, .ref 577, .ref 578, .int (iI (o 68)), .int (iI (o 69)), .int (iI (o 70)), .ref 579]) rfl (pc' := 112) rfl (fun S204 h205 n206 e207 => ?_)
                refine T_p xr_143_112 xn_143 (pc' := 113) (ls' := [(2, .int (iI ((en - (o 7)) - 1))), (1, .int (iI (bI (¬ X_DA tb len (p + 1) en)))), (0, .ref 530)]) (st' := [.ref 530]) rfl ?_
                refine T_p xr_143_113 xn_143 (pc' := 114) (ls' := [(2, .int (iI ((en - (o 7)) - 1))), (1, .int (iI (bI (¬ X_DA tb len (p + 1) en)))), (0, .ref 530)]) (st' := [.ref 530, .ref 530]) rfl ?_
                refine T_get xr_143_114 h205 rfl (v := .int (iI (o 7))) rfl (pc' := 117) rfl ?_
                refine T_p xr_143_117 xn_143 (pc' := 118) (ls' := [(2, .int (iI ((en - (o 7)) - 1))), (1, .int (iI (bI (¬ X_DA tb len (p + 1) en)))), (0, .ref 530)]) (st' := [.int (iI 1), .int (iI (o 7)), .ref 530]) rfl ?_
                refine T_ziadd xr_143_118 (z := (o 7) + 1) rfl (pc' := 119) rfl ?_
                refine T_p xr_143_119 xn_143 (pc' := 120) (ls' := [(2, .int (iI ((en - (o 7)) - 1))), (1, .int (iI (bI (¬ X_DA tb len (p + 1) en)))), (0, .ref 530)]) (st' := [.ref 530, .int (iI ((o 7) + 1)), .ref 530]) rfl ?_
                refine T_get xr_143_120 h205 rfl (v := .int (iI en)) rfl (pc' := 123) rfl ?_
                refine T_cv (S := S204) (q := 530) xr_143_123 xf_142.1 xf_142.2.1 xn_142 (as := [.int (iI ((o 7) + 1)), .int (iI en)]) (r := []) rfl h205 (Nat.le_of_ble_eq_true rfl) (Nat.le_of_ble_eq_true rfl) (pc' := 126) rfl (ls' := [(0, .ref 530), (1, .int (iI ((o 7) + 1))), (2, .int (iI en))]) rfl ?_
                have h208 := (n206 532 (by decide)).trans (h144)
                refine T_mono (r_pack sc S204 (X_ou (X_ou o 8 en) 9 1) nm tx tb len ((o 7) + 1) en h205 h208 (show (o 3) = len from by first | assumption | omega) hl htx (by omega) (by omega)) (fun v209 S210 h211 => ?_)
                rcases h211 with ⟨nm212, hv213, hp214, hM215, hf216⟩
                rw [hv213]
                have h217 : S210.1 530 = .inr (11, [.ref 531, .int (iI (o 1)), .ref 532, .int (iI (o 3)), .int (iI (o 4)), .int (iI (o 5)), .int (iI (o 6)), .int (iI (o 7)), .int (iI en), .int (iI 1), .int (iI (o 10)), .int (iI (o 11)), .long nm212, .ref 533, .ref 534, .ref 535, .ref 536, .ref 537, .ref 538, .ref 539, .ref 540, .ref 541, .ref 542, .ref 543, .ref 544, .ref 545, .ref 546, .ref 547, .int (iI (o 28)), .int (iI (o 29)), .int (iI (o 30)), .int (iI (o 31)), .int (iI (o 32)), .int (iI (o 33)), .ref 548, .ref 549, .ref 550, .ref 551, .int (iI (o 38)), .ref 552, .ref 553, .ref 554, .ref 555, .ref 556, .ref 557, .ref 558, .ref 559, .ref 560, .ref 561, .int (iI (o 49)), .ref 562, .ref 563, .ref 564, .ref 565, .ref 566, .ref 567, .ref 568, .ref 569, .int (iI (o 58)), .ref 570, .ref 571, .ref 572, .ref 573, .ref 574, .ref 575, .ref 576, .ref 577, .ref 578, .int (iI (o 68)), .int (iI (o 69)), .int (iI (o 70)), .ref 579]) := hM215
                show X_T sc 143 (126, [(2, .int (iI ((en - (o 7)) - 1))), (1, .int (iI (bI (¬ X_DA tb len (p + 1) en)))), (0, .ref 530)], [], S210) _
                refine T_p xr_143_126 xn_143 (pc' := 127) (ls' := [(2, .int (iI ((en - (o 7)) - 1))), (1, .int (iI (bI (¬ X_DA tb len (p + 1) en)))), (0, .ref 530)]) (st' := [.ref 530]) rfl ?_
                refine T_p xr_143_127 xn_143 (pc' := 128) (ls' := [(2, .int (iI ((en - (o 7)) - 1))), (1, .int (iI (bI (¬ X_DA tb len (p + 1) en)))), (0, .ref 530)]) (st' := [.ref 530, .ref 530]) rfl ?_
                refine T_get xr_143_128 h217 rfl (v := .int (iI en)) rfl (pc' := 131) rfl ?_
                refine T_p xr_143_131 xn_143 (pc' := 132) (ls' := [(2, .int (iI ((en - (o 7)) - 1))), (1, .int (iI (bI (¬ X_DA tb len (p + 1) en)))), (0, .ref 530)]) (st' := [.int (iI 1), .int (iI en), .ref 530]) rfl ?_
                refine T_ziadd xr_143_132 (z := en + 1) rfl (pc' := 133) rfl ?_
                refine T_put xr_143_133 h217 rfl (Nat.le_of_ble_eq_true rfl) rfl (fs' := [.ref 531, .int (iI (o 1)), .ref 532, .int (iI (o 3)), .int (iI (o 4)), .int (iI (o 5)), .int (iI (o 6)), .int (iI (o 7)), .int (iI (en + 1)), .int (iI 1), .int (iI (o 10)), .int (iI (o 11)), .long nm212, .ref 533, .ref 534, .ref 535, .ref 536, .ref 537, .ref 538, .ref 539, .ref 540, .ref 541, .ref 542, .ref 543, .ref 544, .ref 545, .ref 546, .ref 547, .int (iI (o 28)), .int (iI (o 29)), .int (iI (o 30)), .int (iI (o 31)), .int (iI (o 32)), .int (iI (o 33)), .ref 548, .ref 549, .ref 550, .ref 551, .int (iI (o 38)), .ref 552, .ref 553, .ref 554, .ref 555, .ref 556, .ref 557, .ref 558, .ref 559, .ref 560, .ref 561, .int (iI (o 49)), .ref 562, .ref 563, .ref 564, .ref 565, .ref 566, .ref 567, .ref 568, .ref 569, .int (iI (o 58)), .ref 570, .ref 571, .ref 572, .ref 573, .ref 574, .ref 575, .ref 576, .ref 577, .ref 578, .int (iI (o 68)), .int (iI (o 69)), .int (iI (o 70)), .ref 579]) rfl (pc' := 136) rfl (fun S218 h219 n220 e221 => ?_)
                refine T_vret xr_143_136 xf_143.2.2 ?_
                refine hQ _ _ ?_
                exact ⟨en + 1, 1, nm212, 1, 0, en, rfl, ⟨hp4, en, hm.symm, Or.inl ⟨by first | exact Or.inl (by omega) | exact Or.inr (Or.inl (by omega)) | exact Or.inr (Or.inr (fun k g1 g2 => absurd g2 (by omega))) | exact Or.inr (Or.inr (Classical.not_not.mp (by assumption))), rfl, rfl, rfl⟩⟩, rfl, fun h => absurd rfl h, by first | assumption | omega, h219, ((((X_Fr.rf).tr (X_Fr.mono ⟨hF39.1, hF39.2⟩ (fun q hq => by first | exact hq | (rcases hq with rfl <;> decide) | (rcases hq with rfl | rfl <;> decide) | (rcases hq with rfl | rfl | rfl <;> decide) | (rcases hq with rfl | rfl | rfl | rfl <;> decide) | (rcases hq with rfl | rfl | rfl | rfl | rfl <;> decide) | (rcases hq with rfl | rfl | rfl | rfl | rfl | rfl <;> decide) | (rcases hq with rfl | rfl | rfl | rfl | rfl | rfl | rfl <;> decide) | omega))).tr (X_Fr.of n206 e207 (by first | decide | exact ⟨Nat.le_add_right _ _, Nat.add_le_add_left (by decide) _⟩ | omega))).tr (X_Fr.mono ⟨hf216.1, hf216.2⟩ (fun q hq => by first | exact hq | (rcases hq with rfl <;> decide) | (rcases hq with rfl | rfl <;> decide) | (rcases hq with rfl | rfl | rfl <;> decide) | (rcases hq with rfl | rfl | rfl | rfl <;> decide) | (rcases hq with rfl | rfl | rfl | rfl | rfl <;> decide) | (rcases hq with rfl | rfl | rfl | rfl | rfl | rfl <;> decide) | (rcases hq with rfl | rfl | rfl | rfl | rfl | rfl | rfl <;> decide) | omega))).tr (X_Fr.of n220 e221 (by first | decide | exact ⟨Nat.le_add_right _ _, Nat.add_le_add_left (by decide) _⟩ | omega))⟩
              · skip
                have c203 : ¬ (9 ≤ ((en - (o 7)) - 1)) := c203
                refine T_p xr_143_100 xn_143 (pc' := 101) (ls' := [(2, .int (iI ((en - (o 7)) - 1))), (1, .int (iI (bI (¬ X_DA tb len (p + 1) en)))), (0, .ref 530)]) (st' := [.int (iI (bI (¬ X_DA tb len (p + 1) en))), .ref 530]) rfl ?_
                refine T_bif_eq xr_143_101 (t := 108) (pc' := 104) rfl rfl (fun c222 => ?_) (fun c222 => ?_)
                · skip
                  have c222 : ¬ (¬ X_DA tb len (p + 1) en) := c222
                  refine T_p xr_143_108 xn_143 (pc' := 109) (ls' := [(2, .int (iI ((en - (o 7)) - 1))), (1, .int (iI (bI (¬ X_DA tb len (p + 1) en)))), (0, .ref 530)]) (st' := [.int (iI 1), .ref 530]) rfl ?_
                  refine T_put xr_143_109 hM1 rfl (Nat.le_of_ble_eq_true rfl) rfl (fs' := [.ref 531, .int (iI (o 1)), .ref 532, .int (iI (o 3)), .int (iI (o 4)), .int (iI (o 5)), .int (iI (o 6)), .int (iI (o 7)), .int (iI en), .int (iI 1), .int (iI (o 10)), .int (iI (o 11)), .long nm, .ref 533, .ref 534, .ref 535, .ref 536, .ref 537, .ref 538, .ref 539, .ref 540, .ref 541, .ref 542, .ref 543, .ref 544, .ref 545, .ref 546, .ref 547, .int (iI (o 28)), .int (iI (o 29)), .int (iI (o 30)), .int (iI (o 31)), .int (iI (o 32)), .int (iI (o 33)), .ref 548, .ref 549, .ref 550, .ref 551, .int (iI (o 38)), .ref 552, .ref 553, .ref 554, .ref 555, .ref 556, .ref 557, .ref 558, .ref 559, .ref 560, .ref 561, .int (iI (o 49)), .ref 562, .ref 563, .ref 564, .ref 565, .ref 566, .ref 567, .ref 568, .ref 569, .int (iI (o 58)), .ref 570, .ref 571, .ref 572, .ref 573, .ref 574, .ref 575, .ref 576, .ref 577, .ref 578, .int (iI (o 68)), .int (iI (o 69)), .int (iI (o 70)), .ref 579]) rfl (pc' := 112) rfl (fun S223 h224 n225 e226 => ?_)
                  refine T_p xr_143_112 xn_143 (pc' := 113) (ls' := [(2, .int (iI ((en - (o 7)) - 1))), (1, .int (iI (bI (¬ X_DA tb len (p + 1) en)))), (0, .ref 530)]) (st' := [.ref 530]) rfl ?_
                  refine T_p xr_143_113 xn_143 (pc' := 114) (ls' := [(2, .int (iI ((en - (o 7)) - 1))), (1, .int (iI (bI (¬ X_DA tb len (p + 1) en)))), (0, .ref 530)]) (st' := [.ref 530, .ref 530]) rfl ?_
                  refine T_get xr_143_114 h224 rfl (v := .int (iI (o 7))) rfl (pc' := 117) rfl ?_
                  refine T_p xr_143_117 xn_143 (pc' := 118) (ls' := [(2, .int (iI ((en - (o 7)) - 1))), (1, .int (iI (bI (¬ X_DA tb len (p + 1) en)))), (0, .ref 530)]) (st' := [.int (iI 1), .int (iI (o 7)), .ref 530]) rfl ?_
                  refine T_ziadd xr_143_118 (z := (o 7) + 1) rfl (pc' := 119) rfl ?_
                  refine T_p xr_143_119 xn_143 (pc' := 120) (ls' := [(2, .int (iI ((en - (o 7)) - 1))), (1, .int (iI (bI (¬ X_DA tb len (p + 1) en)))), (0, .ref 530)]) (st' := [.ref 530, .int (iI ((o 7) + 1)), .ref 530]) rfl ?_
                  refine T_get xr_143_120 h224 rfl (v := .int (iI en)) rfl (pc' := 123) rfl ?_
                  refine T_cv (S := S223) (q := 530) xr_143_123 xf_142.1 xf_142.2.1 xn_142 (as := [.int (iI ((o 7) + 1)), .int (iI en)]) (r := []) rfl h224 (Nat.le_of_ble_eq_true rfl) (Nat.le_of_ble_eq_true rfl) (pc' := 126) rfl (ls' := [(0, .ref 530), (1, .int (iI ((o 7) + 1))), (2, .int (iI en))]) rfl ?_
                  have h227 := (n225 532 (by decide)).trans (h144)
                  refine T_mono (r_pack sc S223 (X_ou (X_ou o 8 en) 9 1) nm tx tb len ((o 7) + 1) en h224 h227 (show (o 3) = len from by first | assumption | omega) hl htx (by omega) (by omega)) (fun v228 S229 h230 => ?_)
                  rcases h230 with ⟨nm231, hv232, hp233, hM234, hf235⟩
                  rw [hv232]
                  have h236 : S229.1 530 = .inr (11, [.ref 531, .int (iI (o 1)), .ref 532, .int (iI (o 3)), .int (iI (o 4)), .int (iI (o 5)), .int (iI (o 6)), .int (iI (o 7)), .int (iI en), .int (iI 1), .int (iI (o 10)), .int (iI (o 11)), .long nm231, .ref 533, .ref 534, .ref 535, .ref 536, .ref 537, .ref 538, .ref 539, .ref 540, .ref 541, .ref 542, .ref 543, .ref 544, .ref 545, .ref 546, .ref 547, .int (iI (o 28)), .int (iI (o 29)), .int (iI (o 30)), .int (iI (o 31)), .int (iI (o 32)), .int (iI (o 33)), .ref 548, .ref 549, .ref 550, .ref 551, .int (iI (o 38)), .ref 552, .ref 553, .ref 554, .ref 555, .ref 556, .ref 557, .ref 558, .ref 559, .ref 560, .ref 561, .int (iI (o 49)), .ref 562, .ref 563, .ref 564, .ref 565, .ref 566, .ref 567, .ref 568, .ref 569, .int (iI (o 58)), .ref 570, .ref 571, .ref 572, .ref 573, .ref 574, .ref 575, .ref 576, .ref 577, .ref 578, .int (iI (o 68)), .int (iI (o 69)), .int (iI (o 70)), .ref 579]) := hM234
                  show X_T sc 143 (126, [(2, .int (iI ((en - (o 7)) - 1))), (1, .int (iI (bI (¬ X_DA tb len (p + 1) en)))), (0, .ref 530)], [], S229) _
                  refine T_p xr_143_126 xn_143 (pc' := 127) (ls' := [(2, .int (iI ((en - (o 7)) - 1))), (1, .int (iI (bI (¬ X_DA tb len (p + 1) en)))), (0, .ref 530)]) (st' := [.ref 530]) rfl ?_
                  refine T_p xr_143_127 xn_143 (pc' := 128) (ls' := [(2, .int (iI ((en - (o 7)) - 1))), (1, .int (iI (bI (¬ X_DA tb len (p + 1) en)))), (0, .ref 530)]) (st' := [.ref 530, .ref 530]) rfl ?_
                  refine T_get xr_143_128 h236 rfl (v := .int (iI en)) rfl (pc' := 131) rfl ?_
                  refine T_p xr_143_131 xn_143 (pc' := 132) (ls' := [(2, .int (iI ((en - (o 7)) - 1))), (1, .int (iI (bI (¬ X_DA tb len (p + 1) en)))), (0, .ref 530)]) (st' := [.int (iI 1), .int (iI en), .ref 530]) rfl ?_
                  refine T_ziadd xr_143_132 (z := en + 1) rfl (pc' := 133) rfl ?_
                  refine T_put xr_143_133 h236 rfl (Nat.le_of_ble_eq_true rfl) rfl (fs' := [.ref 531, .int (iI (o 1)), .ref 532, .int (iI (o 3)), .int (iI (o 4)), .int (iI (o 5)), .int (iI (o 6)), .int (iI (o 7)), .int (iI (en + 1)), .int (iI 1), .int (iI (o 10)), .int (iI (o 11)), .long nm231, .ref 533, .ref 534, .ref 535, .ref 536, .ref 537, .ref 538, .ref 539, .ref 540, .ref 541, .ref 542, .ref 543, .ref 544, .ref 545, .ref 546, .ref 547, .int (iI (o 28)), .int (iI (o 29)), .int (iI (o 30)), .int (iI (o 31)), .int (iI (o 32)), .int (iI (o 33)), .ref 548, .ref 549, .ref 550, .ref 551, .int (iI (o 38)), .ref 552, .ref 553, .ref 554, .ref 555, .ref 556, .ref 557, .ref 558, .ref 559, .ref 560, .ref 561, .int (iI (o 49)), .ref 562, .ref 563, .ref 564, .ref 565, .ref 566, .ref 567, .ref 568, .ref 569, .int (iI (o 58)), .ref 570, .ref 571, .ref 572, .ref 573, .ref 574, .ref 575, .ref 576, .ref 577, .ref 578, .int (iI (o 68)), .int (iI (o 69)), .int (iI (o 70)), .ref 579]) rfl (pc' := 136) rfl (fun S237 h238 n239 e240 => ?_)
                  refine T_vret xr_143_136 xf_143.2.2 ?_
                  refine hQ _ _ ?_
                  exact ⟨en + 1, 1, nm231, 1, 0, en, rfl, ⟨hp4, en, hm.symm, Or.inl ⟨by first | exact Or.inl (by omega) | exact Or.inr (Or.inl (by omega)) | exact Or.inr (Or.inr (fun k g1 g2 => absurd g2 (by omega))) | exact Or.inr (Or.inr (Classical.not_not.mp (by assumption))), rfl, rfl, rfl⟩⟩, rfl, fun h => absurd rfl h, by first | assumption | omega, h238, ((((X_Fr.rf).tr (X_Fr.mono ⟨hF39.1, hF39.2⟩ (fun q hq => by first | exact hq | (rcases hq with rfl <;> decide) | (rcases hq with rfl | rfl <;> decide) | (rcases hq with rfl | rfl | rfl <;> decide) | (rcases hq with rfl | rfl | rfl | rfl <;> decide) | (rcases hq with rfl | rfl | rfl | rfl | rfl <;> decide) | (rcases hq with rfl | rfl | rfl | rfl | rfl | rfl <;> decide) | (rcases hq with rfl | rfl | rfl | rfl | rfl | rfl | rfl <;> decide) | omega))).tr (X_Fr.of n225 e226 (by first | decide | exact ⟨Nat.le_add_right _ _, Nat.add_le_add_left (by decide) _⟩ | omega))).tr (X_Fr.mono ⟨hf235.1, hf235.2⟩ (fun q hq => by first | exact hq | (rcases hq with rfl <;> decide) | (rcases hq with rfl | rfl <;> decide) | (rcases hq with rfl | rfl | rfl <;> decide) | (rcases hq with rfl | rfl | rfl | rfl <;> decide) | (rcases hq with rfl | rfl | rfl | rfl | rfl <;> decide) | (rcases hq with rfl | rfl | rfl | rfl | rfl | rfl <;> decide) | (rcases hq with rfl | rfl | rfl | rfl | rfl | rfl | rfl <;> decide) | omega))).tr (X_Fr.of n239 e240 (by first | decide | exact ⟨Nat.le_add_right _ _, Nat.add_le_add_left (by decide) _⟩ | omega))⟩
                · skip
                  have c222 : (¬ X_DA tb len (p + 1) en) := c222
                  refine T_p xr_143_104 xn_143 (pc' := 105) (ls' := [(2, .int (iI ((en - (o 7)) - 1))), (1, .int (iI (bI (¬ X_DA tb len (p + 1) en)))), (0, .ref 530)]) (st' := [.int (iI 5), .ref 530]) rfl ?_
                  refine T_p xr_143_105 xn_143 (pc' := 109) (ls' := [(2, .int (iI ((en - (o 7)) - 1))), (1, .int (iI (bI (¬ X_DA tb len (p + 1) en)))), (0, .ref 530)]) (st' := [.int (iI 5), .ref 530]) rfl ?_
                  refine T_put xr_143_109 hM1 rfl (Nat.le_of_ble_eq_true rfl) rfl (fs' := [.ref 531, .int (iI (o 1)), .ref 532, .int (iI (o 3)), .int (iI (o 4)), .int (iI (o 5)), .int (iI (o 6)), .int (iI (o 7)), .int (iI en), .int (iI 5), .int (iI (o 10)), .int (iI (o 11)), .long nm, .ref 533, .ref 534, .ref 535, .ref 536, .ref 537, .ref 538, .ref 539, .ref 540, .ref 541, .ref 542, .ref 543, .ref 544, .ref 545, .ref 546, .ref 547, .int (iI (o 28)), .int (iI (o 29)), .int (iI (o 30)), .int (iI (o 31)), .int (iI (o 32)), .int (iI (o 33)), .ref 548, .ref 549, .ref 550, .ref 551, .int (iI (o 38)), .ref 552, .ref 553, .ref 554, .ref 555, .ref 556, .ref 557, .ref 558, .ref 559, .ref 560, .ref 561, .int (iI (o 49)), .ref 562, .ref 563, .ref 564, .ref 565, .ref 566, .ref 567, .ref 568, .ref 569, .int (iI (o 58)), .ref 570, .ref 571, .ref 572, .ref 573, .ref 574, .ref 575, .ref 576, .ref 577, .ref 578, .int (iI (o 68)), .int (iI (o 69)), .int (iI (o 70)), .ref 579]) rfl (pc' := 112) rfl (fun S241 h242 n243 e244 => ?_)
                  refine T_p xr_143_112 xn_143 (pc' := 113) (ls' := [(2, .int (iI ((en - (o 7)) - 1))), (1, .int (iI (bI (¬ X_DA tb len (p + 1) en)))), (0, .ref 530)]) (st' := [.ref 530]) rfl ?_
                  refine T_p xr_143_113 xn_143 (pc' := 114) (ls' := [(2, .int (iI ((en - (o 7)) - 1))), (1, .int (iI (bI (¬ X_DA tb len (p + 1) en)))), (0, .ref 530)]) (st' := [.ref 530, .ref 530]) rfl ?_
                  refine T_get xr_143_114 h242 rfl (v := .int (iI (o 7))) rfl (pc' := 117) rfl ?_
                  refine T_p xr_143_117 xn_143 (pc' := 118) (ls' := [(2, .int (iI ((en - (o 7)) - 1))), (1, .int (iI (bI (¬ X_DA tb len (p + 1) en)))), (0, .ref 530)]) (st' := [.int (iI 1), .int (iI (o 7)), .ref 530]) rfl ?_
                  refine T_ziadd xr_143_118 (z := (o 7) + 1) rfl (pc' := 119) rfl ?_
                  refine T_p xr_143_119 xn_143 (pc' := 120) (ls' := [(2, .int (iI ((en - (o 7)) - 1))), (1, .int (iI (bI (¬ X_DA tb len (p + 1) en)))), (0, .ref 530)]) (st' := [.ref 530, .int (iI ((o 7) + 1)), .ref 530]) rfl ?_
                  refine T_get xr_143_120 h242 rfl (v := .int (iI en)) rfl (pc' := 123) rfl ?_
                  refine T_cv (S := S241) (q := 530) xr_143_123 xf_142.1 xf_142.2.1 xn_142 (as := [.int (iI ((o 7) + 1)), .int (iI en)]) (r := []) rfl h242 (Nat.le_of_ble_eq_true rfl) (Nat.le_of_ble_eq_true rfl) (pc' := 126) rfl (ls' := [(0, .ref 530), (1, .int (iI ((o 7) + 1))), (2, .int (iI en))]) rfl ?_
                  have h245 := (n243 532 (by decide)).trans (h144)
                  refine T_mono (r_pack sc S241 (X_ou (X_ou o 8 en) 9 5) nm tx tb len ((o 7) + 1) en h242 h245 (show (o 3) = len from by first | assumption | omega) hl htx (by omega) (by omega)) (fun v246 S247 h248 => ?_)
                  rcases h248 with ⟨nm249, hv250, hp251, hM252, hf253⟩
                  rw [hv250]
                  have h254 : S247.1 530 = .inr (11, [.ref 531, .int (iI (o 1)), .ref 532, .int (iI (o 3)), .int (iI (o 4)), .int (iI (o 5)), .int (iI (o 6)), .int (iI (o 7)), .int (iI en), .int (iI 5), .int (iI (o 10)), .int (iI (o 11)), .long nm249, .ref 533, .ref 534, .ref 535, .ref 536, .ref 537, .ref 538, .ref 539, .ref 540, .ref 541, .ref 542, .ref 543, .ref 544, .ref 545, .ref 546, .ref 547, .int (iI (o 28)), .int (iI (o 29)), .int (iI (o 30)), .int (iI (o 31)), .int (iI (o 32)), .int (iI (o 33)), .ref 548, .ref 549, .ref 550, .ref 551, .int (iI (o 38)), .ref 552, .ref 553, .ref 554, .ref 555, .ref 556, .ref 557, .ref 558, .ref 559, .ref 560, .ref 561, .int (iI (o 49)), .ref 562, .ref 563, .ref 564, .ref 565, .ref 566, .ref 567, .ref 568, .ref 569, .int (iI (o 58)), .ref 570, .ref 571, .ref 572, .ref 573, .ref 574, .ref 575, .ref 576, .ref 577, .ref 578, .int (iI (o 68)), .int (iI (o 69)), .int (iI (o 70)), .ref 579]) := hM252
                  show X_T sc 143 (126, [(2, .int (iI ((en - (o 7)) - 1))), (1, .int (iI (bI (¬ X_DA tb len (p + 1) en)))), (0, .ref 530)], [], S247) _
                  refine T_p xr_143_126 xn_143 (pc' := 127) (ls' := [(2, .int (iI ((en - (o 7)) - 1))), (1, .int (iI (bI (¬ X_DA tb len (p + 1) en)))), (0, .ref 530)]) (st' := [.ref 530]) rfl ?_
                  refine T_p xr_143_127 xn_143 (pc' := 128) (ls' := [(2, .int (iI ((en - (o 7)) - 1))), (1, .int (iI (bI (¬ X_DA tb len (p + 1) en)))), (0, .ref 530)]) (st' := [.ref 530, .ref 530]) rfl ?_
                  refine T_get xr_143_128 h254 rfl (v := .int (iI en)) rfl (pc' := 131) rfl ?_
                  refine T_p xr_143_131 xn_143 (pc' := 132) (ls' := [(2, .int (iI ((en - (o 7)) - 1))), (1, .int (iI (bI (¬ X_DA tb len (p + 1) en)))), (0, .ref 530)]) (st' := [.int (iI 1), .int (iI en), .ref 530]) rfl ?_
                  refine T_ziadd xr_143_132 (z := en + 1) rfl (pc' := 133) rfl ?_
                  refine T_put xr_143_133 h254 rfl (Nat.le_of_ble_eq_true rfl) rfl (fs' := [.ref 531, .int (iI (o 1)), .ref 532, .int (iI (o 3)), .int (iI (o 4)), .int (iI (o 5)), .int (iI (o 6)), .int (iI (o 7)), .int (iI (en + 1)), .int (iI 5), .int (iI (o 10)), .int (iI (o 11)), .long nm249, .ref 533, .ref 534, .ref 535, .ref 536, .ref 537, .ref 538, .ref 539, .ref 540, .ref 541, .ref 542, .ref 543, .ref 544, .ref 545, .ref 546, .ref 547, .int (iI (o 28)), .int (iI (o 29)), .int (iI (o 30)), .int (iI (o 31)), .int (iI (o 32)), .int (iI (o 33)), .ref 548, .ref 549, .ref 550, .ref 551, .int (iI (o 38)), .ref 552, .ref 553, .ref 554, .ref 555, .ref 556, .ref 557, .ref 558, .ref 559, .ref 560, .ref 561, .int (iI (o 49)), .ref 562, .ref 563, .ref 564, .ref 565, .ref 566, .ref 567, .ref 568, .ref 569, .int (iI (o 58)), .ref 570, .ref 571, .ref 572, .ref 573, .ref 574, .ref 575, .ref 576, .ref 577, .ref 578, .int (iI (o 68)), .int (iI (o 69)), .int (iI (o 70)), .ref 579]) rfl (pc' := 136) rfl (fun S255 h256 n257 e258 => ?_)
                  refine T_vret xr_143_136 xf_143.2.2 ?_
                  refine hQ _ _ ?_
                  refine ⟨en + 1, 5, nm249, 6, nm249, en + 1, rfl, ?_, rfl, ?_, by first | assumption | omega, h256, ((((X_Fr.rf).tr (X_Fr.mono ⟨hF39.1, hF39.2⟩ (fun q hq => by first | exact hq | (rcases hq with rfl <;> decide) | (rcases hq with rfl | rfl <;> decide) | (rcases hq with rfl | rfl | rfl <;> decide) | (rcases hq with rfl | rfl | rfl | rfl <;> decide) | (rcases hq with rfl | rfl | rfl | rfl | rfl <;> decide) | (rcases hq with rfl | rfl | rfl | rfl | rfl | rfl <;> decide) | (rcases hq with rfl | rfl | rfl | rfl | rfl | rfl | rfl <;> decide) | omega))).tr (X_Fr.of n243 e244 (by first | decide | exact ⟨Nat.le_add_right _ _, Nat.add_le_add_left (by decide) _⟩ | omega))).tr (X_Fr.mono ⟨hf253.1, hf253.2⟩ (fun q hq => by first | exact hq | (rcases hq with rfl <;> decide) | (rcases hq with rfl | rfl <;> decide) | (rcases hq with rfl | rfl | rfl <;> decide) | (rcases hq with rfl | rfl | rfl | rfl <;> decide) | (rcases hq with rfl | rfl | rfl | rfl | rfl <;> decide) | (rcases hq with rfl | rfl | rfl | rfl | rfl | rfl <;> decide) | (rcases hq with rfl | rfl | rfl | rfl | rfl | rfl | rfl <;> decide) | omega))).tr (X_Fr.of n257 e258 (by first | decide | exact ⟨Nat.le_add_right _ _, Nat.add_le_add_left (by decide) _⟩ | omega))⟩
                  · refine ⟨hp4, en, hm.symm, Or.inr ⟨by omega, by omega, by assumption, rfl, ?_, rfl⟩⟩
                    have h9 := hp251 (by omega)
                    rw [hp1] at h9
                    exact h9
                  · intro _
                    exact ⟨rfl, rfl⟩
        · skip
          have c157 : (X_isPB (X_sg tb len en)) := c157
          have J259 : X_T sc 143 (50, [(1, .int (iI (bI (¬ X_DA tb len (p + 1) en)))), (0, .ref 530)], [.int (iI (bI (¬ X_DA tb len (p + 1) (en + 1))))], S40) Q := by
            refine T_p xr_143_50 xn_143 (pc' := 51) (ls' := [(1, .int (iI (bI (¬ X_DA tb len (p + 1) (en + 1))))), (0, .ref 530)]) (st' := []) rfl ?_
            refine T_p xr_143_51 xn_143 (pc' := 52) (ls' := [(1, .int (iI (bI (¬ X_DA tb len (p + 1) (en + 1))))), (0, .ref 530)]) (st' := [.ref 530]) rfl ?_
            refine T_p xr_143_52 xn_143 (pc' := 53) (ls' := [(1, .int (iI (bI (¬ X_DA tb len (p + 1) (en + 1))))), (0, .ref 530)]) (st' := [.ref 530, .ref 530]) rfl ?_
            refine T_get xr_143_53 hM1 rfl (v := .int (iI en)) rfl (pc' := 56) rfl ?_
            refine T_p xr_143_56 xn_143 (pc' := 57) (ls' := [(1, .int (iI (bI (¬ X_DA tb len (p + 1) (en + 1))))), (0, .ref 530)]) (st' := [.int (iI 1), .int (iI en), .ref 530]) rfl ?_
            refine T_ziadd xr_143_57 (z := en + 1) rfl (pc' := 58) rfl ?_
            refine T_put xr_143_58 hM1 rfl (Nat.le_of_ble_eq_true rfl) rfl (fs' := [.ref 531, .int (iI (o 1)), .ref 532, .int (iI (o 3)), .int (iI (o 4)), .int (iI (o 5)), .int (iI (o 6)), .int (iI (o 7)), .int (iI (en + 1)), .int (iI (o 9)), .int (iI (o 10)), .int (iI (o 11)), .long nm, .ref 533, .ref 534, .ref 535, .ref 536, .ref 537, .ref 538, .ref 539, .ref 540, .ref 541, .ref 542, .ref 543, .ref 544, .ref 545, .ref 546, .ref 547, .int (iI (o 28)), .int (iI (o 29)), .int (iI (o 30)), .int (iI (o 31)), .int (iI (o 32)), .int (iI (o 33)), .ref 548, .ref 549, .ref 550, .ref 551, .int (iI (o 38)), .ref 552, .ref 553, .ref 554, .ref 555, .ref 556, .ref 557, .ref 558, .ref 559, .ref 560, .ref 561, .int (iI (o 49)), .ref 562, .ref 563, .ref 564, .ref 565, .ref 566, .ref 567, .ref 568, .ref 569, .int (iI (o 58)), .ref 570, .ref 571, .ref 572, .ref 573, .ref 574, .ref 575, .ref 576, .ref 577, .ref 578, .int (iI (o 68)), .int (iI (o 69)), .int (iI (o 70)), .ref 579]) rfl (pc' := 61) rfl (fun S260 h261 n262 e263 => ?_)
            refine T_p xr_143_61 xn_143 (pc' := 2) (ls' := [(1, .int (iI (bI (¬ X_DA tb len (p + 1) (en + 1))))), (0, .ref 530)]) (st' := []) rfl ?_
            exact ih36 S260 (en + 1) h261 (hF39.tr ((X_Fr.rf).tr (X_Fr.of n262 e263 (by first | decide | exact ⟨Nat.le_add_right _ _, Nat.add_le_add_left (by decide) _⟩ | omega)))) (by omega) ((X_se_go (by omega) (X_sg_B.mp (by assumption)).2).symm.trans hse) (by omega)
          refine T_p xr_143_27 xn_143 (pc' := 28) (ls' := [(1, .int (iI (bI (¬ X_DA tb len (p + 1) en)))), (0, .ref 530)]) (st' := [.int (iI (bI (¬ X_DA tb len (p + 1) en)))]) rfl ?_
          refine T_bif_ne xr_143_28 (t := 45) (pc' := 31) rfl rfl (fun c264 => ?_) (fun c264 => ?_)
          · skip
            have c264 : (¬ X_DA tb len (p + 1) en) := c264
            refine T_p xr_143_45 xn_143 (pc' := 46) (ls' := [(1, .int (iI (bI (¬ X_DA tb len (p + 1) en)))), (0, .ref 530)]) (st' := [.int (iI 1)]) rfl ?_
            refine T_p xr_143_46 xn_143 (pc' := 50) (ls' := [(1, .int (iI (bI (¬ X_DA tb len (p + 1) en)))), (0, .ref 530)]) (st' := [.int (iI 1)]) rfl ?_
            refine T_ie (y := iI (bI (¬ X_DA tb len (p + 1) (en + 1)))) (by rw [bI_t (by first | (intro h; exact absurd (show X_DA tb len (p + 1) en from fun k h1 h2 => h k h1 (by omega)) (by assumption)) | (intro h; exact absurd (X_sg_D.mpr ⟨by omega, h en (by omega) (by omega)⟩) (by assumption)))]) ?_
            exact J259
          · skip
            have c264 : ¬ (¬ X_DA tb len (p + 1) en) := c264
            refine T_p xr_143_31 xn_143 (pc' := 32) (ls' := [(1, .int (iI (bI (¬ X_DA tb len (p + 1) en)))), (0, .ref 530)]) (st' := [.ref 530]) rfl ?_
            refine T_p xr_143_32 xn_143 (pc' := 33) (ls' := [(1, .int (iI (bI (¬ X_DA tb len (p + 1) en)))), (0, .ref 530)]) (st' := [.ref 530, .ref 530]) rfl ?_
            refine T_get xr_143_33 hM1 rfl (v := .int (iI en)) rfl (pc' := 36) rfl ?_
            refine T_cv (S := S40) (q := 530) xr_143_36 xf_136.1 xf_136.2.1 xn_136 (as := [.int (iI en)]) (r := []) rfl hM1 (Nat.le_of_ble_eq_true rfl) (Nat.le_of_ble_eq_true rfl) (pc' := 39) rfl (ls' := [(0, .ref 530), (1, .int (iI en))]) rfl ?_
            refine T_mono (r_sign sc S40 (X_ou o 8 en) nm tx tb len en hM1 h144 (show (o 3) = len from by first | assumption | omega) hl htx (by omega)) (fun v265 S266 h267 => ?_)
            rcases h267 with ⟨hv268, hf269⟩
            rw [hv268]
            rw [hf269]
            have hg270 := X_sg_r (tb := tb) (len := len) (k := en) (by omega)
            have hg271 := X_sg_c (tb := tb) (len := len) (k := en)
            show X_T sc 143 (39, [(1, .int (iI (bI (¬ X_DA tb len (p + 1) en)))), (0, .ref 530)], [.int (iI (X_sg tb len en))], S40) _
            refine T_cs xr_143_39 (by decide) xf_138.1 xn_138 (as := [.int (iI (X_sg tb len en))]) (r := []) rfl (Nat.le_of_ble_eq_true rfl) (Nat.le_of_ble_eq_true rfl) (pc' := 42) rfl (ls' := [(0, .int (iI (X_sg tb len en)))]) rfl ?_
            refine T_mono (r_isDigit sc S40 (X_sg tb len en) (by omega)) (fun v272 S273 h274 => ?_)
            rcases h274 with ⟨hv275, hf276⟩
            rw [hv275]
            rw [hf276]
            show X_T sc 143 (42, [(1, .int (iI (bI (¬ X_DA tb len (p + 1) en)))), (0, .ref 530)], [.int (iI (bI (X_isD (X_sg tb len en))))], S40) _
            refine T_bif_ne xr_143_42 (t := 49) (pc' := 45) rfl rfl (fun c277 => ?_) (fun c277 => ?_)
            · skip
              have c277 : (X_isD (X_sg tb len en)) := c277
              refine T_p xr_143_49 xn_143 (pc' := 50) (ls' := [(1, .int (iI (bI (¬ X_DA tb len (p + 1) en)))), (0, .ref 530)]) (st' := [.int (iI 0)]) rfl ?_
              refine T_ie (y := iI (bI (¬ X_DA tb len (p + 1) (en + 1)))) (by rw [bI_f (by exact fun z => z (X_DA_go (Classical.not_not.mp (by assumption)) (X_sg_D.mp (by assumption)).2))]) ?_
              exact J259
            · skip
              have c277 : ¬ (X_isD (X_sg tb len en)) := c277
              refine T_p xr_143_45 xn_143 (pc' := 46) (ls' := [(1, .int (iI (bI (¬ X_DA tb len (p + 1) en)))), (0, .ref 530)]) (st' := [.int (iI 1)]) rfl ?_
              refine T_p xr_143_46 xn_143 (pc' := 50) (ls' := [(1, .int (iI (bI (¬ X_DA tb len (p + 1) en)))), (0, .ref 530)]) (st' := [.int (iI 1)]) rfl ?_
              refine T_ie (y := iI (bI (¬ X_DA tb len (p + 1) (en + 1)))) (by rw [bI_t (by first | (intro h; exact absurd (show X_DA tb len (p + 1) en from fun k h1 h2 => h k h1 (by omega)) (by assumption)) | (intro h; exact absurd (X_sg_D.mpr ⟨by omega, h en (by omega) (by omega)⟩) (by assumption)))]) ?_
              exact J259
  exact L35 (len + 1).toNat S (o 8) hM ((X_Fr.rf)) (by omega) (by rw [hp2]) (by omega)
theorem r_next (sc : X_Sc) (S : X_S) (o : Nat → Int) (nm : Int64) (tx : Int → Int) (tb : Int → Int) (len : Int) (hM : M_o S o nm) (hA532 : S.1 532 = .inl (.byte, 2000, .inl fun k : Nat => iI (tx (k : Int)))) (hlen : o 3 = len) (hl : 0 ≤ len ∧ len ≤ 2000) (htx : ∀ k, 0 ≤ k → k < len → tx k = tb k) (he : 0 ≤ o 8 ∧ o 8 ≤ len) : X_T sc 141 (0, [(0, .ref 530)], [], S) (fun v S' => ∃ (at1 : Int) (en1 : Int) (tk1 : Int) (nu1 : Int) (dg1 : Int) (nm1 : Int64) (r1 : Int) (ct1 : Int64) (e1 : Int), v = none ∧ at1 = X_se X_isBl tb len (o 8) ∧ X_Tok tb len at1 r1 ct1 e1 ∧ tk1 = X_rk r1 ∧ (¬ r1 = 1 → en1 = e1) ∧ ((r1 = 2 ∨ r1 = 3 ∨ r1 = 6) → nm1 = ct1) ∧ ((r1 = 4 ∨ r1 = 5) → ct1 = iL nu1 ∧ (dg1 = 1 ↔ r1 = 5) ∧ (1 ≤ dg1 ∧ dg1 ≤ 9) ∧ 0 ≤ nu1 ∧ nu1 ≤ 999999999) ∧ (0 ≤ en1 ∧ en1 ≤ len + 1) ∧ M_o S' (X_ou (X_ou (X_ou (X_ou (X_ou o 7 at1) 8 en1) 9 tk1) 10 nu1) 11 dg1) nm1 ∧ X_Fr (fun q => q = 530) S S') := by
  refine X_QI (fun Q hQ => ?_)
  refine T_p xr_141_0 xn_141 (pc' := 1) (ls' := [(0, .ref 530)]) (st' := [.ref 530]) rfl ?_
  refine T_p xr_141_1 xn_141 (pc' := 2) (ls' := [(0, .ref 530)]) (st' := [.ref 530, .ref 530]) rfl ?_
  refine T_get xr_141_2 hM rfl (v := .int (iI (o 8))) rfl (pc' := 5) rfl ?_
  refine T_put xr_141_5 hM rfl (Nat.le_of_ble_eq_true rfl) rfl (fs' := [.ref 531, .int (iI (o 1)), .ref 532, .int (iI (o 3)), .int (iI (o 4)), .int (iI (o 5)), .int (iI (o 6)), .int (iI (o 8)), .int (iI (o 8)), .int (iI (o 9)), .int (iI (o 10)), .int (iI (o 11)), .long nm, .ref 533, .ref 534, .ref 535, .ref 536, .ref 537, .ref 538, .ref 539, .ref 540, .ref 541, .ref 542, .ref 543, .ref 544, .ref 545, .ref 546, .ref 547, .int (iI (o 28)), .int (iI (o 29)), .int (iI (o 30)), .int (iI (o 31)), .int (iI (o 32)), .int (iI (o 33)), .ref 548, .ref 549, .ref 550, .ref 551, .int (iI (o 38)), .ref 552, .ref 553, .ref 554, .ref 555, .ref 556, .ref 557, .ref 558, .ref 559, .ref 560, .ref 561, .int (iI (o 49)), .ref 562, .ref 563, .ref 564, .ref 565, .ref 566, .ref 567, .ref 568, .ref 569, .int (iI (o 58)), .ref 570, .ref 571, .ref 572, .ref 573, .ref 574, .ref 575, .ref 576, .ref 577, .ref 578, .int (iI (o 68)), .int (iI (o 69)), .int (iI (o 70)), .ref 579]) rfl (pc' := 8) rfl (fun S278 h279 n280 e281 => ?_)
  have L282 : ∀ (m284 : Nat) (S287 : X_S) (at_ : Int) (hM1 : S287.1 530 = .inr (11, [.ref 531, .int (iI (o 1)), .ref 532, .int (iI (o 3)), .int (iI (o 4)), .int (iI (o 5)), .int (iI (o 6)), .int (iI at_), .int (iI (o 8)), .int (iI (o 9)), .int (iI (o 10)), .int (iI (o 11)), .long nm, .ref 533, .ref 534, .ref 535, .ref 536, .ref 537, .ref 538, .ref 539, .ref 540, .ref 541, .ref 542, .ref 543, .ref 544, .ref 545, .ref 546, .ref 547, .int (iI (o 28)), .int (iI (o 29)), .int (iI (o 30)), .int (iI (o 31)), .int (iI (o 32)), .int (iI (o 33)), .ref 548, .ref 549, .ref 550, .ref 551, .int (iI (o 38)), .ref 552, .ref 553, .ref 554, .ref 555, .ref 556, .ref 557, .ref 558, .ref 559, .ref 560, .ref 561, .int (iI (o 49)), .ref 562, .ref 563, .ref 564, .ref 565, .ref 566, .ref 567, .ref 568, .ref 569, .int (iI (o 58)), .ref 570, .ref 571, .ref 572, .ref 573, .ref 574, .ref 575, .ref 576, .ref 577, .ref 578, .int (iI (o 68)), .int (iI (o 69)), .int (iI (o 70)), .ref 579])) (hF286 : X_Fr (fun q => q = 530) S278 S287) (hat : o 8 ≤ at_ ∧ at_ ≤ len) (hse0 : X_se X_isBl tb len at_ = X_se X_isBl tb len (o 8)) (hm285 : len - at_ < m284), X_T sc 141 (8, [(0, .ref 530)], [], S287) Q := by
    intro m284
    induction m284 with
    | zero =>
      intro S287 at_ hM1 hF286 hat hse0 hm285
      exact (show False by omega).elim
    | succ m284 ih283 =>
      intro S287 at_ hM1 hF286 hat hse0 hm285
      refine T_p xr_141_8 xn_141 (pc' := 9) (ls' := [(0, .ref 530)]) (st' := [.ref 530]) rfl ?_
      refine T_get xr_141_9 hM1 rfl (v := .int (iI at_)) rfl (pc' := 12) rfl ?_
      refine T_p xr_141_12 xn_141 (pc' := 13) (ls' := [(0, .ref 530)]) (st' := [.ref 530, .int (iI at_)]) rfl ?_
      refine T_get xr_141_13 hM1 rfl (v := .int (iI (o 3))) rfl (pc' := 16) rfl ?_
      refine T_zicmp_ge xr_141_16 (t := 58) (pc' := 19) rfl rfl (fun c288 => ?_) (fun c288 => ?_)
      · skip
        have c288 : (o 3) ≤ at_ := c288
        have hp : at_ = X_se X_isBl tb len (o 8) := (X_se_no (by first | (intro h; omega) | (rintro ⟨h1, h2⟩; unfold X_isBl at h2; omega))).symm.trans hse0
        refine T_p xr_141_58 xn_141 (pc' := 59) (ls' := [(0, .ref 530)]) (st' := [.ref 530]) rfl ?_
        refine T_p xr_141_59 xn_141 (pc' := 60) (ls' := [(0, .ref 530)]) (st' := [.ref 530, .ref 530]) rfl ?_
        refine T_get xr_141_60 hM1 rfl (v := .int (iI at_)) rfl (pc' := 63) rfl ?_
        refine T_cv (S := S287) (q := 530) xr_141_63 xf_136.1 xf_136.2.1 xn_136 (as := [.int (iI at_)]) (r := []) rfl hM1 (Nat.le_of_ble_eq_true rfl) (Nat.le_of_ble_eq_true rfl) (pc' := 66) rfl (ls' := [(0, .ref 530), (1, .int (iI at_))]) rfl ?_
        have h289 := (hF286.1 532 (by first | decide | omega)).trans ((n280 532 (by decide)).trans (hA532))
        refine T_mono (r_sign sc S287 (X_ou o 7 at_) nm tx tb len at_ hM1 h289 (show (o 3) = len from by first | assumption | omega) hl htx (by omega)) (fun v290 S291 h292 => ?_)
        rcases h292 with ⟨hv293, hf294⟩
        rw [hv293]
        rw [hf294]
        have hg295 := X_sg_r (tb := tb) (len := len) (k := at_) (by omega)
        have hg296 := X_sg_c (tb := tb) (len := len) (k := at_)
        show X_T sc 141 (66, [(0, .ref 530)], [.int (iI (X_sg tb len at_))], S287) _
        refine T_p xr_141_66 xn_141 (pc' := 67) (ls' := [(1, .int (iI (X_sg tb len at_))), (0, .ref 530)]) (st' := []) rfl ?_
        refine T_p xr_141_67 xn_141 (pc' := 68) (ls' := [(1, .int (iI (X_sg tb len at_))), (0, .ref 530)]) (st' := [.ref 530]) rfl ?_
        refine T_p xr_141_68 xn_141 (pc' := 69) (ls' := [(1, .int (iI (X_sg tb len at_))), (0, .ref 530)]) (st' := [.ref 530, .ref 530]) rfl ?_
        refine T_get xr_141_69 hM1 rfl (v := .int (iI at_)) rfl (pc' := 72) rfl ?_
        refine T_p xr_141_72 xn_141 (pc' := 73) (ls' := [(1, .int (iI (X_sg tb len at_))), (0, .ref 530)]) (st' := [.int (iI 1), .int (iI at_), .ref 530]) rfl ?_
        refine T_ziadd xr_141_73 (z := at_ + 1) rfl (pc' := 74) rfl ?_
        refine T_put xr_141_74 hM1 rfl (Nat.le_of_ble_eq_true rfl) rfl (fs' := [.ref 531, .int (iI (o 1)), .ref 532, .int (iI (o 3)), .int (iI (o 4)), .int (iI (o 5)), .int (iI (o 6)), .int (iI at_), .int (iI (at_ + 1)), .int (iI (o 9)), .int (iI (o 10)), .int (iI (o 11)), .long nm, .ref 533, .ref 534, .ref 535, .ref 536, .ref 537, .ref 538, .ref 539, .ref 540, .ref 541, .ref 542, .ref 543, .ref 544, .ref 545, .ref 546, .ref 547, .int (iI (o 28)), .int (iI (o 29)), .int (iI (o 30)), .int (iI (o 31)), .int (iI (o 32)), .int (iI (o 33)), .ref 548, .ref 549, .ref 550, .ref 551, .int (iI (o 38)), .ref 552, .ref 553, .ref 554, .ref 555, .ref 556, .ref 557, .ref 558, .ref 559, .ref 560, .ref 561, .int (iI (o 49)), .ref 562, .ref 563, .ref 564, .ref 565, .ref 566, .ref 567, .ref 568, .ref 569, .int (iI (o 58)), .ref 570, .ref 571, .ref 572, .ref 573, .ref 574, .ref 575, .ref 576, .ref 577, .ref 578, .int (iI (o 68)), .int (iI (o 69)), .int (iI (o 70)), .ref 579]) rfl (pc' := 77) rfl (fun S297 h298 n299 e300 => ?_)
        refine T_p xr_141_77 xn_141 (pc' := 78) (ls' := [(1, .int (iI (X_sg tb len at_))), (0, .ref 530)]) (st' := [.ref 530]) rfl ?_
        refine T_get xr_141_78 h298 rfl (v := .int (iI at_)) rfl (pc' := 81) rfl ?_
        refine T_p xr_141_81 xn_141 (pc' := 82) (ls' := [(1, .int (iI (X_sg tb len at_))), (0, .ref 530)]) (st' := [.ref 530, .int (iI at_)]) rfl ?_
        refine T_get xr_141_82 h298 rfl (v := .int (iI (o 3))) rfl (pc' := 85) rfl ?_
        refine T_zicmp_lt xr_141_85 (t := 112) (pc' := 88) rfl rfl (fun c301 => ?_) (fun c301 => ?_)
        · skip
          have c301 : at_ < (o 3) := c301
          refine T_p xr_141_112 xn_141 (pc' := 113) (ls' := [(1, .int (iI (X_sg tb len at_))), (0, .ref 530)]) (st' := [.int (iI (X_sg tb len at_))]) rfl ?_
          refine T_cs xr_141_113 (by decide) xf_137.1 xn_137 (as := [.int (iI (X_sg tb len at_))]) (r := []) rfl (Nat.le_of_ble_eq_true rfl) (Nat.le_of_ble_eq_true rfl) (pc' := 116) rfl (ls' := [(0, .int (iI (X_sg tb len at_)))]) rfl ?_
          refine T_mono (r_isLetter sc S297 (X_sg tb len at_) (by omega)) (fun v302 S303 h304 => ?_)
          rcases h304 with ⟨hv305, hf306⟩
          rw [hv305]
          rw [hf306]
          show X_T sc 141 (116, [(1, .int (iI (X_sg tb len at_))), (0, .ref 530)], [.int (iI (bI (X_isL (X_sg tb len at_))))], S297) _
          refine T_bif_eq xr_141_116 (t := 289) (pc' := 119) rfl rfl (fun c307 => ?_) (fun c307 => ?_)
          · skip
            have c307 : ¬ (X_isL (X_sg tb len at_)) := c307
            refine T_p xr_141_289 xn_141 (pc' := 290) (ls' := [(1, .int (iI (X_sg tb len at_))), (0, .ref 530)]) (st' := [.int (iI (X_sg tb len at_))]) rfl ?_
            refine T_cs xr_141_290 (by decide) xf_138.1 xn_138 (as := [.int (iI (X_sg tb len at_))]) (r := []) rfl (Nat.le_of_ble_eq_true rfl) (Nat.le_of_ble_eq_true rfl) (pc' := 293) rfl (ls' := [(0, .int (iI (X_sg tb len at_)))]) rfl ?_
            refine T_mono (r_isDigit sc S297 (X_sg tb len at_) (by omega)) (fun v308 S309 h310 => ?_)
            rcases h310 with ⟨hv311, hf312⟩
            rw [hv311]
            rw [hf312]
            show X_T sc 141 (293, [(1, .int (iI (X_sg tb len at_))), (0, .ref 530)], [.int (iI (bI (X_isD (X_sg tb len at_))))], S297) _
            refine T_bif_eq xr_141_293 (t := 421) (pc' := 296) rfl rfl (fun c313 => ?_) (fun c313 => ?_)
            · skip
              have c313 : ¬ (X_isD (X_sg tb len at_)) := c313
              refine T_p xr_141_421 xn_141 (pc' := 422) (ls' := [(1, .int (iI (X_sg tb len at_))), (0, .ref 530)]) (st' := [.int (iI (X_sg tb len at_))]) rfl ?_
              refine T_p xr_141_422 xn_141 (pc' := 424) (ls' := [(1, .int (iI (X_sg tb len at_))), (0, .ref 530)]) (st' := [.int (iI 34), .int (iI (X_sg tb len at_))]) rfl ?_
              refine T_zicmp_ne xr_141_424 (t := 434) (pc' := 427) rfl rfl (fun c314 => ?_) (fun c314 => ?_)
              · skip
                have c314 : ¬ (X_sg tb len at_) = 34 := c314
                refine T_p xr_141_434 xn_141 (pc' := 435) (ls' := [(1, .int (iI (X_sg tb len at_))), (0, .ref 530)]) (st' := [.int (iI (X_sg tb len at_))]) rfl ?_
                refine T_p xr_141_435 xn_141 (pc' := 437) (ls' := [(1, .int (iI (X_sg tb len at_))), (0, .ref 530)]) (st' := [.int (iI 95), .int (iI (X_sg tb len at_))]) rfl ?_
                refine T_zicmp_ne xr_141_437 (t := 481) (pc' := 440) rfl rfl (fun c315 => ?_) (fun c315 => ?_)
                · skip
                  have c315 : ¬ (X_sg tb len at_) = 95 := c315
                  refine T_p xr_141_481 xn_141 (pc' := 482) (ls' := [(1, .int (iI (X_sg tb len at_))), (0, .ref 530)]) (st' := [.ref 530]) rfl ?_
                  refine T_p xr_141_482 xn_141 (pc' := 483) (ls' := [(1, .int (iI (X_sg tb len at_))), (0, .ref 530)]) (st' := [.int (iI (X_sg tb len at_)), .ref 530]) rfl ?_
                  refine T_p xr_141_483 xn_141 (pc' := 485) (ls' := [(1, .int (iI (X_sg tb len at_))), (0, .ref 530)]) (st' := [.int (iI 59), .int (iI (X_sg tb len at_)), .ref 530]) rfl ?_
                  refine T_zicmp_eq xr_141_485 (t := 542) (pc' := 488) rfl rfl (fun c316 => ?_) (fun c316 => ?_)
                  · skip
                    have c316 : (X_sg tb len at_) = 59 := c316
                    refine T_p xr_141_542 xn_141 (pc' := 544) (ls' := [(1, .int (iI (X_sg tb len at_))), (0, .ref 530)]) (st' := [.int (iI 6), .ref 530]) rfl ?_
                    refine T_p xr_141_544 xn_141 (pc' := 548) (ls' := [(1, .int (iI (X_sg tb len at_))), (0, .ref 530)]) (st' := [.int (iI 6), .ref 530]) rfl ?_
                    refine T_put xr_141_548 h298 rfl (Nat.le_of_ble_eq_true rfl) rfl (fs' := [.ref 531, .int (iI (o 1)), .ref 532, .int (iI (o 3)), .int (iI (o 4)), .int (iI (o 5)), .int (iI (o 6)), .int (iI at_), .int (iI (at_ + 1)), .int (iI 6), .int (iI (o 10)), .int (iI (o 11)), .long nm, .ref 533, .ref 534, .ref 535, .ref 536, .ref 537, .ref 538, .ref 539, .ref 540, .ref 541, .ref 542, .ref 543, .ref 544, .ref 545, .ref 546, .ref 547, .int (iI (o 28)), .int (iI (o 29)), .int (iI (o 30)), .int (iI (o 31)), .int (iI (o 32)), .int (iI (o 33)), .ref 548, .ref 549, .ref 550, .ref 551, .int (iI (o 38)), .ref 552, .ref 553, .ref 554, .ref 555, .ref 556, .ref 557, .ref 558, .ref 559, .ref 560, .ref 561, .int (iI (o 49)), .ref 562, .ref 563, .ref 564, .ref 565, .ref 566, .ref 567, .ref 568, .ref 569, .int (iI (o 58)), .ref 570, .ref 571, .ref 572, .ref 573, .ref 574, .ref 575, .ref 576, .ref 577, .ref 578, .int (iI (o 68)), .int (iI (o 69)), .int (iI (o 70)), .ref 579]) rfl (pc' := 551) rfl (fun S317 h318 n319 e320 => ?_)
                    refine T_vret xr_141_551 xf_141.2.2 ?_
                    refine hQ _ _ ?_
                    exact ⟨at_, at_ + 1, 6, o 10, o 11, nm, (X_at tb len at_), 0, at_ + 1, rfl, hp, (Or.inr (Or.inr (Or.inr (Or.inr ⟨fun h => absurd (X_sg_L.mpr ⟨by omega, h⟩) (by assumption), fun h => absurd (X_sg_D.mpr ⟨by omega, h⟩) (by assumption), by omega, by omega, rfl, rfl, Or.inl ⟨by unfold X_isSg; omega, by first | (intro h; omega) | (intro h; exact absurd h.2 (X_sg_n (by assumption) (by assumption))), rfl⟩⟩)))), (by rw [show X_at tb len at_ = X_sg tb len at_ by omega]; unfold X_rk; (repeat (first | rw [if_neg (by omega)] | rw [if_pos (by omega)]))), (fun _ => rfl), (fun h => absurd h (by omega)), (fun h => absurd h (by omega)), by first | assumption | omega, h318, ((((X_Fr.rf).tr (X_Fr.of n280 e281 (by first | decide | exact ⟨Nat.le_add_right _ _, Nat.add_le_add_left (by decide) _⟩ | omega))).tr (X_Fr.mono ⟨hF286.1, hF286.2⟩ (fun q hq => by first | exact hq | (rcases hq with rfl <;> decide) | (rcases hq with rfl | rfl <;> decide) | (rcases hq with rfl | rfl | rfl <;> decide) | (rcases hq with rfl | rfl | rfl | rfl <;> decide) | (rcases hq with rfl | rfl | rfl | rfl | rfl <;> decide) | (rcases hq with rfl | rfl | rfl | rfl | rfl | rfl <;> decide) | (rcases hq with rfl | rfl | rfl | rfl | rfl | rfl | rfl <;> decide) | omega))).tr (X_Fr.of n299 e300 (by first | decide | exact ⟨Nat.le_add_right _ _, Nat.add_le_add_left (by decide) _⟩ | omega))).tr (X_Fr.of n319 e320 (by first | decide | exact ⟨Nat.le_add_right _ _, Nat.add_le_add_left (by decide) _⟩ | omega))⟩
                  · skip
                    have c316 : ¬ ((X_sg tb len at_) = 59) := c316
                    refine T_p xr_141_488 xn_141 (pc' := 489) (ls' := [(1, .int (iI (X_sg tb len at_))), (0, .ref 530)]) (st' := [.int (iI (X_sg tb len at_)), .ref 530]) rfl ?_
                    refine T_p xr_141_489 xn_141 (pc' := 491) (ls' := [(1, .int (iI (X_sg tb len at_))), (0, .ref 530)]) (st' := [.int (iI 58), .int (iI (X_sg tb len at_)), .ref 530]) rfl ?_
                    refine T_zicmp_eq xr_141_491 (t := 542) (pc' := 494) rfl rfl (fun c321 => ?_) (fun c321 => ?_)
                    · skip
                      have c321 : (X_sg tb len at_) = 58 := c321
                      refine T_p xr_141_542 xn_141 (pc' := 544) (ls' := [(1, .int (iI (X_sg tb len at_))), (0, .ref 530)]) (st' := [.int (iI 6), .ref 530]) rfl ?_
                      refine T_p xr_141_544 xn_141 (pc' := 548) (ls' := [(1, .int (iI (X_sg tb len at_))), (0, .ref 530)]) (st' := [.int (iI 6), .ref 530]) rfl ?_
                      refine T_put xr_141_548 h298 rfl (Nat.le_of_ble_eq_true rfl) rfl (fs' := [.ref 531, .int (iI (o 1)), .ref 532, .int (iI (o 3)), .int (iI (o 4)), .int (iI (o 5)), .int (iI (o 6)), .int (iI at_), .int (iI (at_ + 1)), .int (iI 6), .int (iI (o 10)), .int (iI (o 11)), .long nm, .ref 533, .ref 534, .ref 535, .ref 536, .ref 537, .ref 538, .ref 539, .ref 540, .ref 541, .ref 542, .ref 543, .ref 544, .ref 545, .ref 546, .ref 547, .int (iI (o 28)), .int (iI (o 29)), .int (iI (o 30)), .int (iI (o 31)), .int (iI (o 32)), .int (iI (o 33)), .ref 548, .ref 549, .ref 550, .ref 551, .int (iI (o 38)), .ref 552, .ref 553, .ref 554, .ref 555, .ref 556, .ref 557, .ref 558, .ref 559, .ref 560, .ref 561, .int (iI (o 49)), .ref 562, .ref 563, .ref 564, .ref 565, .ref 566, .ref 567, .ref 568, .ref 569, .int (iI (o 58)), .ref 570, .ref 571, .ref 572, .ref 573, .ref 574, .ref 575, .ref 576, .ref 577, .ref 578, .int (iI (o 68)), .int (iI (o 69)), .int (iI (o 70)), .ref 579]) rfl (pc' := 551) rfl (fun S322 h323 n324 e325 => ?_)
                      refine T_vret xr_141_551 xf_141.2.2 ?_
                      refine hQ _ _ ?_
                      exact ⟨at_, at_ + 1, 6, o 10, o 11, nm, (X_at tb len at_), 0, at_ + 1, rfl, hp, (Or.inr (Or.inr (Or.inr (Or.inr ⟨fun h => absurd (X_sg_L.mpr ⟨by omega, h⟩) (by assumption), fun h => absurd (X_sg_D.mpr ⟨by omega, h⟩) (by assumption), by omega, by omega, rfl, rfl, Or.inl ⟨by unfold X_isSg; omega, by first | (intro h; omega) | (intro h; exact absurd h.2 (X_sg_n (by assumption) (by assumption))), rfl⟩⟩)))), (by rw [show X_at tb len at_ = X_sg tb len at_ by omega]; unfold X_rk; (repeat (first | rw [if_neg (by omega)] | rw [if_pos (by omega)]))), (fun _ => rfl), (fun h => absurd h (by omega)), (fun h => absurd h (by omega)), by first | assumption | omega, h323, ((((X_Fr.rf).tr (X_Fr.of n280 e281 (by first | decide | exact ⟨Nat.le_add_right _ _, Nat.add_le_add_left (by decide) _⟩ | omega))).tr (X_Fr.mono ⟨hF286.1, hF286.2⟩ (fun q hq => by first | exact hq | (rcases hq with rfl <;> decide) | (rcases hq with rfl | rfl <;> decide) | (rcases hq with rfl | rfl | rfl <;> decide) | (rcases hq with rfl | rfl | rfl | rfl <;> decide) | (rcases hq with rfl | rfl | rfl | rfl | rfl <;> decide) | (rcases hq with rfl | rfl | rfl | rfl | rfl | rfl <;> decide) | (rcases hq with rfl | rfl | rfl | rfl | rfl | rfl | rfl <;> decide) | omega))).tr (X_Fr.of n299 e300 (by first | decide | exact ⟨Nat.le_add_right _ _, Nat.add_le_add_left (by decide) _⟩ | omega))).tr (X_Fr.of n324 e325 (by first | decide | exact ⟨Nat.le_add_right _ _, Nat.add_le_add_left (by decide) _⟩ | omega))⟩
                    · skip
                      have c321 : ¬ ((X_sg tb len at_) = 58) := c321
                      refine T_p xr_141_494 xn_141 (pc' := 495) (ls' := [(1, .int (iI (X_sg tb len at_))), (0, .ref 530)]) (st' := [.int (iI (X_sg tb len at_)), .ref 530]) rfl ?_
                      refine T_p xr_141_495 xn_141 (pc' := 497) (ls' := [(1, .int (iI (X_sg tb len at_))), (0, .ref 530)]) (st' := [.int (iI 61), .int (iI (X_sg tb len at_)), .ref 530]) rfl ?_
                      refine T_zicmp_eq xr_141_497 (t := 542) (pc' := 500) rfl rfl (fun c326 => ?_) (fun c326 => ?_)
                      · skip
                        have c326 : (X_sg tb len at_) = 61 := c326
                        refine T_p xr_141_542 xn_141 (pc' := 544) (ls' := [(1, .int (iI (X_sg tb len at_))), (0, .ref 530)]) (st' := [.int (iI 6), .ref 530]) rfl ?_
                        refine T_p xr_141_544 xn_141 (pc' := 548) (ls' := [(1, .int (iI (X_sg tb len at_))), (0, .ref 530)]) (st' := [.int (iI 6), .ref 530]) rfl ?_
                        refine T_put xr_141_548 h298 rfl (Nat.le_of_ble_eq_true rfl) rfl (fs' := [.ref 531, .int (iI (o 1)), .ref 532, .int (iI (o 3)), .int (iI (o 4)), .int (iI (o 5)), .int (iI (o 6)), .int (iI at_), .int (iI (at_ + 1)), .int (iI 6), .int (iI (o 10)), .int (iI (o 11)), .long nm, .ref 533, .ref 534, .ref 535, .ref 536, .ref 537, .ref 538, .ref 539, .ref 540, .ref 541, .ref 542, .ref 543, .ref 544, .ref 545, .ref 546, .ref 547, .int (iI (o 28)), .int (iI (o 29)), .int (iI (o 30)), .int (iI (o 31)), .int (iI (o 32)), .int (iI (o 33)), .ref 548, .ref 549, .ref 550, .ref 551, .int (iI (o 38)), .ref 552, .ref 553, .ref 554, .ref 555, .ref 556, .ref 557, .ref 558, .ref 559, .ref 560, .ref 561, .int (iI (o 49)), .ref 562, .ref 563, .ref 564, .ref 565, .ref 566, .ref 567, .ref 568, .ref 569, .int (iI (o 58)), .ref 570, .ref 571, .ref 572, .ref 573, .ref 574, .ref 575, .ref 576, .ref 577, .ref 578, .int (iI (o 68)), .int (iI (o 69)), .int (iI (o 70)), .ref 579]) rfl (pc' := 551) rfl (fun S327 h328 n329 e330 => ?_)
                        refine T_vret xr_141_551 xf_141.2.2 ?_
                        refine hQ _ _ ?_
                        exact ⟨at_, at_ + 1, 6, o 10, o 11, nm, (X_at tb len at_), 0, at_ + 1, rfl, hp, (Or.inr (Or.inr (Or.inr (Or.inr ⟨fun h => absurd (X_sg_L.mpr ⟨by omega, h⟩) (by assumption), fun h => absurd (X_sg_D.mpr ⟨by omega, h⟩) (by assumption), by omega, by omega, rfl, rfl, Or.inl ⟨by unfold X_isSg; omega, by first | (intro h; omega) | (intro h; exact absurd h.2 (X_sg_n (by assumption) (by assumption))), rfl⟩⟩)))), (by rw [show X_at tb len at_ = X_sg tb len at_ by omega]; unfold X_rk; (repeat (first | rw [if_neg (by omega)] | rw [if_pos (by omega)]))), (fun _ => rfl), (fun h => absurd h (by omega)), (fun h => absurd h (by omega)), by first | assumption | omega, h328, ((((X_Fr.rf).tr (X_Fr.of n280 e281 (by first | decide | exact ⟨Nat.le_add_right _ _, Nat.add_le_add_left (by decide) _⟩ | omega))).tr (X_Fr.mono ⟨hF286.1, hF286.2⟩ (fun q hq => by first | exact hq | (rcases hq with rfl <;> decide) | (rcases hq with rfl | rfl <;> decide) | (rcases hq with rfl | rfl | rfl <;> decide) | (rcases hq with rfl | rfl | rfl | rfl <;> decide) | (rcases hq with rfl | rfl | rfl | rfl | rfl <;> decide) | (rcases hq with rfl | rfl | rfl | rfl | rfl | rfl <;> decide) | (rcases hq with rfl | rfl | rfl | rfl | rfl | rfl | rfl <;> decide) | omega))).tr (X_Fr.of n299 e300 (by first | decide | exact ⟨Nat.le_add_right _ _, Nat.add_le_add_left (by decide) _⟩ | omega))).tr (X_Fr.of n329 e330 (by first | decide | exact ⟨Nat.le_add_right _ _, Nat.add_le_add_left (by decide) _⟩ | omega))⟩
                      · skip
                        have c326 : ¬ ((X_sg tb len at_) = 61) := c326
                        refine T_p xr_141_500 xn_141 (pc' := 501) (ls' := [(1, .int (iI (X_sg tb len at_))), (0, .ref 530)]) (st' := [.int (iI (X_sg tb len at_)), .ref 530]) rfl ?_
                        refine T_p xr_141_501 xn_141 (pc' := 503) (ls' := [(1, .int (iI (X_sg tb len at_))), (0, .ref 530)]) (st' := [.int (iI 64), .int (iI (X_sg tb len at_)), .ref 530]) rfl ?_
                        refine T_zicmp_eq xr_141_503 (t := 542) (pc' := 506) rfl rfl (fun c331 => ?_) (fun c331 => ?_)
                        · skip
                          have c331 : (X_sg tb len at_) = 64 := c331
                          refine T_p xr_141_542 xn_141 (pc' := 544) (ls' := [(1, .int (iI (X_sg tb len at_))), (0, .ref 530)]) (st' := [.int (iI 6), .ref 530]) rfl ?_
                          refine T_p xr_141_544 xn_141 (pc' := 548) (ls' := [(1, .int (iI (X_sg tb len at_))), (0, .ref 530)]) (st' := [.int (iI 6), .ref 530]) rfl ?_
                          refine T_put xr_141_548 h298 rfl (Nat.le_of_ble_eq_true rfl) rfl (fs' := [.ref 531, .int (iI (o 1)), .ref 532, .int (iI (o 3)), .int (iI (o 4)), .int (iI (o 5)), .int (iI (o 6)), .int (iI at_), .int (iI (at_ + 1)), .int (iI 6), .int (iI (o 10)), .int (iI (o 11)), .long nm, .ref 533, .ref 534, .ref 535, .ref 536, .ref 537, .ref 538, .ref 539, .ref 540, .ref 541, .ref 542, .ref 543, .ref 544, .ref 545, .ref 546, .ref 547, .int (iI (o 28)), .int (iI (o 29)), .int (iI (o 30)), .int (iI (o 31)), .int (iI (o 32)), .int (iI (o 33)), .ref 548, .ref 549, .ref 550, .ref 551, .int (iI (o 38)), .ref 552, .ref 553, .ref 554, .ref 555, .ref 556, .ref 557, .ref 558, .ref 559, .ref 560, .ref 561, .int (iI (o 49)), .ref 562, .ref 563, .ref 564, .ref 565, .ref 566, .ref 567, .ref 568, .ref 569, .int (iI (o 58)), .ref 570, .ref 571, .ref 572, .ref 573, .ref 574, .ref 575, .ref 576, .ref 577, .ref 578, .int (iI (o 68)), .int (iI (o 69)), .int (iI (o 70)), .ref 579]) rfl (pc' := 551) rfl (fun S332 h333 n334 e335 => ?_)
                          refine T_vret xr_141_551 xf_141.2.2 ?_
                          refine hQ _ _ ?_
                          exact ⟨at_, at_ + 1, 6, o 10, o 11, nm, (X_at tb len at_), 0, at_ + 1, rfl, hp, (Or.inr (Or.inr (Or.inr (Or.inr ⟨fun h => absurd (X_sg_L.mpr ⟨by omega, h⟩) (by assumption), fun h => absurd (X_sg_D.mpr ⟨by omega, h⟩) (by assumption), by omega, by omega, rfl, rfl, Or.inl ⟨by unfold X_isSg; omega, by first | (intro h; omega) | (intro h; exact absurd h.2 (X_sg_n (by assumption) (by assumption))), rfl⟩⟩)))), (by rw [show X_at tb len at_ = X_sg tb len at_ by omega]; unfold X_rk; (repeat (first | rw [if_neg (by omega)] | rw [if_pos (by omega)]))), (fun _ => rfl), (fun h => absurd h (by omega)), (fun h => absurd h (by omega)), by first | assumption | omega, h333, ((((X_Fr.rf).tr (X_Fr.of n280 e281 (by first | decide | exact ⟨Nat.le_add_right _ _, Nat.add_le_add_left (by decide) _⟩ | omega))).tr (X_Fr.mono ⟨hF286.1, hF286.2⟩ (fun q hq => by first | exact hq | (rcases hq with rfl <;> decide) | (rcases hq with rfl | rfl <;> decide) | (rcases hq with rfl | rfl | rfl <;> decide) | (rcases hq with rfl | rfl | rfl | rfl <;> decide) | (rcases hq with rfl | rfl | rfl | rfl | rfl <;> decide) | (rcases hq with rfl | rfl | rfl | rfl | rfl | rfl <;> decide) | (rcases hq with rfl | rfl | rfl | rfl | rfl | rfl | rfl <;> decide) | omega))).tr (X_Fr.of n299 e300 (by first | decide | exact ⟨Nat.le_add_right _ _, Nat.add_le_add_left (by decide) _⟩ | omega))).tr (X_Fr.of n334 e335 (by first | decide | exact ⟨Nat.le_add_right _ _, Nat.add_le_add_left (by decide) _⟩ | omega))⟩
                        · skip
                          have c331 : ¬ ((X_sg tb len at_) = 64) := c331
                          refine T_p xr_141_506 xn_141 (pc' := 507) (ls' := [(1, .int (iI (X_sg tb len at_))), (0, .ref 530)]) (st' := [.int (iI (X_sg tb len at_)), .ref 530]) rfl ?_
                          refine T_p xr_141_507 xn_141 (pc' := 509) (ls' := [(1, .int (iI (X_sg tb len at_))), (0, .ref 530)]) (st' := [.int (iI 43), .int (iI (X_sg tb len at_)), .ref 530]) rfl ?_
                          refine T_zicmp_eq xr_141_509 (t := 542) (pc' := 512) rfl rfl (fun c336 => ?_) (fun c336 => ?_)
                          · skip
                            have c336 : (X_sg tb len at_) = 43 := c336
                            refine T_p xr_141_542 xn_141 (pc' := 544) (ls' := [(1, .int (iI (X_sg tb len at_))), (0, .ref 530)]) (st' := [.int (iI 6), .ref 530]) rfl ?_
                            refine T_p xr_141_544 xn_141 (pc' := 548) (ls' := [(1, .int (iI (X_sg tb len at_))), (0, .ref 530)]) (st' := [.int (iI 6), .ref 530]) rfl ?_
                            refine T_put xr_141_548 h298 rfl (Nat.le_of_ble_eq_true rfl) rfl (fs' := [.ref 531, .int (iI (o 1)), .ref 532, .int (iI (o 3)), .int (iI (o 4)), .int (iI (o 5)), .int (iI (o 6)), .int (iI at_), .int (iI (at_ + 1)), .int (iI 6), .int (iI (o 10)), .int (iI (o 11)), .long nm, .ref 533, .ref 534, .ref 535, .ref 536, .ref 537, .ref 538, .ref 539, .ref 540, .ref 541, .ref 542, .ref 543, .ref 544, .ref 545, .ref 546, .ref 547, .int (iI (o 28)), .int (iI (o 29)), .int (iI (o 30)), .int (iI (o 31)), .int (iI (o 32)), .int (iI (o 33)), .ref 548, .ref 549, .ref 550, .ref 551, .int (iI (o 38)), .ref 552, .ref 553, .ref 554, .ref 555, .ref 556, .ref 557, .ref 558, .ref 559, .ref 560, .ref 561, .int (iI (o 49)), .ref 562, .ref 563, .ref 564, .ref 565, .ref 566, .ref 567, .ref 568, .ref 569, .int (iI (o 58)), .ref 570, .ref 571, .ref 572, .ref 573, .ref 574, .ref 575, .ref 576, .ref 577, .ref 578, .int (iI (o 68)), .int (iI (o 69)), .int (iI (o 70)), .ref 579]) rfl (pc' := 551) rfl (fun S337 h338 n339 e340 => ?_)
                            refine T_vret xr_141_551 xf_141.2.2 ?_
                            refine hQ _ _ ?_
                            exact ⟨at_, at_ + 1, 6, o 10, o 11, nm, (X_at tb len at_), 0, at_ + 1, rfl, hp, (Or.inr (Or.inr (Or.inr (Or.inr ⟨fun h => absurd (X_sg_L.mpr ⟨by omega, h⟩) (by assumption), fun h => absurd (X_sg_D.mpr ⟨by omega, h⟩) (by assumption), by omega, by omega, rfl, rfl, Or.inl ⟨by unfold X_isSg; omega, by first | (intro h; omega) | (intro h; exact absurd h.2 (X_sg_n (by assumption) (by assumption))), rfl⟩⟩)))), (by rw [show X_at tb len at_ = X_sg tb len at_ by omega]; unfold X_rk; (repeat (first | rw [if_neg (by omega)] | rw [if_pos (by omega)]))), (fun _ => rfl), (fun h => absurd h (by omega)), (fun h => absurd h (by omega)), by first | assumption | omega, h338, ((((X_Fr.rf).tr (X_Fr.of n280 e281 (by first | decide | exact ⟨Nat.le_add_right _ _, Nat.add_le_add_left (by decide) _⟩ | omega))).tr (X_Fr.mono ⟨hF286.1, hF286.2⟩ (fun q hq => by first | exact hq | (rcases hq with rfl <;> decide) | (rcases hq with rfl | rfl <;> decide) | (rcases hq with rfl | rfl | rfl <;> decide) | (rcases hq with rfl | rfl | rfl | rfl <;> decide) | (rcases hq with rfl | rfl | rfl | rfl | rfl <;> decide) | (rcases hq with rfl | rfl | rfl | rfl | rfl | rfl <;> decide) | (rcases hq with rfl | rfl | rfl | rfl | rfl | rfl | rfl <;> decide) | omega))).tr (X_Fr.of n299 e300 (by first | decide | exact ⟨Nat.le_add_right _ _, Nat.add_le_add_left (by decide) _⟩ | omega))).tr (X_Fr.of n339 e340 (by first | decide | exact ⟨Nat.le_add_right _ _, Nat.add_le_add_left (by decide) _⟩ | omega))⟩
                          · skip
                            have c336 : ¬ ((X_sg tb len at_) = 43) := c336
                            refine T_p xr_141_512 xn_141 (pc' := 513) (ls' := [(1, .int (iI (X_sg tb len at_))), (0, .ref 530)]) (st' := [.int (iI (X_sg tb len at_)), .ref 530]) rfl ?_
                            refine T_p xr_141_513 xn_141 (pc' := 515) (ls' := [(1, .int (iI (X_sg tb len at_))), (0, .ref 530)]) (st' := [.int (iI 45), .int (iI (X_sg tb len at_)), .ref 530]) rfl ?_
                            refine T_zicmp_eq xr_141_515 (t := 542) (pc' := 518) rfl rfl (fun c341 => ?_) (fun c341 => ?_)
                            · skip
                              have c341 : (X_sg tb len at_) = 45 := c341
                              refine T_p xr_141_542 xn_141 (pc' := 544) (ls' := [(1, .int (iI (X_sg tb len at_))), (0, .ref 530)]) (st' := [.int (iI 6), .ref 530]) rfl ?_
                              refine T_p xr_141_544 xn_141 (pc' := 548) (ls' := [(1, .int (iI (X_sg tb len at_))), (0, .ref 530)]) (st' := [.int (iI 6), .ref 530]) rfl ?_
                              refine T_put xr_141_548 h298 rfl (Nat.le_of_ble_eq_true rfl) rfl (fs' := [.ref 531, .int (iI (o 1)), .ref 532, .int (iI (o 3)), .int (iI (o 4)), .int (iI (o 5)), .int (iI (o 6)), .int (iI at_), .int (iI (at_ + 1)), .int (iI 6), .int (iI (o 10)), .int (iI (o 11)), .long nm, .ref 533, .ref 534, .ref 535, .ref 536, .ref 537, .ref 538, .ref 539, .ref 540, .ref 541, .ref 542, .ref 543, .ref 544, .ref 545, .ref 546, .ref 547, .int (iI (o 28)), .int (iI (o 29)), .int (iI (o 30)), .int (iI (o 31)), .int (iI (o 32)), .int (iI (o 33)), .ref 548, .ref 549, .ref 550, .ref 551, .int (iI (o 38)), .ref 552, .ref 553, .ref 554, .ref 555, .ref 556, .ref 557, .ref 558, .ref 559, .ref 560, .ref 561, .int (iI (o 49)), .ref 562, .ref 563, .ref 564, .ref 565, .ref 566, .ref 567, .ref 568, .ref 569, .int (iI (o 58)), .ref 570, .ref 571, .ref 572, .ref 573, .ref 574, .ref 575, .ref 576, .ref 577, .ref 578, .int (iI (o 68)), .int (iI (o 69)), .int (iI (o 70)), .ref 579]) rfl (pc' := 551) rfl (fun S342 h343 n344 e345 => ?_)
                              refine T_vret xr_141_551 xf_141.2.2 ?_
                              refine hQ _ _ ?_
                              exact ⟨at_, at_ + 1, 6, o 10, o 11, nm, (X_at tb len at_), 0, at_ + 1, rfl, hp, (Or.inr (Or.inr (Or.inr (Or.inr ⟨fun h => absurd (X_sg_L.mpr ⟨by omega, h⟩) (by assumption), fun h => absurd (X_sg_D.mpr ⟨by omega, h⟩) (by assumption), by omega, by omega, rfl, rfl, Or.inl ⟨by unfold X_isSg; omega, by first | (intro h; omega) | (intro h; exact absurd h.2 (X_sg_n (by assumption) (by assumption))), rfl⟩⟩)))), (by rw [show X_at tb len at_ = X_sg tb len at_ by omega]; unfold X_rk; (repeat (first | rw [if_neg (by omega)] | rw [if_pos (by omega)]))), (fun _ => rfl), (fun h => absurd h (by omega)), (fun h => absurd h (by omega)), by first | assumption | omega, h343, ((((X_Fr.rf).tr (X_Fr.of n280 e281 (by first | decide | exact ⟨Nat.le_add_right _ _, Nat.add_le_add_left (by decide) _⟩ | omega))).tr (X_Fr.mono ⟨hF286.1, hF286.2⟩ (fun q hq => by first | exact hq | (rcases hq with rfl <;> decide) | (rcases hq with rfl | rfl <;> decide) | (rcases hq with rfl | rfl | rfl <;> decide) | (rcases hq with rfl | rfl | rfl | rfl <;> decide) | (rcases hq with rfl | rfl | rfl | rfl | rfl <;> decide) | (rcases hq with rfl | rfl | rfl | rfl | rfl | rfl <;> decide) | (rcases hq with rfl | rfl | rfl | rfl | rfl | rfl | rfl <;> decide) | omega))).tr (X_Fr.of n299 e300 (by first | decide | exact ⟨Nat.le_add_right _ _, Nat.add_le_add_left (by decide) _⟩ | omega))).tr (X_Fr.of n344 e345 (by first | decide | exact ⟨Nat.le_add_right _ _, Nat.add_le_add_left (by decide) _⟩ | omega))⟩
                            · skip
                              have c341 : ¬ ((X_sg tb len at_) = 45) := c341
                              refine T_p xr_141_518 xn_141 (pc' := 519) (ls' := [(1, .int (iI (X_sg tb len at_))), (0, .ref 530)]) (st' := [.int (iI (X_sg tb len at_)), .ref 530]) rfl ?_
                              refine T_p xr_141_519 xn_141 (pc' := 521) (ls' := [(1, .int (iI (X_sg tb len at_))), (0, .ref 530)]) (st' := [.int (iI 42), .int (iI (X_sg tb len at_)), .ref 530]) rfl ?_
                              refine T_zicmp_eq xr_141_521 (t := 542) (pc' := 524) rfl rfl (fun c346 => ?_) (fun c346 => ?_)
                              · skip
                                have c346 : (X_sg tb len at_) = 42 := c346
                                refine T_p xr_141_542 xn_141 (pc' := 544) (ls' := [(1, .int (iI (X_sg tb len at_))), (0, .ref 530)]) (st' := [.int (iI 6), .ref 530]) rfl ?_
                                refine T_p xr_141_544 xn_141 (pc' := 548) (ls' := [(1, .int (iI (X_sg tb len at_))), (0, .ref 530)]) (st' := [.int (iI 6), .ref 530]) rfl ?_
                                refine T_put xr_141_548 h298 rfl (Nat.le_of_ble_eq_true rfl) rfl (fs' := [.ref 531, .int (iI (o 1)), .ref 532, .int (iI (o 3)), .int (iI (o 4)), .int (iI (o 5)), .int (iI (o 6)), .int (iI at_), .int (iI (at_ + 1)), .int (iI 6), .int (iI (o 10)), .int (iI (o 11)), .long nm, .ref 533, .ref 534, .ref 535, .ref 536, .ref 537, .ref 538, .ref 539, .ref 540, .ref 541, .ref 542, .ref 543, .ref 544, .ref 545, .ref 546, .ref 547, .int (iI (o 28)), .int (iI (o 29)), .int (iI (o 30)), .int (iI (o 31)), .int (iI (o 32)), .int (iI (o 33)), .ref 548, .ref 549, .ref 550, .ref 551, .int (iI (o 38)), .ref 552, .ref 553, .ref 554, .ref 555, .ref 556, .ref 557, .ref 558, .ref 559, .ref 560, .ref 561, .int (iI (o 49)), .ref 562, .ref 563, .ref 564, .ref 565, .ref 566, .ref 567, .ref 568, .ref 569, .int (iI (o 58)), .ref 570, .ref 571, .ref 572, .ref 573, .ref 574, .ref 575, .ref 576, .ref 577, .ref 578, .int (iI (o 68)), .int (iI (o 69)), .int (iI (o 70)), .ref 579]) rfl (pc' := 551) rfl (fun S347 h348 n349 e350 => ?_)
                                refine T_vret xr_141_551 xf_141.2.2 ?_
                                refine hQ _ _ ?_
                                exact ⟨at_, at_ + 1, 6, o 10, o 11, nm, (X_at tb len at_), 0, at_ + 1, rfl, hp, (Or.inr (Or.inr (Or.inr (Or.inr ⟨fun h => absurd (X_sg_L.mpr ⟨by omega, h⟩) (by assumption), fun h => absurd (X_sg_D.mpr ⟨by omega, h⟩) (by assumption), by omega, by omega, rfl, rfl, Or.inl ⟨by unfold X_isSg; omega, by first | (intro h; omega) | (intro h; exact absurd h.2 (X_sg_n (by assumption) (by assumption))), rfl⟩⟩)))), (by rw [show X_at tb len at_ = X_sg tb len at_ by omega]; unfold X_rk; (repeat (first | rw [if_neg (by omega)] | rw [if_pos (by omega)]))), (fun _ => rfl), (fun h => absurd h (by omega)), (fun h => absurd h (by omega)), by first | assumption | omega, h348, ((((X_Fr.rf).tr (X_Fr.of n280 e281 (by first | decide | exact ⟨Nat.le_add_right _ _, Nat.add_le_add_left (by decide) _⟩ | omega))).tr (X_Fr.mono ⟨hF286.1, hF286.2⟩ (fun q hq => by first | exact hq | (rcases hq with rfl <;> decide) | (rcases hq with rfl | rfl <;> decide) | (rcases hq with rfl | rfl | rfl <;> decide) | (rcases hq with rfl | rfl | rfl | rfl <;> decide) | (rcases hq with rfl | rfl | rfl | rfl | rfl <;> decide) | (rcases hq with rfl | rfl | rfl | rfl | rfl | rfl <;> decide) | (rcases hq with rfl | rfl | rfl | rfl | rfl | rfl | rfl <;> decide) | omega))).tr (X_Fr.of n299 e300 (by first | decide | exact ⟨Nat.le_add_right _ _, Nat.add_le_add_left (by decide) _⟩ | omega))).tr (X_Fr.of n349 e350 (by first | decide | exact ⟨Nat.le_add_right _ _, Nat.add_le_add_left (by decide) _⟩ | omega))⟩
                              · skip
                                have c346 : ¬ ((X_sg tb len at_) = 42) := c346
                                refine T_p xr_141_524 xn_141 (pc' := 525) (ls' := [(1, .int (iI (X_sg tb len at_))), (0, .ref 530)]) (st' := [.int (iI (X_sg tb len at_)), .ref 530]) rfl ?_
                                refine T_p xr_141_525 xn_141 (pc' := 527) (ls' := [(1, .int (iI (X_sg tb len at_))), (0, .ref 530)]) (st' := [.int (iI 47), .int (iI (X_sg tb len at_)), .ref 530]) rfl ?_
                                refine T_zicmp_eq xr_141_527 (t := 542) (pc' := 530) rfl rfl (fun c351 => ?_) (fun c351 => ?_)
                                · skip
                                  have c351 : (X_sg tb len at_) = 47 := c351
                                  refine T_p xr_141_542 xn_141 (pc' := 544) (ls' := [(1, .int (iI (X_sg tb len at_))), (0, .ref 530)]) (st' := [.int (iI 6), .ref 530]) rfl ?_
                                  refine T_p xr_141_544 xn_141 (pc' := 548) (ls' := [(1, .int (iI (X_sg tb len at_))), (0, .ref 530)]) (st' := [.int (iI 6), .ref 530]) rfl ?_
                                  refine T_put xr_141_548 h298 rfl (Nat.le_of_ble_eq_true rfl) rfl (fs' := [.ref 531, .int (iI (o 1)), .ref 532, .int (iI (o 3)), .int (iI (o 4)), .int (iI (o 5)), .int (iI (o 6)), .int (iI at_), .int (iI (at_ + 1)), .int (iI 6), .int (iI (o 10)), .int (iI (o 11)), .long nm, .ref 533, .ref 534, .ref 535, .ref 536, .ref 537, .ref 538, .ref 539, .ref 540, .ref 541, .ref 542, .ref 543, .ref 544, .ref 545, .ref 546, .ref 547, .int (iI (o 28)), .int (iI (o 29)), .int (iI (o 30)), .int (iI (o 31)), .int (iI (o 32)), .int (iI (o 33)), .ref 548, .ref 549, .ref 550, .ref 551, .int (iI (o 38)), .ref 552, .ref 553, .ref 554, .ref 555, .ref 556, .ref 557, .ref 558, .ref 559, .ref 560, .ref 561, .int (iI (o 49)), .ref 562, .ref 563, .ref 564, .ref 565, .ref 566, .ref 567, .ref 568, .ref 569, .int (iI (o 58)), .ref 570, .ref 571, .ref 572, .ref 573, .ref 574, .ref 575, .ref 576, .ref 577, .ref 578, .int (iI (o 68)), .int (iI (o 69)), .int (iI (o 70)), .ref 579]) rfl (pc' := 551) rfl (fun S352 h353 n354 e355 => ?_)
                                  refine T_vret xr_141_551 xf_141.2.2 ?_
                                  refine hQ _ _ ?_
                                  exact ⟨at_, at_ + 1, 6, o 10, o 11, nm, (X_at tb len at_), 0, at_ + 1, rfl, hp, (Or.inr (Or.inr (Or.inr (Or.inr ⟨fun h => absurd (X_sg_L.mpr ⟨by omega, h⟩) (by assumption), fun h => absurd (X_sg_D.mpr ⟨by omega, h⟩) (by assumption), by omega, by omega, rfl, rfl, Or.inl ⟨by unfold X_isSg; omega, by first | (intro h; omega) | (intro h; exact absurd h.2 (X_sg_n (by assumption) (by assumption))), rfl⟩⟩)))), (by rw [show X_at tb len at_ = X_sg tb len at_ by omega]; unfold X_rk; (repeat (first | rw [if_neg (by omega)] | rw [if_pos (by omega)]))), (fun _ => rfl), (fun h => absurd h (by omega)), (fun h => absurd h (by omega)), by first | assumption | omega, h353, ((((X_Fr.rf).tr (X_Fr.of n280 e281 (by first | decide | exact ⟨Nat.le_add_right _ _, Nat.add_le_add_left (by decide) _⟩ | omega))).tr (X_Fr.mono ⟨hF286.1, hF286.2⟩ (fun q hq => by first | exact hq | (rcases hq with rfl <;> decide) | (rcases hq with rfl | rfl <;> decide) | (rcases hq with rfl | rfl | rfl <;> decide) | (rcases hq with rfl | rfl | rfl | rfl <;> decide) | (rcases hq with rfl | rfl | rfl | rfl | rfl <;> decide) | (rcases hq with rfl | rfl | rfl | rfl | rfl | rfl <;> decide) | (rcases hq with rfl | rfl | rfl | rfl | rfl | rfl | rfl <;> decide) | omega))).tr (X_Fr.of n299 e300 (by first | decide | exact ⟨Nat.le_add_right _ _, Nat.add_le_add_left (by decide) _⟩ | omega))).tr (X_Fr.of n354 e355 (by first | decide | exact ⟨Nat.le_add_right _ _, Nat.add_le_add_left (by decide) _⟩ | omega))⟩
                                · skip
                                  have c351 : ¬ ((X_sg tb len at_) = 47) := c351
                                  refine T_p xr_141_530 xn_141 (pc' := 531) (ls' := [(1, .int (iI (X_sg tb len at_))), (0, .ref 530)]) (st' := [.int (iI (X_sg tb len at_)), .ref 530]) rfl ?_
                                  refine T_p xr_141_531 xn_141 (pc' := 533) (ls' := [(1, .int (iI (X_sg tb len at_))), (0, .ref 530)]) (st' := [.int (iI 37), .int (iI (X_sg tb len at_)), .ref 530]) rfl ?_
                                  refine T_zicmp_eq xr_141_533 (t := 542) (pc' := 536) rfl rfl (fun c356 => ?_) (fun c356 => ?_)
                                  · skip
                                    have c356 : (X_sg tb len at_) = 37 := c356
                                    refine T_p xr_141_542 xn_141 (pc' := 544) (ls' := [(1, .int (iI (X_sg tb len at_))), (0, .ref 530)]) (st' := [.int (iI 6), .ref 530]) rfl ?_
                                    refine T_p xr_141_544 xn_141 (pc' := 548) (ls' := [(1, .int (iI (X_sg tb len at_))), (0, .ref 530)]) (st' := [.int (iI 6), .ref 530]) rfl ?_
                                    refine T_put xr_141_548 h298 rfl (Nat.le_of_ble_eq_true rfl) rfl (fs' := [.ref 531, .int (iI (o 1)), .ref 532, .int (iI (o 3)), .int (iI (o 4)), .int (iI (o 5)), .int (iI (o 6)), .int (iI at_), .int (iI (at_ + 1)), .int (iI 6), .int (iI (o 10)), .int (iI (o 11)), .long nm, .ref 533, .ref 534, .ref 535, .ref 536, .ref 537, .ref 538, .ref 539, .ref 540, .ref 541, .ref 542, .ref 543, .ref 544, .ref 545, .ref 546, .ref 547, .int (iI (o 28)), .int (iI (o 29)), .int (iI (o 30)), .int (iI (o 31)), .int (iI (o 32)), .int (iI (o 33)), .ref 548, .ref 549, .ref 550, .ref 551, .int (iI (o 38)), .ref 552, .ref 553, .ref 554, .ref 555, .ref 556, .ref 557, .ref 558, .ref 559, .ref 560, .ref 561, .int (iI (o 49)), .ref 562, .ref 563, .ref 564, .ref 565, .ref 566, .ref 567, .ref 568, .ref 569, .int (iI (o 58)), .ref 570, .ref 571, .ref 572, .ref 573, .ref 574, .ref 575, .ref 576, .ref 577, .ref 578, .int (iI (o 68)), .int (iI (o 69)), .int (iI (o 70)), .ref 579]) rfl (pc' := 551) rfl (fun S357 h358 n359 e360 => ?_)
                                    refine T_vret xr_141_551 xf_141.2.2 ?_
                                    refine hQ _ _ ?_
                                    exact ⟨at_, at_ + 1, 6, o 10, o 11, nm, (X_at tb len at_), 0, at_ + 1, rfl, hp, (Or.inr (Or.inr (Or.inr (Or.inr ⟨fun h => absurd (X_sg_L.mpr ⟨by omega, h⟩) (by assumption), fun h => absurd (X_sg_D.mpr ⟨by omega, h⟩) (by assumption), by omega, by omega, rfl, rfl, Or.inl ⟨by unfold X_isSg; omega, by first | (intro h; omega) | (intro h; exact absurd h.2 (X_sg_n (by assumption) (by assumption))), rfl⟩⟩)))), (by rw [show X_at tb len at_ = X_sg tb len at_ by omega]; unfold X_rk; (repeat (first | rw [if_neg (by omega)] | rw [if_pos (by omega)]))), (fun _ => rfl), (fun h => absurd h (by omega)), (fun h => absurd h (by omega)), by first | assumption | omega, h358, ((((X_Fr.rf).tr (X_Fr.of n280 e281 (by first | decide | exact ⟨Nat.le_add_right _ _, Nat.add_le_add_left (by decide) _⟩ | omega))).tr (X_Fr.mono ⟨hF286.1, hF286.2⟩ (fun q hq => by first | exact hq | (rcases hq with rfl <;> decide) | (rcases hq with rfl | rfl <;> decide) | (rcases hq with rfl | rfl | rfl <;> decide) | (rcases hq with rfl | rfl | rfl | rfl <;> decide) | (rcases hq with rfl | rfl | rfl | rfl | rfl <;> decide) | (rcases hq with rfl | rfl | rfl | rfl | rfl | rfl <;> decide) | (rcases hq with rfl | rfl | rfl | rfl | rfl | rfl | rfl <;> decide) | omega))).tr (X_Fr.of n299 e300 (by first | decide | exact ⟨Nat.le_add_right _ _, Nat.add_le_add_left (by decide) _⟩ | omega))).tr (X_Fr.of n359 e360 (by first | decide | exact ⟨Nat.le_add_right _ _, Nat.add_le_add_left (by decide) _⟩ | omega))⟩
                                  · skip
                                    have c356 : ¬ ((X_sg tb len at_) = 37) := c356
                                    refine T_p xr_141_536 xn_141 (pc' := 537) (ls' := [(1, .int (iI (X_sg tb len at_))), (0, .ref 530)]) (st' := [.int (iI (X_sg tb len at_)), .ref 530]) rfl ?_
                                    refine T_p xr_141_537 xn_141 (pc' := 539) (ls' := [(1, .int (iI (X_sg tb len at_))), (0, .ref 530)]) (st' := [.int (iI 60), .int (iI (X_sg tb len at_)), .ref 530]) rfl ?_
                                    refine T_zicmp_ne xr_141_539 (t := 547) (pc' := 542) rfl rfl (fun c361 => ?_) (fun c361 => ?_)
                                    · skip
                                      have c361 : ¬ (X_sg tb len at_) = 60 := c361
                                      refine T_p xr_141_547 xn_141 (pc' := 548) (ls' := [(1, .int (iI (X_sg tb len at_))), (0, .ref 530)]) (st' := [.int (iI 1), .ref 530]) rfl ?_
                                      refine T_put xr_141_548 h298 rfl (Nat.le_of_ble_eq_true rfl) rfl (fs' := [.ref 531, .int (iI (o 1)), .ref 532, .int (iI (o 3)), .int (iI (o 4)), .int (iI (o 5)), .int (iI (o 6)), .int (iI at_), .int (iI (at_ + 1)), .int (iI 1), .int (iI (o 10)), .int (iI (o 11)), .long nm, .ref 533, .ref 534, .ref 535, .ref 536, .ref 537, .ref 538, .ref 539, .ref 540, .ref 541, .ref 542, .ref 543, .ref 544, .ref 545, .ref 546, .ref 547, .int (iI (o 28)), .int (iI (o 29)), .int (iI (o 30)), .int (iI (o 31)), .int (iI (o 32)), .int (iI (o 33)), .ref 548, .ref 549, .ref 550, .ref 551, .int (iI (o 38)), .ref 552, .ref 553, .ref 554, .ref 555, .ref 556, .ref 557, .ref 558, .ref 559, .ref 560, .ref 561, .int (iI (o 49)), .ref 562, .ref 563, .ref 564, .ref 565, .ref 566, .ref 567, .ref 568, .ref 569, .int (iI (o 58)), .ref 570, .ref 571, .ref 572, .ref 573, .ref 574, .ref 575, .ref 576, .ref 577, .ref 578, .int (iI (o 68)), .int (iI (o 69)), .int (iI (o 70)), .ref 579]) rfl (pc' := 551) rfl (fun S362 h363 n364 e365 => ?_)
                                      refine T_vret xr_141_551 xf_141.2.2 ?_
                                      refine hQ _ _ ?_
                                      exact ⟨at_, at_ + 1, 1, o 10, o 11, nm, 1, 0, at_ + 1, rfl, hp, (Or.inr (Or.inr (Or.inr (Or.inr ⟨fun h => absurd (X_sg_L.mpr ⟨by omega, h⟩) (by assumption), fun h => absurd (X_sg_D.mpr ⟨by omega, h⟩) (by assumption), by omega, by omega, rfl, rfl, Or.inr ⟨by first | exact Or.inl (by unfold X_isSg; omega) | exact Or.inr ⟨by omega, Or.inl (X_sg_L.mp (by assumption)).2⟩ | exact Or.inr ⟨by omega, Or.inr (X_sg_D.mp (by assumption)).2⟩, rfl⟩⟩)))), rfl, (fun _ => rfl), (fun h => absurd h (by omega)), (fun h => absurd h (by omega)), by first | assumption | omega, h363, ((((X_Fr.rf).tr (X_Fr.of n280 e281 (by first | decide | exact ⟨Nat.le_add_right _ _, Nat.add_le_add_left (by decide) _⟩ | omega))).tr (X_Fr.mono ⟨hF286.1, hF286.2⟩ (fun q hq => by first | exact hq | (rcases hq with rfl <;> decide) | (rcases hq with rfl | rfl <;> decide) | (rcases hq with rfl | rfl | rfl <;> decide) | (rcases hq with rfl | rfl | rfl | rfl <;> decide) | (rcases hq with rfl | rfl | rfl | rfl | rfl <;> decide) | (rcases hq with rfl | rfl | rfl | rfl | rfl | rfl <;> decide) | (rcases hq with rfl | rfl | rfl | rfl | rfl | rfl | rfl <;> decide) | omega))).tr (X_Fr.of n299 e300 (by first | decide | exact ⟨Nat.le_add_right _ _, Nat.add_le_add_left (by decide) _⟩ | omega))).tr (X_Fr.of n364 e365 (by first | decide | exact ⟨Nat.le_add_right _ _, Nat.add_le_add_left (by decide) _⟩ | omega))⟩
                                    · skip
                                      have c361 : ¬ (¬ (X_sg tb len at_) = 60) := c361
                                      refine T_p xr_141_542 xn_141 (pc' := 544) (ls' := [(1, .int (iI (X_sg tb len at_))), (0, .ref 530)]) (st' := [.int (iI 6), .ref 530]) rfl ?_
                                      refine T_p xr_141_544 xn_141 (pc' := 548) (ls' := [(1, .int (iI (X_sg tb len at_))), (0, .ref 530)]) (st' := [.int (iI 6), .ref 530]) rfl ?_
                                      refine T_put xr_141_548 h298 rfl (Nat.le_of_ble_eq_true rfl) rfl (fs' := [.ref 531, .int (iI (o 1)), .ref 532, .int (iI (o 3)), .int (iI (o 4)), .int (iI (o 5)), .int (iI (o 6)), .int (iI at_), .int (iI (at_ + 1)), .int (iI 6), .int (iI (o 10)), .int (iI (o 11)), .long nm, .ref 533, .ref 534, .ref 535, .ref 536, .ref 537, .ref 538, .ref 539, .ref 540, .ref 541, .ref 542, .ref 543, .ref 544, .ref 545, .ref 546, .ref 547, .int (iI (o 28)), .int (iI (o 29)), .int (iI (o 30)), .int (iI (o 31)), .int (iI (o 32)), .int (iI (o 33)), .ref 548, .ref 549, .ref 550, .ref 551, .int (iI (o 38)), .ref 552, .ref 553, .ref 554, .ref 555, .ref 556, .ref 557, .ref 558, .ref 559, .ref 560, .ref 561, .int (iI (o 49)), .ref 562, .ref 563, .ref 564, .ref 565, .ref 566, .ref 567, .ref 568, .ref 569, .int (iI (o 58)), .ref 570, .ref 571, .ref 572, .ref 573, .ref 574, .ref 575, .ref 576, .ref 577, .ref 578, .int (iI (o 68)), .int (iI (o 69)), .int (iI (o 70)), .ref 579]) rfl (pc' := 551) rfl (fun S366 h367 n368 e369 => ?_)
                                      refine T_vret xr_141_551 xf_141.2.2 ?_
                                      refine hQ _ _ ?_
                                      exact ⟨at_, at_ + 1, 6, o 10, o 11, nm, (X_at tb len at_), 0, at_ + 1, rfl, hp, (Or.inr (Or.inr (Or.inr (Or.inr ⟨fun h => absurd (X_sg_L.mpr ⟨by omega, h⟩) (by assumption), fun h => absurd (X_sg_D.mpr ⟨by omega, h⟩) (by assumption), by omega, by omega, rfl, rfl, Or.inl ⟨by unfold X_isSg; omega, by first | (intro h; omega) | (intro h; exact absurd h.2 (X_sg_n (by assumption) (by assumption))), rfl⟩⟩)))), (by rw [show X_at tb len at_ = X_sg tb len at_ by omega]; unfold X_rk; (repeat (first | rw [if_neg (by omega)] | rw [if_pos (by omega)]))), (fun _ => rfl), (fun h => absurd h (by omega)), (fun h => absurd h (by omega)), by first | assumption | omega, h367, ((((X_Fr.rf).tr (X_Fr.of n280 e281 (by first | decide | exact ⟨Nat.le_add_right _ _, Nat.add_le_add_left (by decide) _⟩ | omega))).tr (X_Fr.mono ⟨hF286.1, hF286.2⟩ (fun q hq => by first | exact hq | (rcases hq with rfl <;> decide) | (rcases hq with rfl | rfl <;> decide) | (rcases hq with rfl | rfl | rfl <;> decide) | (rcases hq with rfl | rfl | rfl | rfl <;> decide) | (rcases hq with rfl | rfl | rfl | rfl | rfl <;> decide) | (rcases hq with rfl | rfl | rfl | rfl | rfl | rfl <;> decide) | (rcases hq with rfl | rfl | rfl | rfl | rfl | rfl | rfl <;> decide) | omega))).tr (X_Fr.of n299 e300 (by first | decide | exact ⟨Nat.le_add_right _ _, Nat.add_le_add_left (by decide) _⟩ | omega))).tr (X_Fr.of n368 e369 (by first | decide | exact ⟨Nat.le_add_right _ _, Nat.add_le_add_left (by decide) _⟩ | omega))⟩
                · skip
                  have c315 : ¬ (¬ (X_sg tb len at_) = 95) := c315
                  refine T_p xr_141_440 xn_141 (pc' := 441) (ls' := [(1, .int (iI (X_sg tb len at_))), (0, .ref 530)]) (st' := [.ref 530]) rfl ?_
                  refine T_p xr_141_441 xn_141 (pc' := 442) (ls' := [(1, .int (iI (X_sg tb len at_))), (0, .ref 530)]) (st' := [.ref 530, .ref 530]) rfl ?_
                  refine T_p xr_141_442 xn_141 (pc' := 443) (ls' := [(1, .int (iI (X_sg tb len at_))), (0, .ref 530)]) (st' := [.ref 530, .ref 530, .ref 530]) rfl ?_
                  refine T_get xr_141_443 h298 rfl (v := .int (iI (at_ + 1))) rfl (pc' := 446) rfl ?_
                  refine T_cv (S := S297) (q := 530) xr_141_446 xf_136.1 xf_136.2.1 xn_136 (as := [.int (iI (at_ + 1))]) (r := [.ref 530]) rfl h298 (Nat.le_of_ble_eq_true rfl) (Nat.le_of_ble_eq_true rfl) (pc' := 449) rfl (ls' := [(0, .ref 530), (1, .int (iI (at_ + 1)))]) rfl ?_
                  have h370 := (n299 532 (by decide)).trans (h289)
                  refine T_mono (r_sign sc S297 (X_ou (X_ou o 7 at_) 8 (at_ + 1)) nm tx tb len (at_ + 1) h298 h370 (show (o 3) = len from by first | assumption | omega) hl htx (by omega)) (fun v371 S372 h373 => ?_)
                  rcases h373 with ⟨hv374, hf375⟩
                  rw [hv374]
                  rw [hf375]
                  have hg376 := X_sg_r (tb := tb) (len := len) (k := (at_ + 1)) (by omega)
                  have hg377 := X_sg_c (tb := tb) (len := len) (k := (at_ + 1))
                  show X_T sc 141 (449, [(1, .int (iI (X_sg tb len at_))), (0, .ref 530)], [.int (iI (X_sg tb len (at_ + 1))), .ref 530], S297) _
                  refine T_cs xr_141_449 (by decide) xf_137.1 xn_137 (as := [.int (iI (X_sg tb len (at_ + 1)))]) (r := [.ref 530]) rfl (Nat.le_of_ble_eq_true rfl) (Nat.le_of_ble_eq_true rfl) (pc' := 452) rfl (ls' := [(0, .int (iI (X_sg tb len (at_ + 1))))]) rfl ?_
                  refine T_mono (r_isLetter sc S297 (X_sg tb len (at_ + 1)) (by omega)) (fun v378 S379 h380 => ?_)
                  rcases h380 with ⟨hv381, hf382⟩
                  rw [hv381]
                  rw [hf382]
                  show X_T sc 141 (452, [(1, .int (iI (X_sg tb len at_))), (0, .ref 530)], [.int (iI (bI (X_isL (X_sg tb len (at_ + 1))))), .ref 530], S297) _
                  refine T_bif_ne xr_141_452 (t := 469) (pc' := 455) rfl rfl (fun c383 => ?_) (fun c383 => ?_)
                  · skip
                    have c383 : (X_isL (X_sg tb len (at_ + 1))) := c383
                    refine T_p xr_141_469 xn_141 (pc' := 470) (ls' := [(1, .int (iI (X_sg tb len at_))), (0, .ref 530)]) (st' := [.int (iI 1), .ref 530]) rfl ?_
                    refine T_p xr_141_470 xn_141 (pc' := 475) (ls' := [(1, .int (iI (X_sg tb len at_))), (0, .ref 530)]) (st' := [.int (iI 1), .ref 530]) rfl ?_
                    refine T_put xr_141_475 h298 rfl (Nat.le_of_ble_eq_true rfl) rfl (fs' := [.ref 531, .int (iI (o 1)), .ref 532, .int (iI (o 3)), .int (iI (o 4)), .int (iI (o 5)), .int (iI (o 6)), .int (iI at_), .int (iI (at_ + 1)), .int (iI 1), .int (iI (o 10)), .int (iI (o 11)), .long nm, .ref 533, .ref 534, .ref 535, .ref 536, .ref 537, .ref 538, .ref 539, .ref 540, .ref 541, .ref 542, .ref 543, .ref 544, .ref 545, .ref 546, .ref 547, .int (iI (o 28)), .int (iI (o 29)), .int (iI (o 30)), .int (iI (o 31)), .int (iI (o 32)), .int (iI (o 33)), .ref 548, .ref 549, .ref 550, .ref 551, .int (iI (o 38)), .ref 552, .ref 553, .ref 554, .ref 555, .ref 556, .ref 557, .ref 558, .ref 559, .ref 560, .ref 561, .int (iI (o 49)), .ref 562, .ref 563, .ref 564, .ref 565, .ref 566, .ref 567, .ref 568, .ref 569, .int (iI (o 58)), .ref 570, .ref 571, .ref 572, .ref 573, .ref 574, .ref 575, .ref 576, .ref 577, .ref 578, .int (iI (o 68)), .int (iI (o 69)), .int (iI (o 70)), .ref 579]) rfl (pc' := 478) rfl (fun S384 h385 n386 e387 => ?_)
                    refine T_p xr_141_478 xn_141 (pc' := 551) (ls' := [(1, .int (iI (X_sg tb len at_))), (0, .ref 530)]) (st' := []) rfl ?_
                    refine T_vret xr_141_551 xf_141.2.2 ?_
                    refine hQ _ _ ?_
                    exact ⟨at_, at_ + 1, 1, o 10, o 11, nm, 1, 0, at_ + 1, rfl, hp, (Or.inr (Or.inr (Or.inr (Or.inr ⟨fun h => absurd (X_sg_L.mpr ⟨by omega, h⟩) (by assumption), fun h => absurd (X_sg_D.mpr ⟨by omega, h⟩) (by assumption), by omega, by omega, rfl, rfl, Or.inr ⟨by first | exact Or.inl (by unfold X_isSg; omega) | exact Or.inr ⟨by omega, Or.inl (X_sg_L.mp (by assumption)).2⟩ | exact Or.inr ⟨by omega, Or.inr (X_sg_D.mp (by assumption)).2⟩, rfl⟩⟩)))), rfl, (fun _ => rfl), (fun h => absurd h (by omega)), (fun h => absurd h (by omega)), by first | assumption | omega, h385, ((((X_Fr.rf).tr (X_Fr.of n280 e281 (by first | decide | exact ⟨Nat.le_add_right _ _, Nat.add_le_add_left (by decide) _⟩ | omega))).tr (X_Fr.mono ⟨hF286.1, hF286.2⟩ (fun q hq => by first | exact hq | (rcases hq with rfl <;> decide) | (rcases hq with rfl | rfl <;> decide) | (rcases hq with rfl | rfl | rfl <;> decide) | (rcases hq with rfl | rfl | rfl | rfl <;> decide) | (rcases hq with rfl | rfl | rfl | rfl | rfl <;> decide) | (rcases hq with rfl | rfl | rfl | rfl | rfl | rfl <;> decide) | (rcases hq with rfl | rfl | rfl | rfl | rfl | rfl | rfl <;> decide) | omega))).tr (X_Fr.of n299 e300 (by first | decide | exact ⟨Nat.le_add_right _ _, Nat.add_le_add_left (by decide) _⟩ | omega))).tr (X_Fr.of n386 e387 (by first | decide | exact ⟨Nat.le_add_right _ _, Nat.add_le_add_left (by decide) _⟩ | omega))⟩
                  · skip
                    have c383 : ¬ (X_isL (X_sg tb len (at_ + 1))) := c383
                    refine T_p xr_141_455 xn_141 (pc' := 456) (ls' := [(1, .int (iI (X_sg tb len at_))), (0, .ref 530)]) (st' := [.ref 530, .ref 530]) rfl ?_
                    refine T_p xr_141_456 xn_141 (pc' := 457) (ls' := [(1, .int (iI (X_sg tb len at_))), (0, .ref 530)]) (st' := [.ref 530, .ref 530, .ref 530]) rfl ?_
                    refine T_get xr_141_457 h298 rfl (v := .int (iI (at_ + 1))) rfl (pc' := 460) rfl ?_
                    refine T_cv (S := S297) (q := 530) xr_141_460 xf_136.1 xf_136.2.1 xn_136 (as := [.int (iI (at_ + 1))]) (r := [.ref 530]) rfl h298 (Nat.le_of_ble_eq_true rfl) (Nat.le_of_ble_eq_true rfl) (pc' := 463) rfl (ls' := [(0, .ref 530), (1, .int (iI (at_ + 1)))]) rfl ?_
                    refine T_mono (r_sign sc S297 (X_ou (X_ou o 7 at_) 8 (at_ + 1)) nm tx tb len (at_ + 1) h298 h370 (show (o 3) = len from by first | assumption | omega) hl htx (by omega)) (fun v388 S389 h390 => ?_)
                    rcases h390 with ⟨hv391, hf392⟩
                    rw [hv391]
                    rw [hf392]
                    have hg393 := X_sg_r (tb := tb) (len := len) (k := (at_ + 1)) (by omega)
                    have hg394 := X_sg_c (tb := tb) (len := len) (k := (at_ + 1))
                    show X_T sc 141 (463, [(1, .int (iI (X_sg tb len at_))), (0, .ref 530)], [.int (iI (X_sg tb len (at_ + 1))), .ref 530], S297) _
                    refine T_cs xr_141_463 (by decide) xf_138.1 xn_138 (as := [.int (iI (X_sg tb len (at_ + 1)))]) (r := [.ref 530]) rfl (Nat.le_of_ble_eq_true rfl) (Nat.le_of_ble_eq_true rfl) (pc' := 466) rfl (ls' := [(0, .int (iI (X_sg tb len (at_ + 1))))]) rfl ?_
                    refine T_mono (r_isDigit sc S297 (X_sg tb len (at_ + 1)) (by omega)) (fun v395 S396 h397 => ?_)
                    rcases h397 with ⟨hv398, hf399⟩
                    rw [hv398]
                    rw [hf399]
                    show X_T sc 141 (466, [(1, .int (iI (X_sg tb len at_))), (0, .ref 530)], [.int (iI (bI (X_isD (X_sg tb len (at_ + 1))))), .ref 530], S297) _
                    refine T_bif_eq xr_141_466 (t := 473) (pc' := 469) rfl rfl (fun c400 => ?_) (fun c400 => ?_)
                    · skip
                      have c400 : ¬ (X_isD (X_sg tb len (at_ + 1))) := c400
                      refine T_p xr_141_473 xn_141 (pc' := 475) (ls' := [(1, .int (iI (X_sg tb len at_))), (0, .ref 530)]) (st' := [.int (iI 6), .ref 530]) rfl ?_
                      refine T_put xr_141_475 h298 rfl (Nat.le_of_ble_eq_true rfl) rfl (fs' := [.ref 531, .int (iI (o 1)), .ref 532, .int (iI (o 3)), .int (iI (o 4)), .int (iI (o 5)), .int (iI (o 6)), .int (iI at_), .int (iI (at_ + 1)), .int (iI 6), .int (iI (o 10)), .int (iI (o 11)), .long nm, .ref 533, .ref 534, .ref 535, .ref 536, .ref 537, .ref 538, .ref 539, .ref 540, .ref 541, .ref 542, .ref 543, .ref 544, .ref 545, .ref 546, .ref 547, .int (iI (o 28)), .int (iI (o 29)), .int (iI (o 30)), .int (iI (o 31)), .int (iI (o 32)), .int (iI (o 33)), .ref 548, .ref 549, .ref 550, .ref 551, .int (iI (o 38)), .ref 552, .ref 553, .ref 554, .ref 555, .ref 556, .ref 557, .ref 558, .ref 559, .ref 560, .ref 561, .int (iI (o 49)), .ref 562, .ref 563, .ref 564, .ref 565, .ref 566, .ref 567, .ref 568, .ref 569, .int (iI (o 58)), .ref 570, .ref 571, .ref 572, .ref 573, .ref 574, .ref 575, .ref 576, .ref 577, .ref 578, .int (iI (o 68)), .int (iI (o 69)), .int (iI (o 70)), .ref 579]) rfl (pc' := 478) rfl (fun S401 h402 n403 e404 => ?_)
                      refine T_p xr_141_478 xn_141 (pc' := 551) (ls' := [(1, .int (iI (X_sg tb len at_))), (0, .ref 530)]) (st' := []) rfl ?_
                      refine T_vret xr_141_551 xf_141.2.2 ?_
                      refine hQ _ _ ?_
                      exact ⟨at_, at_ + 1, 6, o 10, o 11, nm, (X_at tb len at_), 0, at_ + 1, rfl, hp, (Or.inr (Or.inr (Or.inr (Or.inr ⟨fun h => absurd (X_sg_L.mpr ⟨by omega, h⟩) (by assumption), fun h => absurd (X_sg_D.mpr ⟨by omega, h⟩) (by assumption), by omega, by omega, rfl, rfl, Or.inl ⟨by unfold X_isSg; omega, by first | (intro h; omega) | (intro h; exact absurd h.2 (X_sg_n (by assumption) (by assumption))), rfl⟩⟩)))), (by rw [show X_at tb len at_ = X_sg tb len at_ by omega]; unfold X_rk; (repeat (first | rw [if_neg (by omega)] | rw [if_pos (by omega)]))), (fun _ => rfl), (fun h => absurd h (by omega)), (fun h => absurd h (by omega)), by first | assumption | omega, h402, ((((X_Fr.rf).tr (X_Fr.of n280 e281 (by first | decide | exact ⟨Nat.le_add_right _ _, Nat.add_le_add_left (by decide) _⟩ | omega))).tr (X_Fr.mono ⟨hF286.1, hF286.2⟩ (fun q hq => by first | exact hq | (rcases hq with rfl <;> decide) | (rcases hq with rfl | rfl <;> decide) | (rcases hq with rfl | rfl | rfl <;> decide) | (rcases hq with rfl | rfl | rfl | rfl <;> decide) | (rcases hq with rfl | rfl | rfl | rfl | rfl <;> decide) | (rcases hq with rfl | rfl | rfl | rfl | rfl | rfl <;> decide) | (rcases hq with rfl | rfl | rfl | rfl | rfl | rfl | rfl <;> decide) | omega))).tr (X_Fr.of n299 e300 (by first | decide | exact ⟨Nat.le_add_right _ _, Nat.add_le_add_left (by decide) _⟩ | omega))).tr (X_Fr.of n403 e404 (by first | decide | exact ⟨Nat.le_add_right _ _, Nat.add_le_add_left (by decide) _⟩ | omega))⟩
                    · skip
                      have c400 : (X_isD (X_sg tb len (at_ + 1))) := c400
                      refine T_p xr_141_469 xn_141 (pc' := 470) (ls' := [(1, .int (iI (X_sg tb len at_))), (0, .ref 530)]) (st' := [.int (iI 1), .ref 530]) rfl ?_
                      refine T_p xr_141_470 xn_141 (pc' := 475) (ls' := [(1, .int (iI (X_sg tb len at_))), (0, .ref 530)]) (st' := [.int (iI 1), .ref 530]) rfl ?_
                      refine T_put xr_141_475 h298 rfl (Nat.le_of_ble_eq_true rfl) rfl (fs' := [.ref 531, .int (iI (o 1)), .ref 532, .int (iI (o 3)), .int (iI (o 4)), .int (iI (o 5)), .int (iI (o 6)), .int (iI at_), .int (iI (at_ + 1)), .int (iI 1), .int (iI (o 10)), .int (iI (o 11)), .long nm, .ref 533, .ref 534, .ref 535, .ref 536, .ref 537, .ref 538, .ref 539, .ref 540, .ref 541, .ref 542, .ref 543, .ref 544, .ref 545, .ref 546, .ref 547, .int (iI (o 28)), .int (iI (o 29)), .int (iI (o 30)), .int (iI (o 31)), .int (iI (o 32)), .int (iI (o 33)), .ref 548, .ref 549, .ref 550, .ref 551, .int (iI (o 38)), .ref 552, .ref 553, .ref 554, .ref 555, .ref 556, .ref 557, .ref 558, .ref 559, .ref 560, .ref 561, .int (iI (o 49)), .ref 562, .ref 563, .ref 564, .ref 565, .ref 566, .ref 567, .ref 568, .ref 569, .int (iI (o 58)), .ref 570, .ref 571, .ref 572, .ref 573, .ref 574, .ref 575, .ref 576, .ref 577, .ref 578, .int (iI (o 68)), .int (iI (o 69)), .int (iI (o 70)), .ref 579]) rfl (pc' := 478) rfl (fun S405 h406 n407 e408 => ?_)
                      refine T_p xr_141_478 xn_141 (pc' := 551) (ls' := [(1, .int (iI (X_sg tb len at_))), (0, .ref 530)]) (st' := []) rfl ?_
                      refine T_vret xr_141_551 xf_141.2.2 ?_
                      refine hQ _ _ ?_
                      exact ⟨at_, at_ + 1, 1, o 10, o 11, nm, 1, 0, at_ + 1, rfl, hp, (Or.inr (Or.inr (Or.inr (Or.inr ⟨fun h => absurd (X_sg_L.mpr ⟨by omega, h⟩) (by assumption), fun h => absurd (X_sg_D.mpr ⟨by omega, h⟩) (by assumption), by omega, by omega, rfl, rfl, Or.inr ⟨by first | exact Or.inl (by unfold X_isSg; omega) | exact Or.inr ⟨by omega, Or.inl (X_sg_L.mp (by assumption)).2⟩ | exact Or.inr ⟨by omega, Or.inr (X_sg_D.mp (by assumption)).2⟩, rfl⟩⟩)))), rfl, (fun _ => rfl), (fun h => absurd h (by omega)), (fun h => absurd h (by omega)), by first | assumption | omega, h406, ((((X_Fr.rf).tr (X_Fr.of n280 e281 (by first | decide | exact ⟨Nat.le_add_right _ _, Nat.add_le_add_left (by decide) _⟩ | omega))).tr (X_Fr.mono ⟨hF286.1, hF286.2⟩ (fun q hq => by first | exact hq | (rcases hq with rfl <;> decide) | (rcases hq with rfl | rfl <;> decide) | (rcases hq with rfl | rfl | rfl <;> decide) | (rcases hq with rfl | rfl | rfl | rfl <;> decide) | (rcases hq with rfl | rfl | rfl | rfl | rfl <;> decide) | (rcases hq with rfl | rfl | rfl | rfl | rfl | rfl <;> decide) | (rcases hq with rfl | rfl | rfl | rfl | rfl | rfl | rfl <;> decide) | omega))).tr (X_Fr.of n299 e300 (by first | decide | exact ⟨Nat.le_add_right _ _, Nat.add_le_add_left (by decide) _⟩ | omega))).tr (X_Fr.of n407 e408 (by first | decide | exact ⟨Nat.le_add_right _ _, Nat.add_le_add_left (by decide) _⟩ | omega))⟩
              · skip
                have c314 : ¬ (¬ (X_sg tb len at_) = 34) := c314
                refine T_p xr_141_427 xn_141 (pc' := 428) (ls' := [(1, .int (iI (X_sg tb len at_))), (0, .ref 530)]) (st' := [.ref 530]) rfl ?_
                refine T_cv (S := S297) (q := 530) xr_141_428 xf_143.1 xf_143.2.1 xn_143 (as := []) (r := []) rfl h298 (Nat.le_of_ble_eq_true rfl) (Nat.le_of_ble_eq_true rfl) (pc' := 431) rfl (ls' := [(0, .ref 530)]) rfl ?_
                have h409 := (n299 532 (by decide)).trans (h289)
                refine T_mono (r_nextPart sc S297 (X_ou (X_ou o 7 at_) 8 (at_ + 1)) nm tx tb len at_ h298 h409 (show (o 3) = len from by first | assumption | omega) hl htx (show at_ = at_ from by omega) (show (at_ + 1) = at_ + 1 from by omega) (by omega) (by omega)) (fun v410 S411 h412 => ?_)
                rcases h412 with ⟨en413, tk414, nm415, r416, ct417, e418, hv419, hp420, hp421, hp422, hp423, hM424, hf425⟩
                rw [hv419]
                have h426 : S411.1 530 = .inr (11, [.ref 531, .int (iI (o 1)), .ref 532, .int (iI (o 3)), .int (iI (o 4)), .int (iI (o 5)), .int (iI (o 6)), .int (iI at_), .int (iI en413), .int (iI tk414), .int (iI (o 10)), .int (iI (o 11)), .long nm415, .ref 533, .ref 534, .ref 535, .ref 536, .ref 537, .ref 538, .ref 539, .ref 540, .ref 541, .ref 542, .ref 543, .ref 544, .ref 545, .ref 546, .ref 547, .int (iI (o 28)), .int (iI (o 29)), .int (iI (o 30)), .int (iI (o 31)), .int (iI (o 32)), .int (iI (o 33)), .ref 548, .ref 549, .ref 550, .ref 551, .int (iI (o 38)), .ref 552, .ref 553, .ref 554, .ref 555, .ref 556, .ref 557, .ref 558, .ref 559, .ref 560, .ref 561, .int (iI (o 49)), .ref 562, .ref 563, .ref 564, .ref 565, .ref 566, .ref 567, .ref 568, .ref 569, .int (iI (o 58)), .ref 570, .ref 571, .ref 572, .ref 573, .ref 574, .ref 575, .ref 576, .ref 577, .ref 578, .int (iI (o 68)), .int (iI (o 69)), .int (iI (o 70)), .ref 579]) := hM424
                show X_T sc 141 (431, [(1, .int (iI (X_sg tb len at_))), (0, .ref 530)], [], S411) _
                refine T_p xr_141_431 xn_141 (pc' := 551) (ls' := [(1, .int (iI (X_sg tb len at_))), (0, .ref 530)]) (st' := []) rfl ?_
                refine T_vret xr_141_551 xf_141.2.2 ?_
                refine hQ _ _ ?_
                exact ⟨at_, en413, tk414, o 10, o 11, nm415, r416, ct417, e418, rfl, hp, (Or.inr (Or.inr (Or.inr (Or.inl hp420)))), hp421, (fun h => (hp422 h).1), (fun h => (hp422 (by omega)).2), (fun h => by
                      exfalso
                      obtain ⟨-, m, -, h2 | h2⟩ := hp420
                      · have := h2.2.1; omega
                      · have := h2.2.2.2.1; omega), (by omega), h426, ((((X_Fr.rf).tr (X_Fr.of n280 e281 (by first | decide | exact ⟨Nat.le_add_right _ _, Nat.add_le_add_left (by decide) _⟩ | omega))).tr (X_Fr.mono ⟨hF286.1, hF286.2⟩ (fun q hq => by first | exact hq | (rcases hq with rfl <;> decide) | (rcases hq with rfl | rfl <;> decide) | (rcases hq with rfl | rfl | rfl <;> decide) | (rcases hq with rfl | rfl | rfl | rfl <;> decide) | (rcases hq with rfl | rfl | rfl | rfl | rfl <;> decide) | (rcases hq with rfl | rfl | rfl | rfl | rfl | rfl <;> decide) | (rcases hq with rfl | rfl | rfl | rfl | rfl | rfl | rfl <;> decide) | omega))).tr (X_Fr.of n299 e300 (by first | decide | exact ⟨Nat.le_add_right _ _, Nat.add_le_add_left (by decide) _⟩ | omega))).tr (X_Fr.mono ⟨hf425.1, hf425.2⟩ (fun q hq => by first | exact hq | (rcases hq with rfl <;> decide) | (rcases hq with rfl | rfl <;> decide) | (rcases hq with rfl | rfl | rfl <;> decide) | (rcases hq with rfl | rfl | rfl | rfl <;> decide) | (rcases hq with rfl | rfl | rfl | rfl | rfl <;> decide) | (rcases hq with rfl | rfl | rfl | rfl | rfl | rfl <;> decide) | (rcases hq with rfl | rfl | rfl | rfl | rfl | rfl | rfl <;> decide) | omega))⟩
            · skip
              have c313 : (X_isD (X_sg tb len at_)) := c313
              have hc0 : X_isD (X_sg tb len at_) := by assumption
              refine T_p xr_141_296 xn_141 (pc' := 297) (ls' := [(1, .int (iI (X_sg tb len at_))), (0, .ref 530)]) (st' := [.ref 530]) rfl ?_
              refine T_p xr_141_297 xn_141 (pc' := 298) (ls' := [(1, .int (iI (X_sg tb len at_))), (0, .ref 530)]) (st' := [.int (iI 0), .ref 530]) rfl ?_
              refine T_put xr_141_298 h298 rfl (Nat.le_of_ble_eq_true rfl) rfl (fs' := [.ref 531, .int (iI (o 1)), .ref 532, .int (iI (o 3)), .int (iI (o 4)), .int (iI (o 5)), .int (iI (o 6)), .int (iI at_), .int (iI (at_ + 1)), .int (iI (o 9)), .int (iI 0), .int (iI (o 11)), .long nm, .ref 533, .ref 534, .ref 535, .ref 536, .ref 537, .ref 538, .ref 539, .ref 540, .ref 541, .ref 542, .ref 543, .ref 544, .ref 545, .ref 546, .ref 547, .int (iI (o 28)), .int (iI (o 29)), .int (iI (o 30)), .int (iI (o 31)), .int (iI (o 32)), .int (iI (o 33)), .ref 548, .ref 549, .ref 550, .ref 551, .int (iI (o 38)), .ref 552, .ref 553, .ref 554, .ref 555, .ref 556, .ref 557, .ref 558, .ref 559, .ref 560, .ref 561, .int (iI (o 49)), .ref 562, .ref 563, .ref 564, .ref 565, .ref 566, .ref 567, .ref 568, .ref 569, .int (iI (o 58)), .ref 570, .ref 571, .ref 572, .ref 573, .ref 574, .ref 575, .ref 576, .ref 577, .ref 578, .int (iI (o 68)), .int (iI (o 69)), .int (iI (o 70)), .ref 579]) rfl (pc' := 301) rfl (fun S427 h428 n429 e430 => ?_)
              refine T_p xr_141_301 xn_141 (pc' := 302) (ls' := [(1, .int (iI (X_sg tb len at_))), (0, .ref 530)]) (st' := [.ref 530]) rfl ?_
              refine T_p xr_141_302 xn_141 (pc' := 303) (ls' := [(1, .int (iI (X_sg tb len at_))), (0, .ref 530)]) (st' := [.ref 530, .ref 530]) rfl ?_
              refine T_get xr_141_303 h428 rfl (v := .int (iI at_)) rfl (pc' := 306) rfl ?_
              refine T_put xr_141_306 h428 rfl (Nat.le_of_ble_eq_true rfl) rfl (fs' := [.ref 531, .int (iI (o 1)), .ref 532, .int (iI (o 3)), .int (iI (o 4)), .int (iI (o 5)), .int (iI (o 6)), .int (iI at_), .int (iI at_), .int (iI (o 9)), .int (iI 0), .int (iI (o 11)), .long nm, .ref 533, .ref 534, .ref 535, .ref 536, .ref 537, .ref 538, .ref 539, .ref 540, .ref 541, .ref 542, .ref 543, .ref 544, .ref 545, .ref 546, .ref 547, .int (iI (o 28)), .int (iI (o 29)), .int (iI (o 30)), .int (iI (o 31)), .int (iI (o 32)), .int (iI (o 33)), .ref 548, .ref 549, .ref 550, .ref 551, .int (iI (o 38)), .ref 552, .ref 553, .ref 554, .ref 555, .ref 556, .ref 557, .ref 558, .ref 559, .ref 560, .ref 561, .int (iI (o 49)), .ref 562, .ref 563, .ref 564, .ref 565, .ref 566, .ref 567, .ref 568, .ref 569, .int (iI (o 58)), .ref 570, .ref 571, .ref 572, .ref 573, .ref 574, .ref 575, .ref 576, .ref 577, .ref 578, .int (iI (o 68)), .int (iI (o 69)), .int (iI (o 70)), .ref 579]) rfl (pc' := 309) rfl (fun S431 h432 n433 e434 => ?_)
              have L435 : ∀ (m437 : Nat) (S440 : X_S) (en : Int) (nu : Int) (hM1 : S440.1 530 = .inr (11, [.ref 531, .int (iI (o 1)), .ref 532, .int (iI (o 3)), .int (iI (o 4)), .int (iI (o 5)), .int (iI (o 6)), .int (iI at_), .int (iI en), .int (iI (o 9)), .int (iI nu), .int (iI (o 11)), .long nm, .ref 533, .ref 534, .ref 535, .ref 536, .ref 537, .ref 538, .ref 539, .ref 540, .ref 541, .ref 542, .ref 543, .ref 544, .ref 545, .ref 546, .ref 547, .int (iI (o 28)), .int (iI (o 29)), .int (iI (o 30)), .int (iI (o 31)), .int (iI (o 32)), .int (iI (o 33)), .ref 548, .ref 549, .ref 550, .ref 551, .int (iI (o 38)), .ref 552, .ref 553, .ref 554, .ref 555, .ref 556, .ref 557, .ref 558, .ref 559, .ref 560, .ref 561, .int (iI (o 49)), .ref 562, .ref 563, .ref 564, .ref 565, .ref 566, .ref 567, .ref 568, .ref 569, .int (iI (o 58)), .ref 570, .ref 571, .ref 572, .ref 573, .ref 574, .ref 575, .ref 576, .ref 577, .ref 578, .int (iI (o 68)), .int (iI (o 69)), .int (iI (o 70)), .ref 579])) (hF439 : X_Fr (fun q => q = 530) S431 S440) (hen : at_ ≤ en ∧ en ≤ len) (hse : X_se X_isD tb len en = X_se X_isD tb len at_) (hnu1 : en - at_ ≤ 9 → nu = X_dv tb len at_ (en - at_).toNat) (hnu2 : 0 ≤ nu ∧ nu ≤ 999999999) (hD : ∀ k, at_ ≤ k → k < en → X_isD (X_at tb len k)) (hm438 : len - en < m437), X_T sc 141 (309, [(1, .int (iI (X_sg tb len at_))), (0, .ref 530)], [], S440) Q := by
                intro m437
                induction m437 with
                | zero =>
                  intro S440 en nu hM1 hF439 hen hse hnu1 hnu2 hD hm438
                  exact (show False by omega).elim
                | succ m437 ih436 =>
                  intro S440 en nu hM1 hF439 hen hse hnu1 hnu2 hD hm438
                  refine T_p xr_141_309 xn_141 (pc' := 310) (ls' := [(1, .int (iI (X_sg tb len at_))), (0, .ref 530)]) (st' := [.ref 530]) rfl ?_
                  refine T_p xr_141_310 xn_141 (pc' := 311) (ls' := [(1, .int (iI (X_sg tb len at_))), (0, .ref 530)]) (st' := [.ref 530, .ref 530]) rfl ?_
                  refine T_get xr_141_311 hM1 rfl (v := .int (iI en)) rfl (pc' := 314) rfl ?_
                  refine T_cv (S := S440) (q := 530) xr_141_314 xf_136.1 xf_136.2.1 xn_136 (as := [.int (iI en)]) (r := []) rfl hM1 (Nat.le_of_ble_eq_true rfl) (Nat.le_of_ble_eq_true rfl) (pc' := 317) rfl (ls' := [(0, .ref 530), (1, .int (iI en))]) rfl ?_
                  have h441 := (hF439.1 532 (by first | decide | omega)).trans ((n433 532 (by decide)).trans ((n429 532 (by decide)).trans ((n299 532 (by decide)).trans (h289))))
                  refine T_mono (r_sign sc S440 (X_ou (X_ou (X_ou o 7 at_) 8 en) 10 nu) nm tx tb len en hM1 h441 (show (o 3) = len from by first | assumption | omega) hl htx (by omega)) (fun v442 S443 h444 => ?_)
                  rcases h444 with ⟨hv445, hf446⟩
                  rw [hv445]
                  rw [hf446]
                  have hg447 := X_sg_r (tb := tb) (len := len) (k := en) (by omega)
                  have hg448 := X_sg_c (tb := tb) (len := len) (k := en)
                  show X_T sc 141 (317, [(1, .int (iI (X_sg tb len at_))), (0, .ref 530)], [.int (iI (X_sg tb len en))], S440) _
                  refine T_cs xr_141_317 (by decide) xf_138.1 xn_138 (as := [.int (iI (X_sg tb len en))]) (r := []) rfl (Nat.le_of_ble_eq_true rfl) (Nat.le_of_ble_eq_true rfl) (pc' := 320) rfl (ls' := [(0, .int (iI (X_sg tb len en)))]) rfl ?_
                  refine T_mono (r_isDigit sc S440 (X_sg tb len en) (by omega)) (fun v449 S450 h451 => ?_)
                  rcases h451 with ⟨hv452, hf453⟩
                  rw [hv452]
                  rw [hf453]
                  show X_T sc 141 (320, [(1, .int (iI (X_sg tb len at_))), (0, .ref 530)], [.int (iI (bI (X_isD (X_sg tb len en))))], S440) _
                  refine T_bif_eq xr_141_320 (t := 373) (pc' := 323) rfl rfl (fun c454 => ?_) (fun c454 => ?_)
                  · skip
                    have c454 : ¬ (X_isD (X_sg tb len en)) := c454
                    have hm : X_se X_isD tb len at_ = en := hse.symm.trans (X_se_no (by intro h; exact absurd (X_sg_D.mpr h) (by assumption)))
                    have hnd : ¬ X_isD (X_sg tb len en) := by assumption
                    refine T_p xr_141_373 xn_141 (pc' := 374) (ls' := [(1, .int (iI (X_sg tb len at_))), (0, .ref 530)]) (st' := [.ref 530]) rfl ?_
                    refine T_p xr_141_374 xn_141 (pc' := 375) (ls' := [(1, .int (iI (X_sg tb len at_))), (0, .ref 530)]) (st' := [.ref 530, .ref 530]) rfl ?_
                    refine T_get xr_141_375 hM1 rfl (v := .int (iI en)) rfl (pc' := 378) rfl ?_
                    refine T_p xr_141_378 xn_141 (pc' := 379) (ls' := [(1, .int (iI (X_sg tb len at_))), (0, .ref 530)]) (st' := [.ref 530, .int (iI en), .ref 530]) rfl ?_
                    refine T_get xr_141_379 hM1 rfl (v := .int (iI at_)) rfl (pc' := 382) rfl ?_
                    refine T_zisub xr_141_382 (z := en - at_) rfl (pc' := 383) rfl ?_
                    refine T_put xr_141_383 hM1 rfl (Nat.le_of_ble_eq_true rfl) rfl (fs' := [.ref 531, .int (iI (o 1)), .ref 532, .int (iI (o 3)), .int (iI (o 4)), .int (iI (o 5)), .int (iI (o 6)), .int (iI at_), .int (iI en), .int (iI (o 9)), .int (iI nu), .int (iI (en - at_)), .long nm, .ref 533, .ref 534, .ref 535, .ref 536, .ref 537, .ref 538, .ref 539, .ref 540, .ref 541, .ref 542, .ref 543, .ref 544, .ref 545, .ref 546, .ref 547, .int (iI (o 28)), .int (iI (o 29)), .int (iI (o 30)), .int (iI (o 31)), .int (iI (o 32)), .int (iI (o 33)), .ref 548, .ref 549, .ref 550, .ref 551, .int (iI (o 38)), .ref 552, .ref 553, .ref 554, .ref 555, .ref 556, .ref 557, .ref 558, .ref 559, .ref 560, .ref 561, .int (iI (o 49)), .ref 562, .ref 563, .ref 564, .ref 565, .ref 566, .ref 567, .ref 568, .ref 569, .int (iI (o 58)), .ref 570, .ref 571, .ref 572, .ref 573, .ref 574, .ref 575, .ref 576, .ref 577, .ref 578, .int (iI (o 68)), .int (iI (o 69)), .int (iI (o 70)), .ref 579]) rfl (pc' := 386) rfl (fun S455 h456 n457 e458 => ?_)
                    refine T_p xr_141_386 xn_141 (pc' := 387) (ls' := [(1, .int (iI (X_sg tb len at_))), (0, .ref 530)]) (st' := [.ref 530]) rfl ?_
                    refine T_p xr_141_387 xn_141 (pc' := 388) (ls' := [(1, .int (iI (X_sg tb len at_))), (0, .ref 530)]) (st' := [.ref 530, .ref 530]) rfl ?_
                    refine T_get xr_141_388 h456 rfl (v := .int (iI (en - at_))) rfl (pc' := 391) rfl ?_
                    refine T_p xr_141_391 xn_141 (pc' := 393) (ls' := [(1, .int (iI (X_sg tb len at_))), (0, .ref 530)]) (st' := [.int (iI 9), .int (iI (en - at_)), .ref 530]) rfl ?_
                    refine T_zicmp_gt xr_141_393 (t := 410) (pc' := 396) rfl rfl (fun c459 => ?_) (fun c459 => ?_)
                    · skip
                      have c459 : 9 < (en - at_) := c459
                      refine T_p xr_141_410 xn_141 (pc' := 411) (ls' := [(1, .int (iI (X_sg tb len at_))), (0, .ref 530)]) (st' := [.int (iI 1), .ref 530]) rfl ?_
                      refine T_p xr_141_411 xn_141 (pc' := 415) (ls' := [(1, .int (iI (X_sg tb len at_))), (0, .ref 530)]) (st' := [.int (iI 1), .ref 530]) rfl ?_
                      refine T_put xr_141_415 h456 rfl (Nat.le_of_ble_eq_true rfl) rfl (fs' := [.ref 531, .int (iI (o 1)), .ref 532, .int (iI (o 3)), .int (iI (o 4)), .int (iI (o 5)), .int (iI (o 6)), .int (iI at_), .int (iI en), .int (iI 1), .int (iI nu), .int (iI (en - at_)), .long nm, .ref 533, .ref 534, .ref 535, .ref 536, .ref 537, .ref 538, .ref 539, .ref 540, .ref 541, .ref 542, .ref 543, .ref 544, .ref 545, .ref 546, .ref 547, .int (iI (o 28)), .int (iI (o 29)), .int (iI (o 30)), .int (iI (o 31)), .int (iI (o 32)), .int (iI (o 33)), .ref 548, .ref 549, .ref 550, .ref 551, .int (iI (o 38)), .ref 552, .ref 553, .ref 554, .ref 555, .ref 556, .ref 557, .ref 558, .ref 559, .ref 560, .ref 561, .int (iI (o 49)), .ref 562, .ref 563, .ref 564, .ref 565, .ref 566, .ref 567, .ref 568, .ref 569, .int (iI (o 58)), .ref 570, .ref 571, .ref 572, .ref 573, .ref 574, .ref 575, .ref 576, .ref 577, .ref 578, .int (iI (o 68)), .int (iI (o 69)), .int (iI (o 70)), .ref 579]) rfl (pc' := 418) rfl (fun S460 h461 n462 e463 => ?_)
                      refine T_p xr_141_418 xn_141 (pc' := 551) (ls' := [(1, .int (iI (X_sg tb len at_))), (0, .ref 530)]) (st' := []) rfl ?_
                      refine T_vret xr_141_551 xf_141.2.2 ?_
                      refine hQ _ _ ?_
                      exact ⟨at_, en, 1, nu, en - at_, nm, 1, 0, en, rfl, hp, (Or.inr (Or.inr (Or.inl ⟨(X_sg_D.mp hc0).2, hm.symm, Or.inl ⟨by first | exact Or.inl (by omega) | exact Or.inr (X_sg_L.mp (by assumption)).2, rfl, rfl⟩⟩))), rfl, fun h => absurd h (by omega), fun h => absurd h (by omega), fun h => absurd h (by omega), by first | assumption | omega, h461, ((((((((X_Fr.rf).tr (X_Fr.of n280 e281 (by first | decide | exact ⟨Nat.le_add_right _ _, Nat.add_le_add_left (by decide) _⟩ | omega))).tr (X_Fr.mono ⟨hF286.1, hF286.2⟩ (fun q hq => by first | exact hq | (rcases hq with rfl <;> decide) | (rcases hq with rfl | rfl <;> decide) | (rcases hq with rfl | rfl | rfl <;> decide) | (rcases hq with rfl | rfl | rfl | rfl <;> decide) | (rcases hq with rfl | rfl | rfl | rfl | rfl <;> decide) | (rcases hq with rfl | rfl | rfl | rfl | rfl | rfl <;> decide) | (rcases hq with rfl | rfl | rfl | rfl | rfl | rfl | rfl <;> decide) | omega))).tr (X_Fr.of n299 e300 (by first | decide | exact ⟨Nat.le_add_right _ _, Nat.add_le_add_left (by decide) _⟩ | omega))).tr (X_Fr.of n429 e430 (by first | decide | exact ⟨Nat.le_add_right _ _, Nat.add_le_add_left (by decide) _⟩ | omega))).tr (X_Fr.of n433 e434 (by first | decide | exact ⟨Nat.le_add_right _ _, Nat.add_le_add_left (by decide) _⟩ | omega))).tr (X_Fr.mono ⟨hF439.1, hF439.2⟩ (fun q hq => by first | exact hq | (rcases hq with rfl <;> decide) | (rcases hq with rfl | rfl <;> decide) | (rcases hq with rfl | rfl | rfl <;> decide) | (rcases hq with rfl | rfl | rfl | rfl <;> decide) | (rcases hq with rfl | rfl | rfl | rfl | rfl <;> decide) | (rcases hq with rfl | rfl | rfl | rfl | rfl | rfl <;> decide) | (rcases hq with rfl | rfl | rfl | rfl | rfl | rfl | rfl <;> decide) | omega))).tr (X_Fr.of n457 e458 (by first | decide | exact ⟨Nat.le_add_right _ _, Nat.add_le_add_left (by decide) _⟩ | omega))).tr (X_Fr.of n462 e463 (by first | decide | exact ⟨Nat.le_add_right _ _, Nat.add_le_add_left (by decide) _⟩ | omega))⟩
                    · skip
                      have c459 : ¬ (9 < (en - at_)) := c459
                      refine T_p xr_141_396 xn_141 (pc' := 397) (ls' := [(1, .int (iI (X_sg tb len at_))), (0, .ref 530)]) (st' := [.ref 530, .ref 530]) rfl ?_
                      refine T_p xr_141_397 xn_141 (pc' := 398) (ls' := [(1, .int (iI (X_sg tb len at_))), (0, .ref 530)]) (st' := [.ref 530, .ref 530, .ref 530]) rfl ?_
                      refine T_get xr_141_398 h456 rfl (v := .int (iI en)) rfl (pc' := 401) rfl ?_
                      refine T_cv (S := S455) (q := 530) xr_141_401 xf_136.1 xf_136.2.1 xn_136 (as := [.int (iI en)]) (r := [.ref 530]) rfl h456 (Nat.le_of_ble_eq_true rfl) (Nat.le_of_ble_eq_true rfl) (pc' := 404) rfl (ls' := [(0, .ref 530), (1, .int (iI en))]) rfl ?_
                      have h464 := (n457 532 (by decide)).trans (h441)
                      refine T_mono (r_sign sc S455 (X_ou (X_ou (X_ou (X_ou o 7 at_) 8 en) 10 nu) 11 (en - at_)) nm tx tb len en h456 h464 (show (o 3) = len from by first | assumption | omega) hl htx (by omega)) (fun v465 S466 h467 => ?_)
                      rcases h467 with ⟨hv468, hf469⟩
                      rw [hv468]
                      rw [hf469]
                      have hg470 := X_sg_r (tb := tb) (len := len) (k := en) (by omega)
                      have hg471 := X_sg_c (tb := tb) (len := len) (k := en)
                      show X_T sc 141 (404, [(1, .int (iI (X_sg tb len at_))), (0, .ref 530)], [.int (iI (X_sg tb len en)), .ref 530], S455) _
                      refine T_cs xr_141_404 (by decide) xf_137.1 xn_137 (as := [.int (iI (X_sg tb len en))]) (r := [.ref 530]) rfl (Nat.le_of_ble_eq_true rfl) (Nat.le_of_ble_eq_true rfl) (pc' := 407) rfl (ls' := [(0, .int (iI (X_sg tb len en)))]) rfl ?_
                      refine T_mono (r_isLetter sc S455 (X_sg tb len en) (by omega)) (fun v472 S473 h474 => ?_)
                      rcases h474 with ⟨hv475, hf476⟩
                      rw [hv475]
                      rw [hf476]
                      show X_T sc 141 (407, [(1, .int (iI (X_sg tb len at_))), (0, .ref 530)], [.int (iI (bI (X_isL (X_sg tb len en)))), .ref 530], S455) _
                      refine T_bif_eq xr_141_407 (t := 414) (pc' := 410) rfl rfl (fun c477 => ?_) (fun c477 => ?_)
                      · skip
                        have c477 : ¬ (X_isL (X_sg tb len en)) := c477
                        refine T_p xr_141_414 xn_141 (pc' := 415) (ls' := [(1, .int (iI (X_sg tb len at_))), (0, .ref 530)]) (st' := [.int (iI 4), .ref 530]) rfl ?_
                        refine T_put xr_141_415 h456 rfl (Nat.le_of_ble_eq_true rfl) rfl (fs' := [.ref 531, .int (iI (o 1)), .ref 532, .int (iI (o 3)), .int (iI (o 4)), .int (iI (o 5)), .int (iI (o 6)), .int (iI at_), .int (iI en), .int (iI 4), .int (iI nu), .int (iI (en - at_)), .long nm, .ref 533, .ref 534, .ref 535, .ref 536, .ref 537, .ref 538, .ref 539, .ref 540, .ref 541, .ref 542, .ref 543, .ref 544, .ref 545, .ref 546, .ref 547, .int (iI (o 28)), .int (iI (o 29)), .int (iI (o 30)), .int (iI (o 31)), .int (iI (o 32)), .int (iI (o 33)), .ref 548, .ref 549, .ref 550, .ref 551, .int (iI (o 38)), .ref 552, .ref 553, .ref 554, .ref 555, .ref 556, .ref 557, .ref 558, .ref 559, .ref 560, .ref 561, .int (iI (o 49)), .ref 562, .ref 563, .ref 564, .ref 565, .ref 566, .ref 567, .ref 568, .ref 569, .int (iI (o 58)), .ref 570, .ref 571, .ref 572, .ref 573, .ref 574, .ref 575, .ref 576, .ref 577, .ref 578, .int (iI (o 68)), .int (iI (o 69)), .int (iI (o 70)), .ref 579]) rfl (pc' := 418) rfl (fun S478 h479 n480 e481 => ?_)
                        refine T_p xr_141_418 xn_141 (pc' := 551) (ls' := [(1, .int (iI (X_sg tb len at_))), (0, .ref 530)]) (st' := []) rfl ?_
                        refine T_vret xr_141_551 xf_141.2.2 ?_
                        refine hQ _ _ ?_
                        have hne : ¬ en = at_ := fun e => by
                          rw [e] at hnd
                          exact hnd hc0
                        by_cases hd1 : en - at_ = 1
                        · skip
                          exact ⟨at_, en, 4, nu, en - at_, nm, 5, (iL nu), en, rfl, hp, (Or.inr (Or.inr (Or.inl ⟨(X_sg_D.mp hc0).2, hm.symm, Or.inr ⟨by omega, fun h => absurd (X_sg_L.mpr ⟨(by unfold X_isL at h; rcases X_sg_c (tb := tb) (len := len) (k := en) with z | z <;> omega), h⟩) (by assumption), by rw [hnu1 (by omega)], Or.inl ⟨hd1, rfl⟩⟩⟩))), rfl, fun _ => rfl, fun h => absurd h (by omega), fun _ => ⟨rfl, by exact ⟨fun _ => rfl, fun _ => hd1⟩, by omega, by omega⟩, (by omega), h479, ((((((((X_Fr.rf).tr (X_Fr.of n280 e281 (by first | decide | exact ⟨Nat.le_add_right _ _, Nat.add_le_add_left (by decide) _⟩ | omega))).tr (X_Fr.mono ⟨hF286.1, hF286.2⟩ (fun q hq => by first | exact hq | (rcases hq with rfl <;> decide) | (rcases hq with rfl | rfl <;> decide) | (rcases hq with rfl | rfl | rfl <;> decide) | (rcases hq with rfl | rfl | rfl | rfl <;> decide) | (rcases hq with rfl | rfl | rfl | rfl | rfl <;> decide) | (rcases hq with rfl | rfl | rfl | rfl | rfl | rfl <;> decide) | (rcases hq with rfl | rfl | rfl | rfl | rfl | rfl | rfl <;> decide) | omega))).tr (X_Fr.of n299 e300 (by first | decide | exact ⟨Nat.le_add_right _ _, Nat.add_le_add_left (by decide) _⟩ | omega))).tr (X_Fr.of n429 e430 (by first | decide | exact ⟨Nat.le_add_right _ _, Nat.add_le_add_left (by decide) _⟩ | omega))).tr (X_Fr.of n433 e434 (by first | decide | exact ⟨Nat.le_add_right _ _, Nat.add_le_add_left (by decide) _⟩ | omega))).tr (X_Fr.mono ⟨hF439.1, hF439.2⟩ (fun q hq => by first | exact hq | (rcases hq with rfl <;> decide) | (rcases hq with rfl | rfl <;> decide) | (rcases hq with rfl | rfl | rfl <;> decide) | (rcases hq with rfl | rfl | rfl | rfl <;> decide) | (rcases hq with rfl | rfl | rfl | rfl | rfl <;> decide) | (rcases hq with rfl | rfl | rfl | rfl | rfl | rfl <;> decide) | (rcases hq with rfl | rfl | rfl | rfl | rfl | rfl | rfl <;> decide) | omega))).tr (X_Fr.of n457 e458 (by first | decide | exact ⟨Nat.le_add_right _ _, Nat.add_le_add_left (by decide) _⟩ | omega))).tr (X_Fr.of n480 e481 (by first | decide | exact ⟨Nat.le_add_right _ _, Nat.add_le_add_left (by decide) _⟩ | omega))⟩
                        · skip
                          exact ⟨at_, en, 4, nu, en - at_, nm, 4, (iL nu), en, rfl, hp, (Or.inr (Or.inr (Or.inl ⟨(X_sg_D.mp hc0).2, hm.symm, Or.inr ⟨by omega, fun h => absurd (X_sg_L.mpr ⟨(by unfold X_isL at h; rcases X_sg_c (tb := tb) (len := len) (k := en) with z | z <;> omega), h⟩) (by assumption), by rw [hnu1 (by omega)], Or.inr ⟨hd1, rfl⟩⟩⟩))), rfl, fun _ => rfl, fun h => absurd h (by omega), fun _ => ⟨rfl, by exact ⟨fun h => absurd h hd1, fun h => absurd h (by omega)⟩, by omega, by omega⟩, (by omega), h479, ((((((((X_Fr.rf).tr (X_Fr.of n280 e281 (by first | decide | exact ⟨Nat.le_add_right _ _, Nat.add_le_add_left (by decide) _⟩ | omega))).tr (X_Fr.mono ⟨hF286.1, hF286.2⟩ (fun q hq => by first | exact hq | (rcases hq with rfl <;> decide) | (rcases hq with rfl | rfl <;> decide) | (rcases hq with rfl | rfl | rfl <;> decide) | (rcases hq with rfl | rfl | rfl | rfl <;> decide) | (rcases hq with rfl | rfl | rfl | rfl | rfl <;> decide) | (rcases hq with rfl | rfl | rfl | rfl | rfl | rfl <;> decide) | (rcases hq with rfl | rfl | rfl | rfl | rfl | rfl | rfl <;> decide) | omega))).tr (X_Fr.of n299 e300 (by first | decide | exact ⟨Nat.le_add_right _ _, Nat.add_le_add_left (by decide) _⟩ | omega))).tr (X_Fr.of n429 e430 (by first | decide | exact ⟨Nat.le_add_right _ _, Nat.add_le_add_left (by decide) _⟩ | omega))).tr (X_Fr.of n433 e434 (by first | decide | exact ⟨Nat.le_add_right _ _, Nat.add_le_add_left (by decide) _⟩ | omega))).tr (X_Fr.mono ⟨hF439.1, hF439.2⟩ (fun q hq => by first | exact hq | (rcases hq with rfl <;> decide) | (rcases hq with rfl | rfl <;> decide) | (rcases hq with rfl | rfl | rfl <;> decide) | (rcases hq with rfl | rfl | rfl | rfl <;> decide) | (rcases hq with rfl | rfl | rfl | rfl | rfl <;> decide) | (rcases hq with rfl | rfl | rfl | rfl | rfl | rfl <;> decide) | (rcases hq with rfl | rfl | rfl | rfl | rfl | rfl | rfl <;> decide) | omega))).tr (X_Fr.of n457 e458 (by first | decide | exact ⟨Nat.le_add_right _ _, Nat.add_le_add_left (by decide) _⟩ | omega))).tr (X_Fr.of n480 e481 (by first | decide | exact ⟨Nat.le_add_right _ _, Nat.add_le_add_left (by decide) _⟩ | omega))⟩
                      · skip
                        have c477 : (X_isL (X_sg tb len en)) := c477
                        refine T_p xr_141_410 xn_141 (pc' := 411) (ls' := [(1, .int (iI (X_sg tb len at_))), (0, .ref 530)]) (st' := [.int (iI 1), .ref 530]) rfl ?_
                        refine T_p xr_141_411 xn_141 (pc' := 415) (ls' := [(1, .int (iI (X_sg tb len at_))), (0, .ref 530)]) (st' := [.int (iI 1), .ref 530]) rfl ?_
                        refine T_put xr_141_415 h456 rfl (Nat.le_of_ble_eq_true rfl) rfl (fs' := [.ref 531, .int (iI (o 1)), .ref 532, .int (iI (o 3)), .int (iI (o 4)), .int (iI (o 5)), .int (iI (o 6)), .int (iI at_), .int (iI en), .int (iI 1), .int (iI nu), .int (iI (en - at_)), .long nm, .ref 533, .ref 534, .ref 535, .ref 536, .ref 537, .ref 538, .ref 539, .ref 540, .ref 541, .ref 542, .ref 543, .ref 544, .ref 545, .ref 546, .ref 547, .int (iI (o 28)), .int (iI (o 29)), .int (iI (o 30)), .int (iI (o 31)), .int (iI (o 32)), .int (iI (o 33)), .ref 548, .ref 549, .ref 550, .ref 551, .int (iI (o 38)), .ref 552, .ref 553, .ref 554, .ref 555, .ref 556, .ref 557, .ref 558, .ref 559, .ref 560, .ref 561, .int (iI (o 49)), .ref 562, .ref 563, .ref 564, .ref 565, .ref 566, .ref 567, .ref 568, .ref 569, .int (iI (o 58)), .ref 570, .ref 571, .ref 572, .ref 573, .ref 574, .ref 575, .ref 576, .ref 577, .ref 578, .int (iI (o 68)), .int (iI (o 69)), .int (iI (o 70)), .ref 579]) rfl (pc' := 418) rfl (fun S482 h483 n484 e485 => ?_)
                        refine T_p xr_141_418 xn_141 (pc' := 551) (ls' := [(1, .int (iI (X_sg tb len at_))), (0, .ref 530)]) (st' := []) rfl ?_
                        refine T_vret xr_141_551 xf_141.2.2 ?_
                        refine hQ _ _ ?_
                        exact ⟨at_, en, 1, nu, en - at_, nm, 1, 0, en, rfl, hp, (Or.inr (Or.inr (Or.inl ⟨(X_sg_D.mp hc0).2, hm.symm, Or.inl ⟨by first | exact Or.inl (by omega) | exact Or.inr (X_sg_L.mp (by assumption)).2, rfl, rfl⟩⟩))), rfl, fun h => absurd h (by omega), fun h => absurd h (by omega), fun h => absurd h (by omega), by first | assumption | omega, h483, ((((((((X_Fr.rf).tr (X_Fr.of n280 e281 (by first | decide | exact ⟨Nat.le_add_right _ _, Nat.add_le_add_left (by decide) _⟩ | omega))).tr (X_Fr.mono ⟨hF286.1, hF286.2⟩ (fun q hq => by first | exact hq | (rcases hq with rfl <;> decide) | (rcases hq with rfl | rfl <;> decide) | (rcases hq with rfl | rfl | rfl <;> decide) | (rcases hq with rfl | rfl | rfl | rfl <;> decide) | (rcases hq with rfl | rfl | rfl | rfl | rfl <;> decide) | (rcases hq with rfl | rfl | rfl | rfl | rfl | rfl <;> decide) | (rcases hq with rfl | rfl | rfl | rfl | rfl | rfl | rfl <;> decide) | omega))).tr (X_Fr.of n299 e300 (by first | decide | exact ⟨Nat.le_add_right _ _, Nat.add_le_add_left (by decide) _⟩ | omega))).tr (X_Fr.of n429 e430 (by first | decide | exact ⟨Nat.le_add_right _ _, Nat.add_le_add_left (by decide) _⟩ | omega))).tr (X_Fr.of n433 e434 (by first | decide | exact ⟨Nat.le_add_right _ _, Nat.add_le_add_left (by decide) _⟩ | omega))).tr (X_Fr.mono ⟨hF439.1, hF439.2⟩ (fun q hq => by first | exact hq | (rcases hq with rfl <;> decide) | (rcases hq with rfl | rfl <;> decide) | (rcases hq with rfl | rfl | rfl <;> decide) | (rcases hq with rfl | rfl | rfl | rfl <;> decide) | (rcases hq with rfl | rfl | rfl | rfl | rfl <;> decide) | (rcases hq with rfl | rfl | rfl | rfl | rfl | rfl <;> decide) | (rcases hq with rfl | rfl | rfl | rfl | rfl | rfl | rfl <;> decide) | omega))).tr (X_Fr.of n457 e458 (by first | decide | exact ⟨Nat.le_add_right _ _, Nat.add_le_add_left (by decide) _⟩ | omega))).tr (X_Fr.of n484 e485 (by first | decide | exact ⟨Nat.le_add_right _ _, Nat.add_le_add_left (by decide) _⟩ | omega))⟩
                  · skip
                    have c454 : (X_isD (X_sg tb len en)) := c454
                    have hlt : en < len := by first | exact (X_sg_L.mp (by assumption)).1 | exact (X_sg_D.mp (by assumption)).1
                    refine T_p xr_141_323 xn_141 (pc' := 324) (ls' := [(1, .int (iI (X_sg tb len at_))), (0, .ref 530)]) (st' := [.ref 530]) rfl ?_
                    refine T_get xr_141_324 hM1 rfl (v := .int (iI en)) rfl (pc' := 327) rfl ?_
                    refine T_p xr_141_327 xn_141 (pc' := 328) (ls' := [(1, .int (iI (X_sg tb len at_))), (0, .ref 530)]) (st' := [.ref 530, .int (iI en)]) rfl ?_
                    refine T_get xr_141_328 hM1 rfl (v := .int (iI at_)) rfl (pc' := 331) rfl ?_
                    refine T_zisub xr_141_331 (z := en - at_) rfl (pc' := 332) rfl ?_
                    refine T_p xr_141_332 xn_141 (pc' := 334) (ls' := [(1, .int (iI (X_sg tb len at_))), (0, .ref 530)]) (st' := [.int (iI 9), .int (iI (en - at_))]) rfl ?_
                    refine T_zicmp_ge xr_141_334 (t := 360) (pc' := 337) rfl rfl (fun c486 => ?_) (fun c486 => ?_)
                    · skip
                      have c486 : 9 ≤ (en - at_) := c486
                      refine T_p xr_141_360 xn_141 (pc' := 361) (ls' := [(1, .int (iI (X_sg tb len at_))), (0, .ref 530)]) (st' := [.ref 530]) rfl ?_
                      refine T_p xr_141_361 xn_141 (pc' := 362) (ls' := [(1, .int (iI (X_sg tb len at_))), (0, .ref 530)]) (st' := [.ref 530, .ref 530]) rfl ?_
                      refine T_get xr_141_362 hM1 rfl (v := .int (iI en)) rfl (pc' := 365) rfl ?_
                      refine T_p xr_141_365 xn_141 (pc' := 366) (ls' := [(1, .int (iI (X_sg tb len at_))), (0, .ref 530)]) (st' := [.int (iI 1), .int (iI en), .ref 530]) rfl ?_
                      refine T_ziadd xr_141_366 (z := en + 1) rfl (pc' := 367) rfl ?_
                      refine T_put xr_141_367 hM1 rfl (Nat.le_of_ble_eq_true rfl) rfl (fs' := [.ref 531, .int (iI (o 1)), .ref 532, .int (iI (o 3)), .int (iI (o 4)), .int (iI (o 5)), .int (iI (o 6)), .int (iI at_), .int (iI (en + 1)), .int (iI (o 9)), .int (iI nu), .int (iI (o 11)), .long nm, .ref 533, .ref 534, .ref 535, .ref 536, .ref 537, .ref 538, .ref 539, .ref 540, .ref 541, .ref 542, .ref 543, .ref 544, .ref 545, .ref 546, .ref 547, .int (iI (o 28)), .int (iI (o 29)), .int (iI (o 30)), .int (iI (o 31)), .int (iI (o 32)), .int (iI (o 33)), .ref 548, .ref 549, .ref 550, .ref 551, .int (iI (o 38)), .ref 552, .ref 553, .ref 554, .ref 555, .ref 556, .ref 557, .ref 558, .ref 559, .ref 560, .ref 561, .int (iI (o 49)), .ref 562, .ref 563, .ref 564, .ref 565, .ref 566, .ref 567, .ref 568, .ref 569, .int (iI (o 58)), .ref 570, .ref 571, .ref 572, .ref 573, .ref 574, .ref 575, .ref 576, .ref 577, .ref 578, .int (iI (o 68)), .int (iI (o 69)), .int (iI (o 70)), .ref 579]) rfl (pc' := 370) rfl (fun S487 h488 n489 e490 => ?_)
                      refine T_p xr_141_370 xn_141 (pc' := 309) (ls' := [(1, .int (iI (X_sg tb len at_))), (0, .ref 530)]) (st' := []) rfl ?_
                      exact ih436 S487 (en + 1) nu h488 (hF439.tr ((X_Fr.rf).tr (X_Fr.of n489 e490 (by first | decide | exact ⟨Nat.le_add_right _ _, Nat.add_le_add_left (by decide) _⟩ | omega)))) (by omega) ((X_se_go (by omega) (X_sg_D.mp (by assumption)).2).symm.trans hse) (fun h => by first | rfl | omega) (by omega) (fun k g1 g2 => by
                            by_cases hk : k = en
                            · subst hk; exact (X_sg_D.mp (by assumption)).2
                            · exact hD k g1 (by omega)) (by omega)
                    · skip
                      have c486 : ¬ (9 ≤ (en - at_)) := c486
                      refine T_p xr_141_337 xn_141 (pc' := 338) (ls' := [(1, .int (iI (X_sg tb len at_))), (0, .ref 530)]) (st' := [.ref 530]) rfl ?_
                      refine T_p xr_141_338 xn_141 (pc' := 340) (ls' := [(1, .int (iI (X_sg tb len at_))), (0, .ref 530)]) (st' := [.int (iI 10), .ref 530]) rfl ?_
                      refine T_p xr_141_340 xn_141 (pc' := 341) (ls' := [(1, .int (iI (X_sg tb len at_))), (0, .ref 530)]) (st' := [.ref 530, .int (iI 10), .ref 530]) rfl ?_
                      refine T_get xr_141_341 hM1 rfl (v := .int (iI nu)) rfl (pc' := 344) rfl ?_
                      refine T_zimul xr_141_344 (z := 10 * nu) rfl (pc' := 345) rfl ?_
                      refine T_p xr_141_345 xn_141 (pc' := 346) (ls' := [(1, .int (iI (X_sg tb len at_))), (0, .ref 530)]) (st' := [.ref 530, .int (iI (10 * nu)), .ref 530]) rfl ?_
                      refine T_p xr_141_346 xn_141 (pc' := 347) (ls' := [(1, .int (iI (X_sg tb len at_))), (0, .ref 530)]) (st' := [.ref 530, .ref 530, .int (iI (10 * nu)), .ref 530]) rfl ?_
                      refine T_get xr_141_347 hM1 rfl (v := .int (iI en)) rfl (pc' := 350) rfl ?_
                      refine T_cv (S := S440) (q := 530) xr_141_350 xf_136.1 xf_136.2.1 xn_136 (as := [.int (iI en)]) (r := [.int (iI (10 * nu)), .ref 530]) rfl hM1 (Nat.le_of_ble_eq_true rfl) (Nat.le_of_ble_eq_true rfl) (pc' := 353) rfl (ls' := [(0, .ref 530), (1, .int (iI en))]) rfl ?_
                      refine T_mono (r_sign sc S440 (X_ou (X_ou (X_ou o 7 at_) 8 en) 10 nu) nm tx tb len en hM1 h441 (show (o 3) = len from by first | assumption | omega) hl htx (by omega)) (fun v491 S492 h493 => ?_)
                      rcases h493 with ⟨hv494, hf495⟩
                      rw [hv494]
                      rw [hf495]
                      have hg496 := X_sg_r (tb := tb) (len := len) (k := en) (by omega)
                      have hg497 := X_sg_c (tb := tb) (len := len) (k := en)
                      show X_T sc 141 (353, [(1, .int (iI (X_sg tb len at_))), (0, .ref 530)], [.int (iI (X_sg tb len en)), .int (iI (10 * nu)), .ref 530], S440) _
                      refine T_ziadd xr_141_353 (z := (10 * nu) + (X_sg tb len en)) rfl (pc' := 354) rfl ?_
                      refine T_p xr_141_354 xn_141 (pc' := 356) (ls' := [(1, .int (iI (X_sg tb len at_))), (0, .ref 530)]) (st' := [.int (iI 48), .int (iI ((10 * nu) + (X_sg tb len en))), .ref 530]) rfl ?_
                      refine T_zisub xr_141_356 (z := ((10 * nu) + (X_sg tb len en)) - 48) rfl (pc' := 357) rfl ?_
                      refine T_ie (y := iI (X_dv tb len at_ (en + 1 - at_).toNat)) (by rw [hnu1 (by omega), show (en + 1 - at_).toNat = (en - at_).toNat + 1 by omega]; show _ = iI (X_dv tb len at_ (en - at_).toNat * 10 + X_at tb len (at_ + ((en - at_).toNat : Int)) - 48); rw [show at_ + ((en - at_).toNat : Int) = en by omega]; congr 1; omega) ?_
                      have hd9 := X_dv_9 (tb := tb) (len := len) (p := at_) (en + 1 - at_).toNat (by omega) (fun i g1 g2 => by
                        by_cases hi : at_ + i = en
                        · rw [hi]; exact (X_sg_D.mp (by assumption)).2
                        · exact hD _ (by omega) (by omega))
                      refine T_put xr_141_357 hM1 rfl (Nat.le_of_ble_eq_true rfl) rfl (fs' := [.ref 531, .int (iI (o 1)), .ref 532, .int (iI (o 3)), .int (iI (o 4)), .int (iI (o 5)), .int (iI (o 6)), .int (iI at_), .int (iI en), .int (iI (o 9)), .int (iI (X_dv tb len at_ (en + 1 - at_).toNat)), .int (iI (o 11)), .long nm, .ref 533, .ref 534, .ref 535, .ref 536, .ref 537, .ref 538, .ref 539, .ref 540, .ref 541, .ref 542, .ref 543, .ref 544, .ref 545, .ref 546, .ref 547, .int (iI (o 28)), .int (iI (o 29)), .int (iI (o 30)), .int (iI (o 31)), .int (iI (o 32)), .int (iI (o 33)), .ref 548, .ref 549, .ref 550, .ref 551, .int (iI (o 38)), .ref 552, .ref 553, .ref 554, .ref 555, .ref 556, .ref 557, .ref 558, .ref 559, .ref 560, .ref 561, .int (iI (o 49)), .ref 562, .ref 563, .ref 564, .ref 565, .ref 566, .ref 567, .ref 568, .ref 569, .int (iI (o 58)), .ref 570, .ref 571, .ref 572, .ref 573, .ref 574, .ref 575, .ref 576, .ref 577, .ref 578, .int (iI (o 68)), .int (iI (o 69)), .int (iI (o 70)), .ref 579]) rfl (pc' := 360) rfl (fun S498 h499 n500 e501 => ?_)
                      refine T_p xr_141_360 xn_141 (pc' := 361) (ls' := [(1, .int (iI (X_sg tb len at_))), (0, .ref 530)]) (st' := [.ref 530]) rfl ?_
                      refine T_p xr_141_361 xn_141 (pc' := 362) (ls' := [(1, .int (iI (X_sg tb len at_))), (0, .ref 530)]) (st' := [.ref 530, .ref 530]) rfl ?_
                      refine T_get xr_141_362 h499 rfl (v := .int (iI en)) rfl (pc' := 365) rfl ?_
                      refine T_p xr_141_365 xn_141 (pc' := 366) (ls' := [(1, .int (iI (X_sg tb len at_))), (0, .ref 530)]) (st' := [.int (iI 1), .int (iI en), .ref 530]) rfl ?_
                      refine T_ziadd xr_141_366 (z := en + 1) rfl (pc' := 367) rfl ?_
                      refine T_put xr_141_367 h499 rfl (Nat.le_of_ble_eq_true rfl) rfl (fs' := [.ref 531, .int (iI (o 1)), .ref 532, .int (iI (o 3)), .int (iI (o 4)), .int (iI (o 5)), .int (iI (o 6)), .int (iI at_), .int (iI (en + 1)), .int (iI (o 9)), .int (iI (X_dv tb len at_ (en + 1 - at_).toNat)), .int (iI (o 11)), .long nm, .ref 533, .ref 534, .ref 535, .ref 536, .ref 537, .ref 538, .ref 539, .ref 540, .ref 541, .ref 542, .ref 543, .ref 544, .ref 545, .ref 546, .ref 547, .int (iI (o 28)), .int (iI (o 29)), .int (iI (o 30)), .int (iI (o 31)), .int (iI (o 32)), .int (iI (o 33)), .ref 548, .ref 549, .ref 550, .ref 551, .int (iI (o 38)), .ref 552, .ref 553, .ref 554, .ref 555, .ref 556, .ref 557, .ref 558, .ref 559, .ref 560, .ref 561, .int (iI (o 49)), .ref 562, .ref 563, .ref 564, .ref 565, .ref 566, .ref 567, .ref 568, .ref 569, .int (iI (o 58)), .ref 570, .ref 571, .ref 572, .ref 573, .ref 574, .ref 575, .ref 576, .ref 577, .ref 578, .int (iI (o 68)), .int (iI (o 69)), .int (iI (o 70)), .ref 579]) rfl (pc' := 370) rfl (fun S502 h503 n504 e505 => ?_)
                      refine T_p xr_141_370 xn_141 (pc' := 309) (ls' := [(1, .int (iI (X_sg tb len at_))), (0, .ref 530)]) (st' := []) rfl ?_
                      exact ih436 S502 (en + 1) (X_dv tb len at_ (en + 1 - at_).toNat) h503 (hF439.tr (((X_Fr.rf).tr (X_Fr.of n500 e501 (by first | decide | exact ⟨Nat.le_add_right _ _, Nat.add_le_add_left (by decide) _⟩ | omega))).tr (X_Fr.of n504 e505 (by first | decide | exact ⟨Nat.le_add_right _ _, Nat.add_le_add_left (by decide) _⟩ | omega)))) (by omega) ((X_se_go (by omega) (X_sg_D.mp (by assumption)).2).symm.trans hse) (fun h => by first | rfl | omega) (by omega) (fun k g1 g2 => by
                            by_cases hk : k = en
                            · subst hk; exact (X_sg_D.mp (by assumption)).2
                            · exact hD k g1 (by omega)) (by omega)
              exact L435 (len + 1).toNat S431 at_ 0 h432 ((X_Fr.rf)) (by omega) rfl (fun _ => by rw [show (at_ - at_).toNat = 0 by omega]; rfl) (by omega) (fun k g1 g2 => absurd g2 (by omega)) (by omega)
          · skip
            have c307 : (X_isL (X_sg tb len at_)) := c307
            have L506 : ∀ (m508 : Nat) (S511 : X_S) (en : Int) (hM1 : S511.1 530 = .inr (11, [.ref 531, .int (iI (o 1)), .ref 532, .int (iI (o 3)), .int (iI (o 4)), .int (iI (o 5)), .int (iI (o 6)), .int (iI at_), .int (iI en), .int (iI (o 9)), .int (iI (o 10)), .int (iI (o 11)), .long nm, .ref 533, .ref 534, .ref 535, .ref 536, .ref 537, .ref 538, .ref 539, .ref 540, .ref 541, .ref 542, .ref 543, .ref 544, .ref 545, .ref 546, .ref 547, .int (iI (o 28)), .int (iI (o 29)), .int (iI (o 30)), .int (iI (o 31)), .int (iI (o 32)), .int (iI (o 33)), .ref 548, .ref 549, .ref 550, .ref 551, .int (iI (o 38)), .ref 552, .ref 553, .ref 554, .ref 555, .ref 556, .ref 557, .ref 558, .ref 559, .ref 560, .ref 561, .int (iI (o 49)), .ref 562, .ref 563, .ref 564, .ref 565, .ref 566, .ref 567, .ref 568, .ref 569, .int (iI (o 58)), .ref 570, .ref 571, .ref 572, .ref 573, .ref 574, .ref 575, .ref 576, .ref 577, .ref 578, .int (iI (o 68)), .int (iI (o 69)), .int (iI (o 70)), .ref 579])) (hF510 : X_Fr (fun q => q = 530) S297 S511) (hen : at_ + 1 ≤ en ∧ en ≤ len) (hse : X_se X_isLD tb len en = X_se X_isLD tb len (at_ + 1)) (hm509 : len - en < m508), X_T sc 141 (119, [(1, .int (iI (X_sg tb len at_))), (0, .ref 530)], [], S511) Q := by
              intro m508
              induction m508 with
              | zero =>
                intro S511 en hM1 hF510 hen hse hm509
                exact (show False by omega).elim
              | succ m508 ih507 =>
                intro S511 en hM1 hF510 hen hse hm509
                refine T_p xr_141_119 xn_141 (pc' := 120) (ls' := [(1, .int (iI (X_sg tb len at_))), (0, .ref 530)]) (st' := [.ref 530]) rfl ?_
                refine T_p xr_141_120 xn_141 (pc' := 121) (ls' := [(1, .int (iI (X_sg tb len at_))), (0, .ref 530)]) (st' := [.ref 530, .ref 530]) rfl ?_
                refine T_get xr_141_121 hM1 rfl (v := .int (iI en)) rfl (pc' := 124) rfl ?_
                refine T_cv (S := S511) (q := 530) xr_141_124 xf_136.1 xf_136.2.1 xn_136 (as := [.int (iI en)]) (r := []) rfl hM1 (Nat.le_of_ble_eq_true rfl) (Nat.le_of_ble_eq_true rfl) (pc' := 127) rfl (ls' := [(0, .ref 530), (1, .int (iI en))]) rfl ?_
                have h512 := (hF510.1 532 (by first | decide | omega)).trans ((n299 532 (by decide)).trans (h289))
                refine T_mono (r_sign sc S511 (X_ou (X_ou o 7 at_) 8 en) nm tx tb len en hM1 h512 (show (o 3) = len from by first | assumption | omega) hl htx (by omega)) (fun v513 S514 h515 => ?_)
                rcases h515 with ⟨hv516, hf517⟩
                rw [hv516]
                rw [hf517]
                have hg518 := X_sg_r (tb := tb) (len := len) (k := en) (by omega)
                have hg519 := X_sg_c (tb := tb) (len := len) (k := en)
                show X_T sc 141 (127, [(1, .int (iI (X_sg tb len at_))), (0, .ref 530)], [.int (iI (X_sg tb len en))], S511) _
                refine T_cs xr_141_127 (by decide) xf_137.1 xn_137 (as := [.int (iI (X_sg tb len en))]) (r := []) rfl (Nat.le_of_ble_eq_true rfl) (Nat.le_of_ble_eq_true rfl) (pc' := 130) rfl (ls' := [(0, .int (iI (X_sg tb len en)))]) rfl ?_
                refine T_mono (r_isLetter sc S511 (X_sg tb len en) (by omega)) (fun v520 S521 h522 => ?_)
                rcases h522 with ⟨hv523, hf524⟩
                rw [hv523]
                rw [hf524]
                show X_T sc 141 (130, [(1, .int (iI (X_sg tb len at_))), (0, .ref 530)], [.int (iI (bI (X_isL (X_sg tb len en))))], S511) _
                refine T_bif_ne xr_141_130 (t := 147) (pc' := 133) rfl rfl (fun c525 => ?_) (fun c525 => ?_)
                · skip
                  have c525 : (X_isL (X_sg tb len en)) := c525
                  have hlt : en < len := by first | exact (X_sg_L.mp (by assumption)).1 | exact (X_sg_D.mp (by assumption)).1
                  refine T_p xr_141_147 xn_141 (pc' := 148) (ls' := [(1, .int (iI (X_sg tb len at_))), (0, .ref 530)]) (st' := [.ref 530]) rfl ?_
                  refine T_p xr_141_148 xn_141 (pc' := 149) (ls' := [(1, .int (iI (X_sg tb len at_))), (0, .ref 530)]) (st' := [.ref 530, .ref 530]) rfl ?_
                  refine T_get xr_141_149 hM1 rfl (v := .int (iI en)) rfl (pc' := 152) rfl ?_
                  refine T_p xr_141_152 xn_141 (pc' := 153) (ls' := [(1, .int (iI (X_sg tb len at_))), (0, .ref 530)]) (st' := [.int (iI 1), .int (iI en), .ref 530]) rfl ?_
                  refine T_ziadd xr_141_153 (z := en + 1) rfl (pc' := 154) rfl ?_
                  refine T_put xr_141_154 hM1 rfl (Nat.le_of_ble_eq_true rfl) rfl (fs' := [.ref 531, .int (iI (o 1)), .ref 532, .int (iI (o 3)), .int (iI (o 4)), .int (iI (o 5)), .int (iI (o 6)), .int (iI at_), .int (iI (en + 1)), .int (iI (o 9)), .int (iI (o 10)), .int (iI (o 11)), .long nm, .ref 533, .ref 534, .ref 535, .ref 536, .ref 537, .ref 538, .ref 539, .ref 540, .ref 541, .ref 542, .ref 543, .ref 544, .ref 545, .ref 546, .ref 547, .int (iI (o 28)), .int (iI (o 29)), .int (iI (o 30)), .int (iI (o 31)), .int (iI (o 32)), .int (iI (o 33)), .ref 548, .ref 549, .ref 550, .ref 551, .int (iI (o 38)), .ref 552, .ref 553, .ref 554, .ref 555, .ref 556, .ref 557, .ref 558, .ref 559, .ref 560, .ref 561, .int (iI (o 49)), .ref 562, .ref 563, .ref 564, .ref 565, .ref 566, .ref 567, .ref 568, .ref 569, .int (iI (o 58)), .ref 570, .ref 571, .ref 572, .ref 573, .ref 574, .ref 575, .ref 576, .ref 577, .ref 578, .int (iI (o 68)), .int (iI (o 69)), .int (iI (o 70)), .ref 579]) rfl (pc' := 157) rfl (fun S526 h527 n528 e529 => ?_)
                  refine T_p xr_141_157 xn_141 (pc' := 119) (ls' := [(1, .int (iI (X_sg tb len at_))), (0, .ref 530)]) (st' := []) rfl ?_
                  exact ih507 S526 (en + 1) h527 (hF510.tr ((X_Fr.rf).tr (X_Fr.of n528 e529 (by first | decide | exact ⟨Nat.le_add_right _ _, Nat.add_le_add_left (by decide) _⟩ | omega)))) (by omega) ((X_se_go (by omega) (by first | exact Or.inl (X_sg_L.mp (by assumption)).2 | exact Or.inr (X_sg_D.mp (by assumption)).2)).symm.trans hse) (by omega)
                · skip
                  have c525 : ¬ (X_isL (X_sg tb len en)) := c525
                  refine T_p xr_141_133 xn_141 (pc' := 134) (ls' := [(1, .int (iI (X_sg tb len at_))), (0, .ref 530)]) (st' := [.ref 530]) rfl ?_
                  refine T_p xr_141_134 xn_141 (pc' := 135) (ls' := [(1, .int (iI (X_sg tb len at_))), (0, .ref 530)]) (st' := [.ref 530, .ref 530]) rfl ?_
                  refine T_get xr_141_135 hM1 rfl (v := .int (iI en)) rfl (pc' := 138) rfl ?_
                  refine T_cv (S := S511) (q := 530) xr_141_138 xf_136.1 xf_136.2.1 xn_136 (as := [.int (iI en)]) (r := []) rfl hM1 (Nat.le_of_ble_eq_true rfl) (Nat.le_of_ble_eq_true rfl) (pc' := 141) rfl (ls' := [(0, .ref 530), (1, .int (iI en))]) rfl ?_
                  refine T_mono (r_sign sc S511 (X_ou (X_ou o 7 at_) 8 en) nm tx tb len en hM1 h512 (show (o 3) = len from by first | assumption | omega) hl htx (by omega)) (fun v530 S531 h532 => ?_)
                  rcases h532 with ⟨hv533, hf534⟩
                  rw [hv533]
                  rw [hf534]
                  have hg535 := X_sg_r (tb := tb) (len := len) (k := en) (by omega)
                  have hg536 := X_sg_c (tb := tb) (len := len) (k := en)
                  show X_T sc 141 (141, [(1, .int (iI (X_sg tb len at_))), (0, .ref 530)], [.int (iI (X_sg tb len en))], S511) _
                  refine T_cs xr_141_141 (by decide) xf_138.1 xn_138 (as := [.int (iI (X_sg tb len en))]) (r := []) rfl (Nat.le_of_ble_eq_true rfl) (Nat.le_of_ble_eq_true rfl) (pc' := 144) rfl (ls' := [(0, .int (iI (X_sg tb len en)))]) rfl ?_
                  refine T_mono (r_isDigit sc S511 (X_sg tb len en) (by omega)) (fun v537 S538 h539 => ?_)
                  rcases h539 with ⟨hv540, hf541⟩
                  rw [hv540]
                  rw [hf541]
                  show X_T sc 141 (144, [(1, .int (iI (X_sg tb len at_))), (0, .ref 530)], [.int (iI (bI (X_isD (X_sg tb len en))))], S511) _
                  refine T_bif_eq xr_141_144 (t := 160) (pc' := 147) rfl rfl (fun c542 => ?_) (fun c542 => ?_)
                  · skip
                    have c542 : ¬ (X_isD (X_sg tb len en)) := c542
                    have hm : X_se X_isLD tb len at_ = en := (X_se_go (by omega) (Or.inl (X_sg_L.mp (by assumption)).2)).trans (hse.symm.trans (X_se_no (by first | (intro h; omega) | (intro h; exact absurd h.2 (X_sg_n (by assumption) (by assumption))))))
                    refine T_p xr_141_160 xn_141 (pc' := 161) (ls' := [(1, .int (iI (X_sg tb len at_))), (0, .ref 530)]) (st' := [.ref 530]) rfl ?_
                    refine T_p xr_141_161 xn_141 (pc' := 162) (ls' := [(1, .int (iI (X_sg tb len at_))), (0, .ref 530)]) (st' := [.ref 530, .ref 530]) rfl ?_
                    refine T_get xr_141_162 hM1 rfl (v := .int (iI at_)) rfl (pc' := 165) rfl ?_
                    refine T_p xr_141_165 xn_141 (pc' := 166) (ls' := [(1, .int (iI (X_sg tb len at_))), (0, .ref 530)]) (st' := [.ref 530, .int (iI at_), .ref 530]) rfl ?_
                    refine T_get xr_141_166 hM1 rfl (v := .int (iI en)) rfl (pc' := 169) rfl ?_
                    refine T_cv (S := S511) (q := 530) xr_141_169 xf_142.1 xf_142.2.1 xn_142 (as := [.int (iI at_), .int (iI en)]) (r := []) rfl hM1 (Nat.le_of_ble_eq_true rfl) (Nat.le_of_ble_eq_true rfl) (pc' := 172) rfl (ls' := [(0, .ref 530), (1, .int (iI at_)), (2, .int (iI en))]) rfl ?_
                    refine T_mono (r_pack sc S511 (X_ou (X_ou o 7 at_) 8 en) nm tx tb len at_ en hM1 h512 (show (o 3) = len from by first | assumption | omega) hl htx (by omega) (by omega)) (fun v543 S544 h545 => ?_)
                    rcases h545 with ⟨nm546, hv547, hp548, hM549, hf550⟩
                    rw [hv547]
                    have h551 : S544.1 530 = .inr (11, [.ref 531, .int (iI (o 1)), .ref 532, .int (iI (o 3)), .int (iI (o 4)), .int (iI (o 5)), .int (iI (o 6)), .int (iI at_), .int (iI en), .int (iI (o 9)), .int (iI (o 10)), .int (iI (o 11)), .long nm546, .ref 533, .ref 534, .ref 535, .ref 536, .ref 537, .ref 538, .ref 539, .ref 540, .ref 541, .ref 542, .ref 543, .ref 544, .ref 545, .ref 546, .ref 547, .int (iI (o 28)), .int (iI (o 29)), .int (iI (o 30)), .int (iI (o 31)), .int (iI (o 32)), .int (iI (o 33)), .ref 548, .ref 549, .ref 550, .ref 551, .int (iI (o 38)), .ref 552, .ref 553, .ref 554, .ref 555, .ref 556, .ref 557, .ref 558, .ref 559, .ref 560, .ref 561, .int (iI (o 49)), .ref 562, .ref 563, .ref 564, .ref 565, .ref 566, .ref 567, .ref 568, .ref 569, .int (iI (o 58)), .ref 570, .ref 571, .ref 572, .ref 573, .ref 574, .ref 575, .ref 576, .ref 577, .ref 578, .int (iI (o 68)), .int (iI (o 69)), .int (iI (o 70)), .ref 579]) := hM549
                    show X_T sc 141 (172, [(1, .int (iI (X_sg tb len at_))), (0, .ref 530)], [], S544) _
                    have J552 : X_T sc 141 (254, [(1, .int (iI (X_sg tb len at_))), (0, .ref 530)], [.int (iI (bI (X_res nm546)))], S544) Q := by
                      refine T_p xr_141_254 xn_141 (pc' := 255) (ls' := [(2, .int (iI (bI (X_res nm546)))), (1, .int (iI (X_sg tb len at_))), (0, .ref 530)]) (st' := []) rfl ?_
                      refine T_p xr_141_255 xn_141 (pc' := 256) (ls' := [(2, .int (iI (bI (X_res nm546)))), (1, .int (iI (X_sg tb len at_))), (0, .ref 530)]) (st' := [.ref 530]) rfl ?_
                      refine T_p xr_141_256 xn_141 (pc' := 257) (ls' := [(2, .int (iI (bI (X_res nm546)))), (1, .int (iI (X_sg tb len at_))), (0, .ref 530)]) (st' := [.ref 530, .ref 530]) rfl ?_
                      refine T_get xr_141_257 h551 rfl (v := .int (iI en)) rfl (pc' := 260) rfl ?_
                      refine T_p xr_141_260 xn_141 (pc' := 261) (ls' := [(2, .int (iI (bI (X_res nm546)))), (1, .int (iI (X_sg tb len at_))), (0, .ref 530)]) (st' := [.ref 530, .int (iI en), .ref 530]) rfl ?_
                      refine T_get xr_141_261 h551 rfl (v := .int (iI at_)) rfl (pc' := 264) rfl ?_
                      refine T_zisub xr_141_264 (z := en - at_) rfl (pc' := 265) rfl ?_
                      refine T_p xr_141_265 xn_141 (pc' := 267) (ls' := [(2, .int (iI (bI (X_res nm546)))), (1, .int (iI (X_sg tb len at_))), (0, .ref 530)]) (st' := [.int (iI 8), .int (iI (en - at_)), .ref 530]) rfl ?_
                      refine T_zicmp_le xr_141_267 (t := 274) (pc' := 270) rfl rfl (fun c553 => ?_) (fun c553 => ?_)
                      · skip
                        have c553 : (en - at_) ≤ 8 := c553
                        refine T_p xr_141_274 xn_141 (pc' := 275) (ls' := [(2, .int (iI (bI (X_res nm546)))), (1, .int (iI (X_sg tb len at_))), (0, .ref 530)]) (st' := [.int (iI (bI (X_res nm546))), .ref 530]) rfl ?_
                        refine T_bif_eq xr_141_275 (t := 282) (pc' := 278) rfl rfl (fun c554 => ?_) (fun c554 => ?_)
                        · skip
                          have c554 : ¬ (X_res nm546) := c554
                          refine T_p xr_141_282 xn_141 (pc' := 283) (ls' := [(2, .int (iI (bI (X_res nm546)))), (1, .int (iI (X_sg tb len at_))), (0, .ref 530)]) (st' := [.int (iI 2), .ref 530]) rfl ?_
                          refine T_put xr_141_283 h551 rfl (Nat.le_of_ble_eq_true rfl) rfl (fs' := [.ref 531, .int (iI (o 1)), .ref 532, .int (iI (o 3)), .int (iI (o 4)), .int (iI (o 5)), .int (iI (o 6)), .int (iI at_), .int (iI en), .int (iI 2), .int (iI (o 10)), .int (iI (o 11)), .long nm546, .ref 533, .ref 534, .ref 535, .ref 536, .ref 537, .ref 538, .ref 539, .ref 540, .ref 541, .ref 542, .ref 543, .ref 544, .ref 545, .ref 546, .ref 547, .int (iI (o 28)), .int (iI (o 29)), .int (iI (o 30)), .int (iI (o 31)), .int (iI (o 32)), .int (iI (o 33)), .ref 548, .ref 549, .ref 550, .ref 551, .int (iI (o 38)), .ref 552, .ref 553, .ref 554, .ref 555, .ref 556, .ref 557, .ref 558, .ref 559, .ref 560, .ref 561, .int (iI (o 49)), .ref 562, .ref 563, .ref 564, .ref 565, .ref 566, .ref 567, .ref 568, .ref 569, .int (iI (o 58)), .ref 570, .ref 571, .ref 572, .ref 573, .ref 574, .ref 575, .ref 576, .ref 577, .ref 578, .int (iI (o 68)), .int (iI (o 69)), .int (iI (o 70)), .ref 579]) rfl (pc' := 286) rfl (fun S555 h556 n557 e558 => ?_)
                          refine T_p xr_141_286 xn_141 (pc' := 551) (ls' := [(2, .int (iI (bI (X_res nm546)))), (1, .int (iI (X_sg tb len at_))), (0, .ref 530)]) (st' := []) rfl ?_
                          refine T_vret xr_141_551 xf_141.2.2 ?_
                          refine hQ _ _ ?_
                          exact ⟨at_, en, 2, o 10, o 11, nm546, 2, nm546, en, rfl, hp, (Or.inr (Or.inl ⟨(X_sg_L.mp (by assumption)).2, hm.symm, Or.inr ⟨by omega, hp548 (by omega), Or.inr ⟨by assumption, rfl⟩⟩⟩)), rfl, (fun _ => rfl), (fun _ => rfl), fun h => absurd h (by omega), by first | assumption | omega, h556, ((((((X_Fr.rf).tr (X_Fr.of n280 e281 (by first | decide | exact ⟨Nat.le_add_right _ _, Nat.add_le_add_left (by decide) _⟩ | omega))).tr (X_Fr.mono ⟨hF286.1, hF286.2⟩ (fun q hq => by first | exact hq | (rcases hq with rfl <;> decide) | (rcases hq with rfl | rfl <;> decide) | (rcases hq with rfl | rfl | rfl <;> decide) | (rcases hq with rfl | rfl | rfl | rfl <;> decide) | (rcases hq with rfl | rfl | rfl | rfl | rfl <;> decide) | (rcases hq with rfl | rfl | rfl | rfl | rfl | rfl <;> decide) | (rcases hq with rfl | rfl | rfl | rfl | rfl | rfl | rfl <;> decide) | omega))).tr (X_Fr.of n299 e300 (by first | decide | exact ⟨Nat.le_add_right _ _, Nat.add_le_add_left (by decide) _⟩ | omega))).tr (X_Fr.mono ⟨hF510.1, hF510.2⟩ (fun q hq => by first | exact hq | (rcases hq with rfl <;> decide) | (rcases hq with rfl | rfl <;> decide) | (rcases hq with rfl | rfl | rfl <;> decide) | (rcases hq with rfl | rfl | rfl | rfl <;> decide) | (rcases hq with rfl | rfl | rfl | rfl | rfl <;> decide) | (rcases hq with rfl | rfl | rfl | rfl | rfl | rfl <;> decide) | (rcases hq with rfl | rfl | rfl | rfl | rfl | rfl | rfl <;> decide) | omega))).tr (X_Fr.mono ⟨hf550.1, hf550.2⟩ (fun q hq => by first | exact hq | (rcases hq with rfl <;> decide) | (rcases hq with rfl | rfl <;> decide) | (rcases hq with rfl | rfl | rfl <;> decide) | (rcases hq with rfl | rfl | rfl | rfl <;> decide) | (rcases hq with rfl | rfl | rfl | rfl | rfl <;> decide) | (rcases hq with rfl | rfl | rfl | rfl | rfl | rfl <;> decide) | (rcases hq with rfl | rfl | rfl | rfl | rfl | rfl | rfl <;> decide) | omega))).tr (X_Fr.of n557 e558 (by first | decide | exact ⟨Nat.le_add_right _ _, Nat.add_le_add_left (by decide) _⟩ | omega))⟩
                        · skip
                          have c554 : (X_res nm546) := c554
                          refine T_p xr_141_278 xn_141 (pc' := 279) (ls' := [(2, .int (iI (bI (X_res nm546)))), (1, .int (iI (X_sg tb len at_))), (0, .ref 530)]) (st' := [.int (iI 3), .ref 530]) rfl ?_
                          refine T_p xr_141_279 xn_141 (pc' := 283) (ls' := [(2, .int (iI (bI (X_res nm546)))), (1, .int (iI (X_sg tb len at_))), (0, .ref 530)]) (st' := [.int (iI 3), .ref 530]) rfl ?_
                          refine T_put xr_141_283 h551 rfl (Nat.le_of_ble_eq_true rfl) rfl (fs' := [.ref 531, .int (iI (o 1)), .ref 532, .int (iI (o 3)), .int (iI (o 4)), .int (iI (o 5)), .int (iI (o 6)), .int (iI at_), .int (iI en), .int (iI 3), .int (iI (o 10)), .int (iI (o 11)), .long nm546, .ref 533, .ref 534, .ref 535, .ref 536, .ref 537, .ref 538, .ref 539, .ref 540, .ref 541, .ref 542, .ref 543, .ref 544, .ref 545, .ref 546, .ref 547, .int (iI (o 28)), .int (iI (o 29)), .int (iI (o 30)), .int (iI (o 31)), .int (iI (o 32)), .int (iI (o 33)), .ref 548, .ref 549, .ref 550, .ref 551, .int (iI (o 38)), .ref 552, .ref 553, .ref 554, .ref 555, .ref 556, .ref 557, .ref 558, .ref 559, .ref 560, .ref 561, .int (iI (o 49)), .ref 562, .ref 563, .ref 564, .ref 565, .ref 566, .ref 567, .ref 568, .ref 569, .int (iI (o 58)), .ref 570, .ref 571, .ref 572, .ref 573, .ref 574, .ref 575, .ref 576, .ref 577, .ref 578, .int (iI (o 68)), .int (iI (o 69)), .int (iI (o 70)), .ref 579]) rfl (pc' := 286) rfl (fun S559 h560 n561 e562 => ?_)
                          refine T_p xr_141_286 xn_141 (pc' := 551) (ls' := [(2, .int (iI (bI (X_res nm546)))), (1, .int (iI (X_sg tb len at_))), (0, .ref 530)]) (st' := []) rfl ?_
                          refine T_vret xr_141_551 xf_141.2.2 ?_
                          refine hQ _ _ ?_
                          exact ⟨at_, en, 3, o 10, o 11, nm546, 3, nm546, en, rfl, hp, (Or.inr (Or.inl ⟨(X_sg_L.mp (by assumption)).2, hm.symm, Or.inr ⟨by omega, hp548 (by omega), Or.inl ⟨by assumption, rfl⟩⟩⟩)), rfl, (fun _ => rfl), (fun _ => rfl), fun h => absurd h (by omega), by first | assumption | omega, h560, ((((((X_Fr.rf).tr (X_Fr.of n280 e281 (by first | decide | exact ⟨Nat.le_add_right _ _, Nat.add_le_add_left (by decide) _⟩ | omega))).tr (X_Fr.mono ⟨hF286.1, hF286.2⟩ (fun q hq => by first | exact hq | (rcases hq with rfl <;> decide) | (rcases hq with rfl | rfl <;> decide) | (rcases hq with rfl | rfl | rfl <;> decide) | (rcases hq with rfl | rfl | rfl | rfl <;> decide) | (rcases hq with rfl | rfl | rfl | rfl | rfl <;> decide) | (rcases hq with rfl | rfl | rfl | rfl | rfl | rfl <;> decide) | (rcases hq with rfl | rfl | rfl | rfl | rfl | rfl | rfl <;> decide) | omega))).tr (X_Fr.of n299 e300 (by first | decide | exact ⟨Nat.le_add_right _ _, Nat.add_le_add_left (by decide) _⟩ | omega))).tr (X_Fr.mono ⟨hF510.1, hF510.2⟩ (fun q hq => by first | exact hq | (rcases hq with rfl <;> decide) | (rcases hq with rfl | rfl <;> decide) | (rcases hq with rfl | rfl | rfl <;> decide) | (rcases hq with rfl | rfl | rfl | rfl <;> decide) | (rcases hq with rfl | rfl | rfl | rfl | rfl <;> decide) | (rcases hq with rfl | rfl | rfl | rfl | rfl | rfl <;> decide) | (rcases hq with rfl | rfl | rfl | rfl | rfl | rfl | rfl <;> decide) | omega))).tr (X_Fr.mono ⟨hf550.1, hf550.2⟩ (fun q hq => by first | exact hq | (rcases hq with rfl <;> decide) | (rcases hq with rfl | rfl <;> decide) | (rcases hq with rfl | rfl | rfl <;> decide) | (rcases hq with rfl | rfl | rfl | rfl <;> decide) | (rcases hq with rfl | rfl | rfl | rfl | rfl <;> decide) | (rcases hq with rfl | rfl | rfl | rfl | rfl | rfl <;> decide) | (rcases hq with rfl | rfl | rfl | rfl | rfl | rfl | rfl <;> decide) | omega))).tr (X_Fr.of n561 e562 (by first | decide | exact ⟨Nat.le_add_right _ _, Nat.add_le_add_left (by decide) _⟩ | omega))⟩
                      · skip
                        have c553 : ¬ ((en - at_) ≤ 8) := c553
                        refine T_p xr_141_270 xn_141 (pc' := 271) (ls' := [(2, .int (iI (bI (X_res nm546)))), (1, .int (iI (X_sg tb len at_))), (0, .ref 530)]) (st' := [.int (iI 1), .ref 530]) rfl ?_
                        refine T_p xr_141_271 xn_141 (pc' := 283) (ls' := [(2, .int (iI (bI (X_res nm546)))), (1, .int (iI (X_sg tb len at_))), (0, .ref 530)]) (st' := [.int (iI 1), .ref 530]) rfl ?_
                        refine T_put xr_141_283 h551 rfl (Nat.le_of_ble_eq_true rfl) rfl (fs' := [.ref 531, .int (iI (o 1)), .ref 532, .int (iI (o 3)), .int (iI (o 4)), .int (iI (o 5)), .int (iI (o 6)), .int (iI at_), .int (iI en), .int (iI 1), .int (iI (o 10)), .int (iI (o 11)), .long nm546, .ref 533, .ref 534, .ref 535, .ref 536, .ref 537, .ref 538, .ref 539, .ref 540, .ref 541, .ref 542, .ref 543, .ref 544, .ref 545, .ref 546, .ref 547, .int (iI (o 28)), .int (iI (o 29)), .int (iI (o 30)), .int (iI (o 31)), .int (iI (o 32)), .int (iI (o 33)), .ref 548, .ref 549, .ref 550, .ref 551, .int (iI (o 38)), .ref 552, .ref 553, .ref 554, .ref 555, .ref 556, .ref 557, .ref 558, .ref 559, .ref 560, .ref 561, .int (iI (o 49)), .ref 562, .ref 563, .ref 564, .ref 565, .ref 566, .ref 567, .ref 568, .ref 569, .int (iI (o 58)), .ref 570, .ref 571, .ref 572, .ref 573, .ref 574, .ref 575, .ref 576, .ref 577, .ref 578, .int (iI (o 68)), .int (iI (o 69)), .int (iI (o 70)), .ref 579]) rfl (pc' := 286) rfl (fun S563 h564 n565 e566 => ?_)
                        refine T_p xr_141_286 xn_141 (pc' := 551) (ls' := [(2, .int (iI (bI (X_res nm546)))), (1, .int (iI (X_sg tb len at_))), (0, .ref 530)]) (st' := []) rfl ?_
                        refine T_vret xr_141_551 xf_141.2.2 ?_
                        refine hQ _ _ ?_
                        exact ⟨at_, en, 1, o 10, o 11, nm546, 1, 0, en, rfl, hp, (Or.inr (Or.inl ⟨(X_sg_L.mp (by assumption)).2, hm.symm, Or.inl ⟨by omega, rfl, rfl⟩⟩)), rfl, (fun _ => rfl), fun h => absurd h (by omega), fun h => absurd h (by omega), by first | assumption | omega, h564, ((((((X_Fr.rf).tr (X_Fr.of n280 e281 (by first | decide | exact ⟨Nat.le_add_right _ _, Nat.add_le_add_left (by decide) _⟩ | omega))).tr (X_Fr.mono ⟨hF286.1, hF286.2⟩ (fun q hq => by first | exact hq | (rcases hq with rfl <;> decide) | (rcases hq with rfl | rfl <;> decide) | (rcases hq with rfl | rfl | rfl <;> decide) | (rcases hq with rfl | rfl | rfl | rfl <;> decide) | (rcases hq with rfl | rfl | rfl | rfl | rfl <;> decide) | (rcases hq with rfl | rfl | rfl | rfl | rfl | rfl <;> decide) | (rcases hq with rfl | rfl | rfl | rfl | rfl | rfl | rfl <;> decide) | omega))).tr (X_Fr.of n299 e300 (by first | decide | exact ⟨Nat.le_add_right _ _, Nat.add_le_add_left (by decide) _⟩ | omega))).tr (X_Fr.mono ⟨hF510.1, hF510.2⟩ (fun q hq => by first | exact hq | (rcases hq with rfl <;> decide) | (rcases hq with rfl | rfl <;> decide) | (rcases hq with rfl | rfl | rfl <;> decide) | (rcases hq with rfl | rfl | rfl | rfl <;> decide) | (rcases hq with rfl | rfl | rfl | rfl | rfl <;> decide) | (rcases hq with rfl | rfl | rfl | rfl | rfl | rfl <;> decide) | (rcases hq with rfl | rfl | rfl | rfl | rfl | rfl | rfl <;> decide) | omega))).tr (X_Fr.mono ⟨hf550.1, hf550.2⟩ (fun q hq => by first | exact hq | (rcases hq with rfl <;> decide) | (rcases hq with rfl | rfl <;> decide) | (rcases hq with rfl | rfl | rfl <;> decide) | (rcases hq with rfl | rfl | rfl | rfl <;> decide) | (rcases hq with rfl | rfl | rfl | rfl | rfl <;> decide) | (rcases hq with rfl | rfl | rfl | rfl | rfl | rfl <;> decide) | (rcases hq with rfl | rfl | rfl | rfl | rfl | rfl | rfl <;> decide) | omega))).tr (X_Fr.of n565 e566 (by first | decide | exact ⟨Nat.le_add_right _ _, Nat.add_le_add_left (by decide) _⟩ | omega))⟩
                    refine T_p xr_141_172 xn_141 (pc' := 173) (ls' := [(1, .int (iI (X_sg tb len at_))), (0, .ref 530)]) (st' := [.ref 530]) rfl ?_
                    refine T_get xr_141_173 h551 rfl (v := .long nm546) rfl (pc' := 176) rfl ?_
                    refine T_p xr_141_176 xn_141 (pc' := 179) (ls' := [(1, .int (iI (X_sg tb len at_))), (0, .ref 530)]) (st' := [.long (Int64.ofNat 1918987883), .long nm546]) rfl ?_
                    refine T_lc_eq xr_141_179 xr_141_180 (t := 249) (pc' := 183) rfl rfl (fun c567 => ?_) (fun c567 => ?_)
                    · skip
                      have c567 : nm546 = (Int64.ofNat 1918987883) := c567
                      refine T_p xr_141_249 xn_141 (pc' := 250) (ls' := [(1, .int (iI (X_sg tb len at_))), (0, .ref 530)]) (st' := [.int (iI 1)]) rfl ?_
                      refine T_p xr_141_250 xn_141 (pc' := 254) (ls' := [(1, .int (iI (X_sg tb len at_))), (0, .ref 530)]) (st' := [.int (iI 1)]) rfl ?_
                      refine T_ie (y := iI (bI (X_res nm546))) (by rw [bI_t (by unfold X_res; first | (left; assumption) | (left; exact Classical.not_not.mp (by assumption)) | (right; left; assumption) | (right; left; exact Classical.not_not.mp (by assumption)) | (right; right; left; assumption) | (right; right; left; exact Classical.not_not.mp (by assumption)) | (right; right; right; left; assumption) | (right; right; right; left; exact Classical.not_not.mp (by assumption)) | (right; right; right; right; left; assumption) | (right; right; right; right; left; exact Classical.not_not.mp (by assumption)) | (right; right; right; right; right; left; assumption) | (right; right; right; right; right; left; exact Classical.not_not.mp (by assumption)) | (right; right; right; right; right; right; assumption) | (right; right; right; right; right; right; exact Classical.not_not.mp (by assumption)))]) ?_
                      exact J552
                    · skip
                      have c567 : ¬ (nm546 = (Int64.ofNat 1918987883)) := c567
                      refine T_p xr_141_183 xn_141 (pc' := 184) (ls' := [(1, .int (iI (X_sg tb len at_))), (0, .ref 530)]) (st' := [.ref 530]) rfl ?_
                      refine T_get xr_141_184 h551 rfl (v := .long nm546) rfl (pc' := 187) rfl ?_
                      refine T_p xr_141_187 xn_141 (pc' := 190) (ls' := [(1, .int (iI (X_sg tb len at_))), (0, .ref 530)]) (st' := [.long (Int64.ofNat 32766990153442674), .long nm546]) rfl ?_
                      refine T_lc_eq xr_141_190 xr_141_191 (t := 249) (pc' := 194) rfl rfl (fun c568 => ?_) (fun c568 => ?_)
                      · skip
                        have c568 : nm546 = (Int64.ofNat 32766990153442674) := c568
                        refine T_p xr_141_249 xn_141 (pc' := 250) (ls' := [(1, .int (iI (X_sg tb len at_))), (0, .ref 530)]) (st' := [.int (iI 1)]) rfl ?_
                        refine T_p xr_141_250 xn_141 (pc' := 254) (ls' := [(1, .int (iI (X_sg tb len at_))), (0, .ref 530)]) (st' := [.int (iI 1)]) rfl ?_
                        refine T_ie (y := iI (bI (X_res nm546))) (by rw [bI_t (by unfold X_res; first | (left; assumption) | (left; exact Classical.not_not.mp (by assumption)) | (right; left; assumption) | (right; left; exact Classical.not_not.mp (by assumption)) | (right; right; left; assumption) | (right; right; left; exact Classical.not_not.mp (by assumption)) | (right; right; right; left; assumption) | (right; right; right; left; exact Classical.not_not.mp (by assumption)) | (right; right; right; right; left; assumption) | (right; right; right; right; left; exact Classical.not_not.mp (by assumption)) | (right; right; right; right; right; left; assumption) | (right; right; right; right; right; left; exact Classical.not_not.mp (by assumption)) | (right; right; right; right; right; right; assumption) | (right; right; right; right; right; right; exact Classical.not_not.mp (by assumption)))]) ?_
                        exact J552
                      · skip
                        have c568 : ¬ (nm546 = (Int64.ofNat 32766990153442674)) := c568
                        refine T_p xr_141_194 xn_141 (pc' := 195) (ls' := [(1, .int (iI (X_sg tb len at_))), (0, .ref 530)]) (st' := [.ref 530]) rfl ?_
                        refine T_get xr_141_195 h551 rfl (v := .long nm546) rfl (pc' := 198) rfl ?_
                        refine T_p xr_141_198 xn_141 (pc' := 201) (ls' := [(1, .int (iI (X_sg tb len at_))), (0, .ref 530)]) (st' := [.long (Int64.ofNat 1802071652), .long nm546]) rfl ?_
                        refine T_lc_eq xr_141_201 xr_141_202 (t := 249) (pc' := 205) rfl rfl (fun c569 => ?_) (fun c569 => ?_)
                        · skip
                          have c569 : nm546 = (Int64.ofNat 1802071652) := c569
                          refine T_p xr_141_249 xn_141 (pc' := 250) (ls' := [(1, .int (iI (X_sg tb len at_))), (0, .ref 530)]) (st' := [.int (iI 1)]) rfl ?_
                          refine T_p xr_141_250 xn_141 (pc' := 254) (ls' := [(1, .int (iI (X_sg tb len at_))), (0, .ref 530)]) (st' := [.int (iI 1)]) rfl ?_
                          refine T_ie (y := iI (bI (X_res nm546))) (by rw [bI_t (by unfold X_res; first | (left; assumption) | (left; exact Classical.not_not.mp (by assumption)) | (right; left; assumption) | (right; left; exact Classical.not_not.mp (by assumption)) | (right; right; left; assumption) | (right; right; left; exact Classical.not_not.mp (by assumption)) | (right; right; right; left; assumption) | (right; right; right; left; exact Classical.not_not.mp (by assumption)) | (right; right; right; right; left; assumption) | (right; right; right; right; left; exact Classical.not_not.mp (by assumption)) | (right; right; right; right; right; left; assumption) | (right; right; right; right; right; left; exact Classical.not_not.mp (by assumption)) | (right; right; right; right; right; right; assumption) | (right; right; right; right; right; right; exact Classical.not_not.mp (by assumption)))]) ?_
                          exact J552
                        · skip
                          have c569 : ¬ (nm546 = (Int64.ofNat 1802071652)) := c569
                          refine T_p xr_141_205 xn_141 (pc' := 206) (ls' := [(1, .int (iI (X_sg tb len at_))), (0, .ref 530)]) (st' := [.ref 530]) rfl ?_
                          refine T_get xr_141_206 h551 rfl (v := .long nm546) rfl (pc' := 209) rfl ?_
                          refine T_p xr_141_209 xn_141 (pc' := 212) (ls' := [(1, .int (iI (X_sg tb len at_))), (0, .ref 530)]) (st' := [.long (Int64.ofNat 504363246962), .long nm546]) rfl ?_
                          refine T_lc_eq xr_141_212 xr_141_213 (t := 249) (pc' := 216) rfl rfl (fun c570 => ?_) (fun c570 => ?_)
                          · skip
                            have c570 : nm546 = (Int64.ofNat 504363246962) := c570
                            refine T_p xr_141_249 xn_141 (pc' := 250) (ls' := [(1, .int (iI (X_sg tb len at_))), (0, .ref 530)]) (st' := [.int (iI 1)]) rfl ?_
                            refine T_p xr_141_250 xn_141 (pc' := 254) (ls' := [(1, .int (iI (X_sg tb len at_))), (0, .ref 530)]) (st' := [.int (iI 1)]) rfl ?_
                            refine T_ie (y := iI (bI (X_res nm546))) (by rw [bI_t (by unfold X_res; first | (left; assumption) | (left; exact Classical.not_not.mp (by assumption)) | (right; left; assumption) | (right; left; exact Classical.not_not.mp (by assumption)) | (right; right; left; assumption) | (right; right; left; exact Classical.not_not.mp (by assumption)) | (right; right; right; left; assumption) | (right; right; right; left; exact Classical.not_not.mp (by assumption)) | (right; right; right; right; left; assumption) | (right; right; right; right; left; exact Classical.not_not.mp (by assumption)) | (right; right; right; right; right; left; assumption) | (right; right; right; right; right; left; exact Classical.not_not.mp (by assumption)) | (right; right; right; right; right; right; assumption) | (right; right; right; right; right; right; exact Classical.not_not.mp (by assumption)))]) ?_
                            exact J552
                          · skip
                            have c570 : ¬ (nm546 = (Int64.ofNat 504363246962)) := c570
                            refine T_p xr_141_216 xn_141 (pc' := 217) (ls' := [(1, .int (iI (X_sg tb len at_))), (0, .ref 530)]) (st' := [.ref 530]) rfl ?_
                            refine T_get xr_141_217 h551 rfl (v := .long nm546) rfl (pc' := 220) rfl ?_
                            refine T_p xr_141_220 xn_141 (pc' := 223) (ls' := [(1, .int (iI (X_sg tb len at_))), (0, .ref 530)]) (st' := [.long (Int64.ofNat 2003792484), .long nm546]) rfl ?_
                            refine T_lc_eq xr_141_223 xr_141_224 (t := 249) (pc' := 227) rfl rfl (fun c571 => ?_) (fun c571 => ?_)
                            · skip
                              have c571 : nm546 = (Int64.ofNat 2003792484) := c571
                              refine T_p xr_141_249 xn_141 (pc' := 250) (ls' := [(1, .int (iI (X_sg tb len at_))), (0, .ref 530)]) (st' := [.int (iI 1)]) rfl ?_
                              refine T_p xr_141_250 xn_141 (pc' := 254) (ls' := [(1, .int (iI (X_sg tb len at_))), (0, .ref 530)]) (st' := [.int (iI 1)]) rfl ?_
                              refine T_ie (y := iI (bI (X_res nm546))) (by rw [bI_t (by unfold X_res; first | (left; assumption) | (left; exact Classical.not_not.mp (by assumption)) | (right; left; assumption) | (right; left; exact Classical.not_not.mp (by assumption)) | (right; right; left; assumption) | (right; right; left; exact Classical.not_not.mp (by assumption)) | (right; right; right; left; assumption) | (right; right; right; left; exact Classical.not_not.mp (by assumption)) | (right; right; right; right; left; assumption) | (right; right; right; right; left; exact Classical.not_not.mp (by assumption)) | (right; right; right; right; right; left; assumption) | (right; right; right; right; right; left; exact Classical.not_not.mp (by assumption)) | (right; right; right; right; right; right; assumption) | (right; right; right; right; right; right; exact Classical.not_not.mp (by assumption)))]) ?_
                              exact J552
                            · skip
                              have c571 : ¬ (nm546 = (Int64.ofNat 2003792484)) := c571
                              refine T_p xr_141_227 xn_141 (pc' := 228) (ls' := [(1, .int (iI (X_sg tb len at_))), (0, .ref 530)]) (st' := [.ref 530]) rfl ?_
                              refine T_get xr_141_228 h551 rfl (v := .long nm546) rfl (pc' := 231) rfl ?_
                              refine T_p xr_141_231 xn_141 (pc' := 234) (ls' := [(1, .int (iI (X_sg tb len at_))), (0, .ref 530)]) (st' := [.long (Int64.ofNat 1818584692), .long nm546]) rfl ?_
                              refine T_lc_eq xr_141_234 xr_141_235 (t := 249) (pc' := 238) rfl rfl (fun c572 => ?_) (fun c572 => ?_)
                              · skip
                                have c572 : nm546 = (Int64.ofNat 1818584692) := c572
                                refine T_p xr_141_249 xn_141 (pc' := 250) (ls' := [(1, .int (iI (X_sg tb len at_))), (0, .ref 530)]) (st' := [.int (iI 1)]) rfl ?_
                                refine T_p xr_141_250 xn_141 (pc' := 254) (ls' := [(1, .int (iI (X_sg tb len at_))), (0, .ref 530)]) (st' := [.int (iI 1)]) rfl ?_
                                refine T_ie (y := iI (bI (X_res nm546))) (by rw [bI_t (by unfold X_res; first | (left; assumption) | (left; exact Classical.not_not.mp (by assumption)) | (right; left; assumption) | (right; left; exact Classical.not_not.mp (by assumption)) | (right; right; left; assumption) | (right; right; left; exact Classical.not_not.mp (by assumption)) | (right; right; right; left; assumption) | (right; right; right; left; exact Classical.not_not.mp (by assumption)) | (right; right; right; right; left; assumption) | (right; right; right; right; left; exact Classical.not_not.mp (by assumption)) | (right; right; right; right; right; left; assumption) | (right; right; right; right; right; left; exact Classical.not_not.mp (by assumption)) | (right; right; right; right; right; right; assumption) | (right; right; right; right; right; right; exact Classical.not_not.mp (by assumption)))]) ?_
                                exact J552
                              · skip
                                have c572 : ¬ (nm546 = (Int64.ofNat 1818584692)) := c572
                                refine T_p xr_141_238 xn_141 (pc' := 239) (ls' := [(1, .int (iI (X_sg tb len at_))), (0, .ref 530)]) (st' := [.ref 530]) rfl ?_
                                refine T_get xr_141_239 h551 rfl (v := .long nm546) rfl (pc' := 242) rfl ?_
                                refine T_p xr_141_242 xn_141 (pc' := 245) (ls' := [(1, .int (iI (X_sg tb len at_))), (0, .ref 530)]) (st' := [.long (Int64.ofNat 491394656372), .long nm546]) rfl ?_
                                refine T_lc_ne xr_141_245 xr_141_246 (t := 253) (pc' := 249) rfl rfl (fun c573 => ?_) (fun c573 => ?_)
                                · skip
                                  have c573 : ¬ nm546 = (Int64.ofNat 491394656372) := c573
                                  refine T_p xr_141_253 xn_141 (pc' := 254) (ls' := [(1, .int (iI (X_sg tb len at_))), (0, .ref 530)]) (st' := [.int (iI 0)]) rfl ?_
                                  refine T_ie (y := iI (bI (X_res nm546))) (by rw [bI_f (by unfold X_res; rintro (h | h | h | h | h | h | h) <;> contradiction)]) ?_
                                  exact J552
                                · skip
                                  have c573 : ¬ (¬ nm546 = (Int64.ofNat 491394656372)) := c573
                                  refine T_p xr_141_249 xn_141 (pc' := 250) (ls' := [(1, .int (iI (X_sg tb len at_))), (0, .ref 530)]) (st' := [.int (iI 1)]) rfl ?_
                                  refine T_p xr_141_250 xn_141 (pc' := 254) (ls' := [(1, .int (iI (X_sg tb len at_))), (0, .ref 530)]) (st' := [.int (iI 1)]) rfl ?_
                                  refine T_ie (y := iI (bI (X_res nm546))) (by rw [bI_t (by unfold X_res; first | (left; assumption) | (left; exact Classical.not_not.mp (by assumption)) | (right; left; assumption) | (right; left; exact Classical.not_not.mp (by assumption)) | (right; right; left; assumption) | (right; right; left; exact Classical.not_not.mp (by assumption)) | (right; right; right; left; assumption) | (right; right; right; left; exact Classical.not_not.mp (by assumption)) | (right; right; right; right; left; assumption) | (right; right; right; right; left; exact Classical.not_not.mp (by assumption)) | (right; right; right; right; right; left; assumption) | (right; right; right; right; right; left; exact Classical.not_not.mp (by assumption)) | (right; right; right; right; right; right; assumption) | (right; right; right; right; right; right; exact Classical.not_not.mp (by assumption)))]) ?_
                                  exact J552
                  · skip
                    have c542 : (X_isD (X_sg tb len en)) := c542
                    have hlt : en < len := by first | exact (X_sg_L.mp (by assumption)).1 | exact (X_sg_D.mp (by assumption)).1
                    refine T_p xr_141_147 xn_141 (pc' := 148) (ls' := [(1, .int (iI (X_sg tb len at_))), (0, .ref 530)]) (st' := [.ref 530]) rfl ?_
                    refine T_p xr_141_148 xn_141 (pc' := 149) (ls' := [(1, .int (iI (X_sg tb len at_))), (0, .ref 530)]) (st' := [.ref 530, .ref 530]) rfl ?_
                    refine T_get xr_141_149 hM1 rfl (v := .int (iI en)) rfl (pc' := 152) rfl ?_
                    refine T_p xr_141_152 xn_141 (pc' := 153) (ls' := [(1, .int (iI (X_sg tb len at_))), (0, .ref 530)]) (st' := [.int (iI 1), .int (iI en), .ref 530]) rfl ?_
                    refine T_ziadd xr_141_153 (z := en + 1) rfl (pc' := 154) rfl ?_
                    refine T_put xr_141_154 hM1 rfl (Nat.le_of_ble_eq_true rfl) rfl (fs' := [.ref 531, .int (iI (o 1)), .ref 532, .int (iI (o 3)), .int (iI (o 4)), .int (iI (o 5)), .int (iI (o 6)), .int (iI at_), .int (iI (en + 1)), .int (iI (o 9)), .int (iI (o 10)), .int (iI (o 11)), .long nm, .ref 533, .ref 534, .ref 535, .ref 536, .ref 537, .ref 538, .ref 539, .ref 540, .ref 541, .ref 542, .ref 543, .ref 544, .ref 545, .ref 546, .ref 547, .int (iI (o 28)), .int (iI (o 29)), .int (iI (o 30)), .int (iI (o 31)), .int (iI (o 32)), .int (iI (o 33)), .ref 548, .ref 549, .ref 550, .ref 551, .int (iI (o 38)), .ref 552, .ref 553, .ref 554, .ref 555, .ref 556, .ref 557, .ref 558, .ref 559, .ref 560, .ref 561, .int (iI (o 49)), .ref 562, .ref 563, .ref 564, .ref 565, .ref 566, .ref 567, .ref 568, .ref 569, .int (iI (o 58)), .ref 570, .ref 571, .ref 572, .ref 573, .ref 574, .ref 575, .ref 576, .ref 577, .ref 578, .int (iI (o 68)), .int (iI (o 69)), .int (iI (o 70)), .ref 579]) rfl (pc' := 157) rfl (fun S574 h575 n576 e577 => ?_)
                    refine T_p xr_141_157 xn_141 (pc' := 119) (ls' := [(1, .int (iI (X_sg tb len at_))), (0, .ref 530)]) (st' := []) rfl ?_
                    exact ih507 S574 (en + 1) h575 (hF510.tr ((X_Fr.rf).tr (X_Fr.of n576 e577 (by first | decide | exact ⟨Nat.le_add_right _ _, Nat.add_le_add_left (by decide) _⟩ | omega)))) (by omega) ((X_se_go (by omega) (by first | exact Or.inl (X_sg_L.mp (by assumption)).2 | exact Or.inr (X_sg_D.mp (by assumption)).2)).symm.trans hse) (by omega)
            exact L506 (len + 1).toNat S297 (at_ + 1) h298 ((X_Fr.rf)) (by omega) rfl (by omega)
        · skip
          have c301 : ¬ (at_ < (o 3)) := c301
          refine T_p xr_141_88 xn_141 (pc' := 89) (ls' := [(1, .int (iI (X_sg tb len at_))), (0, .ref 530)]) (st' := [.ref 530]) rfl ?_
          refine T_p xr_141_89 xn_141 (pc' := 90) (ls' := [(1, .int (iI (X_sg tb len at_))), (0, .ref 530)]) (st' := [.int (iI 0), .ref 530]) rfl ?_
          refine T_put xr_141_90 h298 rfl (Nat.le_of_ble_eq_true rfl) rfl (fs' := [.ref 531, .int (iI (o 1)), .ref 532, .int (iI (o 3)), .int (iI (o 4)), .int (iI (o 5)), .int (iI (o 6)), .int (iI at_), .int (iI (at_ + 1)), .int (iI 0), .int (iI (o 10)), .int (iI (o 11)), .long nm, .ref 533, .ref 534, .ref 535, .ref 536, .ref 537, .ref 538, .ref 539, .ref 540, .ref 541, .ref 542, .ref 543, .ref 544, .ref 545, .ref 546, .ref 547, .int (iI (o 28)), .int (iI (o 29)), .int (iI (o 30)), .int (iI (o 31)), .int (iI (o 32)), .int (iI (o 33)), .ref 548, .ref 549, .ref 550, .ref 551, .int (iI (o 38)), .ref 552, .ref 553, .ref 554, .ref 555, .ref 556, .ref 557, .ref 558, .ref 559, .ref 560, .ref 561, .int (iI (o 49)), .ref 562, .ref 563, .ref 564, .ref 565, .ref 566, .ref 567, .ref 568, .ref 569, .int (iI (o 58)), .ref 570, .ref 571, .ref 572, .ref 573, .ref 574, .ref 575, .ref 576, .ref 577, .ref 578, .int (iI (o 68)), .int (iI (o 69)), .int (iI (o 70)), .ref 579]) rfl (pc' := 93) rfl (fun S578 h579 n580 e581 => ?_)
          refine T_p xr_141_93 xn_141 (pc' := 94) (ls' := [(1, .int (iI (X_sg tb len at_))), (0, .ref 530)]) (st' := [.ref 530]) rfl ?_
          refine T_p xr_141_94 xn_141 (pc' := 95) (ls' := [(1, .int (iI (X_sg tb len at_))), (0, .ref 530)]) (st' := [.ref 530, .ref 530]) rfl ?_
          refine T_get xr_141_95 h579 rfl (v := .int (iI (o 3))) rfl (pc' := 98) rfl ?_
          refine T_put xr_141_98 h579 rfl (Nat.le_of_ble_eq_true rfl) rfl (fs' := [.ref 531, .int (iI (o 1)), .ref 532, .int (iI (o 3)), .int (iI (o 4)), .int (iI (o 5)), .int (iI (o 6)), .int (iI (o 3)), .int (iI (at_ + 1)), .int (iI 0), .int (iI (o 10)), .int (iI (o 11)), .long nm, .ref 533, .ref 534, .ref 535, .ref 536, .ref 537, .ref 538, .ref 539, .ref 540, .ref 541, .ref 542, .ref 543, .ref 544, .ref 545, .ref 546, .ref 547, .int (iI (o 28)), .int (iI (o 29)), .int (iI (o 30)), .int (iI (o 31)), .int (iI (o 32)), .int (iI (o 33)), .ref 548, .ref 549, .ref 550, .ref 551, .int (iI (o 38)), .ref 552, .ref 553, .ref 554, .ref 555, .ref 556, .ref 557, .ref 558, .ref 559, .ref 560, .ref 561, .int (iI (o 49)), .ref 562, .ref 563, .ref 564, .ref 565, .ref 566, .ref 567, .ref 568, .ref 569, .int (iI (o 58)), .ref 570, .ref 571, .ref 572, .ref 573, .ref 574, .ref 575, .ref 576, .ref 577, .ref 578, .int (iI (o 68)), .int (iI (o 69)), .int (iI (o 70)), .ref 579]) rfl (pc' := 101) rfl (fun S582 h583 n584 e585 => ?_)
          refine T_p xr_141_101 xn_141 (pc' := 102) (ls' := [(1, .int (iI (X_sg tb len at_))), (0, .ref 530)]) (st' := [.ref 530]) rfl ?_
          refine T_p xr_141_102 xn_141 (pc' := 103) (ls' := [(1, .int (iI (X_sg tb len at_))), (0, .ref 530)]) (st' := [.ref 530, .ref 530]) rfl ?_
          refine T_get xr_141_103 h583 rfl (v := .int (iI (o 3))) rfl (pc' := 106) rfl ?_
          refine T_put xr_141_106 h583 rfl (Nat.le_of_ble_eq_true rfl) rfl (fs' := [.ref 531, .int (iI (o 1)), .ref 532, .int (iI (o 3)), .int (iI (o 4)), .int (iI (o 5)), .int (iI (o 6)), .int (iI (o 3)), .int (iI (o 3)), .int (iI 0), .int (iI (o 10)), .int (iI (o 11)), .long nm, .ref 533, .ref 534, .ref 535, .ref 536, .ref 537, .ref 538, .ref 539, .ref 540, .ref 541, .ref 542, .ref 543, .ref 544, .ref 545, .ref 546, .ref 547, .int (iI (o 28)), .int (iI (o 29)), .int (iI (o 30)), .int (iI (o 31)), .int (iI (o 32)), .int (iI (o 33)), .ref 548, .ref 549, .ref 550, .ref 551, .int (iI (o 38)), .ref 552, .ref 553, .ref 554, .ref 555, .ref 556, .ref 557, .ref 558, .ref 559, .ref 560, .ref 561, .int (iI (o 49)), .ref 562, .ref 563, .ref 564, .ref 565, .ref 566, .ref 567, .ref 568, .ref 569, .int (iI (o 58)), .ref 570, .ref 571, .ref 572, .ref 573, .ref 574, .ref 575, .ref 576, .ref 577, .ref 578, .int (iI (o 68)), .int (iI (o 69)), .int (iI (o 70)), .ref 579]) rfl (pc' := 109) rfl (fun S586 h587 n588 e589 => ?_)
          refine T_p xr_141_109 xn_141 (pc' := 551) (ls' := [(1, .int (iI (X_sg tb len at_))), (0, .ref 530)]) (st' := []) rfl ?_
          refine T_vret xr_141_551 xf_141.2.2 ?_
          refine hQ _ _ ?_
          exact ⟨o 3, o 3, 0, o 10, o 11, nm, 0, 0, len, rfl, (by omega), (Or.inl ⟨X_at_out (by omega), rfl, rfl, by omega⟩), rfl, (fun _ => by omega), fun h => absurd h (by omega), fun h => absurd h (by omega), by first | assumption | omega, h587, ((((((X_Fr.rf).tr (X_Fr.of n280 e281 (by first | decide | exact ⟨Nat.le_add_right _ _, Nat.add_le_add_left (by decide) _⟩ | omega))).tr (X_Fr.mono ⟨hF286.1, hF286.2⟩ (fun q hq => by first | exact hq | (rcases hq with rfl <;> decide) | (rcases hq with rfl | rfl <;> decide) | (rcases hq with rfl | rfl | rfl <;> decide) | (rcases hq with rfl | rfl | rfl | rfl <;> decide) | (rcases hq with rfl | rfl | rfl | rfl | rfl <;> decide) | (rcases hq with rfl | rfl | rfl | rfl | rfl | rfl <;> decide) | (rcases hq with rfl | rfl | rfl | rfl | rfl | rfl | rfl <;> decide) | omega))).tr (X_Fr.of n299 e300 (by first | decide | exact ⟨Nat.le_add_right _ _, Nat.add_le_add_left (by decide) _⟩ | omega))).tr (X_Fr.of n580 e581 (by first | decide | exact ⟨Nat.le_add_right _ _, Nat.add_le_add_left (by decide) _⟩ | omega))).tr (X_Fr.of n584 e585 (by first | decide | exact ⟨Nat.le_add_right _ _, Nat.add_le_add_left (by decide) _⟩ | omega))).tr (X_Fr.of n588 e589 (by first | decide | exact ⟨Nat.le_add_right _ _, Nat.add_le_add_left (by decide) _⟩ | omega))⟩
      · skip
        have c288 : ¬ ((o 3) ≤ at_) := c288
        refine T_p xr_141_19 xn_141 (pc' := 20) (ls' := [(0, .ref 530)]) (st' := [.ref 530]) rfl ?_
        refine T_p xr_141_20 xn_141 (pc' := 21) (ls' := [(0, .ref 530)]) (st' := [.ref 530, .ref 530]) rfl ?_
        refine T_get xr_141_21 hM1 rfl (v := .int (iI at_)) rfl (pc' := 24) rfl ?_
        refine T_cv (S := S287) (q := 530) xr_141_24 xf_136.1 xf_136.2.1 xn_136 (as := [.int (iI at_)]) (r := []) rfl hM1 (Nat.le_of_ble_eq_true rfl) (Nat.le_of_ble_eq_true rfl) (pc' := 27) rfl (ls' := [(0, .ref 530), (1, .int (iI at_))]) rfl ?_
        have h590 := (hF286.1 532 (by first | decide | omega)).trans ((n280 532 (by decide)).trans (hA532))
        refine T_mono (r_sign sc S287 (X_ou o 7 at_) nm tx tb len at_ hM1 h590 (show (o 3) = len from by first | assumption | omega) hl htx (by omega)) (fun v591 S592 h593 => ?_)
        rcases h593 with ⟨hv594, hf595⟩
        rw [hv594]
        rw [hf595]
        have hg596 := X_sg_r (tb := tb) (len := len) (k := at_) (by omega)
        have hg597 := X_sg_c (tb := tb) (len := len) (k := at_)
        show X_T sc 141 (27, [(0, .ref 530)], [.int (iI (X_sg tb len at_))], S287) _
        refine T_p xr_141_27 xn_141 (pc' := 29) (ls' := [(0, .ref 530)]) (st' := [.int (iI 32), .int (iI (X_sg tb len at_))]) rfl ?_
        refine T_zicmp_eq xr_141_29 (t := 45) (pc' := 32) rfl rfl (fun c598 => ?_) (fun c598 => ?_)
        · skip
          have c598 : (X_sg tb len at_) = 32 := c598
          refine T_p xr_141_45 xn_141 (pc' := 46) (ls' := [(0, .ref 530)]) (st' := [.ref 530]) rfl ?_
          refine T_p xr_141_46 xn_141 (pc' := 47) (ls' := [(0, .ref 530)]) (st' := [.ref 530, .ref 530]) rfl ?_
          refine T_get xr_141_47 hM1 rfl (v := .int (iI at_)) rfl (pc' := 50) rfl ?_
          refine T_p xr_141_50 xn_141 (pc' := 51) (ls' := [(0, .ref 530)]) (st' := [.int (iI 1), .int (iI at_), .ref 530]) rfl ?_
          refine T_ziadd xr_141_51 (z := at_ + 1) rfl (pc' := 52) rfl ?_
          refine T_put xr_141_52 hM1 rfl (Nat.le_of_ble_eq_true rfl) rfl (fs' := [.ref 531, .int (iI (o 1)), .ref 532, .int (iI (o 3)), .int (iI (o 4)), .int (iI (o 5)), .int (iI (o 6)), .int (iI (at_ + 1)), .int (iI (o 8)), .int (iI (o 9)), .int (iI (o 10)), .int (iI (o 11)), .long nm, .ref 533, .ref 534, .ref 535, .ref 536, .ref 537, .ref 538, .ref 539, .ref 540, .ref 541, .ref 542, .ref 543, .ref 544, .ref 545, .ref 546, .ref 547, .int (iI (o 28)), .int (iI (o 29)), .int (iI (o 30)), .int (iI (o 31)), .int (iI (o 32)), .int (iI (o 33)), .ref 548, .ref 549, .ref 550, .ref 551, .int (iI (o 38)), .ref 552, .ref 553, .ref 554, .ref 555, .ref 556, .ref 557, .ref 558, .ref 559, .ref 560, .ref 561, .int (iI (o 49)), .ref 562, .ref 563, .ref 564, .ref 565, .ref 566, .ref 567, .ref 568, .ref 569, .int (iI (o 58)), .ref 570, .ref 571, .ref 572, .ref 573, .ref 574, .ref 575, .ref 576, .ref 577, .ref 578, .int (iI (o 68)), .int (iI (o 69)), .int (iI (o 70)), .ref 579]) rfl (pc' := 55) rfl (fun S599 h600 n601 e602 => ?_)
          refine T_p xr_141_55 xn_141 (pc' := 8) (ls' := [(0, .ref 530)]) (st' := []) rfl ?_
          exact ih283 S599 (at_ + 1) h600 (hF286.tr ((X_Fr.rf).tr (X_Fr.of n601 e602 (by first | decide | exact ⟨Nat.le_add_right _ _, Nat.add_le_add_left (by decide) _⟩ | omega)))) (by omega) ((X_se_go (by omega) (by unfold X_isBl; omega)).symm.trans hse0) (by omega)
        · skip
          have c598 : ¬ ((X_sg tb len at_) = 32) := c598
          refine T_p xr_141_32 xn_141 (pc' := 33) (ls' := [(0, .ref 530)]) (st' := [.ref 530]) rfl ?_
          refine T_p xr_141_33 xn_141 (pc' := 34) (ls' := [(0, .ref 530)]) (st' := [.ref 530, .ref 530]) rfl ?_
          refine T_get xr_141_34 hM1 rfl (v := .int (iI at_)) rfl (pc' := 37) rfl ?_
          refine T_cv (S := S287) (q := 530) xr_141_37 xf_136.1 xf_136.2.1 xn_136 (as := [.int (iI at_)]) (r := []) rfl hM1 (Nat.le_of_ble_eq_true rfl) (Nat.le_of_ble_eq_true rfl) (pc' := 40) rfl (ls' := [(0, .ref 530), (1, .int (iI at_))]) rfl ?_
          refine T_mono (r_sign sc S287 (X_ou o 7 at_) nm tx tb len at_ hM1 h590 (show (o 3) = len from by first | assumption | omega) hl htx (by omega)) (fun v603 S604 h605 => ?_)
          rcases h605 with ⟨hv606, hf607⟩
          rw [hv606]
          rw [hf607]
          have hg608 := X_sg_r (tb := tb) (len := len) (k := at_) (by omega)
          have hg609 := X_sg_c (tb := tb) (len := len) (k := at_)
          show X_T sc 141 (40, [(0, .ref 530)], [.int (iI (X_sg tb len at_))], S287) _
          refine T_p xr_141_40 xn_141 (pc' := 42) (ls' := [(0, .ref 530)]) (st' := [.int (iI 10), .int (iI (X_sg tb len at_))]) rfl ?_
          refine T_zicmp_ne xr_141_42 (t := 58) (pc' := 45) rfl rfl (fun c610 => ?_) (fun c610 => ?_)
          · skip
            have c610 : ¬ (X_sg tb len at_) = 10 := c610
            have hp : at_ = X_se X_isBl tb len (o 8) := (X_se_no (by first | (intro h; omega) | (rintro ⟨h1, h2⟩; unfold X_isBl at h2; omega))).symm.trans hse0
            refine T_p xr_141_58 xn_141 (pc' := 59) (ls' := [(0, .ref 530)]) (st' := [.ref 530]) rfl ?_
            refine T_p xr_141_59 xn_141 (pc' := 60) (ls' := [(0, .ref 530)]) (st' := [.ref 530, .ref 530]) rfl ?_
            refine T_get xr_141_60 hM1 rfl (v := .int (iI at_)) rfl (pc' := 63) rfl ?_
            refine T_cv (S := S287) (q := 530) xr_141_63 xf_136.1 xf_136.2.1 xn_136 (as := [.int (iI at_)]) (r := []) rfl hM1 (Nat.le_of_ble_eq_true rfl) (Nat.le_of_ble_eq_true rfl) (pc' := 66) rfl (ls' := [(0, .ref 530), (1, .int (iI at_))]) rfl ?_
            refine T_mono (r_sign sc S287 (X_ou o 7 at_) nm tx tb len at_ hM1 h590 (show (o 3) = len from by first | assumption | omega) hl htx (by omega)) (fun v611 S612 h613 => ?_)
            rcases h613 with ⟨hv614, hf615⟩
            rw [hv614]
            rw [hf615]
            have hg616 := X_sg_r (tb := tb) (len := len) (k := at_) (by omega)
            have hg617 := X_sg_c (tb := tb) (len := len) (k := at_)
            show X_T sc 141 (66, [(0, .ref 530)], [.int (iI (X_sg tb len at_))], S287) _
            refine T_p xr_141_66 xn_141 (pc' := 67) (ls' := [(1, .int (iI (X_sg tb len at_))), (0, .ref 530)]) (st' := []) rfl ?_
            refine T_p xr_141_67 xn_141 (pc' := 68) (ls' := [(1, .int (iI (X_sg tb len at_))), (0, .ref 530)]) (st' := [.ref 530]) rfl ?_
            refine T_p xr_141_68 xn_141 (pc' := 69) (ls' := [(1, .int (iI (X_sg tb len at_))), (0, .ref 530)]) (st' := [.ref 530, .ref 530]) rfl ?_
            refine T_get xr_141_69 hM1 rfl (v := .int (iI at_)) rfl (pc' := 72) rfl ?_
            refine T_p xr_141_72 xn_141 (pc' := 73) (ls' := [(1, .int (iI (X_sg tb len at_))), (0, .ref 530)]) (st' := [.int (iI 1), .int (iI at_), .ref 530]) rfl ?_
            refine T_ziadd xr_141_73 (z := at_ + 1) rfl (pc' := 74) rfl ?_
            refine T_put xr_141_74 hM1 rfl (Nat.le_of_ble_eq_true rfl) rfl (fs' := [.ref 531, .int (iI (o 1)), .ref 532, .int (iI (o 3)), .int (iI (o 4)), .int (iI (o 5)), .int (iI (o 6)), .int (iI at_), .int (iI (at_ + 1)), .int (iI (o 9)), .int (iI (o 10)), .int (iI (o 11)), .long nm, .ref 533, .ref 534, .ref 535, .ref 536, .ref 537, .ref 538, .ref 539, .ref 540, .ref 541, .ref 542, .ref 543, .ref 544, .ref 545, .ref 546, .ref 547, .int (iI (o 28)), .int (iI (o 29)), .int (iI (o 30)), .int (iI (o 31)), .int (iI (o 32)), .int (iI (o 33)), .ref 548, .ref 549, .ref 550, .ref 551, .int (iI (o 38)), .ref 552, .ref 553, .ref 554, .ref 555, .ref 556, .ref 557, .ref 558, .ref 559, .ref 560, .ref 561, .int (iI (o 49)), .ref 562, .ref 563, .ref 564, .ref 565, .ref 566, .ref 567, .ref 568, .ref 569, .int (iI (o 58)), .ref 570, .ref 571, .ref 572, .ref 573, .ref 574, .ref 575, .ref 576, .ref 577, .ref 578, .int (iI (o 68)), .int (iI (o 69)), .int (iI (o 70)), .ref 579]) rfl (pc' := 77) rfl (fun S618 h619 n620 e621 => ?_)
            refine T_p xr_141_77 xn_141 (pc' := 78) (ls' := [(1, .int (iI (X_sg tb len at_))), (0, .ref 530)]) (st' := [.ref 530]) rfl ?_
            refine T_get xr_141_78 h619 rfl (v := .int (iI at_)) rfl (pc' := 81) rfl ?_
            refine T_p xr_141_81 xn_141 (pc' := 82) (ls' := [(1, .int (iI (X_sg tb len at_))), (0, .ref 530)]) (st' := [.ref 530, .int (iI at_)]) rfl ?_
            refine T_get xr_141_82 h619 rfl (v := .int (iI (o 3))) rfl (pc' := 85) rfl ?_
            refine T_zicmp_lt xr_141_85 (t := 112) (pc' := 88) rfl rfl (fun c622 => ?_) (fun c622 => ?_)
            · skip
              have c622 : at_ < (o 3) := c622
              refine T_p xr_141_112 xn_141 (pc' := 113) (ls' := [(1, .int (iI (X_sg tb len at_))), (0, .ref 530)]) (st' := [.int (iI (X_sg tb len at_))]) rfl ?_
              refine T_cs xr_141_113 (by decide) xf_137.1 xn_137 (as := [.int (iI (X_sg tb len at_))]) (r := []) rfl (Nat.le_of_ble_eq_true rfl) (Nat.le_of_ble_eq_true rfl) (pc' := 116) rfl (ls' := [(0, .int (iI (X_sg tb len at_)))]) rfl ?_
              refine T_mono (r_isLetter sc S618 (X_sg tb len at_) (by omega)) (fun v623 S624 h625 => ?_)
              rcases h625 with ⟨hv626, hf627⟩
              rw [hv626]
              rw [hf627]
              show X_T sc 141 (116, [(1, .int (iI (X_sg tb len at_))), (0, .ref 530)], [.int (iI (bI (X_isL (X_sg tb len at_))))], S618) _
              refine T_bif_eq xr_141_116 (t := 289) (pc' := 119) rfl rfl (fun c628 => ?_) (fun c628 => ?_)
              · skip
                have c628 : ¬ (X_isL (X_sg tb len at_)) := c628
                refine T_p xr_141_289 xn_141 (pc' := 290) (ls' := [(1, .int (iI (X_sg tb len at_))), (0, .ref 530)]) (st' := [.int (iI (X_sg tb len at_))]) rfl ?_
                refine T_cs xr_141_290 (by decide) xf_138.1 xn_138 (as := [.int (iI (X_sg tb len at_))]) (r := []) rfl (Nat.le_of_ble_eq_true rfl) (Nat.le_of_ble_eq_true rfl) (pc' := 293) rfl (ls' := [(0, .int (iI (X_sg tb len at_)))]) rfl ?_
                refine T_mono (r_isDigit sc S618 (X_sg tb len at_) (by omega)) (fun v629 S630 h631 => ?_)
                rcases h631 with ⟨hv632, hf633⟩
                rw [hv632]
                rw [hf633]
                show X_T sc 141 (293, [(1, .int (iI (X_sg tb len at_))), (0, .ref 530)], [.int (iI (bI (X_isD (X_sg tb len at_))))], S618) _
                refine T_bif_eq xr_141_293 (t := 421) (pc' := 296) rfl rfl (fun c634 => ?_) (fun c634 => ?_)
                · skip
                  have c634 : ¬ (X_isD (X_sg tb len at_)) := c634
                  refine T_p xr_141_421 xn_141 (pc' := 422) (ls' := [(1, .int (iI (X_sg tb len at_))), (0, .ref 530)]) (st' := [.int (iI (X_sg tb len at_))]) rfl ?_
                  refine T_p xr_141_422 xn_141 (pc' := 424) (ls' := [(1, .int (iI (X_sg tb len at_))), (0, .ref 530)]) (st' := [.int (iI 34), .int (iI (X_sg tb len at_))]) rfl ?_
                  refine T_zicmp_ne xr_141_424 (t := 434) (pc' := 427) rfl rfl (fun c635 => ?_) (fun c635 => ?_)
                  · skip
                    have c635 : ¬ (X_sg tb len at_) = 34 := c635
                    refine T_p xr_141_434 xn_141 (pc' := 435) (ls' := [(1, .int (iI (X_sg tb len at_))), (0, .ref 530)]) (st' := [.int (iI (X_sg tb len at_))]) rfl ?_
                    refine T_p xr_141_435 xn_141 (pc' := 437) (ls' := [(1, .int (iI (X_sg tb len at_))), (0, .ref 530)]) (st' := [.int (iI 95), .int (iI (X_sg tb len at_))]) rfl ?_
                    refine T_zicmp_ne xr_141_437 (t := 481) (pc' := 440) rfl rfl (fun c636 => ?_) (fun c636 => ?_)
                    · skip
                      have c636 : ¬ (X_sg tb len at_) = 95 := c636
                      refine T_p xr_141_481 xn_141 (pc' := 482) (ls' := [(1, .int (iI (X_sg tb len at_))), (0, .ref 530)]) (st' := [.ref 530]) rfl ?_
                      refine T_p xr_141_482 xn_141 (pc' := 483) (ls' := [(1, .int (iI (X_sg tb len at_))), (0, .ref 530)]) (st' := [.int (iI (X_sg tb len at_)), .ref 530]) rfl ?_
                      refine T_p xr_141_483 xn_141 (pc' := 485) (ls' := [(1, .int (iI (X_sg tb len at_))), (0, .ref 530)]) (st' := [.int (iI 59), .int (iI (X_sg tb len at_)), .ref 530]) rfl ?_
                      refine T_zicmp_eq xr_141_485 (t := 542) (pc' := 488) rfl rfl (fun c637 => ?_) (fun c637 => ?_)
                      · skip
                        have c637 : (X_sg tb len at_) = 59 := c637
                        refine T_p xr_141_542 xn_141 (pc' := 544) (ls' := [(1, .int (iI (X_sg tb len at_))), (0, .ref 530)]) (st' := [.int (iI 6), .ref 530]) rfl ?_
                        refine T_p xr_141_544 xn_141 (pc' := 548) (ls' := [(1, .int (iI (X_sg tb len at_))), (0, .ref 530)]) (st' := [.int (iI 6), .ref 530]) rfl ?_
                        refine T_put xr_141_548 h619 rfl (Nat.le_of_ble_eq_true rfl) rfl (fs' := [.ref 531, .int (iI (o 1)), .ref 532, .int (iI (o 3)), .int (iI (o 4)), .int (iI (o 5)), .int (iI (o 6)), .int (iI at_), .int (iI (at_ + 1)), .int (iI 6), .int (iI (o 10)), .int (iI (o 11)), .long nm, .ref 533, .ref 534, .ref 535, .ref 536, .ref 537, .ref 538, .ref 539, .ref 540, .ref 541, .ref 542, .ref 543, .ref 544, .ref 545, .ref 546, .ref 547, .int (iI (o 28)), .int (iI (o 29)), .int (iI (o 30)), .int (iI (o 31)), .int (iI (o 32)), .int (iI (o 33)), .ref 548, .ref 549, .ref 550, .ref 551, .int (iI (o 38)), .ref 552, .ref 553, .ref 554, .ref 555, .ref 556, .ref 557, .ref 558, .ref 559, .ref 560, .ref 561, .int (iI (o 49)), .ref 562, .ref 563, .ref 564, .ref 565, .ref 566, .ref 567, .ref 568, .ref 569, .int (iI (o 58)), .ref 570, .ref 571, .ref 572, .ref 573, .ref 574, .ref 575, .ref 576, .ref 577, .ref 578, .int (iI (o 68)), .int (iI (o 69)), .int (iI (o 70)), .ref 579]) rfl (pc' := 551) rfl (fun S638 h639 n640 e641 => ?_)
                        refine T_vret xr_141_551 xf_141.2.2 ?_
                        refine hQ _ _ ?_
                        exact ⟨at_, at_ + 1, 6, o 10, o 11, nm, (X_at tb len at_), 0, at_ + 1, rfl, hp, (Or.inr (Or.inr (Or.inr (Or.inr ⟨fun h => absurd (X_sg_L.mpr ⟨by omega, h⟩) (by assumption), fun h => absurd (X_sg_D.mpr ⟨by omega, h⟩) (by assumption), by omega, by omega, rfl, rfl, Or.inl ⟨by unfold X_isSg; omega, by first | (intro h; omega) | (intro h; exact absurd h.2 (X_sg_n (by assumption) (by assumption))), rfl⟩⟩)))), (by rw [show X_at tb len at_ = X_sg tb len at_ by omega]; unfold X_rk; (repeat (first | rw [if_neg (by omega)] | rw [if_pos (by omega)]))), (fun _ => rfl), (fun h => absurd h (by omega)), (fun h => absurd h (by omega)), by first | assumption | omega, h639, ((((X_Fr.rf).tr (X_Fr.of n280 e281 (by first | decide | exact ⟨Nat.le_add_right _ _, Nat.add_le_add_left (by decide) _⟩ | omega))).tr (X_Fr.mono ⟨hF286.1, hF286.2⟩ (fun q hq => by first | exact hq | (rcases hq with rfl <;> decide) | (rcases hq with rfl | rfl <;> decide) | (rcases hq with rfl | rfl | rfl <;> decide) | (rcases hq with rfl | rfl | rfl | rfl <;> decide) | (rcases hq with rfl | rfl | rfl | rfl | rfl <;> decide) | (rcases hq with rfl | rfl | rfl | rfl | rfl | rfl <;> decide) | (rcases hq with rfl | rfl | rfl | rfl | rfl | rfl | rfl <;> decide) | omega))).tr (X_Fr.of n620 e621 (by first | decide | exact ⟨Nat.le_add_right _ _, Nat.add_le_add_left (by decide) _⟩ | omega))).tr (X_Fr.of n640 e641 (by first | decide | exact ⟨Nat.le_add_right _ _, Nat.add_le_add_left (by decide) _⟩ | omega))⟩
                      · skip
                        have c637 : ¬ ((X_sg tb len at_) = 59) := c637
                        refine T_p xr_141_488 xn_141 (pc' := 489) (ls' := [(1, .int (iI (X_sg tb len at_))), (0, .ref 530)]) (st' := [.int (iI (X_sg tb len at_)), .ref 530]) rfl ?_
                        refine T_p xr_141_489 xn_141 (pc' := 491) (ls' := [(1, .int (iI (X_sg tb len at_))), (0, .ref 530)]) (st' := [.int (iI 58), .int (iI (X_sg tb len at_)), .ref 530]) rfl ?_
                        refine T_zicmp_eq xr_141_491 (t := 542) (pc' := 494) rfl rfl (fun c642 => ?_) (fun c642 => ?_)
                        · skip
                          have c642 : (X_sg tb len at_) = 58 := c642
                          refine T_p xr_141_542 xn_141 (pc' := 544) (ls' := [(1, .int (iI (X_sg tb len at_))), (0, .ref 530)]) (st' := [.int (iI 6), .ref 530]) rfl ?_
                          refine T_p xr_141_544 xn_141 (pc' := 548) (ls' := [(1, .int (iI (X_sg tb len at_))), (0, .ref 530)]) (st' := [.int (iI 6), .ref 530]) rfl ?_
                          refine T_put xr_141_548 h619 rfl (Nat.le_of_ble_eq_true rfl) rfl (fs' := [.ref 531, .int (iI (o 1)), .ref 532, .int (iI (o 3)), .int (iI (o 4)), .int (iI (o 5)), .int (iI (o 6)), .int (iI at_), .int (iI (at_ + 1)), .int (iI 6), .int (iI (o 10)), .int (iI (o 11)), .long nm, .ref 533, .ref 534, .ref 535, .ref 536, .ref 537, .ref 538, .ref 539, .ref 540, .ref 541, .ref 542, .ref 543, .ref 544, .ref 545, .ref 546, .ref 547, .int (iI (o 28)), .int (iI (o 29)), .int (iI (o 30)), .int (iI (o 31)), .int (iI (o 32)), .int (iI (o 33)), .ref 548, .ref 549, .ref 550, .ref 551, .int (iI (o 38)), .ref 552, .ref 553, .ref 554, .ref 555, .ref 556, .ref 557, .ref 558, .ref 559, .ref 560, .ref 561, .int (iI (o 49)), .ref 562, .ref 563, .ref 564, .ref 565, .ref 566, .ref 567, .ref 568, .ref 569, .int (iI (o 58)), .ref 570, .ref 571, .ref 572, .ref 573, .ref 574, .ref 575, .ref 576, .ref 577, .ref 578, .int (iI (o 68)), .int (iI (o 69)), .int (iI (o 70)), .ref 579]) rfl (pc' := 551) rfl (fun S643 h644 n645 e646 => ?_)
                          refine T_vret xr_141_551 xf_141.2.2 ?_
                          refine hQ _ _ ?_
                          exact ⟨at_, at_ + 1, 6, o 10, o 11, nm, (X_at tb len at_), 0, at_ + 1, rfl, hp, (Or.inr (Or.inr (Or.inr (Or.inr ⟨fun h => absurd (X_sg_L.mpr ⟨by omega, h⟩) (by assumption), fun h => absurd (X_sg_D.mpr ⟨by omega, h⟩) (by assumption), by omega, by omega, rfl, rfl, Or.inl ⟨by unfold X_isSg; omega, by first | (intro h; omega) | (intro h; exact absurd h.2 (X_sg_n (by assumption) (by assumption))), rfl⟩⟩)))), (by rw [show X_at tb len at_ = X_sg tb len at_ by omega]; unfold X_rk; (repeat (first | rw [if_neg (by omega)] | rw [if_pos (by omega)]))), (fun _ => rfl), (fun h => absurd h (by omega)), (fun h => absurd h (by omega)), by first | assumption | omega, h644, ((((X_Fr.rf).tr (X_Fr.of n280 e281 (by first | decide | exact ⟨Nat.le_add_right _ _, Nat.add_le_add_left (by decide) _⟩ | omega))).tr (X_Fr.mono ⟨hF286.1, hF286.2⟩ (fun q hq => by first | exact hq | (rcases hq with rfl <;> decide) | (rcases hq with rfl | rfl <;> decide) | (rcases hq with rfl | rfl | rfl <;> decide) | (rcases hq with rfl | rfl | rfl | rfl <;> decide) | (rcases hq with rfl | rfl | rfl | rfl | rfl <;> decide) | (rcases hq with rfl | rfl | rfl | rfl | rfl | rfl <;> decide) | (rcases hq with rfl | rfl | rfl | rfl | rfl | rfl | rfl <;> decide) | omega))).tr (X_Fr.of n620 e621 (by first | decide | exact ⟨Nat.le_add_right _ _, Nat.add_le_add_left (by decide) _⟩ | omega))).tr (X_Fr.of n645 e646 (by first | decide | exact ⟨Nat.le_add_right _ _, Nat.add_le_add_left (by decide) _⟩ | omega))⟩
                        · skip
                          have c642 : ¬ ((X_sg tb len at_) = 58) := c642
                          refine T_p xr_141_494 xn_141 (pc' := 495) (ls' := [(1, .int (iI (X_sg tb len at_))), (0, .ref 530)]) (st' := [.int (iI (X_sg tb len at_)), .ref 530]) rfl ?_
                          refine T_p xr_141_495 xn_141 (pc' := 497) (ls' := [(1, .int (iI (X_sg tb len at_))), (0, .ref 530)]) (st' := [.int (iI 61), .int (iI (X_sg tb len at_)), .ref 530]) rfl ?_
                          refine T_zicmp_eq xr_141_497 (t := 542) (pc' := 500) rfl rfl (fun c647 => ?_) (fun c647 => ?_)
                          · skip
                            have c647 : (X_sg tb len at_) = 61 := c647
                            refine T_p xr_141_542 xn_141 (pc' := 544) (ls' := [(1, .int (iI (X_sg tb len at_))), (0, .ref 530)]) (st' := [.int (iI 6), .ref 530]) rfl ?_
                            refine T_p xr_141_544 xn_141 (pc' := 548) (ls' := [(1, .int (iI (X_sg tb len at_))), (0, .ref 530)]) (st' := [.int (iI 6), .ref 530]) rfl ?_
                            refine T_put xr_141_548 h619 rfl (Nat.le_of_ble_eq_true rfl) rfl (fs' := [.ref 531, .int (iI (o 1)), .ref 532, .int (iI (o 3)), .int (iI (o 4)), .int (iI (o 5)), .int (iI (o 6)), .int (iI at_), .int (iI (at_ + 1)), .int (iI 6), .int (iI (o 10)), .int (iI (o 11)), .long nm, .ref 533, .ref 534, .ref 535, .ref 536, .ref 537, .ref 538, .ref 539, .ref 540, .ref 541, .ref 542, .ref 543, .ref 544, .ref 545, .ref 546, .ref 547, .int (iI (o 28)), .int (iI (o 29)), .int (iI (o 30)), .int (iI (o 31)), .int (iI (o 32)), .int (iI (o 33)), .ref 548, .ref 549, .ref 550, .ref 551, .int (iI (o 38)), .ref 552, .ref 553, .ref 554, .ref 555, .ref 556, .ref 557, .ref 558, .ref 559, .ref 560, .ref 561, .int (iI (o 49)), .ref 562, .ref 563, .ref 564, .ref 565, .ref 566, .ref 567, .ref 568, .ref 569, .int (iI (o 58)), .ref 570, .ref 571, .ref 572, .ref 573, .ref 574, .ref 575, .ref 576, .ref 577, .ref 578, .int (iI (o 68)), .int (iI (o 69)), .int (iI (o 70)), .ref 579]) rfl (pc' := 551) rfl (fun S648 h649 n650 e651 => ?_)
                            refine T_vret xr_141_551 xf_141.2.2 ?_
                            refine hQ _ _ ?_
                            exact ⟨at_, at_ + 1, 6, o 10, o 11, nm, (X_at tb len at_), 0, at_ + 1, rfl, hp, (Or.inr (Or.inr (Or.inr (Or.inr ⟨fun h => absurd (X_sg_L.mpr ⟨by omega, h⟩) (by assumption), fun h => absurd (X_sg_D.mpr ⟨by omega, h⟩) (by assumption), by omega, by omega, rfl, rfl, Or.inl ⟨by unfold X_isSg; omega, by first | (intro h; omega) | (intro h; exact absurd h.2 (X_sg_n (by assumption) (by assumption))), rfl⟩⟩)))), (by rw [show X_at tb len at_ = X_sg tb len at_ by omega]; unfold X_rk; (repeat (first | rw [if_neg (by omega)] | rw [if_pos (by omega)]))), (fun _ => rfl), (fun h => absurd h (by omega)), (fun h => absurd h (by omega)), by first | assumption | omega, h649, ((((X_Fr.rf).tr (X_Fr.of n280 e281 (by first | decide | exact ⟨Nat.le_add_right _ _, Nat.add_le_add_left (by decide) _⟩ | omega))).tr (X_Fr.mono ⟨hF286.1, hF286.2⟩ (fun q hq => by first | exact hq | (rcases hq with rfl <;> decide) | (rcases hq with rfl | rfl <;> decide) | (rcases hq with rfl | rfl | rfl <;> decide) | (rcases hq with rfl | rfl | rfl | rfl <;> decide) | (rcases hq with rfl | rfl | rfl | rfl | rfl <;> decide) | (rcases hq with rfl | rfl | rfl | rfl | rfl | rfl <;> decide) | (rcases hq with rfl | rfl | rfl | rfl | rfl | rfl | rfl <;> decide) | omega))).tr (X_Fr.of n620 e621 (by first | decide | exact ⟨Nat.le_add_right _ _, Nat.add_le_add_left (by decide) _⟩ | omega))).tr (X_Fr.of n650 e651 (by first | decide | exact ⟨Nat.le_add_right _ _, Nat.add_le_add_left (by decide) _⟩ | omega))⟩
                          · skip
                            have c647 : ¬ ((X_sg tb len at_) = 61) := c647
                            refine T_p xr_141_500 xn_141 (pc' := 501) (ls' := [(1, .int (iI (X_sg tb len at_))), (0, .ref 530)]) (st' := [.int (iI (X_sg tb len at_)), .ref 530]) rfl ?_
                            refine T_p xr_141_501 xn_141 (pc' := 503) (ls' := [(1, .int (iI (X_sg tb len at_))), (0, .ref 530)]) (st' := [.int (iI 64), .int (iI (X_sg tb len at_)), .ref 530]) rfl ?_
                            refine T_zicmp_eq xr_141_503 (t := 542) (pc' := 506) rfl rfl (fun c652 => ?_) (fun c652 => ?_)
                            · skip
                              have c652 : (X_sg tb len at_) = 64 := c652
                              refine T_p xr_141_542 xn_141 (pc' := 544) (ls' := [(1, .int (iI (X_sg tb len at_))), (0, .ref 530)]) (st' := [.int (iI 6), .ref 530]) rfl ?_
                              refine T_p xr_141_544 xn_141 (pc' := 548) (ls' := [(1, .int (iI (X_sg tb len at_))), (0, .ref 530)]) (st' := [.int (iI 6), .ref 530]) rfl ?_
                              refine T_put xr_141_548 h619 rfl (Nat.le_of_ble_eq_true rfl) rfl (fs' := [.ref 531, .int (iI (o 1)), .ref 532, .int (iI (o 3)), .int (iI (o 4)), .int (iI (o 5)), .int (iI (o 6)), .int (iI at_), .int (iI (at_ + 1)), .int (iI 6), .int (iI (o 10)), .int (iI (o 11)), .long nm, .ref 533, .ref 534, .ref 535, .ref 536, .ref 537, .ref 538, .ref 539, .ref 540, .ref 541, .ref 542, .ref 543, .ref 544, .ref 545, .ref 546, .ref 547, .int (iI (o 28)), .int (iI (o 29)), .int (iI (o 30)), .int (iI (o 31)), .int (iI (o 32)), .int (iI (o 33)), .ref 548, .ref 549, .ref 550, .ref 551, .int (iI (o 38)), .ref 552, .ref 553, .ref 554, .ref 555, .ref 556, .ref 557, .ref 558, .ref 559, .ref 560, .ref 561, .int (iI (o 49)), .ref 562, .ref 563, .ref 564, .ref 565, .ref 566, .ref 567, .ref 568, .ref 569, .int (iI (o 58)), .ref 570, .ref 571, .ref 572, .ref 573, .ref 574, .ref 575, .ref 576, .ref 577, .ref 578, .int (iI (o 68)), .int (iI (o 69)), .int (iI (o 70)), .ref 579]) rfl (pc' := 551) rfl (fun S653 h654 n655 e656 => ?_)
                              refine T_vret xr_141_551 xf_141.2.2 ?_
                              refine hQ _ _ ?_
                              exact ⟨at_, at_ + 1, 6, o 10, o 11, nm, (X_at tb len at_), 0, at_ + 1, rfl, hp, (Or.inr (Or.inr (Or.inr (Or.inr ⟨fun h => absurd (X_sg_L.mpr ⟨by omega, h⟩) (by assumption), fun h => absurd (X_sg_D.mpr ⟨by omega, h⟩) (by assumption), by omega, by omega, rfl, rfl, Or.inl ⟨by unfold X_isSg; omega, by first | (intro h; omega) | (intro h; exact absurd h.2 (X_sg_n (by assumption) (by assumption))), rfl⟩⟩)))), (by rw [show X_at tb len at_ = X_sg tb len at_ by omega]; unfold X_rk; (repeat (first | rw [if_neg (by omega)] | rw [if_pos (by omega)]))), (fun _ => rfl), (fun h => absurd h (by omega)), (fun h => absurd h (by omega)), by first | assumption | omega, h654, ((((X_Fr.rf).tr (X_Fr.of n280 e281 (by first | decide | exact ⟨Nat.le_add_right _ _, Nat.add_le_add_left (by decide) _⟩ | omega))).tr (X_Fr.mono ⟨hF286.1, hF286.2⟩ (fun q hq => by first | exact hq | (rcases hq with rfl <;> decide) | (rcases hq with rfl | rfl <;> decide) | (rcases hq with rfl | rfl | rfl <;> decide) | (rcases hq with rfl | rfl | rfl | rfl <;> decide) | (rcases hq with rfl | rfl | rfl | rfl | rfl <;> decide) | (rcases hq with rfl | rfl | rfl | rfl | rfl | rfl <;> decide) | (rcases hq with rfl | rfl | rfl | rfl | rfl | rfl | rfl <;> decide) | omega))).tr (X_Fr.of n620 e621 (by first | decide | exact ⟨Nat.le_add_right _ _, Nat.add_le_add_left (by decide) _⟩ | omega))).tr (X_Fr.of n655 e656 (by first | decide | exact ⟨Nat.le_add_right _ _, Nat.add_le_add_left (by decide) _⟩ | omega))⟩
                            · skip
                              have c652 : ¬ ((X_sg tb len at_) = 64) := c652
                              refine T_p xr_141_506 xn_141 (pc' := 507) (ls' := [(1, .int (iI (X_sg tb len at_))), (0, .ref 530)]) (st' := [.int (iI (X_sg tb len at_)), .ref 530]) rfl ?_
                              refine T_p xr_141_507 xn_141 (pc' := 509) (ls' := [(1, .int (iI (X_sg tb len at_))), (0, .ref 530)]) (st' := [.int (iI 43), .int (iI (X_sg tb len at_)), .ref 530]) rfl ?_
                              refine T_zicmp_eq xr_141_509 (t := 542) (pc' := 512) rfl rfl (fun c657 => ?_) (fun c657 => ?_)
                              · skip
                                have c657 : (X_sg tb len at_) = 43 := c657
                                refine T_p xr_141_542 xn_141 (pc' := 544) (ls' := [(1, .int (iI (X_sg tb len at_))), (0, .ref 530)]) (st' := [.int (iI 6), .ref 530]) rfl ?_
                                refine T_p xr_141_544 xn_141 (pc' := 548) (ls' := [(1, .int (iI (X_sg tb len at_))), (0, .ref 530)]) (st' := [.int (iI 6), .ref 530]) rfl ?_
                                refine T_put xr_141_548 h619 rfl (Nat.le_of_ble_eq_true rfl) rfl (fs' := [.ref 531, .int (iI (o 1)), .ref 532, .int (iI (o 3)), .int (iI (o 4)), .int (iI (o 5)), .int (iI (o 6)), .int (iI at_), .int (iI (at_ + 1)), .int (iI 6), .int (iI (o 10)), .int (iI (o 11)), .long nm, .ref 533, .ref 534, .ref 535, .ref 536, .ref 537, .ref 538, .ref 539, .ref 540, .ref 541, .ref 542, .ref 543, .ref 544, .ref 545, .ref 546, .ref 547, .int (iI (o 28)), .int (iI (o 29)), .int (iI (o 30)), .int (iI (o 31)), .int (iI (o 32)), .int (iI (o 33)), .ref 548, .ref 549, .ref 550, .ref 551, .int (iI (o 38)), .ref 552, .ref 553, .ref 554, .ref 555, .ref 556, .ref 557, .ref 558, .ref 559, .ref 560, .ref 561, .int (iI (o 49)), .ref 562, .ref 563, .ref 564, .ref 565, .ref 566, .ref 567, .ref 568, .ref 569, .int (iI (o 58)), .ref 570, .ref 571, .ref 572, .ref 573, .ref 574, .ref 575, .ref 576, .ref 577, .ref 578, .int (iI (o 68)), .int (iI (o 69)), .int (iI (o 70)), .ref 579]) rfl (pc' := 551) rfl (fun S658 h659 n660 e661 => ?_)
                                refine T_vret xr_141_551 xf_141.2.2 ?_
                                refine hQ _ _ ?_
                                exact ⟨at_, at_ + 1, 6, o 10, o 11, nm, (X_at tb len at_), 0, at_ + 1, rfl, hp, (Or.inr (Or.inr (Or.inr (Or.inr ⟨fun h => absurd (X_sg_L.mpr ⟨by omega, h⟩) (by assumption), fun h => absurd (X_sg_D.mpr ⟨by omega, h⟩) (by assumption), by omega, by omega, rfl, rfl, Or.inl ⟨by unfold X_isSg; omega, by first | (intro h; omega) | (intro h; exact absurd h.2 (X_sg_n (by assumption) (by assumption))), rfl⟩⟩)))), (by rw [show X_at tb len at_ = X_sg tb len at_ by omega]; unfold X_rk; (repeat (first | rw [if_neg (by omega)] | rw [if_pos (by omega)]))), (fun _ => rfl), (fun h => absurd h (by omega)), (fun h => absurd h (by omega)), by first | assumption | omega, h659, ((((X_Fr.rf).tr (X_Fr.of n280 e281 (by first | decide | exact ⟨Nat.le_add_right _ _, Nat.add_le_add_left (by decide) _⟩ | omega))).tr (X_Fr.mono ⟨hF286.1, hF286.2⟩ (fun q hq => by first | exact hq | (rcases hq with rfl <;> decide) | (rcases hq with rfl | rfl <;> decide) | (rcases hq with rfl | rfl | rfl <;> decide) | (rcases hq with rfl | rfl | rfl | rfl <;> decide) | (rcases hq with rfl | rfl | rfl | rfl | rfl <;> decide) | (rcases hq with rfl | rfl | rfl | rfl | rfl | rfl <;> decide) | (rcases hq with rfl | rfl | rfl | rfl | rfl | rfl | rfl <;> decide) | omega))).tr (X_Fr.of n620 e621 (by first | decide | exact ⟨Nat.le_add_right _ _, Nat.add_le_add_left (by decide) _⟩ | omega))).tr (X_Fr.of n660 e661 (by first | decide | exact ⟨Nat.le_add_right _ _, Nat.add_le_add_left (by decide) _⟩ | omega))⟩
                              · skip
                                have c657 : ¬ ((X_sg tb len at_) = 43) := c657
                                refine T_p xr_141_512 xn_141 (pc' := 513) (ls' := [(1, .int (iI (X_sg tb len at_))), (0, .ref 530)]) (st' := [.int (iI (X_sg tb len at_)), .ref 530]) rfl ?_
                                refine T_p xr_141_513 xn_141 (pc' := 515) (ls' := [(1, .int (iI (X_sg tb len at_))), (0, .ref 530)]) (st' := [.int (iI 45), .int (iI (X_sg tb len at_)), .ref 530]) rfl ?_
                                refine T_zicmp_eq xr_141_515 (t := 542) (pc' := 518) rfl rfl (fun c662 => ?_) (fun c662 => ?_)
                                · skip
                                  have c662 : (X_sg tb len at_) = 45 := c662
                                  refine T_p xr_141_542 xn_141 (pc' := 544) (ls' := [(1, .int (iI (X_sg tb len at_))), (0, .ref 530)]) (st' := [.int (iI 6), .ref 530]) rfl ?_
                                  refine T_p xr_141_544 xn_141 (pc' := 548) (ls' := [(1, .int (iI (X_sg tb len at_))), (0, .ref 530)]) (st' := [.int (iI 6), .ref 530]) rfl ?_
                                  refine T_put xr_141_548 h619 rfl (Nat.le_of_ble_eq_true rfl) rfl (fs' := [.ref 531, .int (iI (o 1)), .ref 532, .int (iI (o 3)), .int (iI (o 4)), .int (iI (o 5)), .int (iI (o 6)), .int (iI at_), .int (iI (at_ + 1)), .int (iI 6), .int (iI (o 10)), .int (iI (o 11)), .long nm, .ref 533, .ref 534, .ref 535, .ref 536, .ref 537, .ref 538, .ref 539, .ref 540, .ref 541, .ref 542, .ref 543, .ref 544, .ref 545, .ref 546, .ref 547, .int (iI (o 28)), .int (iI (o 29)), .int (iI (o 30)), .int (iI (o 31)), .int (iI (o 32)), .int (iI (o 33)), .ref 548, .ref 549, .ref 550, .ref 551, .int (iI (o 38)), .ref 552, .ref 553, .ref 554, .ref 555, .ref 556, .ref 557, .ref 558, .ref 559, .ref 560, .ref 561, .int (iI (o 49)), .ref 562, .ref 563, .ref 564, .ref 565, .ref 566, .ref 567, .ref 568, .ref 569, .int (iI (o 58)), .ref 570, .ref 571, .ref 572, .ref 573, .ref 574, .ref 575, .ref 576, .ref 577, .ref 578, .int (iI (o 68)), .int (iI (o 69)), .int (iI (o 70)), .ref 579]) rfl (pc' := 551) rfl (fun S663 h664 n665 e666 => ?_)
                                  refine T_vret xr_141_551 xf_141.2.2 ?_
                                  refine hQ _ _ ?_
                                  exact ⟨at_, at_ + 1, 6, o 10, o 11, nm, (X_at tb len at_), 0, at_ + 1, rfl, hp, (Or.inr (Or.inr (Or.inr (Or.inr ⟨fun h => absurd (X_sg_L.mpr ⟨by omega, h⟩) (by assumption), fun h => absurd (X_sg_D.mpr ⟨by omega, h⟩) (by assumption), by omega, by omega, rfl, rfl, Or.inl ⟨by unfold X_isSg; omega, by first | (intro h; omega) | (intro h; exact absurd h.2 (X_sg_n (by assumption) (by assumption))), rfl⟩⟩)))), (by rw [show X_at tb len at_ = X_sg tb len at_ by omega]; unfold X_rk; (repeat (first | rw [if_neg (by omega)] | rw [if_pos (by omega)]))), (fun _ => rfl), (fun h => absurd h (by omega)), (fun h => absurd h (by omega)), by first | assumption | omega, h664, ((((X_Fr.rf).tr (X_Fr.of n280 e281 (by first | decide | exact ⟨Nat.le_add_right _ _, Nat.add_le_add_left (by decide) _⟩ | omega))).tr (X_Fr.mono ⟨hF286.1, hF286.2⟩ (fun q hq => by first | exact hq | (rcases hq with rfl <;> decide) | (rcases hq with rfl | rfl <;> decide) | (rcases hq with rfl | rfl | rfl <;> decide) | (rcases hq with rfl | rfl | rfl | rfl <;> decide) | (rcases hq with rfl | rfl | rfl | rfl | rfl <;> decide) | (rcases hq with rfl | rfl | rfl | rfl | rfl | rfl <;> decide) | (rcases hq with rfl | rfl | rfl | rfl | rfl | rfl | rfl <;> decide) | omega))).tr (X_Fr.of n620 e621 (by first | decide | exact ⟨Nat.le_add_right _ _, Nat.add_le_add_left (by decide) _⟩ | omega))).tr (X_Fr.of n665 e666 (by first | decide | exact ⟨Nat.le_add_right _ _, Nat.add_le_add_left (by decide) _⟩ | omega))⟩
                                · skip
                                  have c662 : ¬ ((X_sg tb len at_) = 45) := c662
                                  refine T_p xr_141_518 xn_141 (pc' := 519) (ls' := [(1, .int (iI (X_sg tb len at_))), (0, .ref 530)]) (st' := [.int (iI (X_sg tb len at_)), .ref 530]) rfl ?_
                                  refine T_p xr_141_519 xn_141 (pc' := 521) (ls' := [(1, .int (iI (X_sg tb len at_))), (0, .ref 530)]) (st' := [.int (iI 42), .int (iI (X_sg tb len at_)), .ref 530]) rfl ?_
                                  refine T_zicmp_eq xr_141_521 (t := 542) (pc' := 524) rfl rfl (fun c667 => ?_) (fun c667 => ?_)
                                  · skip
                                    have c667 : (X_sg tb len at_) = 42 := c667
                                    refine T_p xr_141_542 xn_141 (pc' := 544) (ls' := [(1, .int (iI (X_sg tb len at_))), (0, .ref 530)]) (st' := [.int (iI 6), .ref 530]) rfl ?_
                                    refine T_p xr_141_544 xn_141 (pc' := 548) (ls' := [(1, .int (iI (X_sg tb len at_))), (0, .ref 530)]) (st' := [.int (iI 6), .ref 530]) rfl ?_
                                    refine T_put xr_141_548 h619 rfl (Nat.le_of_ble_eq_true rfl) rfl (fs' := [.ref 531, .int (iI (o 1)), .ref 532, .int (iI (o 3)), .int (iI (o 4)), .int (iI (o 5)), .int (iI (o 6)), .int (iI at_), .int (iI (at_ + 1)), .int (iI 6), .int (iI (o 10)), .int (iI (o 11)), .long nm, .ref 533, .ref 534, .ref 535, .ref 536, .ref 537, .ref 538, .ref 539, .ref 540, .ref 541, .ref 542, .ref 543, .ref 544, .ref 545, .ref 546, .ref 547, .int (iI (o 28)), .int (iI (o 29)), .int (iI (o 30)), .int (iI (o 31)), .int (iI (o 32)), .int (iI (o 33)), .ref 548, .ref 549, .ref 550, .ref 551, .int (iI (o 38)), .ref 552, .ref 553, .ref 554, .ref 555, .ref 556, .ref 557, .ref 558, .ref 559, .ref 560, .ref 561, .int (iI (o 49)), .ref 562, .ref 563, .ref 564, .ref 565, .ref 566, .ref 567, .ref 568, .ref 569, .int (iI (o 58)), .ref 570, .ref 571, .ref 572, .ref 573, .ref 574, .ref 575, .ref 576, .ref 577, .ref 578, .int (iI (o 68)), .int (iI (o 69)), .int (iI (o 70)), .ref 579]) rfl (pc' := 551) rfl (fun S668 h669 n670 e671 => ?_)
                                    refine T_vret xr_141_551 xf_141.2.2 ?_
                                    refine hQ _ _ ?_
                                    exact ⟨at_, at_ + 1, 6, o 10, o 11, nm, (X_at tb len at_), 0, at_ + 1, rfl, hp, (Or.inr (Or.inr (Or.inr (Or.inr ⟨fun h => absurd (X_sg_L.mpr ⟨by omega, h⟩) (by assumption), fun h => absurd (X_sg_D.mpr ⟨by omega, h⟩) (by assumption), by omega, by omega, rfl, rfl, Or.inl ⟨by unfold X_isSg; omega, by first | (intro h; omega) | (intro h; exact absurd h.2 (X_sg_n (by assumption) (by assumption))), rfl⟩⟩)))), (by rw [show X_at tb len at_ = X_sg tb len at_ by omega]; unfold X_rk; (repeat (first | rw [if_neg (by omega)] | rw [if_pos (by omega)]))), (fun _ => rfl), (fun h => absurd h (by omega)), (fun h => absurd h (by omega)), by first | assumption | omega, h669, ((((X_Fr.rf).tr (X_Fr.of n280 e281 (by first | decide | exact ⟨Nat.le_add_right _ _, Nat.add_le_add_left (by decide) _⟩ | omega))).tr (X_Fr.mono ⟨hF286.1, hF286.2⟩ (fun q hq => by first | exact hq | (rcases hq with rfl <;> decide) | (rcases hq with rfl | rfl <;> decide) | (rcases hq with rfl | rfl | rfl <;> decide) | (rcases hq with rfl | rfl | rfl | rfl <;> decide) | (rcases hq with rfl | rfl | rfl | rfl | rfl <;> decide) | (rcases hq with rfl | rfl | rfl | rfl | rfl | rfl <;> decide) | (rcases hq with rfl | rfl | rfl | rfl | rfl | rfl | rfl <;> decide) | omega))).tr (X_Fr.of n620 e621 (by first | decide | exact ⟨Nat.le_add_right _ _, Nat.add_le_add_left (by decide) _⟩ | omega))).tr (X_Fr.of n670 e671 (by first | decide | exact ⟨Nat.le_add_right _ _, Nat.add_le_add_left (by decide) _⟩ | omega))⟩
                                  · skip
                                    have c667 : ¬ ((X_sg tb len at_) = 42) := c667
                                    refine T_p xr_141_524 xn_141 (pc' := 525) (ls' := [(1, .int (iI (X_sg tb len at_))), (0, .ref 530)]) (st' := [.int (iI (X_sg tb len at_)), .ref 530]) rfl ?_
                                    refine T_p xr_141_525 xn_141 (pc' := 527) (ls' := [(1, .int (iI (X_sg tb len at_))), (0, .ref 530)]) (st' := [.int (iI 47), .int (iI (X_sg tb len at_)), .ref 530]) rfl ?_
                                    refine T_zicmp_eq xr_141_527 (t := 542) (pc' := 530) rfl rfl (fun c672 => ?_) (fun c672 => ?_)
                                    · skip
                                      have c672 : (X_sg tb len at_) = 47 := c672
                                      refine T_p xr_141_542 xn_141 (pc' := 544) (ls' := [(1, .int (iI (X_sg tb len at_))), (0, .ref 530)]) (st' := [.int (iI 6), .ref 530]) rfl ?_
                                      refine T_p xr_141_544 xn_141 (pc' := 548) (ls' := [(1, .int (iI (X_sg tb len at_))), (0, .ref 530)]) (st' := [.int (iI 6), .ref 530]) rfl ?_
                                      refine T_put xr_141_548 h619 rfl (Nat.le_of_ble_eq_true rfl) rfl (fs' := [.ref 531, .int (iI (o 1)), .ref 532, .int (iI (o 3)), .int (iI (o 4)), .int (iI (o 5)), .int (iI (o 6)), .int (iI at_), .int (iI (at_ + 1)), .int (iI 6), .int (iI (o 10)), .int (iI (o 11)), .long nm, .ref 533, .ref 534, .ref 535, .ref 536, .ref 537, .ref 538, .ref 539, .ref 540, .ref 541, .ref 542, .ref 543, .ref 544, .ref 545, .ref 546, .ref 547, .int (iI (o 28)), .int (iI (o 29)), .int (iI (o 30)), .int (iI (o 31)), .int (iI (o 32)), .int (iI (o 33)), .ref 548, .ref 549, .ref 550, .ref 551, .int (iI (o 38)), .ref 552, .ref 553, .ref 554, .ref 555, .ref 556, .ref 557, .ref 558, .ref 559, .ref 560, .ref 561, .int (iI (o 49)), .ref 562, .ref 563, .ref 564, .ref 565, .ref 566, .ref 567, .ref 568, .ref 569, .int (iI (o 58)), .ref 570, .ref 571, .ref 572, .ref 573, .ref 574, .ref 575, .ref 576, .ref 577, .ref 578, .int (iI (o 68)), .int (iI (o 69)), .int (iI (o 70)), .ref 579]) rfl (pc' := 551) rfl (fun S673 h674 n675 e676 => ?_)
                                      refine T_vret xr_141_551 xf_141.2.2 ?_
                                      refine hQ _ _ ?_
                                      exact ⟨at_, at_ + 1, 6, o 10, o 11, nm, (X_at tb len at_), 0, at_ + 1, rfl, hp, (Or.inr (Or.inr (Or.inr (Or.inr ⟨fun h => absurd (X_sg_L.mpr ⟨by omega, h⟩) (by assumption), fun h => absurd (X_sg_D.mpr ⟨by omega, h⟩) (by assumption), by omega, by omega, rfl, rfl, Or.inl ⟨by unfold X_isSg; omega, by first | (intro h; omega) | (intro h; exact absurd h.2 (X_sg_n (by assumption) (by assumption))), rfl⟩⟩)))), (by rw [show X_at tb len at_ = X_sg tb len at_ by omega]; unfold X_rk; (repeat (first | rw [if_neg (by omega)] | rw [if_pos (by omega)]))), (fun _ => rfl), (fun h => absurd h (by omega)), (fun h => absurd h (by omega)), by first | assumption | omega, h674, ((((X_Fr.rf).tr (X_Fr.of n280 e281 (by first | decide | exact ⟨Nat.le_add_right _ _, Nat.add_le_add_left (by decide) _⟩ | omega))).tr (X_Fr.mono ⟨hF286.1, hF286.2⟩ (fun q hq => by first | exact hq | (rcases hq with rfl <;> decide) | (rcases hq with rfl | rfl <;> decide) | (rcases hq with rfl | rfl | rfl <;> decide) | (rcases hq with rfl | rfl | rfl | rfl <;> decide) | (rcases hq with rfl | rfl | rfl | rfl | rfl <;> decide) | (rcases hq with rfl | rfl | rfl | rfl | rfl | rfl <;> decide) | (rcases hq with rfl | rfl | rfl | rfl | rfl | rfl | rfl <;> decide) | omega))).tr (X_Fr.of n620 e621 (by first | decide | exact ⟨Nat.le_add_right _ _, Nat.add_le_add_left (by decide) _⟩ | omega))).tr (X_Fr.of n675 e676 (by first | decide | exact ⟨Nat.le_add_right _ _, Nat.add_le_add_left (by decide) _⟩ | omega))⟩
                                    · skip
                                      have c672 : ¬ ((X_sg tb len at_) = 47) := c672
                                      refine T_p xr_141_530 xn_141 (pc' := 531) (ls' := [(1, .int (iI (X_sg tb len at_))), (0, .ref 530)]) (st' := [.int (iI (X_sg tb len at_)), .ref 530]) rfl ?_
                                      refine T_p xr_141_531 xn_141 (pc' := 533) (ls' := [(1, .int (iI (X_sg tb len at_))), (0, .ref 530)]) (st' := [.int (iI 37), .int (iI (X_sg tb len at_)), .ref 530]) rfl ?_
                                      refine T_zicmp_eq xr_141_533 (t := 542) (pc' := 536) rfl rfl (fun c677 => ?_) (fun c677 => ?_)
                                      · skip
                                        have c677 : (X_sg tb len at_) = 37 := c677
                                        refine T_p xr_141_542 xn_141 (pc' := 544) (ls' := [(1, .int (iI (X_sg tb len at_))), (0, .ref 530)]) (st' := [.int (iI 6), .ref 530]) rfl ?_
                                        refine T_p xr_141_544 xn_141 (pc' := 548) (ls' := [(1, .int (iI (X_sg tb len at_))), (0, .ref 530)]) (st' := [.int (iI 6), .ref 530]) rfl ?_
                                        refine T_put xr_141_548 h619 rfl (Nat.le_of_ble_eq_true rfl) rfl (fs' := [.ref 531, .int (iI (o 1)), .ref 532, .int (iI (o 3)), .int (iI (o 4)), .int (iI (o 5)), .int (iI (o 6)), .int (iI at_), .int (iI (at_ + 1)), .int (iI 6), .int (iI (o 10)), .int (iI (o 11)), .long nm, .ref 533, .ref 534, .ref 535, .ref 536, .ref 537, .ref 538, .ref 539, .ref 540, .ref 541, .ref 542, .ref 543, .ref 544, .ref 545, .ref 546, .ref 547, .int (iI (o 28)), .int (iI (o 29)), .int (iI (o 30)), .int (iI (o 31)), .int (iI (o 32)), .int (iI (o 33)), .ref 548, .ref 549, .ref 550, .ref 551, .int (iI (o 38)), .ref 552, .ref 553, .ref 554, .ref 555, .ref 556, .ref 557, .ref 558, .ref 559, .ref 560, .ref 561, .int (iI (o 49)), .ref 562, .ref 563, .ref 564, .ref 565, .ref 566, .ref 567, .ref 568, .ref 569, .int (iI (o 58)), .ref 570, .ref 571, .ref 572, .ref 573, .ref 574, .ref 575, .ref 576, .ref 577, .ref 578, .int (iI (o 68)), .int (iI (o 69)), .int (iI (o 70)), .ref 579]) rfl (pc' := 551) rfl (fun S678 h679 n680 e681 => ?_)
                                        refine T_vret xr_141_551 xf_141.2.2 ?_
                                        refine hQ _ _ ?_
                                        exact ⟨at_, at_ + 1, 6, o 10, o 11, nm, (X_at tb len at_), 0, at_ + 1, rfl, hp, (Or.inr (Or.inr (Or.inr (Or.inr ⟨fun h => absurd (X_sg_L.mpr ⟨by omega, h⟩) (by assumption), fun h => absurd (X_sg_D.mpr ⟨by omega, h⟩) (by assumption), by omega, by omega, rfl, rfl, Or.inl ⟨by unfold X_isSg; omega, by first | (intro h; omega) | (intro h; exact absurd h.2 (X_sg_n (by assumption) (by assumption))), rfl⟩⟩)))), (by rw [show X_at tb len at_ = X_sg tb len at_ by omega]; unfold X_rk; (repeat (first | rw [if_neg (by omega)] | rw [if_pos (by omega)]))), (fun _ => rfl), (fun h => absurd h (by omega)), (fun h => absurd h (by omega)), by first | assumption | omega, h679, ((((X_Fr.rf).tr (X_Fr.of n280 e281 (by first | decide | exact ⟨Nat.le_add_right _ _, Nat.add_le_add_left (by decide) _⟩ | omega))).tr (X_Fr.mono ⟨hF286.1, hF286.2⟩ (fun q hq => by first | exact hq | (rcases hq with rfl <;> decide) | (rcases hq with rfl | rfl <;> decide) | (rcases hq with rfl | rfl | rfl <;> decide) | (rcases hq with rfl | rfl | rfl | rfl <;> decide) | (rcases hq with rfl | rfl | rfl | rfl | rfl <;> decide) | (rcases hq with rfl | rfl | rfl | rfl | rfl | rfl <;> decide) | (rcases hq with rfl | rfl | rfl | rfl | rfl | rfl | rfl <;> decide) | omega))).tr (X_Fr.of n620 e621 (by first | decide | exact ⟨Nat.le_add_right _ _, Nat.add_le_add_left (by decide) _⟩ | omega))).tr (X_Fr.of n680 e681 (by first | decide | exact ⟨Nat.le_add_right _ _, Nat.add_le_add_left (by decide) _⟩ | omega))⟩
                                      · skip
                                        have c677 : ¬ ((X_sg tb len at_) = 37) := c677
                                        refine T_p xr_141_536 xn_141 (pc' := 537) (ls' := [(1, .int (iI (X_sg tb len at_))), (0, .ref 530)]) (st' := [.int (iI (X_sg tb len at_)), .ref 530]) rfl ?_
                                        refine T_p xr_141_537 xn_141 (pc' := 539) (ls' := [(1, .int (iI (X_sg tb len at_))), (0, .ref 530)]) (st' := [.int (iI 60), .int (iI (X_sg tb len at_)), .ref 530]) rfl ?_
                                        refine T_zicmp_ne xr_141_539 (t := 547) (pc' := 542) rfl rfl (fun c682 => ?_) (fun c682 => ?_)
                                        · skip
                                          have c682 : ¬ (X_sg tb len at_) = 60 := c682
                                          refine T_p xr_141_547 xn_141 (pc' := 548) (ls' := [(1, .int (iI (X_sg tb len at_))), (0, .ref 530)]) (st' := [.int (iI 1), .ref 530]) rfl ?_
                                          refine T_put xr_141_548 h619 rfl (Nat.le_of_ble_eq_true rfl) rfl (fs' := [.ref 531, .int (iI (o 1)), .ref 532, .int (iI (o 3)), .int (iI (o 4)), .int (iI (o 5)), .int (iI (o 6)), .int (iI at_), .int (iI (at_ + 1)), .int (iI 1), .int (iI (o 10)), .int (iI (o 11)), .long nm, .ref 533, .ref 534, .ref 535, .ref 536, .ref 537, .ref 538, .ref 539, .ref 540, .ref 541, .ref 542, .ref 543, .ref 544, .ref 545, .ref 546, .ref 547, .int (iI (o 28)), .int (iI (o 29)), .int (iI (o 30)), .int (iI (o 31)), .int (iI (o 32)), .int (iI (o 33)), .ref 548, .ref 549, .ref 550, .ref 551, .int (iI (o 38)), .ref 552, .ref 553, .ref 554, .ref 555, .ref 556, .ref 557, .ref 558, .ref 559, .ref 560, .ref 561, .int (iI (o 49)), .ref 562, .ref 563, .ref 564, .ref 565, .ref 566, .ref 567, .ref 568, .ref 569, .int (iI (o 58)), .ref 570, .ref 571, .ref 572, .ref 573, .ref 574, .ref 575, .ref 576, .ref 577, .ref 578, .int (iI (o 68)), .int (iI (o 69)), .int (iI (o 70)), .ref 579]) rfl (pc' := 551) rfl (fun S683 h684 n685 e686 => ?_)
                                          refine T_vret xr_141_551 xf_141.2.2 ?_
                                          refine hQ _ _ ?_
                                          exact ⟨at_, at_ + 1, 1, o 10, o 11, nm, 1, 0, at_ + 1, rfl, hp, (Or.inr (Or.inr (Or.inr (Or.inr ⟨fun h => absurd (X_sg_L.mpr ⟨by omega, h⟩) (by assumption), fun h => absurd (X_sg_D.mpr ⟨by omega, h⟩) (by assumption), by omega, by omega, rfl, rfl, Or.inr ⟨by first | exact Or.inl (by unfold X_isSg; omega) | exact Or.inr ⟨by omega, Or.inl (X_sg_L.mp (by assumption)).2⟩ | exact Or.inr ⟨by omega, Or.inr (X_sg_D.mp (by assumption)).2⟩, rfl⟩⟩)))), rfl, (fun _ => rfl), (fun h => absurd h (by omega)), (fun h => absurd h (by omega)), by first | assumption | omega, h684, ((((X_Fr.rf).tr (X_Fr.of n280 e281 (by first | decide | exact ⟨Nat.le_add_right _ _, Nat.add_le_add_left (by decide) _⟩ | omega))).tr (X_Fr.mono ⟨hF286.1, hF286.2⟩ (fun q hq => by first | exact hq | (rcases hq with rfl <;> decide) | (rcases hq with rfl | rfl <;> decide) | (rcases hq with rfl | rfl | rfl <;> decide) | (rcases hq with rfl | rfl | rfl | rfl <;> decide) | (rcases hq with rfl | rfl | rfl | rfl | rfl <;> decide) | (rcases hq with rfl | rfl | rfl | rfl | rfl | rfl <;> decide) | (rcases hq with rfl | rfl | rfl | rfl | rfl | rfl | rfl <;> decide) | omega))).tr (X_Fr.of n620 e621 (by first | decide | exact ⟨Nat.le_add_right _ _, Nat.add_le_add_left (by decide) _⟩ | omega))).tr (X_Fr.of n685 e686 (by first | decide | exact ⟨Nat.le_add_right _ _, Nat.add_le_add_left (by decide) _⟩ | omega))⟩
                                        · skip
                                          have c682 : ¬ (¬ (X_sg tb len at_) = 60) := c682
                                          refine T_p xr_141_542 xn_141 (pc' := 544) (ls' := [(1, .int (iI (X_sg tb len at_))), (0, .ref 530)]) (st' := [.int (iI 6), .ref 530]) rfl ?_
                                          refine T_p xr_141_544 xn_141 (pc' := 548) (ls' := [(1, .int (iI (X_sg tb len at_))), (0, .ref 530)]) (st' := [.int (iI 6), .ref 530]) rfl ?_
                                          refine T_put xr_141_548 h619 rfl (Nat.le_of_ble_eq_true rfl) rfl (fs' := [.ref 531, .int (iI (o 1)), .ref 532, .int (iI (o 3)), .int (iI (o 4)), .int (iI (o 5)), .int (iI (o 6)), .int (iI at_), .int (iI (at_ + 1)), .int (iI 6), .int (iI (o 10)), .int (iI (o 11)), .long nm, .ref 533, .ref 534, .ref 535, .ref 536, .ref 537, .ref 538, .ref 539, .ref 540, .ref 541, .ref 542, .ref 543, .ref 544, .ref 545, .ref 546, .ref 547, .int (iI (o 28)), .int (iI (o 29)), .int (iI (o 30)), .int (iI (o 31)), .int (iI (o 32)), .int (iI (o 33)), .ref 548, .ref 549, .ref 550, .ref 551, .int (iI (o 38)), .ref 552, .ref 553, .ref 554, .ref 555, .ref 556, .ref 557, .ref 558, .ref 559, .ref 560, .ref 561, .int (iI (o 49)), .ref 562, .ref 563, .ref 564, .ref 565, .ref 566, .ref 567, .ref 568, .ref 569, .int (iI (o 58)), .ref 570, .ref 571, .ref 572, .ref 573, .ref 574, .ref 575, .ref 576, .ref 577, .ref 578, .int (iI (o 68)), .int (iI (o 69)), .int (iI (o 70)), .ref 579]) rfl (pc' := 551) rfl (fun S687 h688 n689 e690 => ?_)
                                          refine T_vret xr_141_551 xf_141.2.2 ?_
                                          refine hQ _ _ ?_
                                          exact ⟨at_, at_ + 1, 6, o 10, o 11, nm, (X_at tb len at_), 0, at_ + 1, rfl, hp, (Or.inr (Or.inr (Or.inr (Or.inr ⟨fun h => absurd (X_sg_L.mpr ⟨by omega, h⟩) (by assumption), fun h => absurd (X_sg_D.mpr ⟨by omega, h⟩) (by assumption), by omega, by omega, rfl, rfl, Or.inl ⟨by unfold X_isSg; omega, by first | (intro h; omega) | (intro h; exact absurd h.2 (X_sg_n (by assumption) (by assumption))), rfl⟩⟩)))), (by rw [show X_at tb len at_ = X_sg tb len at_ by omega]; unfold X_rk; (repeat (first | rw [if_neg (by omega)] | rw [if_pos (by omega)]))), (fun _ => rfl), (fun h => absurd h (by omega)), (fun h => absurd h (by omega)), by first | assumption | omega, h688, ((((X_Fr.rf).tr (X_Fr.of n280 e281 (by first | decide | exact ⟨Nat.le_add_right _ _, Nat.add_le_add_left (by decide) _⟩ | omega))).tr (X_Fr.mono ⟨hF286.1, hF286.2⟩ (fun q hq => by first | exact hq | (rcases hq with rfl <;> decide) | (rcases hq with rfl | rfl <;> decide) | (rcases hq with rfl | rfl | rfl <;> decide) | (rcases hq with rfl | rfl | rfl | rfl <;> decide) | (rcases hq with rfl | rfl | rfl | rfl | rfl <;> decide) | (rcases hq with rfl | rfl | rfl | rfl | rfl | rfl <;> decide) | (rcases hq with rfl | rfl | rfl | rfl | rfl | rfl | rfl <;> decide) | omega))).tr (X_Fr.of n620 e621 (by first | decide | exact ⟨Nat.le_add_right _ _, Nat.add_le_add_left (by decide) _⟩ | omega))).tr (X_Fr.of n689 e690 (by first | decide | exact ⟨Nat.le_add_right _ _, Nat.add_le_add_left (by decide) _⟩ | omega))⟩
                    · skip
                      have c636 : ¬ (¬ (X_sg tb len at_) = 95) := c636
                      refine T_p xr_141_440 xn_141 (pc' := 441) (ls' := [(1, .int (iI (X_sg tb len at_))), (0, .ref 530)]) (st' := [.ref 530]) rfl ?_
                      refine T_p xr_141_441 xn_141 (pc' := 442) (ls' := [(1, .int (iI (X_sg tb len at_))), (0, .ref 530)]) (st' := [.ref 530, .ref 530]) rfl ?_
                      refine T_p xr_141_442 xn_141 (pc' := 443) (ls' := [(1, .int (iI (X_sg tb len at_))), (0, .ref 530)]) (st' := [.ref 530, .ref 530, .ref 530]) rfl ?_
                      refine T_get xr_141_443 h619 rfl (v := .int (iI (at_ + 1))) rfl (pc' := 446) rfl ?_
                      refine T_cv (S := S618) (q := 530) xr_141_446 xf_136.1 xf_136.2.1 xn_136 (as := [.int (iI (at_ + 1))]) (r := [.ref 530]) rfl h619 (Nat.le_of_ble_eq_true rfl) (Nat.le_of_ble_eq_true rfl) (pc' := 449) rfl (ls' := [(0, .ref 530), (1, .int (iI (at_ + 1)))]) rfl ?_
                      have h691 := (n620 532 (by decide)).trans (h590)
                      refine T_mono (r_sign sc S618 (X_ou (X_ou o 7 at_) 8 (at_ + 1)) nm tx tb len (at_ + 1) h619 h691 (show (o 3) = len from by first | assumption | omega) hl htx (by omega)) (fun v692 S693 h694 => ?_)
                      rcases h694 with ⟨hv695, hf696⟩
                      rw [hv695]
                      rw [hf696]
                      have hg697 := X_sg_r (tb := tb) (len := len) (k := (at_ + 1)) (by omega)
                      have hg698 := X_sg_c (tb := tb) (len := len) (k := (at_ + 1))
                      show X_T sc 141 (449, [(1, .int (iI (X_sg tb len at_))), (0, .ref 530)], [.int (iI (X_sg tb len (at_ + 1))), .ref 530], S618) _
                      refine T_cs xr_141_449 (by decide) xf_137.1 xn_137 (as := [.int (iI (X_sg tb len (at_ + 1)))]) (r := [.ref 530]) rfl (Nat.le_of_ble_eq_true rfl) (Nat.le_of_ble_eq_true rfl) (pc' := 452) rfl (ls' := [(0, .int (iI (X_sg tb len (at_ + 1))))]) rfl ?_
                      refine T_mono (r_isLetter sc S618 (X_sg tb len (at_ + 1)) (by omega)) (fun v699 S700 h701 => ?_)
                      rcases h701 with ⟨hv702, hf703⟩
                      rw [hv702]
                      rw [hf703]
                      show X_T sc 141 (452, [(1, .int (iI (X_sg tb len at_))), (0, .ref 530)], [.int (iI (bI (X_isL (X_sg tb len (at_ + 1))))), .ref 530], S618) _
                      refine T_bif_ne xr_141_452 (t := 469) (pc' := 455) rfl rfl (fun c704 => ?_) (fun c704 => ?_)
                      · skip
                        have c704 : (X_isL (X_sg tb len (at_ + 1))) := c704
                        refine T_p xr_141_469 xn_141 (pc' := 470) (ls' := [(1, .int (iI (X_sg tb len at_))), (0, .ref 530)]) (st' := [.int (iI 1), .ref 530]) rfl ?_
                        refine T_p xr_141_470 xn_141 (pc' := 475) (ls' := [(1, .int (iI (X_sg tb len at_))), (0, .ref 530)]) (st' := [.int (iI 1), .ref 530]) rfl ?_
                        refine T_put xr_141_475 h619 rfl (Nat.le_of_ble_eq_true rfl) rfl (fs' := [.ref 531, .int (iI (o 1)), .ref 532, .int (iI (o 3)), .int (iI (o 4)), .int (iI (o 5)), .int (iI (o 6)), .int (iI at_), .int (iI (at_ + 1)), .int (iI 1), .int (iI (o 10)), .int (iI (o 11)), .long nm, .ref 533, .ref 534, .ref 535, .ref 536, .ref 537, .ref 538, .ref 539, .ref 540, .ref 541, .ref 542, .ref 543, .ref 544, .ref 545, .ref 546, .ref 547, .int (iI (o 28)), .int (iI (o 29)), .int (iI (o 30)), .int (iI (o 31)), .int (iI (o 32)), .int (iI (o 33)), .ref 548, .ref 549, .ref 550, .ref 551, .int (iI (o 38)), .ref 552, .ref 553, .ref 554, .ref 555, .ref 556, .ref 557, .ref 558, .ref 559, .ref 560, .ref 561, .int (iI (o 49)), .ref 562, .ref 563, .ref 564, .ref 565, .ref 566, .ref 567, .ref 568, .ref 569, .int (iI (o 58)), .ref 570, .ref 571, .ref 572, .ref 573, .ref 574, .ref 575, .ref 576, .ref 577, .ref 578, .int (iI (o 68)), .int (iI (o 69)), .int (iI (o 70)), .ref 579]) rfl (pc' := 478) rfl (fun S705 h706 n707 e708 => ?_)
                        refine T_p xr_141_478 xn_141 (pc' := 551) (ls' := [(1, .int (iI (X_sg tb len at_))), (0, .ref 530)]) (st' := []) rfl ?_
                        refine T_vret xr_141_551 xf_141.2.2 ?_
                        refine hQ _ _ ?_
                        exact ⟨at_, at_ + 1, 1, o 10, o 11, nm, 1, 0, at_ + 1, rfl, hp, (Or.inr (Or.inr (Or.inr (Or.inr ⟨fun h => absurd (X_sg_L.mpr ⟨by omega, h⟩) (by assumption), fun h => absurd (X_sg_D.mpr ⟨by omega, h⟩) (by assumption), by omega, by omega, rfl, rfl, Or.inr ⟨by first | exact Or.inl (by unfold X_isSg; omega) | exact Or.inr ⟨by omega, Or.inl (X_sg_L.mp (by assumption)).2⟩ | exact Or.inr ⟨by omega, Or.inr (X_sg_D.mp (by assumption)).2⟩, rfl⟩⟩)))), rfl, (fun _ => rfl), (fun h => absurd h (by omega)), (fun h => absurd h (by omega)), by first | assumption | omega, h706, ((((X_Fr.rf).tr (X_Fr.of n280 e281 (by first | decide | exact ⟨Nat.le_add_right _ _, Nat.add_le_add_left (by decide) _⟩ | omega))).tr (X_Fr.mono ⟨hF286.1, hF286.2⟩ (fun q hq => by first | exact hq | (rcases hq with rfl <;> decide) | (rcases hq with rfl | rfl <;> decide) | (rcases hq with rfl | rfl | rfl <;> decide) | (rcases hq with rfl | rfl | rfl | rfl <;> decide) | (rcases hq with rfl | rfl | rfl | rfl | rfl <;> decide) | (rcases hq with rfl | rfl | rfl | rfl | rfl | rfl <;> decide) | (rcases hq with rfl | rfl | rfl | rfl | rfl | rfl | rfl <;> decide) | omega))).tr (X_Fr.of n620 e621 (by first | decide | exact ⟨Nat.le_add_right _ _, Nat.add_le_add_left (by decide) _⟩ | omega))).tr (X_Fr.of n707 e708 (by first | decide | exact ⟨Nat.le_add_right _ _, Nat.add_le_add_left (by decide) _⟩ | omega))⟩
                      · skip
                        have c704 : ¬ (X_isL (X_sg tb len (at_ + 1))) := c704
                        refine T_p xr_141_455 xn_141 (pc' := 456) (ls' := [(1, .int (iI (X_sg tb len at_))), (0, .ref 530)]) (st' := [.ref 530, .ref 530]) rfl ?_
                        refine T_p xr_141_456 xn_141 (pc' := 457) (ls' := [(1, .int (iI (X_sg tb len at_))), (0, .ref 530)]) (st' := [.ref 530, .ref 530, .ref 530]) rfl ?_
                        refine T_get xr_141_457 h619 rfl (v := .int (iI (at_ + 1))) rfl (pc' := 460) rfl ?_
                        refine T_cv (S := S618) (q := 530) xr_141_460 xf_136.1 xf_136.2.1 xn_136 (as := [.int (iI (at_ + 1))]) (r := [.ref 530]) rfl h619 (Nat.le_of_ble_eq_true rfl) (Nat.le_of_ble_eq_true rfl) (pc' := 463) rfl (ls' := [(0, .ref 530), (1, .int (iI (at_ + 1)))]) rfl ?_
                        refine T_mono (r_sign sc S618 (X_ou (X_ou o 7 at_) 8 (at_ + 1)) nm tx tb len (at_ + 1) h619 h691 (show (o 3) = len from by first | assumption | omega) hl htx (by omega)) (fun v709 S710 h711 => ?_)
                        rcases h711 with ⟨hv712, hf713⟩
                        rw [hv712]
                        rw [hf713]
                        have hg714 := X_sg_r (tb := tb) (len := len) (k := (at_ + 1)) (by omega)
                        have hg715 := X_sg_c (tb := tb) (len := len) (k := (at_ + 1))
                        show X_T sc 141 (463, [(1, .int (iI (X_sg tb len at_))), (0, .ref 530)], [.int (iI (X_sg tb len (at_ + 1))), .ref 530], S618) _
                        refine T_cs xr_141_463 (by decide) xf_138.1 xn_138 (as := [.int (iI (X_sg tb len (at_ + 1)))]) (r := [.ref 530]) rfl (Nat.le_of_ble_eq_true rfl) (Nat.le_of_ble_eq_true rfl) (pc' := 466) rfl (ls' := [(0, .int (iI (X_sg tb len (at_ + 1))))]) rfl ?_
                        refine T_mono (r_isDigit sc S618 (X_sg tb len (at_ + 1)) (by omega)) (fun v716 S717 h718 => ?_)
                        rcases h718 with ⟨hv719, hf720⟩
                        rw [hv719]
                        rw [hf720]
                        show X_T sc 141 (466, [(1, .int (iI (X_sg tb len at_))), (0, .ref 530)], [.int (iI (bI (X_isD (X_sg tb len (at_ + 1))))), .ref 530], S618) _
                        refine T_bif_eq xr_141_466 (t := 473) (pc' := 469) rfl rfl (fun c721 => ?_) (fun c721 => ?_)
                        · skip
                          have c721 : ¬ (X_isD (X_sg tb len (at_ + 1))) := c721
                          refine T_p xr_141_473 xn_141 (pc' := 475) (ls' := [(1, .int (iI (X_sg tb len at_))), (0, .ref 530)]) (st' := [.int (iI 6), .ref 530]) rfl ?_
                          refine T_put xr_141_475 h619 rfl (Nat.le_of_ble_eq_true rfl) rfl (fs' := [.ref 531, .int (iI (o 1)), .ref 532, .int (iI (o 3)), .int (iI (o 4)), .int (iI (o 5)), .int (iI (o 6)), .int (iI at_), .int (iI (at_ + 1)), .int (iI 6), .int (iI (o 10)), .int (iI (o 11)), .long nm, .ref 533, .ref 534, .ref 535, .ref 536, .ref 537, .ref 538, .ref 539, .ref 540, .ref 541, .ref 542, .ref 543, .ref 544, .ref 545, .ref 546, .ref 547, .int (iI (o 28)), .int (iI (o 29)), .int (iI (o 30)), .int (iI (o 31)), .int (iI (o 32)), .int (iI (o 33)), .ref 548, .ref 549, .ref 550, .ref 551, .int (iI (o 38)), .ref 552, .ref 553, .ref 554, .ref 555, .ref 556, .ref 557, .ref 558, .ref 559, .ref 560, .ref 561, .int (iI (o 49)), .ref 562, .ref 563, .ref 564, .ref 565, .ref 566, .ref 567, .ref 568, .ref 569, .int (iI (o 58)), .ref 570, .ref 571, .ref 572, .ref 573, .ref 574, .ref 575, .ref 576, .ref 577, .ref 578, .int (iI (o 68)), .int (iI (o 69)), .int (iI (o 70)), .ref 579]) rfl (pc' := 478) rfl (fun S722 h723 n724 e725 => ?_)
                          refine T_p xr_141_478 xn_141 (pc' := 551) (ls' := [(1, .int (iI (X_sg tb len at_))), (0, .ref 530)]) (st' := []) rfl ?_
                          refine T_vret xr_141_551 xf_141.2.2 ?_
                          refine hQ _ _ ?_
                          exact ⟨at_, at_ + 1, 6, o 10, o 11, nm, (X_at tb len at_), 0, at_ + 1, rfl, hp, (Or.inr (Or.inr (Or.inr (Or.inr ⟨fun h => absurd (X_sg_L.mpr ⟨by omega, h⟩) (by assumption), fun h => absurd (X_sg_D.mpr ⟨by omega, h⟩) (by assumption), by omega, by omega, rfl, rfl, Or.inl ⟨by unfold X_isSg; omega, by first | (intro h; omega) | (intro h; exact absurd h.2 (X_sg_n (by assumption) (by assumption))), rfl⟩⟩)))), (by rw [show X_at tb len at_ = X_sg tb len at_ by omega]; unfold X_rk; (repeat (first | rw [if_neg (by omega)] | rw [if_pos (by omega)]))), (fun _ => rfl), (fun h => absurd h (by omega)), (fun h => absurd h (by omega)), by first | assumption | omega, h723, ((((X_Fr.rf).tr (X_Fr.of n280 e281 (by first | decide | exact ⟨Nat.le_add_right _ _, Nat.add_le_add_left (by decide) _⟩ | omega))).tr (X_Fr.mono ⟨hF286.1, hF286.2⟩ (fun q hq => by first | exact hq | (rcases hq with rfl <;> decide) | (rcases hq with rfl | rfl <;> decide) | (rcases hq with rfl | rfl | rfl <;> decide) | (rcases hq with rfl | rfl | rfl | rfl <;> decide) | (rcases hq with rfl | rfl | rfl | rfl | rfl <;> decide) | (rcases hq with rfl | rfl | rfl | rfl | rfl | rfl <;> decide) | (rcases hq with rfl | rfl | rfl | rfl | rfl | rfl | rfl <;> decide) | omega))).tr (X_Fr.of n620 e621 (by first | decide | exact ⟨Nat.le_add_right _ _, Nat.add_le_add_left (by decide) _⟩ | omega))).tr (X_Fr.of n724 e725 (by first | decide | exact ⟨Nat.le_add_right _ _, Nat.add_le_add_left (by decide) _⟩ | omega))⟩
                        · skip
                          have c721 : (X_isD (X_sg tb len (at_ + 1))) := c721
                          refine T_p xr_141_469 xn_141 (pc' := 470) (ls' := [(1, .int (iI (X_sg tb len at_))), (0, .ref 530)]) (st' := [.int (iI 1), .ref 530]) rfl ?_
                          refine T_p xr_141_470 xn_141 (pc' := 475) (ls' := [(1, .int (iI (X_sg tb len at_))), (0, .ref 530)]) (st' := [.int (iI 1), .ref 530]) rfl ?_
                          refine T_put xr_141_475 h619 rfl (Nat.le_of_ble_eq_true rfl) rfl (fs' := [.ref 531, .int (iI (o 1)), .ref 532, .int (iI (o 3)), .int (iI (o 4)), .int (iI (o 5)), .int (iI (o 6)), .int (iI at_), .int (iI (at_ + 1)), .int (iI 1), .int (iI (o 10)), .int (iI (o 11)), .long nm, .ref 533, .ref 534, .ref 535, .ref 536, .ref 537, .ref 538, .ref 539, .ref 540, .ref 541, .ref 542, .ref 543, .ref 544, .ref 545, .ref 546, .ref 547, .int (iI (o 28)), .int (iI (o 29)), .int (iI (o 30)), .int (iI (o 31)), .int (iI (o 32)), .int (iI (o 33)), .ref 548, .ref 549, .ref 550, .ref 551, .int (iI (o 38)), .ref 552, .ref 553, .ref 554, .ref 555, .ref 556, .ref 557, .ref 558, .ref 559, .ref 560, .ref 561, .int (iI (o 49)), .ref 562, .ref 563, .ref 564, .ref 565, .ref 566, .ref 567, .ref 568, .ref 569, .int (iI (o 58)), .ref 570, .ref 571, .ref 572, .ref 573, .ref 574, .ref 575, .ref 576, .ref 577, .ref 578, .int (iI (o 68)), .int (iI (o 69)), .int (iI (o 70)), .ref 579]) rfl (pc' := 478) rfl (fun S726 h727 n728 e729 => ?_)
                          refine T_p xr_141_478 xn_141 (pc' := 551) (ls' := [(1, .int (iI (X_sg tb len at_))), (0, .ref 530)]) (st' := []) rfl ?_
                          refine T_vret xr_141_551 xf_141.2.2 ?_
                          refine hQ _ _ ?_
                          exact ⟨at_, at_ + 1, 1, o 10, o 11, nm, 1, 0, at_ + 1, rfl, hp, (Or.inr (Or.inr (Or.inr (Or.inr ⟨fun h => absurd (X_sg_L.mpr ⟨by omega, h⟩) (by assumption), fun h => absurd (X_sg_D.mpr ⟨by omega, h⟩) (by assumption), by omega, by omega, rfl, rfl, Or.inr ⟨by first | exact Or.inl (by unfold X_isSg; omega) | exact Or.inr ⟨by omega, Or.inl (X_sg_L.mp (by assumption)).2⟩ | exact Or.inr ⟨by omega, Or.inr (X_sg_D.mp (by assumption)).2⟩, rfl⟩⟩)))), rfl, (fun _ => rfl), (fun h => absurd h (by omega)), (fun h => absurd h (by omega)), by first | assumption | omega, h727, ((((X_Fr.rf).tr (X_Fr.of n280 e281 (by first | decide | exact ⟨Nat.le_add_right _ _, Nat.add_le_add_left (by decide) _⟩ | omega))).tr (X_Fr.mono ⟨hF286.1, hF286.2⟩ (fun q hq => by first | exact hq | (rcases hq with rfl <;> decide) | (rcases hq with rfl | rfl <;> decide) | (rcases hq with rfl | rfl | rfl <;> decide) | (rcases hq with rfl | rfl | rfl | rfl <;> decide) | (rcases hq with rfl | rfl | rfl | rfl | rfl <;> decide) | (rcases hq with rfl | rfl | rfl | rfl | rfl | rfl <;> decide) | (rcases hq with rfl | rfl | rfl | rfl | rfl | rfl | rfl <;> decide) | omega))).tr (X_Fr.of n620 e621 (by first | decide | exact ⟨Nat.le_add_right _ _, Nat.add_le_add_left (by decide) _⟩ | omega))).tr (X_Fr.of n728 e729 (by first | decide | exact ⟨Nat.le_add_right _ _, Nat.add_le_add_left (by decide) _⟩ | omega))⟩
                  · skip
                    have c635 : ¬ (¬ (X_sg tb len at_) = 34) := c635
                    refine T_p xr_141_427 xn_141 (pc' := 428) (ls' := [(1, .int (iI (X_sg tb len at_))), (0, .ref 530)]) (st' := [.ref 530]) rfl ?_
                    refine T_cv (S := S618) (q := 530) xr_141_428 xf_143.1 xf_143.2.1 xn_143 (as := []) (r := []) rfl h619 (Nat.le_of_ble_eq_true rfl) (Nat.le_of_ble_eq_true rfl) (pc' := 431) rfl (ls' := [(0, .ref 530)]) rfl ?_
                    have h730 := (n620 532 (by decide)).trans (h590)
                    refine T_mono (r_nextPart sc S618 (X_ou (X_ou o 7 at_) 8 (at_ + 1)) nm tx tb len at_ h619 h730 (show (o 3) = len from by first | assumption | omega) hl htx (show at_ = at_ from by omega) (show (at_ + 1) = at_ + 1 from by omega) (by omega) (by omega)) (fun v731 S732 h733 => ?_)
                    rcases h733 with ⟨en734, tk735, nm736, r737, ct738, e739, hv740, hp741, hp742, hp743, hp744, hM745, hf746⟩
                    rw [hv740]
                    have h747 : S732.1 530 = .inr (11, [.ref 531, .int (iI (o 1)), .ref 532, .int (iI (o 3)), .int (iI (o 4)), .int (iI (o 5)), .int (iI (o 6)), .int (iI at_), .int (iI en734), .int (iI tk735), .int (iI (o 10)), .int (iI (o 11)), .long nm736, .ref 533, .ref 534, .ref 535, .ref 536, .ref 537, .ref 538, .ref 539, .ref 540, .ref 541, .ref 542, .ref 543, .ref 544, .ref 545, .ref 546, .ref 547, .int (iI (o 28)), .int (iI (o 29)), .int (iI (o 30)), .int (iI (o 31)), .int (iI (o 32)), .int (iI (o 33)), .ref 548, .ref 549, .ref 550, .ref 551, .int (iI (o 38)), .ref 552, .ref 553, .ref 554, .ref 555, .ref 556, .ref 557, .ref 558, .ref 559, .ref 560, .ref 561, .int (iI (o 49)), .ref 562, .ref 563, .ref 564, .ref 565, .ref 566, .ref 567, .ref 568, .ref 569, .int (iI (o 58)), .ref 570, .ref 571, .ref 572, .ref 573, .ref 574, .ref 575, .ref 576, .ref 577, .ref 578, .int (iI (o 68)), .int (iI (o 69)), .int (iI (o 70)), .ref 579]) := hM745
                    show X_T sc 141 (431, [(1, .int (iI (X_sg tb len at_))), (0, .ref 530)], [], S732) _
                    refine T_p xr_141_431 xn_141 (pc' := 551) (ls' := [(1, .int (iI (X_sg tb len at_))), (0, .ref 530)]) (st' := []) rfl ?_
                    refine T_vret xr_141_551 xf_141.2.2 ?_
                    refine hQ _ _ ?_
                    exact ⟨at_, en734, tk735, o 10, o 11, nm736, r737, ct738, e739, rfl, hp, (Or.inr (Or.inr (Or.inr (Or.inl hp741)))), hp742, (fun h => (hp743 h).1), (fun h => (hp743 (by omega)).2), (fun h => by
                          exfalso
                          obtain ⟨-, m, -, h2 | h2⟩ := hp741
                          · have := h2.2.1; omega
                          · have := h2.2.2.2.1; omega), (by omega), h747, ((((X_Fr.rf).tr (X_Fr.of n280 e281 (by first | decide | exact ⟨Nat.le_add_right _ _, Nat.add_le_add_left (by decide) _⟩ | omega))).tr (X_Fr.mono ⟨hF286.1, hF286.2⟩ (fun q hq => by first | exact hq | (rcases hq with rfl <;> decide) | (rcases hq with rfl | rfl <;> decide) | (rcases hq with rfl | rfl | rfl <;> decide) | (rcases hq with rfl | rfl | rfl | rfl <;> decide) | (rcases hq with rfl | rfl | rfl | rfl | rfl <;> decide) | (rcases hq with rfl | rfl | rfl | rfl | rfl | rfl <;> decide) | (rcases hq with rfl | rfl | rfl | rfl | rfl | rfl | rfl <;> decide) | omega))).tr (X_Fr.of n620 e621 (by first | decide | exact ⟨Nat.le_add_right _ _, Nat.add_le_add_left (by decide) _⟩ | omega))).tr (X_Fr.mono ⟨hf746.1, hf746.2⟩ (fun q hq => by first | exact hq | (rcases hq with rfl <;> decide) | (rcases hq with rfl | rfl <;> decide) | (rcases hq with rfl | rfl | rfl <;> decide) | (rcases hq with rfl | rfl | rfl | rfl <;> decide) | (rcases hq with rfl | rfl | rfl | rfl | rfl <;> decide) | (rcases hq with rfl | rfl | rfl | rfl | rfl | rfl <;> decide) | (rcases hq with rfl | rfl | rfl | rfl | rfl | rfl | rfl <;> decide) | omega))⟩
                · skip
                  have c634 : (X_isD (X_sg tb len at_)) := c634
                  have hc0 : X_isD (X_sg tb len at_) := by assumption
                  refine T_p xr_141_296 xn_141 (pc' := 297) (ls' := [(1, .int (iI (X_sg tb len at_))), (0, .ref 530)]) (st' := [.ref 530]) rfl ?_
                  refine T_p xr_141_297 xn_141 (pc' := 298) (ls' := [(1, .int (iI (X_sg tb len at_))), (0, .ref 530)]) (st' := [.int (iI 0), .ref 530]) rfl ?_
                  refine T_put xr_141_298 h619 rfl (Nat.le_of_ble_eq_true rfl) rfl (fs' := [.ref 531, .int (iI (o 1)), .ref 532, .int (iI (o 3)), .int (iI (o 4)), .int (iI (o 5)), .int (iI (o 6)), .int (iI at_), .int (iI (at_ + 1)), .int (iI (o 9)), .int (iI 0), .int (iI (o 11)), .long nm, .ref 533, .ref 534, .ref 535, .ref 536, .ref 537, .ref 538, .ref 539, .ref 540, .ref 541, .ref 542, .ref 543, .ref 544, .ref 545, .ref 546, .ref 547, .int (iI (o 28)), .int (iI (o 29)), .int (iI (o 30)), .int (iI (o 31)), .int (iI (o 32)), .int (iI (o 33)), .ref 548, .ref 549, .ref 550, .ref 551, .int (iI (o 38)), .ref 552, .ref 553, .ref 554, .ref 555, .ref 556, .ref 557, .ref 558, .ref 559, .ref 560, .ref 561, .int (iI (o 49)), .ref 562, .ref 563, .ref 564, .ref 565, .ref 566, .ref 567, .ref 568, .ref 569, .int (iI (o 58)), .ref 570, .ref 571, .ref 572, .ref 573, .ref 574, .ref 575, .ref 576, .ref 577, .ref 578, .int (iI (o 68)), .int (iI (o 69)), .int (iI (o 70)), .ref 579]) rfl (pc' := 301) rfl (fun S748 h749 n750 e751 => ?_)
                  refine T_p xr_141_301 xn_141 (pc' := 302) (ls' := [(1, .int (iI (X_sg tb len at_))), (0, .ref 530)]) (st' := [.ref 530]) rfl ?_
                  refine T_p xr_141_302 xn_141 (pc' := 303) (ls' := [(1, .int (iI (X_sg tb len at_))), (0, .ref 530)]) (st' := [.ref 530, .ref 530]) rfl ?_
                  refine T_get xr_141_303 h749 rfl (v := .int (iI at_)) rfl (pc' := 306) rfl ?_
                  refine T_put xr_141_306 h749 rfl (Nat.le_of_ble_eq_true rfl) rfl (fs' := [.ref 531, .int (iI (o 1)), .ref 532, .int (iI (o 3)), .int (iI (o 4)), .int (iI (o 5)), .int (iI (o 6)), .int (iI at_), .int (iI at_), .int (iI (o 9)), .int (iI 0), .int (iI (o 11)), .long nm, .ref 533, .ref 534, .ref 535, .ref 536, .ref 537, .ref 538, .ref 539, .ref 540, .ref 541, .ref 542, .ref 543, .ref 544, .ref 545, .ref 546, .ref 547, .int (iI (o 28)), .int (iI (o 29)), .int (iI (o 30)), .int (iI (o 31)), .int (iI (o 32)), .int (iI (o 33)), .ref 548, .ref 549, .ref 550, .ref 551, .int (iI (o 38)), .ref 552, .ref 553, .ref 554, .ref 555, .ref 556, .ref 557, .ref 558, .ref 559, .ref 560, .ref 561, .int (iI (o 49)), .ref 562, .ref 563, .ref 564, .ref 565, .ref 566, .ref 567, .ref 568, .ref 569, .int (iI (o 58)), .ref 570, .ref 571, .ref 572, .ref 573, .ref 574, .ref 575, .ref 576, .ref 577, .ref 578, .int (iI (o 68)), .int (iI (o 69)), .int (iI (o 70)), .ref 579]) rfl (pc' := 309) rfl (fun S752 h753 n754 e755 => ?_)
                  have L756 : ∀ (m758 : Nat) (S761 : X_S) (en : Int) (nu : Int) (hM1 : S761.1 530 = .inr (11, [.ref 531, .int (iI (o 1)), .ref 532, .int (iI (o 3)), .int (iI (o 4)), .int (iI (o 5)), .int (iI (o 6)), .int (iI at_), .int (iI en), .int (iI (o 9)), .int (iI nu), .int (iI (o 11)), .long nm, .ref 533, .ref 534, .ref 535, .ref 536, .ref 537, .ref 538, .ref 539, .ref 540, .ref 541, .ref 542, .ref 543, .ref 544, .ref 545, .ref 546, .ref 547, .int (iI (o 28)), .int (iI (o 29)), .int (iI (o 30)), .int (iI (o 31)), .int (iI (o 32)), .int (iI (o 33)), .ref 548, .ref 549, .ref 550, .ref 551, .int (iI (o 38)), .ref 552, .ref 553, .ref 554, .ref 555, .ref 556, .ref 557, .ref 558, .ref 559, .ref 560, .ref 561, .int (iI (o 49)), .ref 562, .ref 563, .ref 564, .ref 565, .ref 566, .ref 567, .ref 568, .ref 569, .int (iI (o 58)), .ref 570, .ref 571, .ref 572, .ref 573, .ref 574, .ref 575, .ref 576, .ref 577, .ref 578, .int (iI (o 68)), .int (iI (o 69)), .int (iI (o 70)), .ref 579])) (hF760 : X_Fr (fun q => q = 530) S752 S761) (hen : at_ ≤ en ∧ en ≤ len) (hse : X_se X_isD tb len en = X_se X_isD tb len at_) (hnu1 : en - at_ ≤ 9 → nu = X_dv tb len at_ (en - at_).toNat) (hnu2 : 0 ≤ nu ∧ nu ≤ 999999999) (hD : ∀ k, at_ ≤ k → k < en → X_isD (X_at tb len k)) (hm759 : len - en < m758), X_T sc 141 (309, [(1, .int (iI (X_sg tb len at_))), (0, .ref 530)], [], S761) Q := by
                    intro m758
                    induction m758 with
                    | zero =>
                      intro S761 en nu hM1 hF760 hen hse hnu1 hnu2 hD hm759
                      exact (show False by omega).elim
                    | succ m758 ih757 =>
                      intro S761 en nu hM1 hF760 hen hse hnu1 hnu2 hD hm759
                      refine T_p xr_141_309 xn_141 (pc' := 310) (ls' := [(1, .int (iI (X_sg tb len at_))), (0, .ref 530)]) (st' := [.ref 530]) rfl ?_
                      refine T_p xr_141_310 xn_141 (pc' := 311) (ls' := [(1, .int (iI (X_sg tb len at_))), (0, .ref 530)]) (st' := [.ref 530, .ref 530]) rfl ?_
                      refine T_get xr_141_311 hM1 rfl (v := .int (iI en)) rfl (pc' := 314) rfl ?_
                      refine T_cv (S := S761) (q := 530) xr_141_314 xf_136.1 xf_136.2.1 xn_136 (as := [.int (iI en)]) (r := []) rfl hM1 (Nat.le_of_ble_eq_true rfl) (Nat.le_of_ble_eq_true rfl) (pc' := 317) rfl (ls' := [(0, .ref 530), (1, .int (iI en))]) rfl ?_
                      have h762 := (hF760.1 532 (by first | decide | omega)).trans ((n754 532 (by decide)).trans ((n750 532 (by decide)).trans ((n620 532 (by decide)).trans (h590))))
                      refine T_mono (r_sign sc S761 (X_ou (X_ou (X_ou o 7 at_) 8 en) 10 nu) nm tx tb len en hM1 h762 (show (o 3) = len from by first | assumption | omega) hl htx (by omega)) (fun v763 S764 h765 => ?_)
                      rcases h765 with ⟨hv766, hf767⟩
                      rw [hv766]
                      rw [hf767]
                      have hg768 := X_sg_r (tb := tb) (len := len) (k := en) (by omega)
                      have hg769 := X_sg_c (tb := tb) (len := len) (k := en)
                      show X_T sc 141 (317, [(1, .int (iI (X_sg tb len at_))), (0, .ref 530)], [.int (iI (X_sg tb len en))], S761) _
                      refine T_cs xr_141_317 (by decide) xf_138.1 xn_138 (as := [.int (iI (X_sg tb len en))]) (r := []) rfl (Nat.le_of_ble_eq_true rfl) (Nat.le_of_ble_eq_true rfl) (pc' := 320) rfl (ls' := [(0, .int (iI (X_sg tb len en)))]) rfl ?_
                      refine T_mono (r_isDigit sc S761 (X_sg tb len en) (by omega)) (fun v770 S771 h772 => ?_)
                      rcases h772 with ⟨hv773, hf774⟩
                      rw [hv773]
                      rw [hf774]
                      show X_T sc 141 (320, [(1, .int (iI (X_sg tb len at_))), (0, .ref 530)], [.int (iI (bI (X_isD (X_sg tb len en))))], S761) _
                      refine T_bif_eq xr_141_320 (t := 373) (pc' := 323) rfl rfl (fun c775 => ?_) (fun c775 => ?_)
                      · skip
                        have c775 : ¬ (X_isD (X_sg tb len en)) := c775
                        have hm : X_se X_isD tb len at_ = en := hse.symm.trans (X_se_no (by intro h; exact absurd (X_sg_D.mpr h) (by assumption)))
                        have hnd : ¬ X_isD (X_sg tb len en) := by assumption
                        refine T_p xr_141_373 xn_141 (pc' := 374) (ls' := [(1, .int (iI (X_sg tb len at_))), (0, .ref 530)]) (st' := [.ref 530]) rfl ?_
                        refine T_p xr_141_374 xn_141 (pc' := 375) (ls' := [(1, .int (iI (X_sg tb len at_))), (0, .ref 530)]) (st' := [.ref 530, .ref 530]) rfl ?_
                        refine T_get xr_141_375 hM1 rfl (v := .int (iI en)) rfl (pc' := 378) rfl ?_
                        refine T_p xr_141_378 xn_141 (pc' := 379) (ls' := [(1, .int (iI (X_sg tb len at_))), (0, .ref 530)]) (st' := [.ref 530, .int (iI en), .ref 530]) rfl ?_
                        refine T_get xr_141_379 hM1 rfl (v := .int (iI at_)) rfl (pc' := 382) rfl ?_
                        refine T_zisub xr_141_382 (z := en - at_) rfl (pc' := 383) rfl ?_
                        refine T_put xr_141_383 hM1 rfl (Nat.le_of_ble_eq_true rfl) rfl (fs' := [.ref 531, .int (iI (o 1)), .ref 532, .int (iI (o 3)), .int (iI (o 4)), .int (iI (o 5)), .int (iI (o 6)), .int (iI at_), .int (iI en), .int (iI (o 9)), .int (iI nu), .int (iI (en - at_)), .long nm, .ref 533, .ref 534, .ref 535, .ref 536, .ref 537, .ref 538, .ref 539, .ref 540, .ref 541, .ref 542, .ref 543, .ref 544, .ref 545, .ref 546, .ref 547, .int (iI (o 28)), .int (iI (o 29)), .int (iI (o 30)), .int (iI (o 31)), .int (iI (o 32)), .int (iI (o 33)), .ref 548, .ref 549, .ref 550, .ref 551, .int (iI (o 38)), .ref 552, .ref 553, .ref 554, .ref 555, .ref 556, .ref 557, .ref 558, .ref 559, .ref 560, .ref 561, .int (iI (o 49)), .ref 562, .ref 563, .ref 564, .ref 565, .ref 566, .ref 567, .ref 568, .ref 569, .int (iI (o 58)), .ref 570, .ref 571, .ref 572, .ref 573, .ref 574, .ref 575, .ref 576, .ref 577, .ref 578, .int (iI (o 68)), .int (iI (o 69)), .int (iI (o 70)), .ref 579]) rfl (pc' := 386) rfl (fun S776 h777 n778 e779 => ?_)
                        refine T_p xr_141_386 xn_141 (pc' := 387) (ls' := [(1, .int (iI (X_sg tb len at_))), (0, .ref 530)]) (st' := [.ref 530]) rfl ?_
                        refine T_p xr_141_387 xn_141 (pc' := 388) (ls' := [(1, .int (iI (X_sg tb len at_))), (0, .ref 530)]) (st' := [.ref 530, .ref 530]) rfl ?_
                        refine T_get xr_141_388 h777 rfl (v := .int (iI (en - at_))) rfl (pc' := 391) rfl ?_
                        refine T_p xr_141_391 xn_141 (pc' := 393) (ls' := [(1, .int (iI (X_sg tb len at_))), (0, .ref 530)]) (st' := [.int (iI 9), .int (iI (en - at_)), .ref 530]) rfl ?_
                        refine T_zicmp_gt xr_141_393 (t := 410) (pc' := 396) rfl rfl (fun c780 => ?_) (fun c780 => ?_)
                        · skip
                          have c780 : 9 < (en - at_) := c780
                          refine T_p xr_141_410 xn_141 (pc' := 411) (ls' := [(1, .int (iI (X_sg tb len at_))), (0, .ref 530)]) (st' := [.int (iI 1), .ref 530]) rfl ?_
                          refine T_p xr_141_411 xn_141 (pc' := 415) (ls' := [(1, .int (iI (X_sg tb len at_))), (0, .ref 530)]) (st' := [.int (iI 1), .ref 530]) rfl ?_
                          refine T_put xr_141_415 h777 rfl (Nat.le_of_ble_eq_true rfl) rfl (fs' := [.ref 531, .int (iI (o 1)), .ref 532, .int (iI (o 3)), .int (iI (o 4)), .int (iI (o 5)), .int (iI (o 6)), .int (iI at_), .int (iI en), .int (iI 1), .int (iI nu), .int (iI (en - at_)), .long nm, .ref 533, .ref 534, .ref 535, .ref 536, .ref 537, .ref 538, .ref 539, .ref 540, .ref 541, .ref 542, .ref 543, .ref 544, .ref 545, .ref 546, .ref 547, .int (iI (o 28)), .int (iI (o 29)), .int (iI (o 30)), .int (iI (o 31)), .int (iI (o 32)), .int (iI (o 33)), .ref 548, .ref 549, .ref 550, .ref 551, .int (iI (o 38)), .ref 552, .ref 553, .ref 554, .ref 555, .ref 556, .ref 557, .ref 558, .ref 559, .ref 560, .ref 561, .int (iI (o 49)), .ref 562, .ref 563, .ref 564, .ref 565, .ref 566, .ref 567, .ref 568, .ref 569, .int (iI (o 58)), .ref 570, .ref 571, .ref 572, .ref 573, .ref 574, .ref 575, .ref 576, .ref 577, .ref 578, .int (iI (o 68)), .int (iI (o 69)), .int (iI (o 70)), .ref 579]) rfl (pc' := 418) rfl (fun S781 h782 n783 e784 => ?_)
                          refine T_p xr_141_418 xn_141 (pc' := 551) (ls' := [(1, .int (iI (X_sg tb len at_))), (0, .ref 530)]) (st' := []) rfl ?_
                          refine T_vret xr_141_551 xf_141.2.2 ?_
                          refine hQ _ _ ?_
                          exact ⟨at_, en, 1, nu, en - at_, nm, 1, 0, en, rfl, hp, (Or.inr (Or.inr (Or.inl ⟨(X_sg_D.mp hc0).2, hm.symm, Or.inl ⟨by first | exact Or.inl (by omega) | exact Or.inr (X_sg_L.mp (by assumption)).2, rfl, rfl⟩⟩))), rfl, fun h => absurd h (by omega), fun h => absurd h (by omega), fun h => absurd h (by omega), by first | assumption | omega, h782, ((((((((X_Fr.rf).tr (X_Fr.of n280 e281 (by first | decide | exact ⟨Nat.le_add_right _ _, Nat.add_le_add_left (by decide) _⟩ | omega))).tr (X_Fr.mono ⟨hF286.1, hF286.2⟩ (fun q hq => by first | exact hq | (rcases hq with rfl <;> decide) | (rcases hq with rfl | rfl <;> decide) | (rcases hq with rfl | rfl | rfl <;> decide) | (rcases hq with rfl | rfl | rfl | rfl <;> decide) | (rcases hq with rfl | rfl | rfl | rfl | rfl <;> decide) | (rcases hq with rfl | rfl | rfl | rfl | rfl | rfl <;> decide) | (rcases hq with rfl | rfl | rfl | rfl | rfl | rfl | rfl <;> decide) | omega))).tr (X_Fr.of n620 e621 (by first | decide | exact ⟨Nat.le_add_right _ _, Nat.add_le_add_left (by decide) _⟩ | omega))).tr (X_Fr.of n750 e751 (by first | decide | exact ⟨Nat.le_add_right _ _, Nat.add_le_add_left (by decide) _⟩ | omega))).tr (X_Fr.of n754 e755 (by first | decide | exact ⟨Nat.le_add_right _ _, Nat.add_le_add_left (by decide) _⟩ | omega))).tr (X_Fr.mono ⟨hF760.1, hF760.2⟩ (fun q hq => by first | exact hq | (rcases hq with rfl <;> decide) | (rcases hq with rfl | rfl <;> decide) | (rcases hq with rfl | rfl | rfl <;> decide) | (rcases hq with rfl | rfl | rfl | rfl <;> decide) | (rcases hq with rfl | rfl | rfl | rfl | rfl <;> decide) | (rcases hq with rfl | rfl | rfl | rfl | rfl | rfl <;> decide) | (rcases hq with rfl | rfl | rfl | rfl | rfl | rfl | rfl <;> decide) | omega))).tr (X_Fr.of n778 e779 (by first | decide | exact ⟨Nat.le_add_right _ _, Nat.add_le_add_left (by decide) _⟩ | omega))).tr (X_Fr.of n783 e784 (by first | decide | exact ⟨Nat.le_add_right _ _, Nat.add_le_add_left (by decide) _⟩ | omega))⟩
                        · skip
                          have c780 : ¬ (9 < (en - at_)) := c780
                          refine T_p xr_141_396 xn_141 (pc' := 397) (ls' := [(1, .int (iI (X_sg tb len at_))), (0, .ref 530)]) (st' := [.ref 530, .ref 530]) rfl ?_
                          refine T_p xr_141_397 xn_141 (pc' := 398) (ls' := [(1, .int (iI (X_sg tb len at_))), (0, .ref 530)]) (st' := [.ref 530, .ref 530, .ref 530]) rfl ?_
                          refine T_get xr_141_398 h777 rfl (v := .int (iI en)) rfl (pc' := 401) rfl ?_
                          refine T_cv (S := S776) (q := 530) xr_141_401 xf_136.1 xf_136.2.1 xn_136 (as := [.int (iI en)]) (r := [.ref 530]) rfl h777 (Nat.le_of_ble_eq_true rfl) (Nat.le_of_ble_eq_true rfl) (pc' := 404) rfl (ls' := [(0, .ref 530), (1, .int (iI en))]) rfl ?_
                          have h785 := (n778 532 (by decide)).trans (h762)
                          refine T_mono (r_sign sc S776 (X_ou (X_ou (X_ou (X_ou o 7 at_) 8 en) 10 nu) 11 (en - at_)) nm tx tb len en h777 h785 (show (o 3) = len from by first | assumption | omega) hl htx (by omega)) (fun v786 S787 h788 => ?_)
                          rcases h788 with ⟨hv789, hf790⟩
                          rw [hv789]
                          rw [hf790]
                          have hg791 := X_sg_r (tb := tb) (len := len) (k := en) (by omega)
                          have hg792 := X_sg_c (tb := tb) (len := len) (k := en)
                          show X_T sc 141 (404, [(1, .int (iI (X_sg tb len at_))), (0, .ref 530)], [.int (iI (X_sg tb len en)), .ref 530], S776) _
                          refine T_cs xr_141_404 (by decide) xf_137.1 xn_137 (as := [.int (iI (X_sg tb len en))]) (r := [.ref 530]) rfl (Nat.le_of_ble_eq_true rfl) (Nat.le_of_ble_eq_true rfl) (pc' := 407) rfl (ls' := [(0, .int (iI (X_sg tb len en)))]) rfl ?_
                          refine T_mono (r_isLetter sc S776 (X_sg tb len en) (by omega)) (fun v793 S794 h795 => ?_)
                          rcases h795 with ⟨hv796, hf797⟩
                          rw [hv796]
                          rw [hf797]
                          show X_T sc 141 (407, [(1, .int (iI (X_sg tb len at_))), (0, .ref 530)], [.int (iI (bI (X_isL (X_sg tb len en)))), .ref 530], S776) _
                          refine T_bif_eq xr_141_407 (t := 414) (pc' := 410) rfl rfl (fun c798 => ?_) (fun c798 => ?_)
                          · skip
                            have c798 : ¬ (X_isL (X_sg tb len en)) := c798
                            refine T_p xr_141_414 xn_141 (pc' := 415) (ls' := [(1, .int (iI (X_sg tb len at_))), (0, .ref 530)]) (st' := [.int (iI 4), .ref 530]) rfl ?_
                            refine T_put xr_141_415 h777 rfl (Nat.le_of_ble_eq_true rfl) rfl (fs' := [.ref 531, .int (iI (o 1)), .ref 532, .int (iI (o 3)), .int (iI (o 4)), .int (iI (o 5)), .int (iI (o 6)), .int (iI at_), .int (iI en), .int (iI 4), .int (iI nu), .int (iI (en - at_)), .long nm, .ref 533, .ref 534, .ref 535, .ref 536, .ref 537, .ref 538, .ref 539, .ref 540, .ref 541, .ref 542, .ref 543, .ref 544, .ref 545, .ref 546, .ref 547, .int (iI (o 28)), .int (iI (o 29)), .int (iI (o 30)), .int (iI (o 31)), .int (iI (o 32)), .int (iI (o 33)), .ref 548, .ref 549, .ref 550, .ref 551, .int (iI (o 38)), .ref 552, .ref 553, .ref 554, .ref 555, .ref 556, .ref 557, .ref 558, .ref 559, .ref 560, .ref 561, .int (iI (o 49)), .ref 562, .ref 563, .ref 564, .ref 565, .ref 566, .ref 567, .ref 568, .ref 569, .int (iI (o 58)), .ref 570, .ref 571, .ref 572, .ref 573, .ref 574, .ref 575, .ref 576, .ref 577, .ref 578, .int (iI (o 68)), .int (iI (o 69)), .int (iI (o 70)), .ref 579]) rfl (pc' := 418) rfl (fun S799 h800 n801 e802 => ?_)
                            refine T_p xr_141_418 xn_141 (pc' := 551) (ls' := [(1, .int (iI (X_sg tb len at_))), (0, .ref 530)]) (st' := []) rfl ?_
                            refine T_vret xr_141_551 xf_141.2.2 ?_
                            refine hQ _ _ ?_
                            have hne : ¬ en = at_ := fun e => by
                              rw [e] at hnd
                              exact hnd hc0
                            by_cases hd1 : en - at_ = 1
                            · skip
                              exact ⟨at_, en, 4, nu, en - at_, nm, 5, (iL nu), en, rfl, hp, (Or.inr (Or.inr (Or.inl ⟨(X_sg_D.mp hc0).2, hm.symm, Or.inr ⟨by omega, fun h => absurd (X_sg_L.mpr ⟨(by unfold X_isL at h; rcases X_sg_c (tb := tb) (len := len) (k := en) with z | z <;> omega), h⟩) (by assumption), by rw [hnu1 (by omega)], Or.inl ⟨hd1, rfl⟩⟩⟩))), rfl, fun _ => rfl, fun h => absurd h (by omega), fun _ => ⟨rfl, by exact ⟨fun _ => rfl, fun _ => hd1⟩, by omega, by omega⟩, (by omega), h800, ((((((((X_Fr.rf).tr (X_Fr.of n280 e281 (by first | decide | exact ⟨Nat.le_add_right _ _, Nat.add_le_add_left (by decide) _⟩ | omega))).tr (X_Fr.mono ⟨hF286.1, hF286.2⟩ (fun q hq => by first | exact hq | (rcases hq with rfl <;> decide) | (rcases hq with rfl | rfl <;> decide) | (rcases hq with rfl | rfl | rfl <;> decide) | (rcases hq with rfl | rfl | rfl | rfl <;> decide) | (rcases hq with rfl | rfl | rfl | rfl | rfl <;> decide) | (rcases hq with rfl | rfl | rfl | rfl | rfl | rfl <;> decide) | (rcases hq with rfl | rfl | rfl | rfl | rfl | rfl | rfl <;> decide) | omega))).tr (X_Fr.of n620 e621 (by first | decide | exact ⟨Nat.le_add_right _ _, Nat.add_le_add_left (by decide) _⟩ | omega))).tr (X_Fr.of n750 e751 (by first | decide | exact ⟨Nat.le_add_right _ _, Nat.add_le_add_left (by decide) _⟩ | omega))).tr (X_Fr.of n754 e755 (by first | decide | exact ⟨Nat.le_add_right _ _, Nat.add_le_add_left (by decide) _⟩ | omega))).tr (X_Fr.mono ⟨hF760.1, hF760.2⟩ (fun q hq => by first | exact hq | (rcases hq with rfl <;> decide) | (rcases hq with rfl | rfl <;> decide) | (rcases hq with rfl | rfl | rfl <;> decide) | (rcases hq with rfl | rfl | rfl | rfl <;> decide) | (rcases hq with rfl | rfl | rfl | rfl | rfl <;> decide) | (rcases hq with rfl | rfl | rfl | rfl | rfl | rfl <;> decide) | (rcases hq with rfl | rfl | rfl | rfl | rfl | rfl | rfl <;> decide) | omega))).tr (X_Fr.of n778 e779 (by first | decide | exact ⟨Nat.le_add_right _ _, Nat.add_le_add_left (by decide) _⟩ | omega))).tr (X_Fr.of n801 e802 (by first | decide | exact ⟨Nat.le_add_right _ _, Nat.add_le_add_left (by decide) _⟩ | omega))⟩
                            · skip
                              exact ⟨at_, en, 4, nu, en - at_, nm, 4, (iL nu), en, rfl, hp, (Or.inr (Or.inr (Or.inl ⟨(X_sg_D.mp hc0).2, hm.symm, Or.inr ⟨by omega, fun h => absurd (X_sg_L.mpr ⟨(by unfold X_isL at h; rcases X_sg_c (tb := tb) (len := len) (k := en) with z | z <;> omega), h⟩) (by assumption), by rw [hnu1 (by omega)], Or.inr ⟨hd1, rfl⟩⟩⟩))), rfl, fun _ => rfl, fun h => absurd h (by omega), fun _ => ⟨rfl, by exact ⟨fun h => absurd h hd1, fun h => absurd h (by omega)⟩, by omega, by omega⟩, (by omega), h800, ((((((((X_Fr.rf).tr (X_Fr.of n280 e281 (by first | decide | exact ⟨Nat.le_add_right _ _, Nat.add_le_add_left (by decide) _⟩ | omega))).tr (X_Fr.mono ⟨hF286.1, hF286.2⟩ (fun q hq => by first | exact hq | (rcases hq with rfl <;> decide) | (rcases hq with rfl | rfl <;> decide) | (rcases hq with rfl | rfl | rfl <;> decide) | (rcases hq with rfl | rfl | rfl | rfl <;> decide) | (rcases hq with rfl | rfl | rfl | rfl | rfl <;> decide) | (rcases hq with rfl | rfl | rfl | rfl | rfl | rfl <;> decide) | (rcases hq with rfl | rfl | rfl | rfl | rfl | rfl | rfl <;> decide) | omega))).tr (X_Fr.of n620 e621 (by first | decide | exact ⟨Nat.le_add_right _ _, Nat.add_le_add_left (by decide) _⟩ | omega))).tr (X_Fr.of n750 e751 (by first | decide | exact ⟨Nat.le_add_right _ _, Nat.add_le_add_left (by decide) _⟩ | omega))).tr (X_Fr.of n754 e755 (by first | decide | exact ⟨Nat.le_add_right _ _, Nat.add_le_add_left (by decide) _⟩ | omega))).tr (X_Fr.mono ⟨hF760.1, hF760.2⟩ (fun q hq => by first | exact hq | (rcases hq with rfl <;> decide) | (rcases hq with rfl | rfl <;> decide) | (rcases hq with rfl | rfl | rfl <;> decide) | (rcases hq with rfl | rfl | rfl | rfl <;> decide) | (rcases hq with rfl | rfl | rfl | rfl | rfl <;> decide) | (rcases hq with rfl | rfl | rfl | rfl | rfl | rfl <;> decide) | (rcases hq with rfl | rfl | rfl | rfl | rfl | rfl | rfl <;> decide) | omega))).tr (X_Fr.of n778 e779 (by first | decide | exact ⟨Nat.le_add_right _ _, Nat.add_le_add_left (by decide) _⟩ | omega))).tr (X_Fr.of n801 e802 (by first | decide | exact ⟨Nat.le_add_right _ _, Nat.add_le_add_left (by decide) _⟩ | omega))⟩
                          · skip
                            have c798 : (X_isL (X_sg tb len en)) := c798
                            refine T_p xr_141_410 xn_141 (pc' := 411) (ls' := [(1, .int (iI (X_sg tb len at_))), (0, .ref 530)]) (st' := [.int (iI 1), .ref 530]) rfl ?_
                            refine T_p xr_141_411 xn_141 (pc' := 415) (ls' := [(1, .int (iI (X_sg tb len at_))), (0, .ref 530)]) (st' := [.int (iI 1), .ref 530]) rfl ?_
                            refine T_put xr_141_415 h777 rfl (Nat.le_of_ble_eq_true rfl) rfl (fs' := [.ref 531, .int (iI (o 1)), .ref 532, .int (iI (o 3)), .int (iI (o 4)), .int (iI (o 5)), .int (iI (o 6)), .int (iI at_), .int (iI en), .int (iI 1), .int (iI nu), .int (iI (en - at_)), .long nm, .ref 533, .ref 534, .ref 535, .ref 536, .ref 537, .ref 538, .ref 539, .ref 540, .ref 541, .ref 542, .ref 543, .ref 544, .ref 545, .ref 546, .ref 547, .int (iI (o 28)), .int (iI (o 29)), .int (iI (o 30)), .int (iI (o 31)), .int (iI (o 32)), .int (iI (o 33)), .ref 548, .ref 549, .ref 550, .ref 551, .int (iI (o 38)), .ref 552, .ref 553, .ref 554, .ref 555, .ref 556, .ref 557, .ref 558, .ref 559, .ref 560, .ref 561, .int (iI (o 49)), .ref 562, .ref 563, .ref 564, .ref 565, .ref 566, .ref 567, .ref 568, .ref 569, .int (iI (o 58)), .ref 570, .ref 571, .ref 572, .ref 573, .ref 574, .ref 575, .ref 576, .ref 577, .ref 578, .int (iI (o 68)), .int (iI (o 69)), .int (iI (o 70)), .ref 579]) rfl (pc' := 418) rfl (fun S803 h804 n805 e806 => ?_)
                            refine T_p xr_141_418 xn_141 (pc' := 551) (ls' := [(1, .int (iI (X_sg tb len at_))), (0, .ref 530)]) (st' := []) rfl ?_
                            refine T_vret xr_141_551 xf_141.2.2 ?_
                            refine hQ _ _ ?_
                            exact ⟨at_, en, 1, nu, en - at_, nm, 1, 0, en, rfl, hp, (Or.inr (Or.inr (Or.inl ⟨(X_sg_D.mp hc0).2, hm.symm, Or.inl ⟨by first | exact Or.inl (by omega) | exact Or.inr (X_sg_L.mp (by assumption)).2, rfl, rfl⟩⟩))), rfl, fun h => absurd h (by omega), fun h => absurd h (by omega), fun h => absurd h (by omega), by first | assumption | omega, h804, ((((((((X_Fr.rf).tr (X_Fr.of n280 e281 (by first | decide | exact ⟨Nat.le_add_right _ _, Nat.add_le_add_left (by decide) _⟩ | omega))).tr (X_Fr.mono ⟨hF286.1, hF286.2⟩ (fun q hq => by first | exact hq | (rcases hq with rfl <;> decide) | (rcases hq with rfl | rfl <;> decide) | (rcases hq with rfl | rfl | rfl <;> decide) | (rcases hq with rfl | rfl | rfl | rfl <;> decide) | (rcases hq with rfl | rfl | rfl | rfl | rfl <;> decide) | (rcases hq with rfl | rfl | rfl | rfl | rfl | rfl <;> decide) | (rcases hq with rfl | rfl | rfl | rfl | rfl | rfl | rfl <;> decide) | omega))).tr (X_Fr.of n620 e621 (by first | decide | exact ⟨Nat.le_add_right _ _, Nat.add_le_add_left (by decide) _⟩ | omega))).tr (X_Fr.of n750 e751 (by first | decide | exact ⟨Nat.le_add_right _ _, Nat.add_le_add_left (by decide) _⟩ | omega))).tr (X_Fr.of n754 e755 (by first | decide | exact ⟨Nat.le_add_right _ _, Nat.add_le_add_left (by decide) _⟩ | omega))).tr (X_Fr.mono ⟨hF760.1, hF760.2⟩ (fun q hq => by first | exact hq | (rcases hq with rfl <;> decide) | (rcases hq with rfl | rfl <;> decide) | (rcases hq with rfl | rfl | rfl <;> decide) | (rcases hq with rfl | rfl | rfl | rfl <;> decide) | (rcases hq with rfl | rfl | rfl | rfl | rfl <;> decide) | (rcases hq with rfl | rfl | rfl | rfl | rfl | rfl <;> decide) | (rcases hq with rfl | rfl | rfl | rfl | rfl | rfl | rfl <;> decide) | omega))).tr (X_Fr.of n778 e779 (by first | decide | exact ⟨Nat.le_add_right _ _, Nat.add_le_add_left (by decide) _⟩ | omega))).tr (X_Fr.of n805 e806 (by first | decide | exact ⟨Nat.le_add_right _ _, Nat.add_le_add_left (by decide) _⟩ | omega))⟩
                      · skip
                        have c775 : (X_isD (X_sg tb len en)) := c775
                        have hlt : en < len := by first | exact (X_sg_L.mp (by assumption)).1 | exact (X_sg_D.mp (by assumption)).1
                        refine T_p xr_141_323 xn_141 (pc' := 324) (ls' := [(1, .int (iI (X_sg tb len at_))), (0, .ref 530)]) (st' := [.ref 530]) rfl ?_
                        refine T_get xr_141_324 hM1 rfl (v := .int (iI en)) rfl (pc' := 327) rfl ?_
                        refine T_p xr_141_327 xn_141 (pc' := 328) (ls' := [(1, .int (iI (X_sg tb len at_))), (0, .ref 530)]) (st' := [.ref 530, .int (iI en)]) rfl ?_
                        refine T_get xr_141_328 hM1 rfl (v := .int (iI at_)) rfl (pc' := 331) rfl ?_
                        refine T_zisub xr_141_331 (z := en - at_) rfl (pc' := 332) rfl ?_
                        refine T_p xr_141_332 xn_141 (pc' := 334) (ls' := [(1, .int (iI (X_sg tb len at_))), (0, .ref 530)]) (st' := [.int (iI 9), .int (iI (en - at_))]) rfl ?_
                        refine T_zicmp_ge xr_141_334 (t := 360) (pc' := 337) rfl rfl (fun c807 => ?_) (fun c807 => ?_)
                        · skip
                          have c807 : 9 ≤ (en - at_) := c807
                          refine T_p xr_141_360 xn_141 (pc' := 361) (ls' := [(1, .int (iI (X_sg tb len at_))), (0, .ref 530)]) (st' := [.ref 530]) rfl ?_
                          refine T_p xr_141_361 xn_141 (pc' := 362) (ls' := [(1, .int (iI (X_sg tb len at_))), (0, .ref 530)]) (st' := [.ref 530, .ref 530]) rfl ?_
                          refine T_get xr_141_362 hM1 rfl (v := .int (iI en)) rfl (pc' := 365) rfl ?_
                          refine T_p xr_141_365 xn_141 (pc' := 366) (ls' := [(1, .int (iI (X_sg tb len at_))), (0, .ref 530)]) (st' := [.int (iI 1), .int (iI en), .ref 530]) rfl ?_
                          refine T_ziadd xr_141_366 (z := en + 1) rfl (pc' := 367) rfl ?_
                          refine T_put xr_141_367 hM1 rfl (Nat.le_of_ble_eq_true rfl) rfl (fs' := [.ref 531, .int (iI (o 1)), .ref 532, .int (iI (o 3)), .int (iI (o 4)), .int (iI (o 5)), .int (iI (o 6)), .int (iI at_), .int (iI (en + 1)), .int (iI (o 9)), .int (iI nu), .int (iI (o 11)), .long nm, .ref 533, .ref 534, .ref 535, .ref 536, .ref 537, .ref 538, .ref 539, .ref 540, .ref 541, .ref 542, .ref 543, .ref 544, .ref 545, .ref 546, .ref 547, .int (iI (o 28)), .int (iI (o 29)), .int (iI (o 30)), .int (iI (o 31)), .int (iI (o 32)), .int (iI (o 33)), .ref 548, .ref 549, .ref 550, .ref 551, .int (iI (o 38)), .ref 552, .ref 553, .ref 554, .ref 555, .ref 556, .ref 557, .ref 558, .ref 559, .ref 560, .ref 561, .int (iI (o 49)), .ref 562, .ref 563, .ref 564, .ref 565, .ref 566, .ref 567, .ref 568, .ref 569, .int (iI (o 58)), .ref 570, .ref 571, .ref 572, .ref 573, .ref 574, .ref 575, .ref 576, .ref 577, .ref 578, .int (iI (o 68)), .int (iI (o 69)), .int (iI (o 70)), .ref 579]) rfl (pc' := 370) rfl (fun S808 h809 n810 e811 => ?_)
                          refine T_p xr_141_370 xn_141 (pc' := 309) (ls' := [(1, .int (iI (X_sg tb len at_))), (0, .ref 530)]) (st' := []) rfl ?_
                          exact ih757 S808 (en + 1) nu h809 (hF760.tr ((X_Fr.rf).tr (X_Fr.of n810 e811 (by first | decide | exact ⟨Nat.le_add_right _ _, Nat.add_le_add_left (by decide) _⟩ | omega)))) (by omega) ((X_se_go (by omega) (X_sg_D.mp (by assumption)).2).symm.trans hse) (fun h => by first | rfl | omega) (by omega) (fun k g1 g2 => by
                                by_cases hk : k = en
                                · subst hk; exact (X_sg_D.mp (by assumption)).2
                                · exact hD k g1 (by omega)) (by omega)
                        · skip
                          have c807 : ¬ (9 ≤ (en - at_)) := c807
                          refine T_p xr_141_337 xn_141 (pc' := 338) (ls' := [(1, .int (iI (X_sg tb len at_))), (0, .ref 530)]) (st' := [.ref 530]) rfl ?_
                          refine T_p xr_141_338 xn_141 (pc' := 340) (ls' := [(1, .int (iI (X_sg tb len at_))), (0, .ref 530)]) (st' := [.int (iI 10), .ref 530]) rfl ?_
                          refine T_p xr_141_340 xn_141 (pc' := 341) (ls' := [(1, .int (iI (X_sg tb len at_))), (0, .ref 530)]) (st' := [.ref 530, .int (iI 10), .ref 530]) rfl ?_
                          refine T_get xr_141_341 hM1 rfl (v := .int (iI nu)) rfl (pc' := 344) rfl ?_
                          refine T_zimul xr_141_344 (z := 10 * nu) rfl (pc' := 345) rfl ?_
                          refine T_p xr_141_345 xn_141 (pc' := 346) (ls' := [(1, .int (iI (X_sg tb len at_))), (0, .ref 530)]) (st' := [.ref 530, .int (iI (10 * nu)), .ref 530]) rfl ?_
                          refine T_p xr_141_346 xn_141 (pc' := 347) (ls' := [(1, .int (iI (X_sg tb len at_))), (0, .ref 530)]) (st' := [.ref 530, .ref 530, .int (iI (10 * nu)), .ref 530]) rfl ?_
                          refine T_get xr_141_347 hM1 rfl (v := .int (iI en)) rfl (pc' := 350) rfl ?_
                          refine T_cv (S := S761) (q := 530) xr_141_350 xf_136.1 xf_136.2.1 xn_136 (as := [.int (iI en)]) (r := [.int (iI (10 * nu)), .ref 530]) rfl hM1 (Nat.le_of_ble_eq_true rfl) (Nat.le_of_ble_eq_true rfl) (pc' := 353) rfl (ls' := [(0, .ref 530), (1, .int (iI en))]) rfl ?_
                          refine T_mono (r_sign sc S761 (X_ou (X_ou (X_ou o 7 at_) 8 en) 10 nu) nm tx tb len en hM1 h762 (show (o 3) = len from by first | assumption | omega) hl htx (by omega)) (fun v812 S813 h814 => ?_)
                          rcases h814 with ⟨hv815, hf816⟩
                          rw [hv815]
                          rw [hf816]
                          have hg817 := X_sg_r (tb := tb) (len := len) (k := en) (by omega)
                          have hg818 := X_sg_c (tb := tb) (len := len) (k := en)
                          show X_T sc 141 (353, [(1, .int (iI (X_sg tb len at_))), (0, .ref 530)], [.int (iI (X_sg tb len en)), .int (iI (10 * nu)), .ref 530], S761) _
                          refine T_ziadd xr_141_353 (z := (10 * nu) + (X_sg tb len en)) rfl (pc' := 354) rfl ?_
                          refine T_p xr_141_354 xn_141 (pc' := 356) (ls' := [(1, .int (iI (X_sg tb len at_))), (0, .ref 530)]) (st' := [.int (iI 48), .int (iI ((10 * nu) + (X_sg tb len en))), .ref 530]) rfl ?_
                          refine T_zisub xr_141_356 (z := ((10 * nu) + (X_sg tb len en)) - 48) rfl (pc' := 357) rfl ?_
                          refine T_ie (y := iI (X_dv tb len at_ (en + 1 - at_).toNat)) (by rw [hnu1 (by omega), show (en + 1 - at_).toNat = (en - at_).toNat + 1 by omega]; show _ = iI (X_dv tb len at_ (en - at_).toNat * 10 + X_at tb len (at_ + ((en - at_).toNat : Int)) - 48); rw [show at_ + ((en - at_).toNat : Int) = en by omega]; congr 1; omega) ?_
                          have hd9 := X_dv_9 (tb := tb) (len := len) (p := at_) (en + 1 - at_).toNat (by omega) (fun i g1 g2 => by
                            by_cases hi : at_ + i = en
                            · rw [hi]; exact (X_sg_D.mp (by assumption)).2
                            · exact hD _ (by omega) (by omega))
                          refine T_put xr_141_357 hM1 rfl (Nat.le_of_ble_eq_true rfl) rfl (fs' := [.ref 531, .int (iI (o 1)), .ref 532, .int (iI (o 3)), .int (iI (o 4)), .int (iI (o 5)), .int (iI (o 6)), .int (iI at_), .int (iI en), .int (iI (o 9)), .int (iI (X_dv tb len at_ (en + 1 - at_).toNat)), .int (iI (o 11)), .long nm, .ref 533, .ref 534, .ref 535, .ref 536, .ref 537, .ref 538, .ref 539, .ref 540, .ref 541, .ref 542, .ref 543, .ref 544, .ref 545, .ref 546, .ref 547, .int (iI (o 28)), .int (iI (o 29)), .int (iI (o 30)), .int (iI (o 31)), .int (iI (o 32)), .int (iI (o 33)), .ref 548, .ref 549, .ref 550, .ref 551, .int (iI (o 38)), .ref 552, .ref 553, .ref 554, .ref 555, .ref 556, .ref 557, .ref 558, .ref 559, .ref 560, .ref 561, .int (iI (o 49)), .ref 562, .ref 563, .ref 564, .ref 565, .ref 566, .ref 567, .ref 568, .ref 569, .int (iI (o 58)), .ref 570, .ref 571, .ref 572, .ref 573, .ref 574, .ref 575, .ref 576, .ref 577, .ref 578, .int (iI (o 68)), .int (iI (o 69)), .int (iI (o 70)), .ref 579]) rfl (pc' := 360) rfl (fun S819 h820 n821 e822 => ?_)
                          refine T_p xr_141_360 xn_141 (pc' := 361) (ls' := [(1, .int (iI (X_sg tb len at_))), (0, .ref 530)]) (st' := [.ref 530]) rfl ?_
                          refine T_p xr_141_361 xn_141 (pc' := 362) (ls' := [(1, .int (iI (X_sg tb len at_))), (0, .ref 530)]) (st' := [.ref 530, .ref 530]) rfl ?_
                          refine T_get xr_141_362 h820 rfl (v := .int (iI en)) rfl (pc' := 365) rfl ?_
                          refine T_p xr_141_365 xn_141 (pc' := 366) (ls' := [(1, .int (iI (X_sg tb len at_))), (0, .ref 530)]) (st' := [.int (iI 1), .int (iI en), .ref 530]) rfl ?_
                          refine T_ziadd xr_141_366 (z := en + 1) rfl (pc' := 367) rfl ?_
                          refine T_put xr_141_367 h820 rfl (Nat.le_of_ble_eq_true rfl) rfl (fs' := [.ref 531, .int (iI (o 1)), .ref 532, .int (iI (o 3)), .int (iI (o 4)), .int (iI (o 5)), .int (iI (o 6)), .int (iI at_), .int (iI (en + 1)), .int (iI (o 9)), .int (iI (X_dv tb len at_ (en + 1 - at_).toNat)), .int (iI (o 11)), .long nm, .ref 533, .ref 534, .ref 535, .ref 536, .ref 537, .ref 538, .ref 539, .ref 540, .ref 541, .ref 542, .ref 543, .ref 544, .ref 545, .ref 546, .ref 547, .int (iI (o 28)), .int (iI (o 29)), .int (iI (o 30)), .int (iI (o 31)), .int (iI (o 32)), .int (iI (o 33)), .ref 548, .ref 549, .ref 550, .ref 551, .int (iI (o 38)), .ref 552, .ref 553, .ref 554, .ref 555, .ref 556, .ref 557, .ref 558, .ref 559, .ref 560, .ref 561, .int (iI (o 49)), .ref 562, .ref 563, .ref 564, .ref 565, .ref 566, .ref 567, .ref 568, .ref 569, .int (iI (o 58)), .ref 570, .ref 571, .ref 572, .ref 573, .ref 574, .ref 575, .ref 576, .ref 577, .ref 578, .int (iI (o 68)), .int (iI (o 69)), .int (iI (o 70)), .ref 579]) rfl (pc' := 370) rfl (fun S823 h824 n825 e826 => ?_)
                          refine T_p xr_141_370 xn_141 (pc' := 309) (ls' := [(1, .int (iI (X_sg tb len at_))), (0, .ref 530)]) (st' := []) rfl ?_
                          exact ih757 S823 (en + 1) (X_dv tb len at_ (en + 1 - at_).toNat) h824 (hF760.tr (((X_Fr.rf).tr (X_Fr.of n821 e822 (by first | decide | exact ⟨Nat.le_add_right _ _, Nat.add_le_add_left (by decide) _⟩ | omega))).tr (X_Fr.of n825 e826 (by first | decide | exact ⟨Nat.le_add_right _ _, Nat.add_le_add_left (by decide) _⟩ | omega)))) (by omega) ((X_se_go (by omega) (X_sg_D.mp (by assumption)).2).symm.trans hse) (fun h => by first | rfl | omega) (by omega) (fun k g1 g2 => by
                                by_cases hk : k = en
                                · subst hk; exact (X_sg_D.mp (by assumption)).2
                                · exact hD k g1 (by omega)) (by omega)
                  exact L756 (len + 1).toNat S752 at_ 0 h753 ((X_Fr.rf)) (by omega) rfl (fun _ => by rw [show (at_ - at_).toNat = 0 by omega]; rfl) (by omega) (fun k g1 g2 => absurd g2 (by omega)) (by omega)
              · skip
                have c628 : (X_isL (X_sg tb len at_)) := c628
                have L827 : ∀ (m829 : Nat) (S832 : X_S) (en : Int) (hM1 : S832.1 530 = .inr (11, [.ref 531, .int (iI (o 1)), .ref 532, .int (iI (o 3)), .int (iI (o 4)), .int (iI (o 5)), .int (iI (o 6)), .int (iI at_), .int (iI en), .int (iI (o 9)), .int (iI (o 10)), .int (iI (o 11)), .long nm, .ref 533, .ref 534, .ref 535, .ref 536, .ref 537, .ref 538, .ref 539, .ref 540, .ref 541, .ref 542, .ref 543, .ref 544, .ref 545, .ref 546, .ref 547, .int (iI (o 28)), .int (iI (o 29)), .int (iI (o 30)), .int (iI (o 31)), .int (iI (o 32)), .int (iI (o 33)), .ref 548, .ref 549, .ref 550, .ref 551, .int (iI (o 38)), .ref 552, .ref 553, .ref 554, .ref 555, .ref 556, .ref 557, .ref 558, .ref 559, .ref 560, .ref 561, .int (iI (o 49)), .ref 562, .ref 563, .ref 564, .ref 565, .ref 566, .ref 567, .ref 568, .ref 569, .int (iI (o 58)), .ref 570, .ref 571, .ref 572, .ref 573, .ref 574, .ref 575, .ref 576, .ref 577, .ref 578, .int (iI (o 68)), .int (iI (o 69)), .int (iI (o 70)), .ref 579])) (hF831 : X_Fr (fun q => q = 530) S618 S832) (hen : at_ + 1 ≤ en ∧ en ≤ len) (hse : X_se X_isLD tb len en = X_se X_isLD tb len (at_ + 1)) (hm830 : len - en < m829), X_T sc 141 (119, [(1, .int (iI (X_sg tb len at_))), (0, .ref 530)], [], S832) Q := by
                  intro m829
                  induction m829 with
                  | zero =>
                    intro S832 en hM1 hF831 hen hse hm830
                    exact (show False by omega).elim
                  | succ m829 ih828 =>
                    intro S832 en hM1 hF831 hen hse hm830
                    refine T_p xr_141_119 xn_141 (pc' := 120) (ls' := [(1, .int (iI (X_sg tb len at_))), (0, .ref 530)]) (st' := [.ref 530]) rfl ?_
                    refine T_p xr_141_120 xn_141 (pc' := 121) (ls' := [(1, .int (iI (X_sg tb len at_))), (0, .ref 530)]) (st' := [.ref 530, .ref 530]) rfl ?_
                    refine T_get xr_141_121 hM1 rfl (v := .int (iI en)) rfl (pc' := 124) rfl ?_
                    refine T_cv (S := S832) (q := 530) xr_141_124 xf_136.1 xf_136.2.1 xn_136 (as := [.int (iI en)]) (r := []) rfl hM1 (Nat.le_of_ble_eq_true rfl) (Nat.le_of_ble_eq_true rfl) (pc' := 127) rfl (ls' := [(0, .ref 530), (1, .int (iI en))]) rfl ?_
                    have h833 := (hF831.1 532 (by first | decide | omega)).trans ((n620 532 (by decide)).trans (h590))
                    refine T_mono (r_sign sc S832 (X_ou (X_ou o 7 at_) 8 en) nm tx tb len en hM1 h833 (show (o 3) = len from by first | assumption | omega) hl htx (by omega)) (fun v834 S835 h836 => ?_)
                    rcases h836 with ⟨hv837, hf838⟩
                    rw [hv837]
                    rw [hf838]
                    have hg839 := X_sg_r (tb := tb) (len := len) (k := en) (by omega)
                    have hg840 := X_sg_c (tb := tb) (len := len) (k := en)
                    show X_T sc 141 (127, [(1, .int (iI (X_sg tb len at_))), (0, .ref 530)], [.int (iI (X_sg tb len en))], S832) _
                    refine T_cs xr_141_127 (by decide) xf_137.1 xn_137 (as := [.int (iI (X_sg tb len en))]) (r := []) rfl (Nat.le_of_ble_eq_true rfl) (Nat.le_of_ble_eq_true rfl) (pc' := 130) rfl (ls' := [(0, .int (iI (X_sg tb len en)))]) rfl ?_
                    refine T_mono (r_isLetter sc S832 (X_sg tb len en) (by omega)) (fun v841 S842 h843 => ?_)
                    rcases h843 with ⟨hv844, hf845⟩
                    rw [hv844]
                    rw [hf845]
                    show X_T sc 141 (130, [(1, .int (iI (X_sg tb len at_))), (0, .ref 530)], [.int (iI (bI (X_isL (X_sg tb len en))))], S832) _
                    refine T_bif_ne xr_141_130 (t := 147) (pc' := 133) rfl rfl (fun c846 => ?_) (fun c846 => ?_)
                    · skip
                      have c846 : (X_isL (X_sg tb len en)) := c846
                      have hlt : en < len := by first | exact (X_sg_L.mp (by assumption)).1 | exact (X_sg_D.mp (by assumption)).1
                      refine T_p xr_141_147 xn_141 (pc' := 148) (ls' := [(1, .int (iI (X_sg tb len at_))), (0, .ref 530)]) (st' := [.ref 530]) rfl ?_
                      refine T_p xr_141_148 xn_141 (pc' := 149) (ls' := [(1, .int (iI (X_sg tb len at_))), (0, .ref 530)]) (st' := [.ref 530, .ref 530]) rfl ?_
                      refine T_get xr_141_149 hM1 rfl (v := .int (iI en)) rfl (pc' := 152) rfl ?_
                      refine T_p xr_141_152 xn_141 (pc' := 153) (ls' := [(1, .int (iI (X_sg tb len at_))), (0, .ref 530)]) (st' := [.int (iI 1), .int (iI en), .ref 530]) rfl ?_
                      refine T_ziadd xr_141_153 (z := en + 1) rfl (pc' := 154) rfl ?_
                      refine T_put xr_141_154 hM1 rfl (Nat.le_of_ble_eq_true rfl) rfl (fs' := [.ref 531, .int (iI (o 1)), .ref 532, .int (iI (o 3)), .int (iI (o 4)), .int (iI (o 5)), .int (iI (o 6)), .int (iI at_), .int (iI (en + 1)), .int (iI (o 9)), .int (iI (o 10)), .int (iI (o 11)), .long nm, .ref 533, .ref 534, .ref 535, .ref 536, .ref 537, .ref 538, .ref 539, .ref 540, .ref 541, .ref 542, .ref 543, .ref 544, .ref 545, .ref 546, .ref 547, .int (iI (o 28)), .int (iI (o 29)), .int (iI (o 30)), .int (iI (o 31)), .int (iI (o 32)), .int (iI (o 33)), .ref 548, .ref 549, .ref 550, .ref 551, .int (iI (o 38)), .ref 552, .ref 553, .ref 554, .ref 555, .ref 556, .ref 557, .ref 558, .ref 559, .ref 560, .ref 561, .int (iI (o 49)), .ref 562, .ref 563, .ref 564, .ref 565, .ref 566, .ref 567, .ref 568, .ref 569, .int (iI (o 58)), .ref 570, .ref 571, .ref 572, .ref 573, .ref 574, .ref 575, .ref 576, .ref 577, .ref 578, .int (iI (o 68)), .int (iI (o 69)), .int (iI (o 70)), .ref 579]) rfl (pc' := 157) rfl (fun S847 h848 n849 e850 => ?_)
                      refine T_p xr_141_157 xn_141 (pc' := 119) (ls' := [(1, .int (iI (X_sg tb len at_))), (0, .ref 530)]) (st' := []) rfl ?_
                      exact ih828 S847 (en + 1) h848 (hF831.tr ((X_Fr.rf).tr (X_Fr.of n849 e850 (by first | decide | exact ⟨Nat.le_add_right _ _, Nat.add_le_add_left (by decide) _⟩ | omega)))) (by omega) ((X_se_go (by omega) (by first | exact Or.inl (X_sg_L.mp (by assumption)).2 | exact Or.inr (X_sg_D.mp (by assumption)).2)).symm.trans hse) (by omega)
                    · skip
                      have c846 : ¬ (X_isL (X_sg tb len en)) := c846
                      refine T_p xr_141_133 xn_141 (pc' := 134) (ls' := [(1, .int (iI (X_sg tb len at_))), (0, .ref 530)]) (st' := [.ref 530]) rfl ?_
                      refine T_p xr_141_134 xn_141 (pc' := 135) (ls' := [(1, .int (iI (X_sg tb len at_))), (0, .ref 530)]) (st' := [.ref 530, .ref 530]) rfl ?_
                      refine T_get xr_141_135 hM1 rfl (v := .int (iI en)) rfl (pc' := 138) rfl ?_
                      refine T_cv (S := S832) (q := 530) xr_141_138 xf_136.1 xf_136.2.1 xn_136 (as := [.int (iI en)]) (r := []) rfl hM1 (Nat.le_of_ble_eq_true rfl) (Nat.le_of_ble_eq_true rfl) (pc' := 141) rfl (ls' := [(0, .ref 530), (1, .int (iI en))]) rfl ?_
                      refine T_mono (r_sign sc S832 (X_ou (X_ou o 7 at_) 8 en) nm tx tb len en hM1 h833 (show (o 3) = len from by first | assumption | omega) hl htx (by omega)) (fun v851 S852 h853 => ?_)
                      rcases h853 with ⟨hv854, hf855⟩
                      rw [hv854]
                      rw [hf855]
                      have hg856 := X_sg_r (tb := tb) (len := len) (k := en) (by omega)
                      have hg857 := X_sg_c (tb := tb) (len := len) (k := en)
                      show X_T sc 141 (141, [(1, .int (iI (X_sg tb len at_))), (0, .ref 530)], [.int (iI (X_sg tb len en))], S832) _
                      refine T_cs xr_141_141 (by decide) xf_138.1 xn_138 (as := [.int (iI (X_sg tb len en))]) (r := []) rfl (Nat.le_of_ble_eq_true rfl) (Nat.le_of_ble_eq_true rfl) (pc' := 144) rfl (ls' := [(0, .int (iI (X_sg tb len en)))]) rfl ?_
                      refine T_mono (r_isDigit sc S832 (X_sg tb len en) (by omega)) (fun v858 S859 h860 => ?_)
                      rcases h860 with ⟨hv861, hf862⟩
                      rw [hv861]
                      rw [hf862]
                      show X_T sc 141 (144, [(1, .int (iI (X_sg tb len at_))), (0, .ref 530)], [.int (iI (bI (X_isD (X_sg tb len en))))], S832) _
                      refine T_bif_eq xr_141_144 (t := 160) (pc' := 147) rfl rfl (fun c863 => ?_) (fun c863 => ?_)
                      · skip
                        have c863 : ¬ (X_isD (X_sg tb len en)) := c863
                        have hm : X_se X_isLD tb len at_ = en := (X_se_go (by omega) (Or.inl (X_sg_L.mp (by assumption)).2)).trans (hse.symm.trans (X_se_no (by first | (intro h; omega) | (intro h; exact absurd h.2 (X_sg_n (by assumption) (by assumption))))))
                        refine T_p xr_141_160 xn_141 (pc' := 161) (ls' := [(1, .int (iI (X_sg tb len at_))), (0, .ref 530)]) (st' := [.ref 530]) rfl ?_
                        refine T_p xr_141_161 xn_141 (pc' := 162) (ls' := [(1, .int (iI (X_sg tb len at_))), (0, .ref 530)]) (st' := [.ref 530, .ref 530]) rfl ?_
                        refine T_get xr_141_162 hM1 rfl (v := .int (iI at_)) rfl (pc' := 165) rfl ?_
                        refine T_p xr_141_165 xn_141 (pc' := 166) (ls' := [(1, .int (iI (X_sg tb len at_))), (0, .ref 530)]) (st' := [.ref 530, .int (iI at_), .ref 530]) rfl ?_
                        refine T_get xr_141_166 hM1 rfl (v := .int (iI en)) rfl (pc' := 169) rfl ?_
                        refine T_cv (S := S832) (q := 530) xr_141_169 xf_142.1 xf_142.2.1 xn_142 (as := [.int (iI at_), .int (iI en)]) (r := []) rfl hM1 (Nat.le_of_ble_eq_true rfl) (Nat.le_of_ble_eq_true rfl) (pc' := 172) rfl (ls' := [(0, .ref 530), (1, .int (iI at_)), (2, .int (iI en))]) rfl ?_
                        refine T_mono (r_pack sc S832 (X_ou (X_ou o 7 at_) 8 en) nm tx tb len at_ en hM1 h833 (show (o 3) = len from by first | assumption | omega) hl htx (by omega) (by omega)) (fun v864 S865 h866 => ?_)
                        rcases h866 with ⟨nm867, hv868, hp869, hM870, hf871⟩
                        rw [hv868]
                        have h872 : S865.1 530 = .inr (11, [.ref 531, .int (iI (o 1)), .ref 532, .int (iI (o 3)), .int (iI (o 4)), .int (iI (o 5)), .int (iI (o 6)), .int (iI at_), .int (iI en), .int (iI (o 9)), .int (iI (o 10)), .int (iI (o 11)), .long nm867, .ref 533, .ref 534, .ref 535, .ref 536, .ref 537, .ref 538, .ref 539, .ref 540, .ref 541, .ref 542, .ref 543, .ref 544, .ref 545, .ref 546, .ref 547, .int (iI (o 28)), .int (iI (o 29)), .int (iI (o 30)), .int (iI (o 31)), .int (iI (o 32)), .int (iI (o 33)), .ref 548, .ref 549, .ref 550, .ref 551, .int (iI (o 38)), .ref 552, .ref 553, .ref 554, .ref 555, .ref 556, .ref 557, .ref 558, .ref 559, .ref 560, .ref 561, .int (iI (o 49)), .ref 562, .ref 563, .ref 564, .ref 565, .ref 566, .ref 567, .ref 568, .ref 569, .int (iI (o 58)), .ref 570, .ref 571, .ref 572, .ref 573, .ref 574, .ref 575, .ref 576, .ref 577, .ref 578, .int (iI (o 68)), .int (iI (o 69)), .int (iI (o 70)), .ref 579]) := hM870
                        show X_T sc 141 (172, [(1, .int (iI (X_sg tb len at_))), (0, .ref 530)], [], S865) _
                        have J873 : X_T sc 141 (254, [(1, .int (iI (X_sg tb len at_))), (0, .ref 530)], [.int (iI (bI (X_res nm867)))], S865) Q := by
                          refine T_p xr_141_254 xn_141 (pc' := 255) (ls' := [(2, .int (iI (bI (X_res nm867)))), (1, .int (iI (X_sg tb len at_))), (0, .ref 530)]) (st' := []) rfl ?_
                          refine T_p xr_141_255 xn_141 (pc' := 256) (ls' := [(2, .int (iI (bI (X_res nm867)))), (1, .int (iI (X_sg tb len at_))), (0, .ref 530)]) (st' := [.ref 530]) rfl ?_
                          refine T_p xr_141_256 xn_141 (pc' := 257) (ls' := [(2, .int (iI (bI (X_res nm867)))), (1, .int (iI (X_sg tb len at_))), (0, .ref 530)]) (st' := [.ref 530, .ref 530]) rfl ?_
                          refine T_get xr_141_257 h872 rfl (v := .int (iI en)) rfl (pc' := 260) rfl ?_
                          refine T_p xr_141_260 xn_141 (pc' := 261) (ls' := [(2, .int (iI (bI (X_res nm867)))), (1, .int (iI (X_sg tb len at_))), (0, .ref 530)]) (st' := [.ref 530, .int (iI en), .ref 530]) rfl ?_
                          refine T_get xr_141_261 h872 rfl (v := .int (iI at_)) rfl (pc' := 264) rfl ?_
                          refine T_zisub xr_141_264 (z := en - at_) rfl (pc' := 265) rfl ?_
                          refine T_p xr_141_265 xn_141 (pc' := 267) (ls' := [(2, .int (iI (bI (X_res nm867)))), (1, .int (iI (X_sg tb len at_))), (0, .ref 530)]) (st' := [.int (iI 8), .int (iI (en - at_)), .ref 530]) rfl ?_
                          refine T_zicmp_le xr_141_267 (t := 274) (pc' := 270) rfl rfl (fun c874 => ?_) (fun c874 => ?_)
                          · skip
                            have c874 : (en - at_) ≤ 8 := c874
                            refine T_p xr_141_274 xn_141 (pc' := 275) (ls' := [(2, .int (iI (bI (X_res nm867)))), (1, .int (iI (X_sg tb len at_))), (0, .ref 530)]) (st' := [.int (iI (bI (X_res nm867))), .ref 530]) rfl ?_
                            refine T_bif_eq xr_141_275 (t := 282) (pc' := 278) rfl rfl (fun c875 => ?_) (fun c875 => ?_)
                            · skip
                              have c875 : ¬ (X_res nm867) := c875
                              refine T_p xr_141_282 xn_141 (pc' := 283) (ls' := [(2, .int (iI (bI (X_res nm867)))), (1, .int (iI (X_sg tb len at_))), (0, .ref 530)]) (st' := [.int (iI 2), .ref 530]) rfl ?_
                              refine T_put xr_141_283 h872 rfl (Nat.le_of_ble_eq_true rfl) rfl (fs' := [.ref 531, .int (iI (o 1)), .ref 532, .int (iI (o 3)), .int (iI (o 4)), .int (iI (o 5)), .int (iI (o 6)), .int (iI at_), .int (iI en), .int (iI 2), .int (iI (o 10)), .int (iI (o 11)), .long nm867, .ref 533, .ref 534, .ref 535, .ref 536, .ref 537, .ref 538, .ref 539, .ref 540, .ref 541, .ref 542, .ref 543, .ref 544, .ref 545, .ref 546, .ref 547, .int (iI (o 28)), .int (iI (o 29)), .int (iI (o 30)), .int (iI (o 31)), .int (iI (o 32)), .int (iI (o 33)), .ref 548, .ref 549, .ref 550, .ref 551, .int (iI (o 38)), .ref 552, .ref 553, .ref 554, .ref 555, .ref 556, .ref 557, .ref 558, .ref 559, .ref 560, .ref 561, .int (iI (o 49)), .ref 562, .ref 563, .ref 564, .ref 565, .ref 566, .ref 567, .ref 568, .ref 569, .int (iI (o 58)), .ref 570, .ref 571, .ref 572, .ref 573, .ref 574, .ref 575, .ref 576, .ref 577, .ref 578, .int (iI (o 68)), .int (iI (o 69)), .int (iI (o 70)), .ref 579]) rfl (pc' := 286) rfl (fun S876 h877 n878 e879 => ?_)
                              refine T_p xr_141_286 xn_141 (pc' := 551) (ls' := [(2, .int (iI (bI (X_res nm867)))), (1, .int (iI (X_sg tb len at_))), (0, .ref 530)]) (st' := []) rfl ?_
                              refine T_vret xr_141_551 xf_141.2.2 ?_
                              refine hQ _ _ ?_
                              exact ⟨at_, en, 2, o 10, o 11, nm867, 2, nm867, en, rfl, hp, (Or.inr (Or.inl ⟨(X_sg_L.mp (by assumption)).2, hm.symm, Or.inr ⟨by omega, hp869 (by omega), Or.inr ⟨by assumption, rfl⟩⟩⟩)), rfl, (fun _ => rfl), (fun _ => rfl), fun h => absurd h (by omega), by first | assumption | omega, h877, ((((((X_Fr.rf).tr (X_Fr.of n280 e281 (by first | decide | exact ⟨Nat.le_add_right _ _, Nat.add_le_add_left (by decide) _⟩ | omega))).tr (X_Fr.mono ⟨hF286.1, hF286.2⟩ (fun q hq => by first | exact hq | (rcases hq with rfl <;> decide) | (rcases hq with rfl | rfl <;> decide) | (rcases hq with rfl | rfl | rfl <;> decide) | (rcases hq with rfl | rfl | rfl | rfl <;> decide) | (rcases hq with rfl | rfl | rfl | rfl | rfl <;> decide) | (rcases hq with rfl | rfl | rfl | rfl | rfl | rfl <;> decide) | (rcases hq with rfl | rfl | rfl | rfl | rfl | rfl | rfl <;> decide) | omega))).tr (X_Fr.of n620 e621 (by first | decide | exact ⟨Nat.le_add_right _ _, Nat.add_le_add_left (by decide) _⟩ | omega))).tr (X_Fr.mono ⟨hF831.1, hF831.2⟩ (fun q hq => by first | exact hq | (rcases hq with rfl <;> decide) | (rcases hq with rfl | rfl <;> decide) | (rcases hq with rfl | rfl | rfl <;> decide) | (rcases hq with rfl | rfl | rfl | rfl <;> decide) | (rcases hq with rfl | rfl | rfl | rfl | rfl <;> decide) | (rcases hq with rfl | rfl | rfl | rfl | rfl | rfl <;> decide) | (rcases hq with rfl | rfl | rfl | rfl | rfl | rfl | rfl <;> decide) | omega))).tr (X_Fr.mono ⟨hf871.1, hf871.2⟩ (fun q hq => by first | exact hq | (rcases hq with rfl <;> decide) | (rcases hq with rfl | rfl <;> decide) | (rcases hq with rfl | rfl | rfl <;> decide) | (rcases hq with rfl | rfl | rfl | rfl <;> decide) | (rcases hq with rfl | rfl | rfl | rfl | rfl <;> decide) | (rcases hq with rfl | rfl | rfl | rfl | rfl | rfl <;> decide) | (rcases hq with rfl | rfl | rfl | rfl | rfl | rfl | rfl <;> decide) | omega))).tr (X_Fr.of n878 e879 (by first | decide | exact ⟨Nat.le_add_right _ _, Nat.add_le_add_left (by decide) _⟩ | omega))⟩
                            · skip
                              have c875 : (X_res nm867) := c875
                              refine T_p xr_141_278 xn_141 (pc' := 279) (ls' := [(2, .int (iI (bI (X_res nm867)))), (1, .int (iI (X_sg tb len at_))), (0, .ref 530)]) (st' := [.int (iI 3), .ref 530]) rfl ?_
                              refine T_p xr_141_279 xn_141 (pc' := 283) (ls' := [(2, .int (iI (bI (X_res nm867)))), (1, .int (iI (X_sg tb len at_))), (0, .ref 530)]) (st' := [.int (iI 3), .ref 530]) rfl ?_
                              refine T_put xr_141_283 h872 rfl (Nat.le_of_ble_eq_true rfl) rfl (fs' := [.ref 531, .int (iI (o 1)), .ref 532, .int (iI (o 3)), .int (iI (o 4)), .int (iI (o 5)), .int (iI (o 6)), .int (iI at_), .int (iI en), .int (iI 3), .int (iI (o 10)), .int (iI (o 11)), .long nm867, .ref 533, .ref 534, .ref 535, .ref 536, .ref 537, .ref 538, .ref 539, .ref 540, .ref 541, .ref 542, .ref 543, .ref 544, .ref 545, .ref 546, .ref 547, .int (iI (o 28)), .int (iI (o 29)), .int (iI (o 30)), .int (iI (o 31)), .int (iI (o 32)), .int (iI (o 33)), .ref 548, .ref 549, .ref 550, .ref 551, .int (iI (o 38)), .ref 552, .ref 553, .ref 554, .ref 555, .ref 556, .ref 557, .ref 558, .ref 559, .ref 560, .ref 561, .int (iI (o 49)), .ref 562, .ref 563, .ref 564, .ref 565, .ref 566, .ref 567, .ref 568, .ref 569, .int (iI (o 58)), .ref 570, .ref 571, .ref 572, .ref 573, .ref 574, .ref 575, .ref 576, .ref 577, .ref 578, .int (iI (o 68)), .int (iI (o 69)), .int (iI (o 70)), .ref 579]) rfl (pc' := 286) rfl (fun S880 h881 n882 e883 => ?_)
                              refine T_p xr_141_286 xn_141 (pc' := 551) (ls' := [(2, .int (iI (bI (X_res nm867)))), (1, .int (iI (X_sg tb len at_))), (0, .ref 530)]) (st' := []) rfl ?_
                              refine T_vret xr_141_551 xf_141.2.2 ?_
                              refine hQ _ _ ?_
                              exact ⟨at_, en, 3, o 10, o 11, nm867, 3, nm867, en, rfl, hp, (Or.inr (Or.inl ⟨(X_sg_L.mp (by assumption)).2, hm.symm, Or.inr ⟨by omega, hp869 (by omega), Or.inl ⟨by assumption, rfl⟩⟩⟩)), rfl, (fun _ => rfl), (fun _ => rfl), fun h => absurd h (by omega), by first | assumption | omega, h881, ((((((X_Fr.rf).tr (X_Fr.of n280 e281 (by first | decide | exact ⟨Nat.le_add_right _ _, Nat.add_le_add_left (by decide) _⟩ | omega))).tr (X_Fr.mono ⟨hF286.1, hF286.2⟩ (fun q hq => by first | exact hq | (rcases hq with rfl <;> decide) | (rcases hq with rfl | rfl <;> decide) | (rcases hq with rfl | rfl | rfl <;> decide) | (rcases hq with rfl | rfl | rfl | rfl <;> decide) | (rcases hq with rfl | rfl | rfl | rfl | rfl <;> decide) | (rcases hq with rfl | rfl | rfl | rfl | rfl | rfl <;> decide) | (rcases hq with rfl | rfl | rfl | rfl | rfl | rfl | rfl <;> decide) | omega))).tr (X_Fr.of n620 e621 (by first | decide | exact ⟨Nat.le_add_right _ _, Nat.add_le_add_left (by decide) _⟩ | omega))).tr (X_Fr.mono ⟨hF831.1, hF831.2⟩ (fun q hq => by first | exact hq | (rcases hq with rfl <;> decide) | (rcases hq with rfl | rfl <;> decide) | (rcases hq with rfl | rfl | rfl <;> decide) | (rcases hq with rfl | rfl | rfl | rfl <;> decide) | (rcases hq with rfl | rfl | rfl | rfl | rfl <;> decide) | (rcases hq with rfl | rfl | rfl | rfl | rfl | rfl <;> decide) | (rcases hq with rfl | rfl | rfl | rfl | rfl | rfl | rfl <;> decide) | omega))).tr (X_Fr.mono ⟨hf871.1, hf871.2⟩ (fun q hq => by first | exact hq | (rcases hq with rfl <;> decide) | (rcases hq with rfl | rfl <;> decide) | (rcases hq with rfl | rfl | rfl <;> decide) | (rcases hq with rfl | rfl | rfl | rfl <;> decide) | (rcases hq with rfl | rfl | rfl | rfl | rfl <;> decide) | (rcases hq with rfl | rfl | rfl | rfl | rfl | rfl <;> decide) | (rcases hq with rfl | rfl | rfl | rfl | rfl | rfl | rfl <;> decide) | omega))).tr (X_Fr.of n882 e883 (by first | decide | exact ⟨Nat.le_add_right _ _, Nat.add_le_add_left (by decide) _⟩ | omega))⟩
                          · skip
                            have c874 : ¬ ((en - at_) ≤ 8) := c874
                            refine T_p xr_141_270 xn_141 (pc' := 271) (ls' := [(2, .int (iI (bI (X_res nm867)))), (1, .int (iI (X_sg tb len at_))), (0, .ref 530)]) (st' := [.int (iI 1), .ref 530]) rfl ?_
                            refine T_p xr_141_271 xn_141 (pc' := 283) (ls' := [(2, .int (iI (bI (X_res nm867)))), (1, .int (iI (X_sg tb len at_))), (0, .ref 530)]) (st' := [.int (iI 1), .ref 530]) rfl ?_
                            refine T_put xr_141_283 h872 rfl (Nat.le_of_ble_eq_true rfl) rfl (fs' := [.ref 531, .int (iI (o 1)), .ref 532, .int (iI (o 3)), .int (iI (o 4)), .int (iI (o 5)), .int (iI (o 6)), .int (iI at_), .int (iI en), .int (iI 1), .int (iI (o 10)), .int (iI (o 11)), .long nm867, .ref 533, .ref 534, .ref 535, .ref 536, .ref 537, .ref 538, .ref 539, .ref 540, .ref 541, .ref 542, .ref 543, .ref 544, .ref 545, .ref 546, .ref 547, .int (iI (o 28)), .int (iI (o 29)), .int (iI (o 30)), .int (iI (o 31)), .int (iI (o 32)), .int (iI (o 33)), .ref 548, .ref 549, .ref 550, .ref 551, .int (iI (o 38)), .ref 552, .ref 553, .ref 554, .ref 555, .ref 556, .ref 557, .ref 558, .ref 559, .ref 560, .ref 561, .int (iI (o 49)), .ref 562, .ref 563, .ref 564, .ref 565, .ref 566, .ref 567, .ref 568, .ref 569, .int (iI (o 58)), .ref 570, .ref 571, .ref 572, .ref 573, .ref 574, .ref 575, .ref 576, .ref 577, .ref 578, .int (iI (o 68)), .int (iI (o 69)), .int (iI (o 70)), .ref 579]) rfl (pc' := 286) rfl (fun S884 h885 n886 e887 => ?_)
                            refine T_p xr_141_286 xn_141 (pc' := 551) (ls' := [(2, .int (iI (bI (X_res nm867)))), (1, .int (iI (X_sg tb len at_))), (0, .ref 530)]) (st' := []) rfl ?_
                            refine T_vret xr_141_551 xf_141.2.2 ?_
                            refine hQ _ _ ?_
                            exact ⟨at_, en, 1, o 10, o 11, nm867, 1, 0, en, rfl, hp, (Or.inr (Or.inl ⟨(X_sg_L.mp (by assumption)).2, hm.symm, Or.inl ⟨by omega, rfl, rfl⟩⟩)), rfl, (fun _ => rfl), fun h => absurd h (by omega), fun h => absurd h (by omega), by first | assumption | omega, h885, ((((((X_Fr.rf).tr (X_Fr.of n280 e281 (by first | decide | exact ⟨Nat.le_add_right _ _, Nat.add_le_add_left (by decide) _⟩ | omega))).tr (X_Fr.mono ⟨hF286.1, hF286.2⟩ (fun q hq => by first | exact hq | (rcases hq with rfl <;> decide) | (rcases hq with rfl | rfl <;> decide) | (rcases hq with rfl | rfl | rfl <;> decide) | (rcases hq with rfl | rfl | rfl | rfl <;> decide) | (rcases hq with rfl | rfl | rfl | rfl | rfl <;> decide) | (rcases hq with rfl | rfl | rfl | rfl | rfl | rfl <;> decide) | (rcases hq with rfl | rfl | rfl | rfl | rfl | rfl | rfl <;> decide) | omega))).tr (X_Fr.of n620 e621 (by first | decide | exact ⟨Nat.le_add_right _ _, Nat.add_le_add_left (by decide) _⟩ | omega))).tr (X_Fr.mono ⟨hF831.1, hF831.2⟩ (fun q hq => by first | exact hq | (rcases hq with rfl <;> decide) | (rcases hq with rfl | rfl <;> decide) | (rcases hq with rfl | rfl | rfl <;> decide) | (rcases hq with rfl | rfl | rfl | rfl <;> decide) | (rcases hq with rfl | rfl | rfl | rfl | rfl <;> decide) | (rcases hq with rfl | rfl | rfl | rfl | rfl | rfl <;> decide) | (rcases hq with rfl | rfl | rfl | rfl | rfl | rfl | rfl <;> decide) | omega))).tr (X_Fr.mono ⟨hf871.1, hf871.2⟩ (fun q hq => by first | exact hq | (rcases hq with rfl <;> decide) | (rcases hq with rfl | rfl <;> decide) | (rcases hq with rfl | rfl | rfl <;> decide) | (rcases hq with rfl | rfl | rfl | rfl <;> decide) | (rcases hq with rfl | rfl | rfl | rfl | rfl <;> decide) | (rcases hq with rfl | rfl | rfl | rfl | rfl | rfl <;> decide) | (rcases hq with rfl | rfl | rfl | rfl | rfl | rfl | rfl <;> decide) | omega))).tr (X_Fr.of n886 e887 (by first | decide | exact ⟨Nat.le_add_right _ _, Nat.add_le_add_left (by decide) _⟩ | omega))⟩
                        refine T_p xr_141_172 xn_141 (pc' := 173) (ls' := [(1, .int (iI (X_sg tb len at_))), (0, .ref 530)]) (st' := [.ref 530]) rfl ?_
                        refine T_get xr_141_173 h872 rfl (v := .long nm867) rfl (pc' := 176) rfl ?_
                        refine T_p xr_141_176 xn_141 (pc' := 179) (ls' := [(1, .int (iI (X_sg tb len at_))), (0, .ref 530)]) (st' := [.long (Int64.ofNat 1918987883), .long nm867]) rfl ?_
                        refine T_lc_eq xr_141_179 xr_141_180 (t := 249) (pc' := 183) rfl rfl (fun c888 => ?_) (fun c888 => ?_)
                        · skip
                          have c888 : nm867 = (Int64.ofNat 1918987883) := c888
                          refine T_p xr_141_249 xn_141 (pc' := 250) (ls' := [(1, .int (iI (X_sg tb len at_))), (0, .ref 530)]) (st' := [.int (iI 1)]) rfl ?_
                          refine T_p xr_141_250 xn_141 (pc' := 254) (ls' := [(1, .int (iI (X_sg tb len at_))), (0, .ref 530)]) (st' := [.int (iI 1)]) rfl ?_
                          refine T_ie (y := iI (bI (X_res nm867))) (by rw [bI_t (by unfold X_res; first | (left; assumption) | (left; exact Classical.not_not.mp (by assumption)) | (right; left; assumption) | (right; left; exact Classical.not_not.mp (by assumption)) | (right; right; left; assumption) | (right; right; left; exact Classical.not_not.mp (by assumption)) | (right; right; right; left; assumption) | (right; right; right; left; exact Classical.not_not.mp (by assumption)) | (right; right; right; right; left; assumption) | (right; right; right; right; left; exact Classical.not_not.mp (by assumption)) | (right; right; right; right; right; left; assumption) | (right; right; right; right; right; left; exact Classical.not_not.mp (by assumption)) | (right; right; right; right; right; right; assumption) | (right; right; right; right; right; right; exact Classical.not_not.mp (by assumption)))]) ?_
                          exact J873
                        · skip
                          have c888 : ¬ (nm867 = (Int64.ofNat 1918987883)) := c888
                          refine T_p xr_141_183 xn_141 (pc' := 184) (ls' := [(1, .int (iI (X_sg tb len at_))), (0, .ref 530)]) (st' := [.ref 530]) rfl ?_
                          refine T_get xr_141_184 h872 rfl (v := .long nm867) rfl (pc' := 187) rfl ?_
                          refine T_p xr_141_187 xn_141 (pc' := 190) (ls' := [(1, .int (iI (X_sg tb len at_))), (0, .ref 530)]) (st' := [.long (Int64.ofNat 32766990153442674), .long nm867]) rfl ?_
                          refine T_lc_eq xr_141_190 xr_141_191 (t := 249) (pc' := 194) rfl rfl (fun c889 => ?_) (fun c889 => ?_)
                          · skip
                            have c889 : nm867 = (Int64.ofNat 32766990153442674) := c889
                            refine T_p xr_141_249 xn_141 (pc' := 250) (ls' := [(1, .int (iI (X_sg tb len at_))), (0, .ref 530)]) (st' := [.int (iI 1)]) rfl ?_
                            refine T_p xr_141_250 xn_141 (pc' := 254) (ls' := [(1, .int (iI (X_sg tb len at_))), (0, .ref 530)]) (st' := [.int (iI 1)]) rfl ?_
                            refine T_ie (y := iI (bI (X_res nm867))) (by rw [bI_t (by unfold X_res; first | (left; assumption) | (left; exact Classical.not_not.mp (by assumption)) | (right; left; assumption) | (right; left; exact Classical.not_not.mp (by assumption)) | (right; right; left; assumption) | (right; right; left; exact Classical.not_not.mp (by assumption)) | (right; right; right; left; assumption) | (right; right; right; left; exact Classical.not_not.mp (by assumption)) | (right; right; right; right; left; assumption) | (right; right; right; right; left; exact Classical.not_not.mp (by assumption)) | (right; right; right; right; right; left; assumption) | (right; right; right; right; right; left; exact Classical.not_not.mp (by assumption)) | (right; right; right; right; right; right; assumption) | (right; right; right; right; right; right; exact Classical.not_not.mp (by assumption)))]) ?_
                            exact J873
                          · skip
                            have c889 : ¬ (nm867 = (Int64.ofNat 32766990153442674)) := c889
                            refine T_p xr_141_194 xn_141 (pc' := 195) (ls' := [(1, .int (iI (X_sg tb len at_))), (0, .ref 530)]) (st' := [.ref 530]) rfl ?_
                            refine T_get xr_141_195 h872 rfl (v := .long nm867) rfl (pc' := 198) rfl ?_
                            refine T_p xr_141_198 xn_141 (pc' := 201) (ls' := [(1, .int (iI (X_sg tb len at_))), (0, .ref 530)]) (st' := [.long (Int64.ofNat 1802071652), .long nm867]) rfl ?_
                            refine T_lc_eq xr_141_201 xr_141_202 (t := 249) (pc' := 205) rfl rfl (fun c890 => ?_) (fun c890 => ?_)
                            · skip
                              have c890 : nm867 = (Int64.ofNat 1802071652) := c890
                              refine T_p xr_141_249 xn_141 (pc' := 250) (ls' := [(1, .int (iI (X_sg tb len at_))), (0, .ref 530)]) (st' := [.int (iI 1)]) rfl ?_
                              refine T_p xr_141_250 xn_141 (pc' := 254) (ls' := [(1, .int (iI (X_sg tb len at_))), (0, .ref 530)]) (st' := [.int (iI 1)]) rfl ?_
                              refine T_ie (y := iI (bI (X_res nm867))) (by rw [bI_t (by unfold X_res; first | (left; assumption) | (left; exact Classical.not_not.mp (by assumption)) | (right; left; assumption) | (right; left; exact Classical.not_not.mp (by assumption)) | (right; right; left; assumption) | (right; right; left; exact Classical.not_not.mp (by assumption)) | (right; right; right; left; assumption) | (right; right; right; left; exact Classical.not_not.mp (by assumption)) | (right; right; right; right; left; assumption) | (right; right; right; right; left; exact Classical.not_not.mp (by assumption)) | (right; right; right; right; right; left; assumption) | (right; right; right; right; right; left; exact Classical.not_not.mp (by assumption)) | (right; right; right; right; right; right; assumption) | (right; right; right; right; right; right; exact Classical.not_not.mp (by assumption)))]) ?_
                              exact J873
                            · skip
                              have c890 : ¬ (nm867 = (Int64.ofNat 1802071652)) := c890
                              refine T_p xr_141_205 xn_141 (pc' := 206) (ls' := [(1, .int (iI (X_sg tb len at_))), (0, .ref 530)]) (st' := [.ref 530]) rfl ?_
                              refine T_get xr_141_206 h872 rfl (v := .long nm867) rfl (pc' := 209) rfl ?_
                              refine T_p xr_141_209 xn_141 (pc' := 212) (ls' := [(1, .int (iI (X_sg tb len at_))), (0, .ref 530)]) (st' := [.long (Int64.ofNat 504363246962), .long nm867]) rfl ?_
                              refine T_lc_eq xr_141_212 xr_141_213 (t := 249) (pc' := 216) rfl rfl (fun c891 => ?_) (fun c891 => ?_)
                              · skip
                                have c891 : nm867 = (Int64.ofNat 504363246962) := c891
                                refine T_p xr_141_249 xn_141 (pc' := 250) (ls' := [(1, .int (iI (X_sg tb len at_))), (0, .ref 530)]) (st' := [.int (iI 1)]) rfl ?_
                                refine T_p xr_141_250 xn_141 (pc' := 254) (ls' := [(1, .int (iI (X_sg tb len at_))), (0, .ref 530)]) (st' := [.int (iI 1)]) rfl ?_
                                refine T_ie (y := iI (bI (X_res nm867))) (by rw [bI_t (by unfold X_res; first | (left; assumption) | (left; exact Classical.not_not.mp (by assumption)) | (right; left; assumption) | (right; left; exact Classical.not_not.mp (by assumption)) | (right; right; left; assumption) | (right; right; left; exact Classical.not_not.mp (by assumption)) | (right; right; right; left; assumption) | (right; right; right; left; exact Classical.not_not.mp (by assumption)) | (right; right; right; right; left; assumption) | (right; right; right; right; left; exact Classical.not_not.mp (by assumption)) | (right; right; right; right; right; left; assumption) | (right; right; right; right; right; left; exact Classical.not_not.mp (by assumption)) | (right; right; right; right; right; right; assumption) | (right; right; right; right; right; right; exact Classical.not_not.mp (by assumption)))]) ?_
                                exact J873
                              · skip
                                have c891 : ¬ (nm867 = (Int64.ofNat 504363246962)) := c891
                                refine T_p xr_141_216 xn_141 (pc' := 217) (ls' := [(1, .int (iI (X_sg tb len at_))), (0, .ref 530)]) (st' := [.ref 530]) rfl ?_
                                refine T_get xr_141_217 h872 rfl (v := .long nm867) rfl (pc' := 220) rfl ?_
                                refine T_p xr_141_220 xn_141 (pc' := 223) (ls' := [(1, .int (iI (X_sg tb len at_))), (0, .ref 530)]) (st' := [.long (Int64.ofNat 2003792484), .long nm867]) rfl ?_
                                refine T_lc_eq xr_141_223 xr_141_224 (t := 249) (pc' := 227) rfl rfl (fun c892 => ?_) (fun c892 => ?_)
                                · skip
                                  have c892 : nm867 = (Int64.ofNat 2003792484) := c892
                                  refine T_p xr_141_249 xn_141 (pc' := 250) (ls' := [(1, .int (iI (X_sg tb len at_))), (0, .ref 530)]) (st' := [.int (iI 1)]) rfl ?_
                                  refine T_p xr_141_250 xn_141 (pc' := 254) (ls' := [(1, .int (iI (X_sg tb len at_))), (0, .ref 530)]) (st' := [.int (iI 1)]) rfl ?_
                                  refine T_ie (y := iI (bI (X_res nm867))) (by rw [bI_t (by unfold X_res; first | (left; assumption) | (left; exact Classical.not_not.mp (by assumption)) | (right; left; assumption) | (right; left; exact Classical.not_not.mp (by assumption)) | (right; right; left; assumption) | (right; right; left; exact Classical.not_not.mp (by assumption)) | (right; right; right; left; assumption) | (right; right; right; left; exact Classical.not_not.mp (by assumption)) | (right; right; right; right; left; assumption) | (right; right; right; right; left; exact Classical.not_not.mp (by assumption)) | (right; right; right; right; right; left; assumption) | (right; right; right; right; right; left; exact Classical.not_not.mp (by assumption)) | (right; right; right; right; right; right; assumption) | (right; right; right; right; right; right; exact Classical.not_not.mp (by assumption)))]) ?_
                                  exact J873
                                · skip
                                  have c892 : ¬ (nm867 = (Int64.ofNat 2003792484)) := c892
                                  refine T_p xr_141_227 xn_141 (pc' := 228) (ls' := [(1, .int (iI (X_sg tb len at_))), (0, .ref 530)]) (st' := [.ref 530]) rfl ?_
                                  refine T_get xr_141_228 h872 rfl (v := .long nm867) rfl (pc' := 231) rfl ?_
                                  refine T_p xr_141_231 xn_141 (pc' := 234) (ls' := [(1, .int (iI (X_sg tb len at_))), (0, .ref 530)]) (st' := [.long (Int64.ofNat 1818584692), .long nm867]) rfl ?_
                                  refine T_lc_eq xr_141_234 xr_141_235 (t := 249) (pc' := 238) rfl rfl (fun c893 => ?_) (fun c893 => ?_)
                                  · skip
                                    have c893 : nm867 = (Int64.ofNat 1818584692) := c893
                                    refine T_p xr_141_249 xn_141 (pc' := 250) (ls' := [(1, .int (iI (X_sg tb len at_))), (0, .ref 530)]) (st' := [.int (iI 1)]) rfl ?_
                                    refine T_p xr_141_250 xn_141 (pc' := 254) (ls' := [(1, .int (iI (X_sg tb len at_))), (0, .ref 530)]) (st' := [.int (iI 1)]) rfl ?_
                                    refine T_ie (y := iI (bI (X_res nm867))) (by rw [bI_t (by unfold X_res; first | (left; assumption) | (left; exact Classical.not_not.mp (by assumption)) | (right; left; assumption) | (right; left; exact Classical.not_not.mp (by assumption)) | (right; right; left; assumption) | (right; right; left; exact Classical.not_not.mp (by assumption)) | (right; right; right; left; assumption) | (right; right; right; left; exact Classical.not_not.mp (by assumption)) | (right; right; right; right; left; assumption) | (right; right; right; right; left; exact Classical.not_not.mp (by assumption)) | (right; right; right; right; right; left; assumption) | (right; right; right; right; right; left; exact Classical.not_not.mp (by assumption)) | (right; right; right; right; right; right; assumption) | (right; right; right; right; right; right; exact Classical.not_not.mp (by assumption)))]) ?_
                                    exact J873
                                  · skip
                                    have c893 : ¬ (nm867 = (Int64.ofNat 1818584692)) := c893
                                    refine T_p xr_141_238 xn_141 (pc' := 239) (ls' := [(1, .int (iI (X_sg tb len at_))), (0, .ref 530)]) (st' := [.ref 530]) rfl ?_
                                    refine T_get xr_141_239 h872 rfl (v := .long nm867) rfl (pc' := 242) rfl ?_
                                    refine T_p xr_141_242 xn_141 (pc' := 245) (ls' := [(1, .int (iI (X_sg tb len at_))), (0, .ref 530)]) (st' := [.long (Int64.ofNat 491394656372), .long nm867]) rfl ?_
                                    refine T_lc_ne xr_141_245 xr_141_246 (t := 253) (pc' := 249) rfl rfl (fun c894 => ?_) (fun c894 => ?_)
                                    · skip
                                      have c894 : ¬ nm867 = (Int64.ofNat 491394656372) := c894
                                      refine T_p xr_141_253 xn_141 (pc' := 254) (ls' := [(1, .int (iI (X_sg tb len at_))), (0, .ref 530)]) (st' := [.int (iI 0)]) rfl ?_
                                      refine T_ie (y := iI (bI (X_res nm867))) (by rw [bI_f (by unfold X_res; rintro (h | h | h | h | h | h | h) <;> contradiction)]) ?_
                                      exact J873
                                    · skip
                                      have c894 : ¬ (¬ nm867 = (Int64.ofNat 491394656372)) := c894
                                      refine T_p xr_141_249 xn_141 (pc' := 250) (ls' := [(1, .int (iI (X_sg tb len at_))), (0, .ref 530)]) (st' := [.int (iI 1)]) rfl ?_
                                      refine T_p xr_141_250 xn_141 (pc' := 254) (ls' := [(1, .int (iI (X_sg tb len at_))), (0, .ref 530)]) (st' := [.int (iI 1)]) rfl ?_
                                      refine T_ie (y := iI (bI (X_res nm867))) (by rw [bI_t (by unfold X_res; first | (left; assumption) | (left; exact Classical.not_not.mp (by assumption)) | (right; left; assumption) | (right; left; exact Classical.not_not.mp (by assumption)) | (right; right; left; assumption) | (right; right; left; exact Classical.not_not.mp (by assumption)) | (right; right; right; left; assumption) | (right; right; right; left; exact Classical.not_not.mp (by assumption)) | (right; right; right; right; left; assumption) | (right; right; right; right; left; exact Classical.not_not.mp (by assumption)) | (right; right; right; right; right; left; assumption) | (right; right; right; right; right; left; exact Classical.not_not.mp (by assumption)) | (right; right; right; right; right; right; assumption) | (right; right; right; right; right; right; exact Classical.not_not.mp (by assumption)))]) ?_
                                      exact J873
                      · skip
                        have c863 : (X_isD (X_sg tb len en)) := c863
                        have hlt : en < len := by first | exact (X_sg_L.mp (by assumption)).1 | exact (X_sg_D.mp (by assumption)).1
                        refine T_p xr_141_147 xn_141 (pc' := 148) (ls' := [(1, .int (iI (X_sg tb len at_))), (0, .ref 530)]) (st' := [.ref 530]) rfl ?_
                        refine T_p xr_141_148 xn_141 (pc' := 149) (ls' := [(1, .int (iI (X_sg tb len at_))), (0, .ref 530)]) (st' := [.ref 530, .ref 530]) rfl ?_
                        refine T_get xr_141_149 hM1 rfl (v := .int (iI en)) rfl (pc' := 152) rfl ?_
                        refine T_p xr_141_152 xn_141 (pc' := 153) (ls' := [(1, .int (iI (X_sg tb len at_))), (0, .ref 530)]) (st' := [.int (iI 1), .int (iI en), .ref 530]) rfl ?_
                        refine T_ziadd xr_141_153 (z := en + 1) rfl (pc' := 154) rfl ?_
                        refine T_put xr_141_154 hM1 rfl (Nat.le_of_ble_eq_true rfl) rfl (fs' := [.ref 531, .int (iI (o 1)), .ref 532, .int (iI (o 3)), .int (iI (o 4)), .int (iI (o 5)), .int (iI (o 6)), .int (iI at_), .int (iI (en + 1)), .int (iI (o 9)), .int (iI (o 10)), .int (iI (o 11)), .long nm, .ref 533, .ref 534, .ref 535, .ref 536, .ref 537, .ref 538, .ref 539, .ref 540, .ref 541, .ref 542, .ref 543, .ref 544, .ref 545, .ref 546, .ref 547, .int (iI (o 28)), .int (iI (o 29)), .int (iI (o 30)), .int (iI (o 31)), .int (iI (o 32)), .int (iI (o 33)), .ref 548, .ref 549, .ref 550, .ref 551, .int (iI (o 38)), .ref 552, .ref 553, .ref 554, .ref 555, .ref 556, .ref 557, .ref 558, .ref 559, .ref 560, .ref 561, .int (iI (o 49)), .ref 562, .ref 563, .ref 564, .ref 565, .ref 566, .ref 567, .ref 568, .ref 569, .int (iI (o 58)), .ref 570, .ref 571, .ref 572, .ref 573, .ref 574, .ref 575, .ref 576, .ref 577, .ref 578, .int (iI (o 68)), .int (iI (o 69)), .int (iI (o 70)), .ref 579]) rfl (pc' := 157) rfl (fun S895 h896 n897 e898 => ?_)
                        refine T_p xr_141_157 xn_141 (pc' := 119) (ls' := [(1, .int (iI (X_sg tb len at_))), (0, .ref 530)]) (st' := []) rfl ?_
                        exact ih828 S895 (en + 1) h896 (hF831.tr ((X_Fr.rf).tr (X_Fr.of n897 e898 (by first | decide | exact ⟨Nat.le_add_right _ _, Nat.add_le_add_left (by decide) _⟩ | omega)))) (by omega) ((X_se_go (by omega) (by first | exact Or.inl (X_sg_L.mp (by assumption)).2 | exact Or.inr (X_sg_D.mp (by assumption)).2)).symm.trans hse) (by omega)
                exact L827 (len + 1).toNat S618 (at_ + 1) h619 ((X_Fr.rf)) (by omega) rfl (by omega)
            · skip
              have c622 : ¬ (at_ < (o 3)) := c622
              refine T_p xr_141_88 xn_141 (pc' := 89) (ls' := [(1, .int (iI (X_sg tb len at_))), (0, .ref 530)]) (st' := [.ref 530]) rfl ?_
              refine T_p xr_141_89 xn_141 (pc' := 90) (ls' := [(1, .int (iI (X_sg tb len at_))), (0, .ref 530)]) (st' := [.int (iI 0), .ref 530]) rfl ?_
              refine T_put xr_141_90 h619 rfl (Nat.le_of_ble_eq_true rfl) rfl (fs' := [.ref 531, .int (iI (o 1)), .ref 532, .int (iI (o 3)), .int (iI (o 4)), .int (iI (o 5)), .int (iI (o 6)), .int (iI at_), .int (iI (at_ + 1)), .int (iI 0), .int (iI (o 10)), .int (iI (o 11)), .long nm, .ref 533, .ref 534, .ref 535, .ref 536, .ref 537, .ref 538, .ref 539, .ref 540, .ref 541, .ref 542, .ref 543, .ref 544, .ref 545, .ref 546, .ref 547, .int (iI (o 28)), .int (iI (o 29)), .int (iI (o 30)), .int (iI (o 31)), .int (iI (o 32)), .int (iI (o 33)), .ref 548, .ref 549, .ref 550, .ref 551, .int (iI (o 38)), .ref 552, .ref 553, .ref 554, .ref 555, .ref 556, .ref 557, .ref 558, .ref 559, .ref 560, .ref 561, .int (iI (o 49)), .ref 562, .ref 563, .ref 564, .ref 565, .ref 566, .ref 567, .ref 568, .ref 569, .int (iI (o 58)), .ref 570, .ref 571, .ref 572, .ref 573, .ref 574, .ref 575, .ref 576, .ref 577, .ref 578, .int (iI (o 68)), .int (iI (o 69)), .int (iI (o 70)), .ref 579]) rfl (pc' := 93) rfl (fun S899 h900 n901 e902 => ?_)
              refine T_p xr_141_93 xn_141 (pc' := 94) (ls' := [(1, .int (iI (X_sg tb len at_))), (0, .ref 530)]) (st' := [.ref 530]) rfl ?_
              refine T_p xr_141_94 xn_141 (pc' := 95) (ls' := [(1, .int (iI (X_sg tb len at_))), (0, .ref 530)]) (st' := [.ref 530, .ref 530]) rfl ?_
              refine T_get xr_141_95 h900 rfl (v := .int (iI (o 3))) rfl (pc' := 98) rfl ?_
              refine T_put xr_141_98 h900 rfl (Nat.le_of_ble_eq_true rfl) rfl (fs' := [.ref 531, .int (iI (o 1)), .ref 532, .int (iI (o 3)), .int (iI (o 4)), .int (iI (o 5)), .int (iI (o 6)), .int (iI (o 3)), .int (iI (at_ + 1)), .int (iI 0), .int (iI (o 10)), .int (iI (o 11)), .long nm, .ref 533, .ref 534, .ref 535, .ref 536, .ref 537, .ref 538, .ref 539, .ref 540, .ref 541, .ref 542, .ref 543, .ref 544, .ref 545, .ref 546, .ref 547, .int (iI (o 28)), .int (iI (o 29)), .int (iI (o 30)), .int (iI (o 31)), .int (iI (o 32)), .int (iI (o 33)), .ref 548, .ref 549, .ref 550, .ref 551, .int (iI (o 38)), .ref 552, .ref 553, .ref 554, .ref 555, .ref 556, .ref 557, .ref 558, .ref 559, .ref 560, .ref 561, .int (iI (o 49)), .ref 562, .ref 563, .ref 564, .ref 565, .ref 566, .ref 567, .ref 568, .ref 569, .int (iI (o 58)), .ref 570, .ref 571, .ref 572, .ref 573, .ref 574, .ref 575, .ref 576, .ref 577, .ref 578, .int (iI (o 68)), .int (iI (o 69)), .int (iI (o 70)), .ref 579]) rfl (pc' := 101) rfl (fun S903 h904 n905 e906 => ?_)
              refine T_p xr_141_101 xn_141 (pc' := 102) (ls' := [(1, .int (iI (X_sg tb len at_))), (0, .ref 530)]) (st' := [.ref 530]) rfl ?_
              refine T_p xr_141_102 xn_141 (pc' := 103) (ls' := [(1, .int (iI (X_sg tb len at_))), (0, .ref 530)]) (st' := [.ref 530, .ref 530]) rfl ?_
              refine T_get xr_141_103 h904 rfl (v := .int (iI (o 3))) rfl (pc' := 106) rfl ?_
              refine T_put xr_141_106 h904 rfl (Nat.le_of_ble_eq_true rfl) rfl (fs' := [.ref 531, .int (iI (o 1)), .ref 532, .int (iI (o 3)), .int (iI (o 4)), .int (iI (o 5)), .int (iI (o 6)), .int (iI (o 3)), .int (iI (o 3)), .int (iI 0), .int (iI (o 10)), .int (iI (o 11)), .long nm, .ref 533, .ref 534, .ref 535, .ref 536, .ref 537, .ref 538, .ref 539, .ref 540, .ref 541, .ref 542, .ref 543, .ref 544, .ref 545, .ref 546, .ref 547, .int (iI (o 28)), .int (iI (o 29)), .int (iI (o 30)), .int (iI (o 31)), .int (iI (o 32)), .int (iI (o 33)), .ref 548, .ref 549, .ref 550, .ref 551, .int (iI (o 38)), .ref 552, .ref 553, .ref 554, .ref 555, .ref 556, .ref 557, .ref 558, .ref 559, .ref 560, .ref 561, .int (iI (o 49)), .ref 562, .ref 563, .ref 564, .ref 565, .ref 566, .ref 567, .ref 568, .ref 569, .int (iI (o 58)), .ref 570, .ref 571, .ref 572, .ref 573, .ref 574, .ref 575, .ref 576, .ref 577, .ref 578, .int (iI (o 68)), .int (iI (o 69)), .int (iI (o 70)), .ref 579]) rfl (pc' := 109) rfl (fun S907 h908 n909 e910 => ?_)
              refine T_p xr_141_109 xn_141 (pc' := 551) (ls' := [(1, .int (iI (X_sg tb len at_))), (0, .ref 530)]) (st' := []) rfl ?_
              refine T_vret xr_141_551 xf_141.2.2 ?_
              refine hQ _ _ ?_
              exact ⟨o 3, o 3, 0, o 10, o 11, nm, 0, 0, len, rfl, (by omega), (Or.inl ⟨X_at_out (by omega), rfl, rfl, by omega⟩), rfl, (fun _ => by omega), fun h => absurd h (by omega), fun h => absurd h (by omega), by first | assumption | omega, h908, ((((((X_Fr.rf).tr (X_Fr.of n280 e281 (by first | decide | exact ⟨Nat.le_add_right _ _, Nat.add_le_add_left (by decide) _⟩ | omega))).tr (X_Fr.mono ⟨hF286.1, hF286.2⟩ (fun q hq => by first | exact hq | (rcases hq with rfl <;> decide) | (rcases hq with rfl | rfl <;> decide) | (rcases hq with rfl | rfl | rfl <;> decide) | (rcases hq with rfl | rfl | rfl | rfl <;> decide) | (rcases hq with rfl | rfl | rfl | rfl | rfl <;> decide) | (rcases hq with rfl | rfl | rfl | rfl | rfl | rfl <;> decide) | (rcases hq with rfl | rfl | rfl | rfl | rfl | rfl | rfl <;> decide) | omega))).tr (X_Fr.of n620 e621 (by first | decide | exact ⟨Nat.le_add_right _ _, Nat.add_le_add_left (by decide) _⟩ | omega))).tr (X_Fr.of n901 e902 (by first | decide | exact ⟨Nat.le_add_right _ _, Nat.add_le_add_left (by decide) _⟩ | omega))).tr (X_Fr.of n905 e906 (by first | decide | exact ⟨Nat.le_add_right _ _, Nat.add_le_add_left (by decide) _⟩ | omega))).tr (X_Fr.of n909 e910 (by first | decide | exact ⟨Nat.le_add_right _ _, Nat.add_le_add_left (by decide) _⟩ | omega))⟩
          · skip
            have c610 : ¬ (¬ (X_sg tb len at_) = 10) := c610
            refine T_p xr_141_45 xn_141 (pc' := 46) (ls' := [(0, .ref 530)]) (st' := [.ref 530]) rfl ?_
            refine T_p xr_141_46 xn_141 (pc' := 47) (ls' := [(0, .ref 530)]) (st' := [.ref 530, .ref 530]) rfl ?_
            refine T_get xr_141_47 hM1 rfl (v := .int (iI at_)) rfl (pc' := 50) rfl ?_
            refine T_p xr_141_50 xn_141 (pc' := 51) (ls' := [(0, .ref 530)]) (st' := [.int (iI 1), .int (iI at_), .ref 530]) rfl ?_
            refine T_ziadd xr_141_51 (z := at_ + 1) rfl (pc' := 52) rfl ?_
            refine T_put xr_141_52 hM1 rfl (Nat.le_of_ble_eq_true rfl) rfl (fs' := [.ref 531, .int (iI (o 1)), .ref 532, .int (iI (o 3)), .int (iI (o 4)), .int (iI (o 5)), .int (iI (o 6)), .int (iI (at_ + 1)), .int (iI (o 8)), .int (iI (o 9)), .int (iI (o 10)), .int (iI (o 11)), .long nm, .ref 533, .ref 534, .ref 535, .ref 536, .ref 537, .ref 538, .ref 539, .ref 540, .ref 541, .ref 542, .ref 543, .ref 544, .ref 545, .ref 546, .ref 547, .int (iI (o 28)), .int (iI (o 29)), .int (iI (o 30)), .int (iI (o 31)), .int (iI (o 32)), .int (iI (o 33)), .ref 548, .ref 549, .ref 550, .ref 551, .int (iI (o 38)), .ref 552, .ref 553, .ref 554, .ref 555, .ref 556, .ref 557, .ref 558, .ref 559, .ref 560, .ref 561, .int (iI (o 49)), .ref 562, .ref 563, .ref 564, .ref 565, .ref 566, .ref 567, .ref 568, .ref 569, .int (iI (o 58)), .ref 570, .ref 571, .ref 572, .ref 573, .ref 574, .ref 575, .ref 576, .ref 577, .ref 578, .int (iI (o 68)), .int (iI (o 69)), .int (iI (o 70)), .ref 579]) rfl (pc' := 55) rfl (fun S911 h912 n913 e914 => ?_)
            refine T_p xr_141_55 xn_141 (pc' := 8) (ls' := [(0, .ref 530)]) (st' := []) rfl ?_
            exact ih283 S911 (at_ + 1) h912 (hF286.tr ((X_Fr.rf).tr (X_Fr.of n913 e914 (by first | decide | exact ⟨Nat.le_add_right _ _, Nat.add_le_add_left (by decide) _⟩ | omega)))) (by omega) ((X_se_go (by omega) (by unfold X_isBl; omega)).symm.trans hse0) (by omega)
  exact L282 (len + 1).toNat S278 (o 8) h279 ((X_Fr.rf)) (by omega) rfl (by omega)
end
section
theorem xr_139_0 : X_row 139 0 = some (0, (.aload_n 0, 1), (0, 0, 0)) := by decide +kernel
theorem xr_139_1 : X_row 139 1 = some (1, (.getfield 11, 3), (11, 5, 10)) := by decide +kernel
theorem xr_139_4 : X_row 139 4 = some (4, (.ifCond .le 4, 3), (0, 0, 0)) := by decide +kernel
theorem xr_139_7 : X_row 139 7 = some (7, (.return_, 1), (0, 0, 0)) := by decide +kernel
theorem xr_139_8 : X_row 139 8 = some (8, (.aload_n 0, 1), (0, 0, 0)) := by decide +kernel
theorem xr_139_9 : X_row 139 9 = some (9, (.iload_n 1, 1), (0, 0, 0)) := by decide +kernel
theorem xr_139_10 : X_row 139 10 = some (10, (.putfield 11, 3), (11, 5, 10)) := by decide +kernel
theorem xr_139_13 : X_row 139 13 = some (13, (.aload_n 0, 1), (0, 0, 0)) := by decide +kernel
theorem xr_139_14 : X_row 139 14 = some (14, (.iload_n 2, 1), (0, 0, 0)) := by decide +kernel
theorem xr_139_15 : X_row 139 15 = some (15, (.putfield 14, 3), (11, 6, 12)) := by decide +kernel
theorem xr_139_18 : X_row 139 18 = some (18, (.return_, 1), (0, 0, 0)) := by decide +kernel
theorem xr_140_0 : X_row 140 0 = some (0, (.aload_n 0, 1), (0, 0, 0)) := by decide +kernel
theorem xr_140_1 : X_row 140 1 = some (1, (.getfield 11, 3), (11, 5, 10)) := by decide +kernel
theorem xr_140_4 : X_row 140 4 = some (4, (.ifCond .ne 7, 3), (0, 0, 0)) := by decide +kernel
theorem xr_140_7 : X_row 140 7 = some (7, (.iconst 1, 1), (0, 0, 0)) := by decide +kernel
theorem xr_140_8 : X_row 140 8 = some (8, (.goto 4, 3), (0, 0, 0)) := by decide +kernel
theorem xr_140_11 : X_row 140 11 = some (11, (.iconst 0, 1), (0, 0, 0)) := by decide +kernel
theorem xr_140_12 : X_row 140 12 = some (12, (.ireturn, 1), (0, 0, 0)) := by decide +kernel
theorem xr_145_0 : X_row 145 0 = some (0, (.aload_n 0, 1), (0, 0, 0)) := by decide +kernel
theorem xr_145_1 : X_row 145 1 = some (1, (.getfield 27, 3), (11, 9, 18)) := by decide +kernel
theorem xr_145_4 : X_row 145 4 = some (4, (.bipush 6, 2), (0, 0, 0)) := by decide +kernel
theorem xr_145_6 : X_row 145 6 = some (6, (.if_icmp .ne 19, 3), (0, 0, 0)) := by decide +kernel
theorem xr_145_9 : X_row 145 9 = some (9, (.aload_n 0, 1), (0, 0, 0)) := by decide +kernel
theorem xr_145_10 : X_row 145 10 = some (10, (.aload_n 0, 1), (0, 0, 0)) := by decide +kernel
theorem xr_145_11 : X_row 145 11 = some (11, (.getfield 20, 3), (11, 7, 14)) := by decide +kernel
theorem xr_145_14 : X_row 145 14 = some (14, (.invokevirtual 23, 3), (136, 2, 0)) := by decide +kernel
theorem xr_145_17 : X_row 145 17 = some (17, (.iload_n 1, 1), (0, 0, 0)) := by decide +kernel
theorem xr_145_18 : X_row 145 18 = some (18, (.if_icmp .ne 7, 3), (0, 0, 0)) := by decide +kernel
theorem xr_145_21 : X_row 145 21 = some (21, (.iconst 1, 1), (0, 0, 0)) := by decide +kernel
theorem xr_145_22 : X_row 145 22 = some (22, (.goto 4, 3), (0, 0, 0)) := by decide +kernel
theorem xr_145_25 : X_row 145 25 = some (25, (.iconst 0, 1), (0, 0, 0)) := by decide +kernel
theorem xr_145_26 : X_row 145 26 = some (26, (.ireturn, 1), (0, 0, 0)) := by decide +kernel
theorem xr_146_0 : X_row 146 0 = some (0, (.aload_n 0, 1), (0, 0, 0)) := by decide +kernel
theorem xr_146_1 : X_row 146 1 = some (1, (.getfield 27, 3), (11, 9, 18)) := by decide +kernel
theorem xr_146_4 : X_row 146 4 = some (4, (.iconst 3, 1), (0, 0, 0)) := by decide +kernel
theorem xr_146_5 : X_row 146 5 = some (5, (.if_icmp .ne 16, 3), (0, 0, 0)) := by decide +kernel
theorem xr_146_8 : X_row 146 8 = some (8, (.aload_n 0, 1), (0, 0, 0)) := by decide +kernel
theorem xr_146_9 : X_row 146 9 = some (9, (.getfield 41, 3), (11, 12, 24)) := by decide +kernel
theorem xr_146_12 : X_row 146 12 = some (12, (.lload_n 1, 1), (0, 0, 0)) := by decide +kernel
theorem xr_146_13 : X_row 146 13 = some (13, (.lcmp, 1), (0, 0, 0)) := by decide +kernel
theorem xr_146_14 : X_row 146 14 = some (14, (.ifCond .ne 7, 3), (0, 0, 0)) := by decide +kernel
theorem xr_146_17 : X_row 146 17 = some (17, (.iconst 1, 1), (0, 0, 0)) := by decide +kernel
theorem xr_146_18 : X_row 146 18 = some (18, (.goto 4, 3), (0, 0, 0)) := by decide +kernel
theorem xr_146_21 : X_row 146 21 = some (21, (.iconst 0, 1), (0, 0, 0)) := by decide +kernel
theorem xr_146_22 : X_row 146 22 = some (22, (.ireturn, 1), (0, 0, 0)) := by decide +kernel
theorem xr_147_0 : X_row 147 0 = some (0, (.aload_n 0, 1), (0, 0, 0)) := by decide +kernel
theorem xr_147_1 : X_row 147 1 = some (1, (.aload_n 0, 1), (0, 0, 0)) := by decide +kernel
theorem xr_147_2 : X_row 147 2 = some (2, (.getfield 27, 3), (11, 9, 18)) := by decide +kernel
theorem xr_147_5 : X_row 147 5 = some (5, (.iconst 1, 1), (0, 0, 0)) := by decide +kernel
theorem xr_147_6 : X_row 147 6 = some (6, (.if_icmp .ne 7, 3), (0, 0, 0)) := by decide +kernel
theorem xr_147_9 : X_row 147 9 = some (9, (.iconst 1, 1), (0, 0, 0)) := by decide +kernel
theorem xr_147_10 : X_row 147 10 = some (10, (.goto 4, 3), (0, 0, 0)) := by decide +kernel
theorem xr_147_13 : X_row 147 13 = some (13, (.iconst 2, 1), (0, 0, 0)) := by decide +kernel
theorem xr_147_14 : X_row 147 14 = some (14, (.aload_n 0, 1), (0, 0, 0)) := by decide +kernel
theorem xr_147_15 : X_row 147 15 = some (15, (.getfield 20, 3), (11, 7, 14)) := by decide +kernel
theorem xr_147_18 : X_row 147 18 = some (18, (.invokevirtual 72, 3), (139, 18, 0)) := by decide +kernel
theorem xr_147_21 : X_row 147 21 = some (21, (.return_, 1), (0, 0, 0)) := by decide +kernel
theorem xr_148_0 : X_row 148 0 = some (0, (.aload_n 0, 1), (0, 0, 0)) := by decide +kernel
theorem xr_148_1 : X_row 148 1 = some (1, (.iload_n 1, 1), (0, 0, 0)) := by decide +kernel
theorem xr_148_2 : X_row 148 2 = some (2, (.invokevirtual 75, 3), (145, 26, 0)) := by decide +kernel
theorem xr_148_5 : X_row 148 5 = some (5, (.ifCond .eq 10, 3), (0, 0, 0)) := by decide +kernel
theorem xr_148_8 : X_row 148 8 = some (8, (.aload_n 0, 1), (0, 0, 0)) := by decide +kernel
theorem xr_148_9 : X_row 148 9 = some (9, (.invokevirtual 78, 3), (141, 0, 0)) := by decide +kernel
theorem xr_148_12 : X_row 148 12 = some (12, (.goto 7, 3), (0, 0, 0)) := by decide +kernel
theorem xr_148_15 : X_row 148 15 = some (15, (.aload_n 0, 1), (0, 0, 0)) := by decide +kernel
theorem xr_148_16 : X_row 148 16 = some (16, (.invokevirtual 81, 3), (147, 16, 0)) := by decide +kernel
theorem xr_148_19 : X_row 148 19 = some (19, (.return_, 1), (0, 0, 0)) := by decide +kernel
theorem xn_139 : X_nL 139 = 3 := by decide +kernel
theorem xf_139 : X_na 139 = 2 ∧ X_ci 139 = 11 ∧ X_rt 139 = none := by decide +kernel
theorem xn_140 : X_nL 140 = 1 := by decide +kernel
theorem xf_140 : X_na 140 = 0 ∧ X_ci 140 = 11 ∧ X_rt 140 = (some .boolean) := by decide +kernel
theorem xn_145 : X_nL 145 = 2 := by decide +kernel
theorem xf_145 : X_na 145 = 1 ∧ X_ci 145 = 11 ∧ X_rt 145 = (some .boolean) := by decide +kernel
theorem xn_146 : X_nL 146 = 3 := by decide +kernel
theorem xf_146 : X_na 146 = 1 ∧ X_ci 146 = 11 ∧ X_rt 146 = (some .boolean) := by decide +kernel
theorem xn_147 : X_nL 147 = 1 := by decide +kernel
theorem xf_147 : X_na 147 = 0 ∧ X_ci 147 = 11 ∧ X_rt 147 = none := by decide +kernel
theorem xn_148 : X_nL 148 = 2 := by decide +kernel
theorem xf_148 : X_na 148 = 1 ∧ X_ci 148 = 11 ∧ X_rt 148 = none := by decide +kernel
/-- a token is one alone -/
theorem X_TokN_u {tb : Int → Int} {len p r r' : Int} {ct ct' : Int64} {e e' : Int} (h : X_TokN tb len p r ct e) (h' : X_TokN tb len p r' ct' e') : r = r' ∧ ct = ct' ∧ e = e' := by
  obtain ⟨-, h1, h2⟩ := h
  obtain ⟨-, g1, g2⟩ := h'
  have he : e = e' := h1.trans g1.symm
  subst he
  rcases h2 with ⟨a1, a2, a3⟩ | ⟨a1, a2, a3⟩ <;> rcases g2 with ⟨b1, b2, b3⟩ | ⟨b1, b2, b3⟩
  · exact ⟨a2.trans b2.symm, a3.trans b3.symm, rfl⟩
  · omega
  · omega
  · have hc : ct = ct' := a2.trans b2.symm
    subst hc
    rcases a3 with ⟨c1, c2⟩ | ⟨c1, c2⟩ <;> rcases b3 with ⟨d1, d2⟩ | ⟨d1, d2⟩
    · exact ⟨c2.trans d2.symm, rfl, rfl⟩
    · exact absurd c1 d1
    · exact absurd d1 c1
    · exact ⟨c2.trans d2.symm, rfl, rfl⟩
theorem X_TokD_u {tb : Int → Int} {len p r r' : Int} {ct ct' : Int64} {e e' : Int} (h : X_TokD tb len p r ct e) (h' : X_TokD tb len p r' ct' e') : r = r' ∧ ct = ct' ∧ e = e' := by
  obtain ⟨-, h1, h2⟩ := h
  obtain ⟨-, g1, g2⟩ := h'
  have he : e = e' := h1.trans g1.symm
  subst he
  rcases h2 with ⟨a1, a2, a3⟩ | ⟨a1, a2, a3, a4⟩ <;> rcases g2 with ⟨b1, b2, b3⟩ | ⟨b1, b2, b3, b4⟩
  · exact ⟨a2.trans b2.symm, a3.trans b3.symm, rfl⟩
  · rcases a1 with a1 | a1
    · omega
    · exact absurd a1 b2
  · rcases b1 with b1 | b1
    · omega
    · exact absurd b1 a2
  · exact ⟨by omega, a3.trans b3.symm, rfl⟩
theorem X_TokP_u {tb : Int → Int} {len p r r' : Int} {ct ct' : Int64} {e e' : Int} (h : X_TokP tb len p r ct e) (h' : X_TokP tb len p r' ct' e') : r = r' ∧ ct = ct' ∧ e = e' := by
  obtain ⟨-, m, h1, h2⟩ := h
  obtain ⟨-, m', g1, g2⟩ := h'
  have he : m = m' := h1.trans g1.symm
  subst he
  rcases h2 with ⟨a1, a2, a3, a4⟩ | ⟨a1, a2, a3, a4, a5, a6⟩ <;> rcases g2 with ⟨b1, b2, b3, b4⟩ | ⟨b1, b2, b3, b4, b5, b6⟩
  · exact ⟨a2.trans b2.symm, a3.trans b3.symm, a4.trans b4.symm⟩
  · rcases a1 with a1 | a1 | a1
    · exact absurd b1 a1
    · omega
    · exact absurd a1 b3
  · rcases b1 with b1 | b1 | b1
    · exact absurd a1 b1
    · omega
    · exact absurd b1 a3
  · exact ⟨a4.trans b4.symm, a5.trans b5.symm, a6.trans b6.symm⟩
theorem X_TokS_u {tb : Int → Int} {len p r r' : Int} {ct ct' : Int64} {e e' : Int} (h : X_TokS tb len p r ct e) (h' : X_TokS tb len p r' ct' e') : r = r' ∧ ct = ct' ∧ e = e' := by
  obtain ⟨-, -, -, -, h1, h2, h3⟩ := h
  obtain ⟨-, -, -, -, g1, g2, g3⟩ := h'
  refine ⟨?_, h1.trans g1.symm, h2.trans g2.symm⟩
  rcases h3 with ⟨a1, a2, a3⟩ | ⟨a1, a2⟩ <;> rcases g3 with ⟨b1, b2, b3⟩ | ⟨b1, b2⟩
  · exact a3.trans b3.symm
  · rcases b1 with b1 | b1
    · exact absurd a1 b1
    · exact absurd b1 a2
  · rcases a1 with a1 | a1
    · exact absurd b1 a1
    · exact absurd a1 b2
  · exact a2.trans b2.symm
theorem X_Tok_u {tb : Int → Int} {len p r r' : Int} {ct ct' : Int64} {e e' : Int} (h : X_Tok tb len p r ct e) (h' : X_Tok tb len p r' ct' e') : r = r' ∧ ct = ct' ∧ e = e' := by
  have k1 : ∀ {r ct e}, X_TokN tb len p r ct e → X_isL (X_at tb len p) := fun h => h.1
  have k2 : ∀ {r ct e}, X_TokD tb len p r ct e → X_isD (X_at tb len p) := fun h => h.1
  have k3 : ∀ {r ct e}, X_TokP tb len p r ct e → X_at tb len p = 34 := fun h => h.1
  have k4 : ∀ {r ct e}, X_TokS tb len p r ct e → ¬ X_isL (X_at tb len p) ∧ ¬ X_isD (X_at tb len p) ∧ ¬ X_at tb len p = 34 ∧ ¬ X_at tb len p = -1 := fun h => ⟨h.1, h.2.1, h.2.2.1, h.2.2.2.1⟩
  unfold X_isL at k1 k4
  unfold X_isD at k2 k4
  rcases h with ⟨a1, a2, a3, a4⟩ | h | h | h | h <;> rcases h' with ⟨b1, b2, b3, b4⟩ | h' | h' | h' | h'
  · exact ⟨a2.trans b2.symm, a3.trans b3.symm, a4.trans b4.symm⟩
  · have := k1 h'; omega
  · have := k2 h'; omega
  · have := k3 h'; omega
  · have := k4 h'; omega
  · have := k1 h; omega
  · exact X_TokN_u h h'
  · have := k1 h; have := k2 h'; omega
  · have := k1 h; have := k3 h'; omega
  · have := k1 h; have := k4 h'; omega
  · have := k2 h; omega
  · have := k2 h; have := k1 h'; omega
  · exact X_TokD_u h h'
  · have := k2 h; have := k3 h'; omega
  · have := k2 h; have := k4 h'; omega
  · have := k3 h; omega
  · have := k3 h; have := k1 h'; omega
  · have := k3 h; have := k2 h'; omega
  · exact X_TokP_u h h'
  · have := k3 h; have := k4 h'; omega
  · have := k4 h; omega
  · have := k4 h; have := k1 h'; omega
  · have := k4 h; have := k2 h'; omega
  · have := k4 h; have := k3 h'; omega
  · exact X_TokS_u h h'
/-- a text's tokens with their ends -/
def X_TxE (tb : Int → Int) (len n : Int) (so pl : Int → Int) (ct : Int → Int64) (E : Int → Int) : Prop := (0 ≤ len ∧ len ≤ 2000) ∧ (1 ≤ n ∧ n ≤ 2001) ∧ X_Tks tb len n so pl ct E ∧ (∀ i, 0 ≤ i → i < n - 1 → so i ≠ 0 ∧ so i ≠ 1) ∧ (so (n - 1) = 0 ∨ so (n - 1) = 1)
/-- the reference looks at token c: where it begins and ends, its sort, number, digits, name -/
def R_tk (n : Int) (so pl : Int → Int) (ct : Int → Int64) (E : Int → Int) (c at_ en tk nu dg : Int) (nm : Int64) : Prop :=
  (0 ≤ c ∧ c < n) ∧ at_ = pl c ∧ tk = X_rk (so c) ∧ (¬ so c = 1 → en = E (c + 1)) ∧ ((so c = 2 ∨ so c = 3 ∨ so c = 6) → nm = ct c) ∧ ((so c = 4 ∨ so c = 5) → ct c = iL nu ∧ (dg = 1 ↔ so c = 5) ∧ (1 ≤ dg ∧ dg ≤ 9) ∧ 0 ≤ nu ∧ nu ≤ 999999999)
theorem X_rk_c {r : Int} (h : 0 ≤ r) : (r ≤ 3 ∧ X_rk r = r) ∨ (4 ≤ r ∧ r ≤ 5 ∧ X_rk r = 4) ∨ (r = 6 ∧ X_rk r = 5) ∨ (7 ≤ r ∧ X_rk r = 6) := by
  unfold X_rk
  split
  · omega
  · split
    · omega
    · split <;> omega
theorem R_tk_f {tb : Int → Int} {len n : Int} {so pl : Int → Int} {ct : Int → Int64} {E : Int → Int} {c at_ en tk nu dg : Int} {nm : Int64} (hX : X_TxE tb len n so pl ct E) (h : R_tk n so pl ct E c at_ en tk nu dg nm) :
    (0 ≤ c ∧ c < n) ∧ (0 ≤ so c ∧ so c ≤ 255) ∧ ((so c ≤ 3 ∧ tk = so c) ∨ (4 ≤ so c ∧ so c ≤ 5 ∧ tk = 4) ∨ (so c = 6 ∧ tk = 5) ∨ (7 ≤ so c ∧ tk = 6)) ∧ (0 ≤ at_ ∧ at_ ≤ len) ∧ (¬ so c = 1 → 0 ≤ en ∧ en ≤ len) ∧ (True ∧ True) ∧ (True ∧ True) := by
  obtain ⟨hl, hn, hK, -, -⟩ := hX
  obtain ⟨h1, h2, h3, h4, h5, h6⟩ := h
  have q := X_Tks_q hl.1 hK c h1.1 h1.2
  have r1 := X_Tks_r hl.1 hK c.toNat (by omega)
  have r2 := X_Tks_r hl.1 hK (c + 1).toNat (by omega)
  rw [show (c.toNat : Int) = c by omega] at r1
  rw [show ((c + 1).toNat : Int) = c + 1 by omega] at r2
  have k := X_rk_c q.1.1
  rw [← h3] at k
  exact ⟨h1, q.1, k, by omega, fun z => by rw [h4 z]; exact r2, ⟨trivial, trivial⟩, ⟨trivial, trivial⟩⟩
/-- a sign's byte -/
theorem R_tk_s {tb : Int → Int} {len n : Int} {so pl : Int → Int} {ct : Int → Int64} {E : Int → Int} {c : Int} (hX : X_TxE tb len n so pl ct E) (hc : 0 ≤ c ∧ c < n) (h7 : 7 ≤ so c) : X_at tb len (pl c) = so c ∧ pl c < len := by
  obtain ⟨hl, hn, hK, -, -⟩ := hX
  obtain ⟨-, h⟩ := hK.2 c hc.1 hc.2
  have key : X_at tb len (pl c) = so c := by
    rcases h with ⟨h1, h2, h3, h4⟩ | h | h | h | h
    · omega
    · obtain ⟨h1, h2, h3⟩ := h
      exfalso
      rcases h3 with h | ⟨-, -, h | h⟩
      · omega
      · have := h.2; omega
      · have := h.2; omega
    · obtain ⟨h1, h2, h3⟩ := h
      exfalso
      rcases h3 with h | ⟨-, -, -, h | h⟩
      · have := h.2.1; omega
      · have := h.2; omega
      · have := h.2; omega
    · obtain ⟨h1, m, h2, h3⟩ := h
      exfalso
      rcases h3 with h | h
      · have := h.2.1; omega
      · have := h.2.2.2.1; omega
    · obtain ⟨h1, h2, h3, h4, h5, h6, h7'⟩ := h
      rcases h7' with h | h
      · exact h.2.2.symm
      · have := h.2; omega
  refine ⟨key, ?_⟩
  by_cases hz : 0 ≤ pl c ∧ pl c < len
  · exact hz.2
  · rw [X_at_out hz] at key
    omega
theorem R_tk_nx {tb : Int → Int} {len n : Int} {so pl : Int → Int} {ct : Int → Int64} {E : Int → Int} {c at_ en tk nu dg : Int} {nm : Int64} (hX : X_TxE tb len n so pl ct E) (h : R_tk n so pl ct E c at_ en tk nu dg nm) (hc : ¬ so c = 1) {at1 en1 tk1 nu1 dg1 r1 e1 : Int} {nm1 ct1 : Int64}
    (g1 : at1 = X_se X_isBl tb len en) (g2 : X_Tok tb len at1 r1 ct1 e1) (g3 : tk1 = X_rk r1) (g4 : ¬ r1 = 1 → en1 = e1) (g5 : (r1 = 2 ∨ r1 = 3 ∨ r1 = 6) → nm1 = ct1) (g6 : (r1 = 4 ∨ r1 = 5) → ct1 = iL nu1 ∧ (dg1 = 1 ↔ r1 = 5) ∧ (1 ≤ dg1 ∧ dg1 ≤ 9) ∧ 0 ≤ nu1 ∧ nu1 ≤ 999999999) :
    R_tk n so pl ct E (X_av n c) at1 en1 tk1 nu1 dg1 nm1 := by
  obtain ⟨hl, hn, hK, hnt, hla⟩ := hX
  obtain ⟨h1, h2, h3, h4, h5, h6⟩ := h
  rw [h4 hc] at g1
  have key : at1 = pl (X_av n c) ∧ X_Tok tb len (pl (X_av n c)) (so (X_av n c)) (ct (X_av n c)) (E (X_av n c + 1)) := by
    by_cases hl2 : c + 1 < n
    · have e : X_av n c = c + 1 := by unfold X_av; rw [if_pos hl2]
      rw [e]
      have := hK.2 (c + 1) (by omega) hl2
      exact ⟨g1.trans this.1.symm, this.2⟩
    · have e : X_av n c = c := by unfold X_av; rw [if_neg hl2]
      rw [e]
      obtain ⟨k1, k2⟩ := hK.2 c h1.1 h1.2
      refine ⟨?_, k2⟩
      have hc0 : so c = 0 := by
        rw [show n - 1 = c by omega] at hla
        exact hla.resolve_right hc
      have hE : X_at tb len (pl c) = -1 ∧ E (c + 1) = pl c := by
        rcases k2 with z | z | z | z | z
        · exact ⟨z.1, z.2.2.2⟩
        · exfalso
          rcases z.2.2 with y | y
          · omega
          · rcases y.2.2 with w | w <;> have := w.2 <;> omega
        · exfalso
          rcases z.2.2 with y | y
          · have := y.2.1; omega
          · rcases y.2.2.2 with w | w <;> have := w.2 <;> omega
        · exfalso
          obtain ⟨-, m, -, y | y⟩ := z
          · have := y.2.1; omega
          · have := y.2.2.2.1; omega
        · exfalso
          rcases z.2.2.2.2.2.2 with y | y
          · have y1 := y.1
            have := y.2.2
            unfold X_isSg at y1
            omega
          · have := y.2; omega
      rw [g1, hE.2]
      exact X_se_no (by rintro ⟨-, w⟩; unfold X_isBl at w; omega)
  obtain ⟨k1, k2⟩ := key
  rw [k1] at g2
  obtain ⟨u1, u2, u3⟩ := X_Tok_u g2 k2
  subst u1; subst u2
  exact ⟨X_av_r h1, k1, g3, fun z => (g4 z).trans u3, g5, g6⟩
theorem R_tk_0 {tb : Int → Int} {len n : Int} {so pl : Int → Int} {ct : Int → Int64} {E : Int → Int} (hX : X_TxE tb len n so pl ct E) {at1 en1 tk1 nu1 dg1 r1 e1 : Int} {nm1 ct1 : Int64}
    (g1 : at1 = X_se X_isBl tb len 0) (g2 : X_Tok tb len at1 r1 ct1 e1) (g3 : tk1 = X_rk r1) (g4 : ¬ r1 = 1 → en1 = e1) (g5 : (r1 = 2 ∨ r1 = 3 ∨ r1 = 6) → nm1 = ct1) (g6 : (r1 = 4 ∨ r1 = 5) → ct1 = iL nu1 ∧ (dg1 = 1 ↔ r1 = 5) ∧ (1 ≤ dg1 ∧ dg1 ≤ 9) ∧ 0 ≤ nu1 ∧ nu1 ≤ 999999999) :
    R_tk n so pl ct E 0 at1 en1 tk1 nu1 dg1 nm1 := by
  obtain ⟨hl, hn, hK, hnt, hla⟩ := hX
  have k := hK.2 0 (by omega) (by omega)
  have k1 : at1 = pl 0 := by rw [g1, k.1, hK.1]
  rw [k1] at g2
  obtain ⟨u1, u2, u3⟩ := X_Tok_u g2 k.2
  subst u1; subst u2
  exact ⟨by omega, k1, g3, fun z => (g4 z).trans u3, g5, g6⟩

theorem r_nx (sc : X_Sc) (S : X_S) (o : Nat → Int) (nm : Int64) (tx : Int → Int) (tb : Int → Int) (len : Int) (n : Int) (so : Int → Int) (pl : Int → Int) (ct : Int → Int64) (E : Int → Int) (c : Int) (hM : M_o S o nm) (hA532 : S.1 532 = .inl (.byte, 2000, .inl fun k : Nat => iI (tx (k : Int)))) (hlen : o 3 = len) (hl : 0 ≤ len ∧ len ≤ 2000) (htx : ∀ k, 0 ≤ k → k < len → tx k = tb k) (hX : X_TxE tb len n so pl ct E) (hT : R_tk n so pl ct E c (o 7) (o 8) (o 9) (o 10) (o 11) nm) (hc1 : ¬ so c = 1) : X_T sc 141 (0, [(0, .ref 530)], [], S) (fun v S' => ∃ (at1 : Int) (en1 : Int) (tk1 : Int) (nu1 : Int) (dg1 : Int) (nm1 : Int64), v = none ∧ R_tk n so pl ct E (X_av n c) at1 en1 tk1 nu1 dg1 nm1 ∧ M_o S' (X_ou (X_ou (X_ou (X_ou (X_ou o 7 at1) 8 en1) 9 tk1) 10 nu1) 11 dg1) nm1 ∧ X_Fr (fun q => q = 530) S S') := by
  obtain ⟨⟨hc0, hcn⟩, ⟨hs0, hs1⟩, hk0, ⟨ha0, ha1⟩, hk0e, hnu, hdg⟩ := R_tk_f hX hT
  refine T_mono (r_next sc S o nm tx tb len hM hA532 hlen hl htx (hk0e hc1)) (fun v S' h => ?_)
  obtain ⟨at1, en1, tk1, nu1, dg1, nm1, r1, ct1, e1, hv, g1, g2, g3, g4, g5, g6, g7, hM1, hf⟩ := h
  exact ⟨at1, en1, tk1, nu1, dg1, nm1, hv, R_tk_nx hX hT hc1 g1 g2 g3 g4 g5 g6, hM1, hf⟩
theorem r_nx0 (sc : X_Sc) (S : X_S) (o : Nat → Int) (nm : Int64) (tx : Int → Int) (tb : Int → Int) (len : Int) (n : Int) (so : Int → Int) (pl : Int → Int) (ct : Int → Int64) (E : Int → Int) (hM : M_o S o nm) (hA532 : S.1 532 = .inl (.byte, 2000, .inl fun k : Nat => iI (tx (k : Int)))) (hlen : o 3 = len) (hl : 0 ≤ len ∧ len ≤ 2000) (htx : ∀ k, 0 ≤ k → k < len → tx k = tb k) (hX : X_TxE tb len n so pl ct E) (he : o 8 = 0) : X_T sc 141 (0, [(0, .ref 530)], [], S) (fun v S' => ∃ (at1 : Int) (en1 : Int) (tk1 : Int) (nu1 : Int) (dg1 : Int) (nm1 : Int64), v = none ∧ R_tk n so pl ct E 0 at1 en1 tk1 nu1 dg1 nm1 ∧ M_o S' (X_ou (X_ou (X_ou (X_ou (X_ou o 7 at1) 8 en1) 9 tk1) 10 nu1) 11 dg1) nm1 ∧ X_Fr (fun q => q = 530) S S') := by
  refine T_mono (r_next sc S o nm tx tb len hM hA532 hlen hl htx (by omega)) (fun v S' h => ?_)
  obtain ⟨at1, en1, tk1, nu1, dg1, nm1, r1, ct1, e1, hv, g1, g2, g3, g4, g5, g6, g7, hM1, hf⟩ := h
  rw [he] at g1
  exact ⟨at1, en1, tk1, nu1, dg1, nm1, hv, R_tk_0 hX g1 g2 g3 g4 g5 g6, hM1, hf⟩
theorem r_fails (sc : X_Sc) (S : X_S) (o : Nat → Int) (nm : Int64) (k : Int) (pp : Int) (hM : M_o S o nm) (h5 : 0 ≤ o 5 ∧ o 5 ≤ 5) (hk : 1 ≤ k ∧ k ≤ 5) : X_T sc 139 (0, [(0, .ref 530), (1, .int (iI k)), (2, .int (iI pp))], [], S) (fun v S' => ∃ (f1 : Int) (g1 : Int), v = none ∧ ((o 5 = 0 → f1 = k) ∧ (¬ o 5 = 0 → f1 = o 5)) ∧ M_o S' (X_ou (X_ou o 5 f1) 6 g1) nm ∧ X_Fr (fun q => q = 530) S S') := by
  refine X_QI (fun Q hQ => ?_)
  refine T_p xr_139_0 xn_139 (pc' := 1) (ls' := [(0, .ref 530), (1, .int (iI k)), (2, .int (iI pp))]) (st' := [.ref 530]) rfl ?_
  refine T_get xr_139_1 hM rfl (v := .int (iI (o 5))) rfl (pc' := 4) rfl ?_
  refine T_zif_le xr_139_4 (t := 8) (pc' := 7) rfl rfl (fun c915 => ?_) (fun c915 => ?_)
  · skip
    have c915 : (o 5) ≤ 0 := c915
    refine T_p xr_139_8 xn_139 (pc' := 9) (ls' := [(0, .ref 530), (1, .int (iI k)), (2, .int (iI pp))]) (st' := [.ref 530]) rfl ?_
    refine T_p xr_139_9 xn_139 (pc' := 10) (ls' := [(0, .ref 530), (1, .int (iI k)), (2, .int (iI pp))]) (st' := [.int (iI k), .ref 530]) rfl ?_
    refine T_put xr_139_10 hM rfl (Nat.le_of_ble_eq_true rfl) rfl (fs' := [.ref 531, .int (iI (o 1)), .ref 532, .int (iI (o 3)), .int (iI (o 4)), .int (iI k), .int (iI (o 6)), .int (iI (o 7)), .int (iI (o 8)), .int (iI (o 9)), .int (iI (o 10)), .int (iI (o 11)), .long nm, .ref 533, .ref 534, .ref 535, .ref 536, .ref 537, .ref 538, .ref 539, .ref 540, .ref 541, .ref 542, .ref 543, .ref 544, .ref 545, .ref 546, .ref 547, .int (iI (o 28)), .int (iI (o 29)), .int (iI (o 30)), .int (iI (o 31)), .int (iI (o 32)), .int (iI (o 33)), .ref 548, .ref 549, .ref 550, .ref 551, .int (iI (o 38)), .ref 552, .ref 553, .ref 554, .ref 555, .ref 556, .ref 557, .ref 558, .ref 559, .ref 560, .ref 561, .int (iI (o 49)), .ref 562, .ref 563, .ref 564, .ref 565, .ref 566, .ref 567, .ref 568, .ref 569, .int (iI (o 58)), .ref 570, .ref 571, .ref 572, .ref 573, .ref 574, .ref 575, .ref 576, .ref 577, .ref 578, .int (iI (o 68)), .int (iI (o 69)), .int (iI (o 70)), .ref 579]) rfl (pc' := 13) rfl (fun S916 h917 n918 e919 => ?_)
    refine T_p xr_139_13 xn_139 (pc' := 14) (ls' := [(0, .ref 530), (1, .int (iI k)), (2, .int (iI pp))]) (st' := [.ref 530]) rfl ?_
    refine T_p xr_139_14 xn_139 (pc' := 15) (ls' := [(0, .ref 530), (1, .int (iI k)), (2, .int (iI pp))]) (st' := [.int (iI pp), .ref 530]) rfl ?_
    refine T_put xr_139_15 h917 rfl (Nat.le_of_ble_eq_true rfl) rfl (fs' := [.ref 531, .int (iI (o 1)), .ref 532, .int (iI (o 3)), .int (iI (o 4)), .int (iI k), .int (iI pp), .int (iI (o 7)), .int (iI (o 8)), .int (iI (o 9)), .int (iI (o 10)), .int (iI (o 11)), .long nm, .ref 533, .ref 534, .ref 535, .ref 536, .ref 537, .ref 538, .ref 539, .ref 540, .ref 541, .ref 542, .ref 543, .ref 544, .ref 545, .ref 546, .ref 547, .int (iI (o 28)), .int (iI (o 29)), .int (iI (o 30)), .int (iI (o 31)), .int (iI (o 32)), .int (iI (o 33)), .ref 548, .ref 549, .ref 550, .ref 551, .int (iI (o 38)), .ref 552, .ref 553, .ref 554, .ref 555, .ref 556, .ref 557, .ref 558, .ref 559, .ref 560, .ref 561, .int (iI (o 49)), .ref 562, .ref 563, .ref 564, .ref 565, .ref 566, .ref 567, .ref 568, .ref 569, .int (iI (o 58)), .ref 570, .ref 571, .ref 572, .ref 573, .ref 574, .ref 575, .ref 576, .ref 577, .ref 578, .int (iI (o 68)), .int (iI (o 69)), .int (iI (o 70)), .ref 579]) rfl (pc' := 18) rfl (fun S920 h921 n922 e923 => ?_)
    refine T_vret xr_139_18 xf_139.2.2 ?_
    refine hQ _ _ ?_
    exact ⟨k, pp, rfl, ⟨fun _ => by omega, fun _ => by omega⟩, h921, ((X_Fr.rf).tr (X_Fr.of n918 e919 (by first | decide | exact ⟨Nat.le_add_right _ _, Nat.add_le_add_left (by decide) _⟩ | omega))).tr (X_Fr.of n922 e923 (by first | decide | exact ⟨Nat.le_add_right _ _, Nat.add_le_add_left (by decide) _⟩ | omega))⟩
  · skip
    have c915 : ¬ ((o 5) ≤ 0) := c915
    refine T_vret xr_139_7 xf_139.2.2 ?_
    refine hQ _ _ ?_
    exact ⟨o 5, o 6, rfl, ⟨fun _ => by omega, fun _ => by omega⟩, hM, X_Fr.rf⟩
theorem r_isGood (sc : X_Sc) (S : X_S) (o : Nat → Int) (nm : Int64) (hM : M_o S o nm) (h5 : 0 ≤ o 5 ∧ o 5 ≤ 5) : X_T sc 140 (0, [(0, .ref 530)], [], S) (fun v S' => v = some (.int (iI (bI (o 5 = 0)))) ∧ S' = S) := by
  refine X_QI (fun Q hQ => ?_)
  refine T_p xr_140_0 xn_140 (pc' := 1) (ls' := [(0, .ref 530)]) (st' := [.ref 530]) rfl ?_
  refine T_get xr_140_1 hM rfl (v := .int (iI (o 5))) rfl (pc' := 4) rfl ?_
  refine T_zif_ne xr_140_4 (t := 11) (pc' := 7) rfl rfl (fun c924 => ?_) (fun c924 => ?_)
  · skip
    have c924 : ¬ (o 5) = 0 := c924
    refine T_p xr_140_11 xn_140 (pc' := 12) (ls' := [(0, .ref 530)]) (st' := [.int (iI 0)]) rfl ?_
    refine T_iret xr_140_12 xf_140.2.2 (by decide) ?_
    refine hQ _ _ ?_
    exact ⟨by rw [bI_f (by omega)], rfl⟩
  · skip
    have c924 : ¬ (¬ (o 5) = 0) := c924
    refine T_p xr_140_7 xn_140 (pc' := 8) (ls' := [(0, .ref 530)]) (st' := [.int (iI 1)]) rfl ?_
    refine T_p xr_140_8 xn_140 (pc' := 12) (ls' := [(0, .ref 530)]) (st' := [.int (iI 1)]) rfl ?_
    refine T_iret xr_140_12 xf_140.2.2 (by decide) ?_
    refine hQ _ _ ?_
    exact ⟨by rw [bI_t (by omega)], rfl⟩
theorem r_is (sc : X_Sc) (S : X_S) (o : Nat → Int) (nm : Int64) (tx : Int → Int) (tb : Int → Int) (len : Int) (n : Int) (so : Int → Int) (pl : Int → Int) (ct : Int → Int64) (E : Int → Int) (c : Int) (s : Int) (hM : M_o S o nm) (hA532 : S.1 532 = .inl (.byte, 2000, .inl fun k : Nat => iI (tx (k : Int)))) (hlen : o 3 = len) (hl : 0 ≤ len ∧ len ≤ 2000) (htx : ∀ k, 0 ≤ k → k < len → tx k = tb k) (hX : X_TxE tb len n so pl ct E) (hT : R_tk n so pl ct E c (o 7) (o 8) (o 9) (o 10) (o 11) nm) (hs : 37 ≤ s ∧ s ≤ 95) : X_T sc 145 (0, [(0, .ref 530), (1, .int (iI s))], [], S) (fun v S' => v = some (.int (iI (bI (so c = s)))) ∧ S' = S) := by
  obtain ⟨⟨hc0, hcn⟩, ⟨hs0, hs1⟩, hk0, ⟨ha0, ha1⟩, hk0e, ⟨_, _⟩, ⟨_, _⟩⟩ := R_tk_f hX hT
  have hn2 := hX.2.1
  refine X_QI (fun Q hQ => ?_)
  refine T_p xr_145_0 xn_145 (pc' := 1) (ls' := [(0, .ref 530), (1, .int (iI s))]) (st' := [.ref 530]) rfl ?_
  refine T_get xr_145_1 hM rfl (v := .int (iI (o 9))) rfl (pc' := 4) rfl ?_
  refine T_p xr_145_4 xn_145 (pc' := 6) (ls' := [(0, .ref 530), (1, .int (iI s))]) (st' := [.int (iI 6), .int (iI (o 9))]) rfl ?_
  refine T_zicmp_ne xr_145_6 (t := 25) (pc' := 9) rfl rfl (fun c925 => ?_) (fun c925 => ?_)
  · skip
    have c925 : ¬ (o 9) = 6 := c925
    refine T_p xr_145_25 xn_145 (pc' := 26) (ls' := [(0, .ref 530), (1, .int (iI s))]) (st' := [.int (iI 0)]) rfl ?_
    refine T_iret xr_145_26 xf_145.2.2 (by decide) ?_
    refine hQ _ _ ?_
    exact ⟨by rw [bI_f (by omega)], rfl⟩
  · skip
    have c925 : ¬ (¬ (o 9) = 6) := c925
    have hs7 := R_tk_s hX ⟨hc0, hcn⟩ (by omega)
    have hpl := hT.2.1
    rw [← hpl] at hs7
    refine T_p xr_145_9 xn_145 (pc' := 10) (ls' := [(0, .ref 530), (1, .int (iI s))]) (st' := [.ref 530]) rfl ?_
    refine T_p xr_145_10 xn_145 (pc' := 11) (ls' := [(0, .ref 530), (1, .int (iI s))]) (st' := [.ref 530, .ref 530]) rfl ?_
    refine T_get xr_145_11 hM rfl (v := .int (iI (o 7))) rfl (pc' := 14) rfl ?_
    refine T_cv (S := S) (q := 530) xr_145_14 xf_136.1 xf_136.2.1 xn_136 (as := [.int (iI (o 7))]) (r := []) rfl hM (Nat.le_of_ble_eq_true rfl) (Nat.le_of_ble_eq_true rfl) (pc' := 17) rfl (ls' := [(0, .ref 530), (1, .int (iI (o 7)))]) rfl ?_
    refine T_mono (r_sign sc S o nm tx tb len (o 7) hM hA532 (show (o 3) = len from by first | assumption | omega) hl htx (by omega)) (fun v926 S927 h928 => ?_)
    rcases h928 with ⟨hv929, hf930⟩
    rw [hv929]
    rw [hf930]
    have hg931 := X_sg_r (tb := tb) (len := len) (k := (o 7)) (by omega)
    have hg932 := X_sg_c (tb := tb) (len := len) (k := (o 7))
    show X_T sc 145 (17, [(0, .ref 530), (1, .int (iI s))], [.int (iI (X_sg tb len (o 7)))], S) _
    refine T_p xr_145_17 xn_145 (pc' := 18) (ls' := [(0, .ref 530), (1, .int (iI s))]) (st' := [.int (iI s), .int (iI (X_sg tb len (o 7)))]) rfl ?_
    refine T_zicmp_ne xr_145_18 (t := 25) (pc' := 21) rfl rfl (fun c933 => ?_) (fun c933 => ?_)
    · skip
      have c933 : ¬ (X_sg tb len (o 7)) = s := c933
      refine T_p xr_145_25 xn_145 (pc' := 26) (ls' := [(0, .ref 530), (1, .int (iI s))]) (st' := [.int (iI 0)]) rfl ?_
      refine T_iret xr_145_26 xf_145.2.2 (by decide) ?_
      refine hQ _ _ ?_
      exact ⟨by rw [bI_f (by omega)], rfl⟩
    · skip
      have c933 : ¬ (¬ (X_sg tb len (o 7)) = s) := c933
      refine T_p xr_145_21 xn_145 (pc' := 22) (ls' := [(0, .ref 530), (1, .int (iI s))]) (st' := [.int (iI 1)]) rfl ?_
      refine T_p xr_145_22 xn_145 (pc' := 26) (ls' := [(0, .ref 530), (1, .int (iI s))]) (st' := [.int (iI 1)]) rfl ?_
      refine T_iret xr_145_26 xf_145.2.2 (by decide) ?_
      refine hQ _ _ ?_
      exact ⟨by rw [bI_t (by omega)], rfl⟩
theorem r_isWord (sc : X_Sc) (S : X_S) (o : Nat → Int) (nm : Int64) (tx : Int → Int) (tb : Int → Int) (len : Int) (n : Int) (so : Int → Int) (pl : Int → Int) (ct : Int → Int64) (E : Int → Int) (c : Int) (w : Int64) (hM : M_o S o nm) (hA532 : S.1 532 = .inl (.byte, 2000, .inl fun k : Nat => iI (tx (k : Int)))) (hlen : o 3 = len) (hl : 0 ≤ len ∧ len ≤ 2000) (htx : ∀ k, 0 ≤ k → k < len → tx k = tb k) (hX : X_TxE tb len n so pl ct E) (hT : R_tk n so pl ct E c (o 7) (o 8) (o 9) (o 10) (o 11) nm) : X_T sc 146 (0, [(0, .ref 530), (1, .long w)], [], S) (fun v S' => (v = some (.int (iI (bI (so c = 3 ∧ ct c = w))))) ∧ S' = S) := by
  obtain ⟨⟨hc0, hcn⟩, ⟨hs0, hs1⟩, hk0, ⟨ha0, ha1⟩, hk0e, ⟨_, _⟩, ⟨_, _⟩⟩ := R_tk_f hX hT
  have hn2 := hX.2.1
  refine X_QI (fun Q hQ => ?_)
  refine T_p xr_146_0 xn_146 (pc' := 1) (ls' := [(0, .ref 530), (1, .long w)]) (st' := [.ref 530]) rfl ?_
  refine T_get xr_146_1 hM rfl (v := .int (iI (o 9))) rfl (pc' := 4) rfl ?_
  refine T_p xr_146_4 xn_146 (pc' := 5) (ls' := [(0, .ref 530), (1, .long w)]) (st' := [.int (iI 3), .int (iI (o 9))]) rfl ?_
  refine T_zicmp_ne xr_146_5 (t := 21) (pc' := 8) rfl rfl (fun c934 => ?_) (fun c934 => ?_)
  · skip
    have c934 : ¬ (o 9) = 3 := c934
    refine T_p xr_146_21 xn_146 (pc' := 22) (ls' := [(0, .ref 530), (1, .long w)]) (st' := [.int (iI 0)]) rfl ?_
    refine T_iret xr_146_22 xf_146.2.2 (by decide) ?_
    refine hQ _ _ ?_
    exact ⟨by rw [bI_f (by rintro ⟨h1, h2⟩; rw [← hT.2.2.2.2.1 (by omega)] at h2; first | omega | contradiction)], rfl⟩
  · skip
    have c934 : ¬ (¬ (o 9) = 3) := c934
    refine T_p xr_146_8 xn_146 (pc' := 9) (ls' := [(0, .ref 530), (1, .long w)]) (st' := [.ref 530]) rfl ?_
    refine T_get xr_146_9 hM rfl (v := .long nm) rfl (pc' := 12) rfl ?_
    refine T_p xr_146_12 xn_146 (pc' := 13) (ls' := [(0, .ref 530), (1, .long w)]) (st' := [.long w, .long nm]) rfl ?_
    refine T_lc_ne xr_146_13 xr_146_14 (t := 21) (pc' := 17) rfl rfl (fun c935 => ?_) (fun c935 => ?_)
    · skip
      have c935 : ¬ nm = w := c935
      refine T_p xr_146_21 xn_146 (pc' := 22) (ls' := [(0, .ref 530), (1, .long w)]) (st' := [.int (iI 0)]) rfl ?_
      refine T_iret xr_146_22 xf_146.2.2 (by decide) ?_
      refine hQ _ _ ?_
      exact ⟨by rw [bI_f (by rintro ⟨h1, h2⟩; rw [← hT.2.2.2.2.1 (by omega)] at h2; first | omega | contradiction)], rfl⟩
    · skip
      have c935 : ¬ (¬ nm = w) := c935
      refine T_p xr_146_17 xn_146 (pc' := 18) (ls' := [(0, .ref 530), (1, .long w)]) (st' := [.int (iI 1)]) rfl ?_
      refine T_p xr_146_18 xn_146 (pc' := 22) (ls' := [(0, .ref 530), (1, .long w)]) (st' := [.int (iI 1)]) rfl ?_
      refine T_iret xr_146_22 xf_146.2.2 (by decide) ?_
      refine hQ _ _ ?_
      exact ⟨by rw [bI_t ⟨by omega, by rw [← hT.2.2.2.2.1 (by omega)]; first | assumption | exact Classical.not_not.mp (by assumption)⟩], rfl⟩
theorem r_wrong (sc : X_Sc) (S : X_S) (o : Nat → Int) (nm : Int64) (tx : Int → Int) (tb : Int → Int) (len : Int) (n : Int) (so : Int → Int) (pl : Int → Int) (ct : Int → Int64) (E : Int → Int) (c : Int) (hM : M_o S o nm) (hA532 : S.1 532 = .inl (.byte, 2000, .inl fun k : Nat => iI (tx (k : Int)))) (hlen : o 3 = len) (hl : 0 ≤ len ∧ len ≤ 2000) (htx : ∀ k, 0 ≤ k → k < len → tx k = tb k) (hX : X_TxE tb len n so pl ct E) (hT : R_tk n so pl ct E c (o 7) (o 8) (o 9) (o 10) (o 11) nm) (h5 : 0 ≤ o 5 ∧ o 5 ≤ 5) : X_T sc 147 (0, [(0, .ref 530)], [], S) (fun v S' => ∃ (f1 : Int) (g1 : Int), v = none ∧ (1 ≤ f1 ∧ f1 ≤ 5) ∧ M_o S' (X_ou (X_ou o 5 f1) 6 g1) nm ∧ X_Fr (fun q => q = 530) S S') := by
  obtain ⟨⟨hc0, hcn⟩, ⟨hs0, hs1⟩, hk0, ⟨ha0, ha1⟩, hk0e, ⟨_, _⟩, ⟨_, _⟩⟩ := R_tk_f hX hT
  have hn2 := hX.2.1
  refine X_QI (fun Q hQ => ?_)
  refine T_p xr_147_0 xn_147 (pc' := 1) (ls' := [(0, .ref 530)]) (st' := [.ref 530]) rfl ?_
  refine T_p xr_147_1 xn_147 (pc' := 2) (ls' := [(0, .ref 530)]) (st' := [.ref 530, .ref 530]) rfl ?_
  refine T_get xr_147_2 hM rfl (v := .int (iI (o 9))) rfl (pc' := 5) rfl ?_
  refine T_p xr_147_5 xn_147 (pc' := 6) (ls' := [(0, .ref 530)]) (st' := [.int (iI 1), .int (iI (o 9)), .ref 530]) rfl ?_
  refine T_zicmp_ne xr_147_6 (t := 13) (pc' := 9) rfl rfl (fun c936 => ?_) (fun c936 => ?_)
  · skip
    have c936 : ¬ (o 9) = 1 := c936
    refine T_p xr_147_13 xn_147 (pc' := 14) (ls' := [(0, .ref 530)]) (st' := [.int (iI 2), .ref 530]) rfl ?_
    refine T_p xr_147_14 xn_147 (pc' := 15) (ls' := [(0, .ref 530)]) (st' := [.ref 530, .int (iI 2), .ref 530]) rfl ?_
    refine T_get xr_147_15 hM rfl (v := .int (iI (o 7))) rfl (pc' := 18) rfl ?_
    refine T_cv (S := S) (q := 530) xr_147_18 xf_139.1 xf_139.2.1 xn_139 (as := [.int (iI 2), .int (iI (o 7))]) (r := []) rfl hM (Nat.le_of_ble_eq_true rfl) (Nat.le_of_ble_eq_true rfl) (pc' := 21) rfl (ls' := [(0, .ref 530), (1, .int (iI 2)), (2, .int (iI (o 7)))]) rfl ?_
    refine T_mono (r_fails sc S o nm 2 (o 7) hM (show 0 ≤ (o 5) ∧ (o 5) ≤ 5 from by omega) (by omega)) (fun v937 S938 h939 => ?_)
    rcases h939 with ⟨f940, g941, hv942, hp943, hM944, hf945⟩
    rw [hv942]
    have h946 : S938.1 530 = .inr (11, [.ref 531, .int (iI (o 1)), .ref 532, .int (iI (o 3)), .int (iI (o 4)), .int (iI f940), .int (iI g941), .int (iI (o 7)), .int (iI (o 8)), .int (iI (o 9)), .int (iI (o 10)), .int (iI (o 11)), .long nm, .ref 533, .ref 534, .ref 535, .ref 536, .ref 537, .ref 538, .ref 539, .ref 540, .ref 541, .ref 542, .ref 543, .ref 544, .ref 545, .ref 546, .ref 547, .int (iI (o 28)), .int (iI (o 29)), .int (iI (o 30)), .int (iI (o 31)), .int (iI (o 32)), .int (iI (o 33)), .ref 548, .ref 549, .ref 550, .ref 551, .int (iI (o 38)), .ref 552, .ref 553, .ref 554, .ref 555, .ref 556, .ref 557, .ref 558, .ref 559, .ref 560, .ref 561, .int (iI (o 49)), .ref 562, .ref 563, .ref 564, .ref 565, .ref 566, .ref 567, .ref 568, .ref 569, .int (iI (o 58)), .ref 570, .ref 571, .ref 572, .ref 573, .ref 574, .ref 575, .ref 576, .ref 577, .ref 578, .int (iI (o 68)), .int (iI (o 69)), .int (iI (o 70)), .ref 579]) := hM944
    have hp943 : ((o 5) = 0 → f940 = 2) ∧ (¬ (o 5) = 0 → f940 = (o 5)) := hp943
    show X_T sc 147 (21, [(0, .ref 530)], [], S938) _
    refine T_vret xr_147_21 xf_147.2.2 ?_
    refine hQ _ _ ?_
    exact ⟨f940, g941, rfl, by omega, h946, (X_Fr.rf).tr (X_Fr.mono ⟨hf945.1, hf945.2⟩ (fun q hq => by first | exact hq | (rcases hq with rfl <;> decide) | (rcases hq with rfl | rfl <;> decide) | (rcases hq with rfl | rfl | rfl <;> decide) | (rcases hq with rfl | rfl | rfl | rfl <;> decide) | (rcases hq with rfl | rfl | rfl | rfl | rfl <;> decide) | (rcases hq with rfl | rfl | rfl | rfl | rfl | rfl <;> decide) | (rcases hq with rfl | rfl | rfl | rfl | rfl | rfl | rfl <;> decide) | omega))⟩
  · skip
    have c936 : ¬ (¬ (o 9) = 1) := c936
    refine T_p xr_147_9 xn_147 (pc' := 10) (ls' := [(0, .ref 530)]) (st' := [.int (iI 1), .ref 530]) rfl ?_
    refine T_p xr_147_10 xn_147 (pc' := 14) (ls' := [(0, .ref 530)]) (st' := [.int (iI 1), .ref 530]) rfl ?_
    refine T_p xr_147_14 xn_147 (pc' := 15) (ls' := [(0, .ref 530)]) (st' := [.ref 530, .int (iI 1), .ref 530]) rfl ?_
    refine T_get xr_147_15 hM rfl (v := .int (iI (o 7))) rfl (pc' := 18) rfl ?_
    refine T_cv (S := S) (q := 530) xr_147_18 xf_139.1 xf_139.2.1 xn_139 (as := [.int (iI 1), .int (iI (o 7))]) (r := []) rfl hM (Nat.le_of_ble_eq_true rfl) (Nat.le_of_ble_eq_true rfl) (pc' := 21) rfl (ls' := [(0, .ref 530), (1, .int (iI 1)), (2, .int (iI (o 7)))]) rfl ?_
    refine T_mono (r_fails sc S o nm 1 (o 7) hM (show 0 ≤ (o 5) ∧ (o 5) ≤ 5 from by omega) (by omega)) (fun v947 S948 h949 => ?_)
    rcases h949 with ⟨f950, g951, hv952, hp953, hM954, hf955⟩
    rw [hv952]
    have h956 : S948.1 530 = .inr (11, [.ref 531, .int (iI (o 1)), .ref 532, .int (iI (o 3)), .int (iI (o 4)), .int (iI f950), .int (iI g951), .int (iI (o 7)), .int (iI (o 8)), .int (iI (o 9)), .int (iI (o 10)), .int (iI (o 11)), .long nm, .ref 533, .ref 534, .ref 535, .ref 536, .ref 537, .ref 538, .ref 539, .ref 540, .ref 541, .ref 542, .ref 543, .ref 544, .ref 545, .ref 546, .ref 547, .int (iI (o 28)), .int (iI (o 29)), .int (iI (o 30)), .int (iI (o 31)), .int (iI (o 32)), .int (iI (o 33)), .ref 548, .ref 549, .ref 550, .ref 551, .int (iI (o 38)), .ref 552, .ref 553, .ref 554, .ref 555, .ref 556, .ref 557, .ref 558, .ref 559, .ref 560, .ref 561, .int (iI (o 49)), .ref 562, .ref 563, .ref 564, .ref 565, .ref 566, .ref 567, .ref 568, .ref 569, .int (iI (o 58)), .ref 570, .ref 571, .ref 572, .ref 573, .ref 574, .ref 575, .ref 576, .ref 577, .ref 578, .int (iI (o 68)), .int (iI (o 69)), .int (iI (o 70)), .ref 579]) := hM954
    have hp953 : ((o 5) = 0 → f950 = 1) ∧ (¬ (o 5) = 0 → f950 = (o 5)) := hp953
    show X_T sc 147 (21, [(0, .ref 530)], [], S948) _
    refine T_vret xr_147_21 xf_147.2.2 ?_
    refine hQ _ _ ?_
    exact ⟨f950, g951, rfl, by omega, h956, (X_Fr.rf).tr (X_Fr.mono ⟨hf955.1, hf955.2⟩ (fun q hq => by first | exact hq | (rcases hq with rfl <;> decide) | (rcases hq with rfl | rfl <;> decide) | (rcases hq with rfl | rfl | rfl <;> decide) | (rcases hq with rfl | rfl | rfl | rfl <;> decide) | (rcases hq with rfl | rfl | rfl | rfl | rfl <;> decide) | (rcases hq with rfl | rfl | rfl | rfl | rfl | rfl <;> decide) | (rcases hq with rfl | rfl | rfl | rfl | rfl | rfl | rfl <;> decide) | omega))⟩
theorem r_must (sc : X_Sc) (S : X_S) (o : Nat → Int) (nm : Int64) (tx : Int → Int) (tb : Int → Int) (len : Int) (n : Int) (so : Int → Int) (pl : Int → Int) (ct : Int → Int64) (E : Int → Int) (c : Int) (s : Int) (hM : M_o S o nm) (hA532 : S.1 532 = .inl (.byte, 2000, .inl fun k : Nat => iI (tx (k : Int)))) (hlen : o 3 = len) (hl : 0 ≤ len ∧ len ≤ 2000) (htx : ∀ k, 0 ≤ k → k < len → tx k = tb k) (hX : X_TxE tb len n so pl ct E) (hT : R_tk n so pl ct E c (o 7) (o 8) (o 9) (o 10) (o 11) nm) (h5 : o 5 = 0) (hs : 37 ≤ s ∧ s ≤ 95) : X_T sc 148 (0, [(0, .ref 530), (1, .int (iI s))], [], S) (fun v S' => (∃ (at1 : Int) (en1 : Int) (tk1 : Int) (nu1 : Int) (dg1 : Int) (nm1 : Int64), v = none ∧ R_tk n so pl ct E (X_av n c) at1 en1 tk1 nu1 dg1 nm1 ∧ so c = s ∧ M_o S' (X_ou (X_ou (X_ou (X_ou (X_ou o 7 at1) 8 en1) 9 tk1) 10 nu1) 11 dg1) nm1 ∧ X_Fr (fun q => q = 530) S S') ∨ (∃ (f1 : Int) (g1 : Int), v = none ∧ (1 ≤ f1 ∧ f1 ≤ 5) ∧ ¬ so c = s ∧ M_o S' (X_ou (X_ou o 5 f1) 6 g1) nm ∧ X_Fr (fun q => q = 530) S S')) := by
  obtain ⟨⟨hc0, hcn⟩, ⟨hs0, hs1⟩, hk0, ⟨ha0, ha1⟩, hk0e, ⟨_, _⟩, ⟨_, _⟩⟩ := R_tk_f hX hT
  have hn2 := hX.2.1
  refine X_QI (fun Q hQ => ?_)
  refine T_p xr_148_0 xn_148 (pc' := 1) (ls' := [(0, .ref 530), (1, .int (iI s))]) (st' := [.ref 530]) rfl ?_
  refine T_p xr_148_1 xn_148 (pc' := 2) (ls' := [(0, .ref 530), (1, .int (iI s))]) (st' := [.int (iI s), .ref 530]) rfl ?_
  refine T_cv (S := S) (q := 530) xr_148_2 xf_145.1 xf_145.2.1 xn_145 (as := [.int (iI s)]) (r := []) rfl hM (Nat.le_of_ble_eq_true rfl) (Nat.le_of_ble_eq_true rfl) (pc' := 5) rfl (ls' := [(0, .ref 530), (1, .int (iI s))]) rfl ?_
  refine T_mono (r_is sc S o nm tx tb len n so pl ct E c s hM hA532 (show (o 3) = len from by first | assumption | omega) hl htx hX hT (by omega)) (fun v957 S958 h959 => ?_)
  rcases h959 with ⟨hv960, hf961⟩
  rw [hv960]
  rw [hf961]
  show X_T sc 148 (5, [(0, .ref 530), (1, .int (iI s))], [.int (iI (bI (so c = s)))], S) _
  refine T_bif_eq xr_148_5 (t := 15) (pc' := 8) rfl rfl (fun c962 => ?_) (fun c962 => ?_)
  · skip
    have c962 : ¬ (so c = s) := c962
    refine T_p xr_148_15 xn_148 (pc' := 16) (ls' := [(0, .ref 530), (1, .int (iI s))]) (st' := [.ref 530]) rfl ?_
    refine T_cv (S := S) (q := 530) xr_148_16 xf_147.1 xf_147.2.1 xn_147 (as := []) (r := []) rfl hM (Nat.le_of_ble_eq_true rfl) (Nat.le_of_ble_eq_true rfl) (pc' := 19) rfl (ls' := [(0, .ref 530)]) rfl ?_
    refine T_mono (r_wrong sc S o nm tx tb len n so pl ct E c hM hA532 (show (o 3) = len from by first | assumption | omega) hl htx hX hT (show 0 ≤ (o 5) ∧ (o 5) ≤ 5 from by omega)) (fun v963 S964 h965 => ?_)
    rcases h965 with ⟨f966, g967, hv968, hp969, hM970, hf971⟩
    rw [hv968]
    have h972 : S964.1 530 = .inr (11, [.ref 531, .int (iI (o 1)), .ref 532, .int (iI (o 3)), .int (iI (o 4)), .int (iI f966), .int (iI g967), .int (iI (o 7)), .int (iI (o 8)), .int (iI (o 9)), .int (iI (o 10)), .int (iI (o 11)), .long nm, .ref 533, .ref 534, .ref 535, .ref 536, .ref 537, .ref 538, .ref 539, .ref 540, .ref 541, .ref 542, .ref 543, .ref 544, .ref 545, .ref 546, .ref 547, .int (iI (o 28)), .int (iI (o 29)), .int (iI (o 30)), .int (iI (o 31)), .int (iI (o 32)), .int (iI (o 33)), .ref 548, .ref 549, .ref 550, .ref 551, .int (iI (o 38)), .ref 552, .ref 553, .ref 554, .ref 555, .ref 556, .ref 557, .ref 558, .ref 559, .ref 560, .ref 561, .int (iI (o 49)), .ref 562, .ref 563, .ref 564, .ref 565, .ref 566, .ref 567, .ref 568, .ref 569, .int (iI (o 58)), .ref 570, .ref 571, .ref 572, .ref 573, .ref 574, .ref 575, .ref 576, .ref 577, .ref 578, .int (iI (o 68)), .int (iI (o 69)), .int (iI (o 70)), .ref 579]) := hM970
    show X_T sc 148 (19, [(0, .ref 530), (1, .int (iI s))], [], S964) _
    refine T_vret xr_148_19 xf_148.2.2 ?_
    refine hQ _ _ ?_
    exact Or.inr ⟨f966, g967, rfl, by omega, by assumption, h972, (X_Fr.rf).tr (X_Fr.mono ⟨hf971.1, hf971.2⟩ (fun q hq => by first | exact hq | (rcases hq with rfl <;> decide) | (rcases hq with rfl | rfl <;> decide) | (rcases hq with rfl | rfl | rfl <;> decide) | (rcases hq with rfl | rfl | rfl | rfl <;> decide) | (rcases hq with rfl | rfl | rfl | rfl | rfl <;> decide) | (rcases hq with rfl | rfl | rfl | rfl | rfl | rfl <;> decide) | (rcases hq with rfl | rfl | rfl | rfl | rfl | rfl | rfl <;> decide) | omega))⟩
  · skip
    have c962 : (so c = s) := c962
    refine T_p xr_148_8 xn_148 (pc' := 9) (ls' := [(0, .ref 530), (1, .int (iI s))]) (st' := [.ref 530]) rfl ?_
    refine T_cv (S := S) (q := 530) xr_148_9 xf_141.1 xf_141.2.1 xn_141 (as := []) (r := []) rfl hM (Nat.le_of_ble_eq_true rfl) (Nat.le_of_ble_eq_true rfl) (pc' := 12) rfl (ls' := [(0, .ref 530)]) rfl ?_
    refine T_mono (r_nx sc S o nm tx tb len n so pl ct E c hM hA532 (show (o 3) = len from by first | assumption | omega) hl htx hX hT (by omega)) (fun v973 S974 h975 => ?_)
    rcases h975 with ⟨at976, en977, tk978, nu979, dg980, nm981, hv982, hp983, hM984, hf985⟩
    rw [hv982]
    have h986 : S974.1 530 = .inr (11, [.ref 531, .int (iI (o 1)), .ref 532, .int (iI (o 3)), .int (iI (o 4)), .int (iI (o 5)), .int (iI (o 6)), .int (iI at976), .int (iI en977), .int (iI tk978), .int (iI nu979), .int (iI dg980), .long nm981, .ref 533, .ref 534, .ref 535, .ref 536, .ref 537, .ref 538, .ref 539, .ref 540, .ref 541, .ref 542, .ref 543, .ref 544, .ref 545, .ref 546, .ref 547, .int (iI (o 28)), .int (iI (o 29)), .int (iI (o 30)), .int (iI (o 31)), .int (iI (o 32)), .int (iI (o 33)), .ref 548, .ref 549, .ref 550, .ref 551, .int (iI (o 38)), .ref 552, .ref 553, .ref 554, .ref 555, .ref 556, .ref 557, .ref 558, .ref 559, .ref 560, .ref 561, .int (iI (o 49)), .ref 562, .ref 563, .ref 564, .ref 565, .ref 566, .ref 567, .ref 568, .ref 569, .int (iI (o 58)), .ref 570, .ref 571, .ref 572, .ref 573, .ref 574, .ref 575, .ref 576, .ref 577, .ref 578, .int (iI (o 68)), .int (iI (o 69)), .int (iI (o 70)), .ref 579]) := hM984
    obtain ⟨⟨_, _⟩, ⟨_, _⟩, hk987, ⟨_, _⟩, hk987e, ⟨_, _⟩, ⟨_, _⟩⟩ := R_tk_f hX hp983
    show X_T sc 148 (12, [(0, .ref 530), (1, .int (iI s))], [], S974) _
    refine T_p xr_148_12 xn_148 (pc' := 19) (ls' := [(0, .ref 530), (1, .int (iI s))]) (st' := []) rfl ?_
    refine T_vret xr_148_19 xf_148.2.2 ?_
    refine hQ _ _ ?_
    exact Or.inl ⟨at976, en977, tk978, nu979, dg980, nm981, rfl, hp983, by assumption, h986, (X_Fr.rf).tr (X_Fr.mono ⟨hf985.1, hf985.2⟩ (fun q hq => by first | exact hq | (rcases hq with rfl <;> decide) | (rcases hq with rfl | rfl <;> decide) | (rcases hq with rfl | rfl | rfl <;> decide) | (rcases hq with rfl | rfl | rfl | rfl <;> decide) | (rcases hq with rfl | rfl | rfl | rfl | rfl <;> decide) | (rcases hq with rfl | rfl | rfl | rfl | rfl | rfl <;> decide) | (rcases hq with rfl | rfl | rfl | rfl | rfl | rfl | rfl <;> decide) | omega))⟩
end
section
theorem xr_149_0 : X_row 149 0 = some (0, (.iconst 0, 1), (0, 0, 0)) := by decide +kernel
theorem xr_149_1 : X_row 149 1 = some (1, (.istore_n 3, 1), (0, 0, 0)) := by decide +kernel
theorem xr_149_2 : X_row 149 2 = some (2, (.iload_n 3, 1), (0, 0, 0)) := by decide +kernel
theorem xr_149_3 : X_row 149 3 = some (3, (.aload_n 0, 1), (0, 0, 0)) := by decide +kernel
theorem xr_149_4 : X_row 149 4 = some (4, (.getfield 84, 3), (11, 28, 56)) := by decide +kernel
theorem xr_149_7 : X_row 149 7 = some (7, (.if_icmp .ge 30, 3), (0, 0, 0)) := by decide +kernel
theorem xr_149_10 : X_row 149 10 = some (10, (.aload_n 0, 1), (0, 0, 0)) := by decide +kernel
theorem xr_149_11 : X_row 149 11 = some (11, (.getfield 87, 3), (11, 13, 26)) := by decide +kernel
theorem xr_149_14 : X_row 149 14 = some (14, (.bipush 12, 2), (0, 0, 0)) := by decide +kernel
theorem xr_149_16 : X_row 149 16 = some (16, (.aload_n 0, 1), (0, 0, 0)) := by decide +kernel
theorem xr_149_17 : X_row 149 17 = some (17, (.getfield 91, 3), (11, 4, 8)) := by decide +kernel
theorem xr_149_20 : X_row 149 20 = some (20, (.imul, 1), (0, 0, 0)) := by decide +kernel
theorem xr_149_21 : X_row 149 21 = some (21, (.iload_n 3, 1), (0, 0, 0)) := by decide +kernel
theorem xr_149_22 : X_row 149 22 = some (22, (.iadd, 1), (0, 0, 0)) := by decide +kernel
theorem xr_149_23 : X_row 149 23 = some (23, (.laload, 1), (0, 0, 0)) := by decide +kernel
theorem xr_149_24 : X_row 149 24 = some (24, (.lload_n 1, 1), (0, 0, 0)) := by decide +kernel
theorem xr_149_25 : X_row 149 25 = some (25, (.lcmp, 1), (0, 0, 0)) := by decide +kernel
theorem xr_149_26 : X_row 149 26 = some (26, (.ifCond .ne 5, 3), (0, 0, 0)) := by decide +kernel
theorem xr_149_29 : X_row 149 29 = some (29, (.iload_n 3, 1), (0, 0, 0)) := by decide +kernel
theorem xr_149_30 : X_row 149 30 = some (30, (.ireturn, 1), (0, 0, 0)) := by decide +kernel
theorem xr_149_31 : X_row 149 31 = some (31, (.iinc 3 1, 3), (0, 0, 0)) := by decide +kernel
theorem xr_149_34 : X_row 149 34 = some (34, (.goto (-32), 3), (0, 0, 0)) := by decide +kernel
theorem xr_149_37 : X_row 149 37 = some (37, (.iconst (-1), 1), (0, 0, 0)) := by decide +kernel
theorem xr_149_38 : X_row 149 38 = some (38, (.ireturn, 1), (0, 0, 0)) := by decide +kernel
theorem xr_150_0 : X_row 150 0 = some (0, (.iconst 0, 1), (0, 0, 0)) := by decide +kernel
theorem xr_150_1 : X_row 150 1 = some (1, (.istore_n 3, 1), (0, 0, 0)) := by decide +kernel
theorem xr_150_2 : X_row 150 2 = some (2, (.iload_n 3, 1), (0, 0, 0)) := by decide +kernel
theorem xr_150_3 : X_row 150 3 = some (3, (.aload_n 0, 1), (0, 0, 0)) := by decide +kernel
theorem xr_150_4 : X_row 150 4 = some (4, (.getfield 94, 3), (11, 29, 58)) := by decide +kernel
theorem xr_150_7 : X_row 150 7 = some (7, (.if_icmp .ge 30, 3), (0, 0, 0)) := by decide +kernel
theorem xr_150_10 : X_row 150 10 = some (10, (.aload_n 0, 1), (0, 0, 0)) := by decide +kernel
theorem xr_150_11 : X_row 150 11 = some (11, (.getfield 97, 3), (11, 14, 28)) := by decide +kernel
theorem xr_150_14 : X_row 150 14 = some (14, (.bipush 11, 2), (0, 0, 0)) := by decide +kernel
theorem xr_150_16 : X_row 150 16 = some (16, (.aload_n 0, 1), (0, 0, 0)) := by decide +kernel
theorem xr_150_17 : X_row 150 17 = some (17, (.getfield 91, 3), (11, 4, 8)) := by decide +kernel
theorem xr_150_20 : X_row 150 20 = some (20, (.imul, 1), (0, 0, 0)) := by decide +kernel
theorem xr_150_21 : X_row 150 21 = some (21, (.iload_n 3, 1), (0, 0, 0)) := by decide +kernel
theorem xr_150_22 : X_row 150 22 = some (22, (.iadd, 1), (0, 0, 0)) := by decide +kernel
theorem xr_150_23 : X_row 150 23 = some (23, (.laload, 1), (0, 0, 0)) := by decide +kernel
theorem xr_150_24 : X_row 150 24 = some (24, (.lload_n 1, 1), (0, 0, 0)) := by decide +kernel
theorem xr_150_25 : X_row 150 25 = some (25, (.lcmp, 1), (0, 0, 0)) := by decide +kernel
theorem xr_150_26 : X_row 150 26 = some (26, (.ifCond .ne 5, 3), (0, 0, 0)) := by decide +kernel
theorem xr_150_29 : X_row 150 29 = some (29, (.iload_n 3, 1), (0, 0, 0)) := by decide +kernel
theorem xr_150_30 : X_row 150 30 = some (30, (.ireturn, 1), (0, 0, 0)) := by decide +kernel
theorem xr_150_31 : X_row 150 31 = some (31, (.iinc 3 1, 3), (0, 0, 0)) := by decide +kernel
theorem xr_150_34 : X_row 150 34 = some (34, (.goto (-32), 3), (0, 0, 0)) := by decide +kernel
theorem xr_150_37 : X_row 150 37 = some (37, (.iconst (-1), 1), (0, 0, 0)) := by decide +kernel
theorem xr_150_38 : X_row 150 38 = some (38, (.ireturn, 1), (0, 0, 0)) := by decide +kernel
theorem xr_151_0 : X_row 151 0 = some (0, (.aload_n 0, 1), (0, 0, 0)) := by decide +kernel
theorem xr_151_1 : X_row 151 1 = some (1, (.getfield 27, 3), (11, 9, 18)) := by decide +kernel
theorem xr_151_4 : X_row 151 4 = some (4, (.iconst 2, 1), (0, 0, 0)) := by decide +kernel
theorem xr_151_5 : X_row 151 5 = some (5, (.if_icmp .eq 7, 3), (0, 0, 0)) := by decide +kernel
theorem xr_151_8 : X_row 151 8 = some (8, (.aload_n 0, 1), (0, 0, 0)) := by decide +kernel
theorem xr_151_9 : X_row 151 9 = some (9, (.invokevirtual 81, 3), (147, 16, 0)) := by decide +kernel
theorem xr_151_12 : X_row 151 12 = some (12, (.aload_n 0, 1), (0, 0, 0)) := by decide +kernel
theorem xr_151_13 : X_row 151 13 = some (13, (.invokevirtual 100, 3), (140, 14, 0)) := by decide +kernel
theorem xr_151_16 : X_row 151 16 = some (16, (.ifCond .eq 14, 3), (0, 0, 0)) := by decide +kernel
theorem xr_151_19 : X_row 151 19 = some (19, (.aload_n 0, 1), (0, 0, 0)) := by decide +kernel
theorem xr_151_20 : X_row 151 20 = some (20, (.aload_n 0, 1), (0, 0, 0)) := by decide +kernel
theorem xr_151_21 : X_row 151 21 = some (21, (.getfield 41, 3), (11, 12, 24)) := by decide +kernel
theorem xr_151_24 : X_row 151 24 = some (24, (.invokevirtual 104, 3), (149, 22, 0)) := by decide +kernel
theorem xr_151_27 : X_row 151 27 = some (27, (.goto 4, 3), (0, 0, 0)) := by decide +kernel
theorem xr_151_30 : X_row 151 30 = some (30, (.iconst 0, 1), (0, 0, 0)) := by decide +kernel
theorem xr_151_31 : X_row 151 31 = some (31, (.istore_n 1, 1), (0, 0, 0)) := by decide +kernel
theorem xr_151_32 : X_row 151 32 = some (32, (.aload_n 0, 1), (0, 0, 0)) := by decide +kernel
theorem xr_151_33 : X_row 151 33 = some (33, (.invokevirtual 100, 3), (140, 14, 0)) := by decide +kernel
theorem xr_151_36 : X_row 151 36 = some (36, (.ifCond .eq 16, 3), (0, 0, 0)) := by decide +kernel
theorem xr_151_39 : X_row 151 39 = some (39, (.iload_n 1, 1), (0, 0, 0)) := by decide +kernel
theorem xr_151_40 : X_row 151 40 = some (40, (.ifCond .ge 12, 3), (0, 0, 0)) := by decide +kernel
theorem xr_151_43 : X_row 151 43 = some (43, (.aload_n 0, 1), (0, 0, 0)) := by decide +kernel
theorem xr_151_44 : X_row 151 44 = some (44, (.iconst 3, 1), (0, 0, 0)) := by decide +kernel
theorem xr_151_45 : X_row 151 45 = some (45, (.aload_n 0, 1), (0, 0, 0)) := by decide +kernel
theorem xr_151_46 : X_row 151 46 = some (46, (.getfield 20, 3), (11, 7, 14)) := by decide +kernel
theorem xr_151_49 : X_row 151 49 = some (49, (.invokevirtual 72, 3), (139, 18, 0)) := by decide +kernel
theorem xr_151_52 : X_row 151 52 = some (52, (.aload_n 0, 1), (0, 0, 0)) := by decide +kernel
theorem xr_151_53 : X_row 151 53 = some (53, (.invokevirtual 100, 3), (140, 14, 0)) := by decide +kernel
theorem xr_151_56 : X_row 151 56 = some (56, (.ifCond .eq 7, 3), (0, 0, 0)) := by decide +kernel
theorem xr_151_59 : X_row 151 59 = some (59, (.aload_n 0, 1), (0, 0, 0)) := by decide +kernel
theorem xr_151_60 : X_row 151 60 = some (60, (.invokevirtual 78, 3), (141, 0, 0)) := by decide +kernel
theorem xr_151_63 : X_row 151 63 = some (63, (.iload_n 1, 1), (0, 0, 0)) := by decide +kernel
theorem xr_151_64 : X_row 151 64 = some (64, (.ireturn, 1), (0, 0, 0)) := by decide +kernel
theorem xr_152_0 : X_row 152 0 = some (0, (.aload_n 0, 1), (0, 0, 0)) := by decide +kernel
theorem xr_152_1 : X_row 152 1 = some (1, (.getfield 27, 3), (11, 9, 18)) := by decide +kernel
theorem xr_152_4 : X_row 152 4 = some (4, (.iconst 2, 1), (0, 0, 0)) := by decide +kernel
theorem xr_152_5 : X_row 152 5 = some (5, (.if_icmp .eq 7, 3), (0, 0, 0)) := by decide +kernel
theorem xr_152_8 : X_row 152 8 = some (8, (.aload_n 0, 1), (0, 0, 0)) := by decide +kernel
theorem xr_152_9 : X_row 152 9 = some (9, (.invokevirtual 81, 3), (147, 16, 0)) := by decide +kernel
theorem xr_152_12 : X_row 152 12 = some (12, (.aload_n 0, 1), (0, 0, 0)) := by decide +kernel
theorem xr_152_13 : X_row 152 13 = some (13, (.invokevirtual 100, 3), (140, 14, 0)) := by decide +kernel
theorem xr_152_16 : X_row 152 16 = some (16, (.ifCond .eq 14, 3), (0, 0, 0)) := by decide +kernel
theorem xr_152_19 : X_row 152 19 = some (19, (.aload_n 0, 1), (0, 0, 0)) := by decide +kernel
theorem xr_152_20 : X_row 152 20 = some (20, (.aload_n 0, 1), (0, 0, 0)) := by decide +kernel
theorem xr_152_21 : X_row 152 21 = some (21, (.getfield 41, 3), (11, 12, 24)) := by decide +kernel
theorem xr_152_24 : X_row 152 24 = some (24, (.invokevirtual 108, 3), (150, 36, 0)) := by decide +kernel
theorem xr_152_27 : X_row 152 27 = some (27, (.goto 4, 3), (0, 0, 0)) := by decide +kernel
theorem xr_152_30 : X_row 152 30 = some (30, (.iconst 0, 1), (0, 0, 0)) := by decide +kernel
theorem xr_152_31 : X_row 152 31 = some (31, (.istore_n 1, 1), (0, 0, 0)) := by decide +kernel
theorem xr_152_32 : X_row 152 32 = some (32, (.aload_n 0, 1), (0, 0, 0)) := by decide +kernel
theorem xr_152_33 : X_row 152 33 = some (33, (.invokevirtual 100, 3), (140, 14, 0)) := by decide +kernel
theorem xr_152_36 : X_row 152 36 = some (36, (.ifCond .eq 16, 3), (0, 0, 0)) := by decide +kernel
theorem xr_152_39 : X_row 152 39 = some (39, (.iload_n 1, 1), (0, 0, 0)) := by decide +kernel
theorem xr_152_40 : X_row 152 40 = some (40, (.ifCond .ge 12, 3), (0, 0, 0)) := by decide +kernel
theorem xr_152_43 : X_row 152 43 = some (43, (.aload_n 0, 1), (0, 0, 0)) := by decide +kernel
theorem xr_152_44 : X_row 152 44 = some (44, (.iconst 3, 1), (0, 0, 0)) := by decide +kernel
theorem xr_152_45 : X_row 152 45 = some (45, (.aload_n 0, 1), (0, 0, 0)) := by decide +kernel
theorem xr_152_46 : X_row 152 46 = some (46, (.getfield 20, 3), (11, 7, 14)) := by decide +kernel
theorem xr_152_49 : X_row 152 49 = some (49, (.invokevirtual 72, 3), (139, 18, 0)) := by decide +kernel
theorem xr_152_52 : X_row 152 52 = some (52, (.aload_n 0, 1), (0, 0, 0)) := by decide +kernel
theorem xr_152_53 : X_row 152 53 = some (53, (.invokevirtual 100, 3), (140, 14, 0)) := by decide +kernel
theorem xr_152_56 : X_row 152 56 = some (56, (.ifCond .eq 7, 3), (0, 0, 0)) := by decide +kernel
theorem xr_152_59 : X_row 152 59 = some (59, (.aload_n 0, 1), (0, 0, 0)) := by decide +kernel
theorem xr_152_60 : X_row 152 60 = some (60, (.invokevirtual 78, 3), (141, 0, 0)) := by decide +kernel
theorem xr_152_63 : X_row 152 63 = some (63, (.iload_n 1, 1), (0, 0, 0)) := by decide +kernel
theorem xr_152_64 : X_row 152 64 = some (64, (.ireturn, 1), (0, 0, 0)) := by decide +kernel
theorem xr_153_0 : X_row 153 0 = some (0, (.aload_n 0, 1), (0, 0, 0)) := by decide +kernel
theorem xr_153_1 : X_row 153 1 = some (1, (.getfield 27, 3), (11, 9, 18)) := by decide +kernel
theorem xr_153_4 : X_row 153 4 = some (4, (.iconst 2, 1), (0, 0, 0)) := by decide +kernel
theorem xr_153_5 : X_row 153 5 = some (5, (.if_icmp .eq 7, 3), (0, 0, 0)) := by decide +kernel
theorem xr_153_8 : X_row 153 8 = some (8, (.aload_n 0, 1), (0, 0, 0)) := by decide +kernel
theorem xr_153_9 : X_row 153 9 = some (9, (.invokevirtual 81, 3), (147, 16, 0)) := by decide +kernel
theorem xr_153_12 : X_row 153 12 = some (12, (.aload_n 0, 1), (0, 0, 0)) := by decide +kernel
theorem xr_153_13 : X_row 153 13 = some (13, (.invokevirtual 100, 3), (140, 14, 0)) := by decide +kernel
theorem xr_153_16 : X_row 153 16 = some (16, (.ifCond .eq 23, 3), (0, 0, 0)) := by decide +kernel
theorem xr_153_19 : X_row 153 19 = some (19, (.aload_n 0, 1), (0, 0, 0)) := by decide +kernel
theorem xr_153_20 : X_row 153 20 = some (20, (.aload_n 0, 1), (0, 0, 0)) := by decide +kernel
theorem xr_153_21 : X_row 153 21 = some (21, (.getfield 41, 3), (11, 12, 24)) := by decide +kernel
theorem xr_153_24 : X_row 153 24 = some (24, (.invokevirtual 104, 3), (149, 22, 0)) := by decide +kernel
theorem xr_153_27 : X_row 153 27 = some (27, (.ifCond .lt 12, 3), (0, 0, 0)) := by decide +kernel
theorem xr_153_30 : X_row 153 30 = some (30, (.aload_n 0, 1), (0, 0, 0)) := by decide +kernel
theorem xr_153_31 : X_row 153 31 = some (31, (.iconst 3, 1), (0, 0, 0)) := by decide +kernel
theorem xr_153_32 : X_row 153 32 = some (32, (.aload_n 0, 1), (0, 0, 0)) := by decide +kernel
theorem xr_153_33 : X_row 153 33 = some (33, (.getfield 20, 3), (11, 7, 14)) := by decide +kernel
theorem xr_153_36 : X_row 153 36 = some (36, (.invokevirtual 72, 3), (139, 18, 0)) := by decide +kernel
theorem xr_153_39 : X_row 153 39 = some (39, (.aload_n 0, 1), (0, 0, 0)) := by decide +kernel
theorem xr_153_40 : X_row 153 40 = some (40, (.invokevirtual 100, 3), (140, 14, 0)) := by decide +kernel
theorem xr_153_43 : X_row 153 43 = some (43, (.ifCond .ne 4, 3), (0, 0, 0)) := by decide +kernel
theorem xr_153_46 : X_row 153 46 = some (46, (.return_, 1), (0, 0, 0)) := by decide +kernel
theorem xr_153_47 : X_row 153 47 = some (47, (.aload_n 0, 1), (0, 0, 0)) := by decide +kernel
theorem xr_153_48 : X_row 153 48 = some (48, (.getfield 87, 3), (11, 13, 26)) := by decide +kernel
theorem xr_153_51 : X_row 153 51 = some (51, (.bipush 12, 2), (0, 0, 0)) := by decide +kernel
theorem xr_153_53 : X_row 153 53 = some (53, (.aload_n 0, 1), (0, 0, 0)) := by decide +kernel
theorem xr_153_54 : X_row 153 54 = some (54, (.getfield 91, 3), (11, 4, 8)) := by decide +kernel
theorem xr_153_57 : X_row 153 57 = some (57, (.imul, 1), (0, 0, 0)) := by decide +kernel
theorem xr_153_58 : X_row 153 58 = some (58, (.aload_n 0, 1), (0, 0, 0)) := by decide +kernel
theorem xr_153_59 : X_row 153 59 = some (59, (.getfield 84, 3), (11, 28, 56)) := by decide +kernel
theorem xr_153_62 : X_row 153 62 = some (62, (.iadd, 1), (0, 0, 0)) := by decide +kernel
theorem xr_153_63 : X_row 153 63 = some (63, (.aload_n 0, 1), (0, 0, 0)) := by decide +kernel
theorem xr_153_64 : X_row 153 64 = some (64, (.getfield 41, 3), (11, 12, 24)) := by decide +kernel
theorem xr_153_67 : X_row 153 67 = some (67, (.lastore, 1), (0, 0, 0)) := by decide +kernel
theorem xr_153_68 : X_row 153 68 = some (68, (.iconst 0, 1), (0, 0, 0)) := by decide +kernel
theorem xr_153_69 : X_row 153 69 = some (69, (.istore_n 1, 1), (0, 0, 0)) := by decide +kernel
theorem xr_153_70 : X_row 153 70 = some (70, (.iload_n 1, 1), (0, 0, 0)) := by decide +kernel
theorem xr_153_71 : X_row 153 71 = some (71, (.bipush 12, 2), (0, 0, 0)) := by decide +kernel
theorem xr_153_73 : X_row 153 73 = some (73, (.if_icmp .ge 57, 3), (0, 0, 0)) := by decide +kernel
theorem xr_153_76 : X_row 153 76 = some (76, (.aload_n 0, 1), (0, 0, 0)) := by decide +kernel
theorem xr_153_77 : X_row 153 77 = some (77, (.getfield 111, 3), (11, 15, 30)) := by decide +kernel
theorem xr_153_80 : X_row 153 80 = some (80, (.sipush 144, 3), (0, 0, 0)) := by decide +kernel
theorem xr_153_83 : X_row 153 83 = some (83, (.aload_n 0, 1), (0, 0, 0)) := by decide +kernel
theorem xr_153_84 : X_row 153 84 = some (84, (.getfield 91, 3), (11, 4, 8)) := by decide +kernel
theorem xr_153_87 : X_row 153 87 = some (87, (.imul, 1), (0, 0, 0)) := by decide +kernel
theorem xr_153_88 : X_row 153 88 = some (88, (.bipush 12, 2), (0, 0, 0)) := by decide +kernel
theorem xr_153_90 : X_row 153 90 = some (90, (.aload_n 0, 1), (0, 0, 0)) := by decide +kernel
theorem xr_153_91 : X_row 153 91 = some (91, (.getfield 84, 3), (11, 28, 56)) := by decide +kernel
theorem xr_153_94 : X_row 153 94 = some (94, (.imul, 1), (0, 0, 0)) := by decide +kernel
theorem xr_153_95 : X_row 153 95 = some (95, (.iadd, 1), (0, 0, 0)) := by decide +kernel
theorem xr_153_96 : X_row 153 96 = some (96, (.iload_n 1, 1), (0, 0, 0)) := by decide +kernel
theorem xr_153_97 : X_row 153 97 = some (97, (.iadd, 1), (0, 0, 0)) := by decide +kernel
theorem xr_153_98 : X_row 153 98 = some (98, (.iconst 0, 1), (0, 0, 0)) := by decide +kernel
theorem xr_153_99 : X_row 153 99 = some (99, (.bastore, 1), (0, 0, 0)) := by decide +kernel
theorem xr_153_100 : X_row 153 100 = some (100, (.aload_n 0, 1), (0, 0, 0)) := by decide +kernel
theorem xr_153_101 : X_row 153 101 = some (101, (.getfield 111, 3), (11, 15, 30)) := by decide +kernel
theorem xr_153_104 : X_row 153 104 = some (104, (.sipush 144, 3), (0, 0, 0)) := by decide +kernel
theorem xr_153_107 : X_row 153 107 = some (107, (.aload_n 0, 1), (0, 0, 0)) := by decide +kernel
theorem xr_153_108 : X_row 153 108 = some (108, (.getfield 91, 3), (11, 4, 8)) := by decide +kernel
theorem xr_153_111 : X_row 153 111 = some (111, (.imul, 1), (0, 0, 0)) := by decide +kernel
theorem xr_153_112 : X_row 153 112 = some (112, (.bipush 12, 2), (0, 0, 0)) := by decide +kernel
theorem xr_153_114 : X_row 153 114 = some (114, (.iload_n 1, 1), (0, 0, 0)) := by decide +kernel
theorem xr_153_115 : X_row 153 115 = some (115, (.imul, 1), (0, 0, 0)) := by decide +kernel
theorem xr_153_116 : X_row 153 116 = some (116, (.iadd, 1), (0, 0, 0)) := by decide +kernel
theorem xr_153_117 : X_row 153 117 = some (117, (.aload_n 0, 1), (0, 0, 0)) := by decide +kernel
theorem xr_153_118 : X_row 153 118 = some (118, (.getfield 84, 3), (11, 28, 56)) := by decide +kernel
theorem xr_153_121 : X_row 153 121 = some (121, (.iadd, 1), (0, 0, 0)) := by decide +kernel
theorem xr_153_122 : X_row 153 122 = some (122, (.iconst 0, 1), (0, 0, 0)) := by decide +kernel
theorem xr_153_123 : X_row 153 123 = some (123, (.bastore, 1), (0, 0, 0)) := by decide +kernel
theorem xr_153_124 : X_row 153 124 = some (124, (.iinc 1 1, 3), (0, 0, 0)) := by decide +kernel
theorem xr_153_127 : X_row 153 127 = some (127, (.goto (-57), 3), (0, 0, 0)) := by decide +kernel
theorem xr_153_130 : X_row 153 130 = some (130, (.aload_n 0, 1), (0, 0, 0)) := by decide +kernel
theorem xr_153_131 : X_row 153 131 = some (131, (.dup, 1), (0, 0, 0)) := by decide +kernel
theorem xr_153_132 : X_row 153 132 = some (132, (.getfield 84, 3), (11, 28, 56)) := by decide +kernel
theorem xr_153_135 : X_row 153 135 = some (135, (.iconst 1, 1), (0, 0, 0)) := by decide +kernel
theorem xr_153_136 : X_row 153 136 = some (136, (.iadd, 1), (0, 0, 0)) := by decide +kernel
theorem xr_153_137 : X_row 153 137 = some (137, (.putfield 84, 3), (11, 28, 56)) := by decide +kernel
theorem xr_153_140 : X_row 153 140 = some (140, (.aload_n 0, 1), (0, 0, 0)) := by decide +kernel
theorem xr_153_141 : X_row 153 141 = some (141, (.invokevirtual 78, 3), (141, 0, 0)) := by decide +kernel
theorem xr_153_144 : X_row 153 144 = some (144, (.aload_n 0, 1), (0, 0, 0)) := by decide +kernel
theorem xr_153_145 : X_row 153 145 = some (145, (.bipush 59, 2), (0, 0, 0)) := by decide +kernel
theorem xr_153_147 : X_row 153 147 = some (147, (.invokevirtual 115, 3), (148, 24, 0)) := by decide +kernel
theorem xr_153_150 : X_row 153 150 = some (150, (.return_, 1), (0, 0, 0)) := by decide +kernel
theorem xr_154_0 : X_row 154 0 = some (0, (.aload_n 0, 1), (0, 0, 0)) := by decide +kernel
theorem xr_154_1 : X_row 154 1 = some (1, (.getfield 111, 3), (11, 15, 30)) := by decide +kernel
theorem xr_154_4 : X_row 154 4 = some (4, (.sipush 144, 3), (0, 0, 0)) := by decide +kernel
theorem xr_154_7 : X_row 154 7 = some (7, (.aload_n 0, 1), (0, 0, 0)) := by decide +kernel
theorem xr_154_8 : X_row 154 8 = some (8, (.getfield 91, 3), (11, 4, 8)) := by decide +kernel
theorem xr_154_11 : X_row 154 11 = some (11, (.imul, 1), (0, 0, 0)) := by decide +kernel
theorem xr_154_12 : X_row 154 12 = some (12, (.bipush 12, 2), (0, 0, 0)) := by decide +kernel
theorem xr_154_14 : X_row 154 14 = some (14, (.iload_n 1, 1), (0, 0, 0)) := by decide +kernel
theorem xr_154_15 : X_row 154 15 = some (15, (.imul, 1), (0, 0, 0)) := by decide +kernel
theorem xr_154_16 : X_row 154 16 = some (16, (.iadd, 1), (0, 0, 0)) := by decide +kernel
theorem xr_154_17 : X_row 154 17 = some (17, (.iload_n 2, 1), (0, 0, 0)) := by decide +kernel
theorem xr_154_18 : X_row 154 18 = some (18, (.iadd, 1), (0, 0, 0)) := by decide +kernel
theorem xr_154_19 : X_row 154 19 = some (19, (.baload, 1), (0, 0, 0)) := by decide +kernel
theorem xr_154_20 : X_row 154 20 = some (20, (.ireturn, 1), (0, 0, 0)) := by decide +kernel
theorem xn_149 : X_nL 149 = 4 := by decide +kernel
theorem xf_149 : X_na 149 = 1 ∧ X_ci 149 = 11 ∧ X_rt 149 = (some .int) := by decide +kernel
theorem xn_150 : X_nL 150 = 4 := by decide +kernel
theorem xf_150 : X_na 150 = 1 ∧ X_ci 150 = 11 ∧ X_rt 150 = (some .int) := by decide +kernel
theorem xn_151 : X_nL 151 = 2 := by decide +kernel
theorem xf_151 : X_na 151 = 0 ∧ X_ci 151 = 11 ∧ X_rt 151 = (some .int) := by decide +kernel
theorem xn_152 : X_nL 152 = 2 := by decide +kernel
theorem xf_152 : X_na 152 = 0 ∧ X_ci 152 = 11 ∧ X_rt 152 = (some .int) := by decide +kernel
theorem xn_153 : X_nL 153 = 2 := by decide +kernel
theorem xf_153 : X_na 153 = 0 ∧ X_ci 153 = 11 ∧ X_rt 153 = none := by decide +kernel
theorem xn_154 : X_nL 154 = 3 := by decide +kernel
theorem xf_154 : X_na 154 = 2 ∧ X_ci 154 = 11 ∧ X_rt 154 = (some .boolean) := by decide +kernel
/-- the reference's ranks, kinds: bank b holds what K tells -/
def R_rk (b rc : Int) (rn : Int → Int64) (lo : Int → Int) (rN : Int → Int64) (tg : Int → Int) : Prop := (∀ i, 0 ≤ i → i < rc → rN (12 * b + i) = rn i) ∧ (∀ i j, 0 ≤ i → i < rc → 0 ≤ j → j < rc → tg (144 * b + 12 * i + j) = bI (X_bt (lo i) j)) ∧ (∀ i j, 0 ≤ i → i < rc → rc ≤ j → j < 32 → ¬ X_bt (lo i) j)
def R_kd (b kc : Int) (kn : Int → Int64) (ab : Int → Int) (kN : Int → Int64) (kU : Int → Int) : Prop := (∀ i, 0 ≤ i → i < kc → kN (11 * b + i) = kn i) ∧ (∀ u, 0 ≤ u → u < 32 → (X_bt (ab 0) u ↔ u = 0)) ∧ kU (11 * b) = -1 ∧ (∀ k, 1 ≤ k → k < kc → (0 ≤ kU (11 * b + k) ∧ kU (11 * b + k) < k) ∧ ∀ u, 0 ≤ u → u < 32 → (X_bt (ab k) u ↔ u = k ∨ X_bt (ab (kU (11 * b + k))) u))
/-- what a bank's part of an array leaves alone -/
def R_ob {α : Type} (m b : Int) (g g' : Int → α) : Prop := ∀ i, ¬ (m * b ≤ i ∧ i < m * b + m) → g' i = g i
theorem R_ob.rf {α : Type} {m b : Int} {g : Int → α} : R_ob m b g g := fun _ _ => rfl
theorem R_ob.up {α : Type} {m b : Int} {g g' : Int → α} {i : Int} {v : α} (h : R_ob m b g g') (hi : m * b ≤ i ∧ i < m * b + m) : R_ob m b g (X_ug g' i v) := fun k hk => by
  rw [X_ug_n _ _ (fun e : k = i => hk (by rw [e]; exact hi))]
  exact h k hk
theorem X_bo_z : X_bo 0 = 0 := by decide
theorem X_bo_1 : X_bo 1 = bI True := by rw [bI_t trivial]; decide
theorem X_bo_0 : X_bo 0 = bI False := by rw [bI_f (fun h => h)]; decide
theorem R_rk_add {b rc : Int} {rn : Int → Int64} {lo : Int → Int} {rN rN' : Int → Int64} {tg tg' : Int → Int} {t : Int64} (hb : 0 ≤ b ∧ b ≤ 1) (hr : 0 ≤ rc ∧ rc < 12) (h : R_rk b rc rn lo rN tg) (h1 : rN' = X_ug rN (12 * b + rc) t)
    (h2 : ∀ k, 0 ≤ k → k < 12 → tg' (144 * b + 12 * rc + k) = 0 ∧ tg' (144 * b + 12 * k + rc) = 0) (h3 : ∀ i, (∀ k, 0 ≤ k → k < 12 → i ≠ 144 * b + 12 * rc + k ∧ i ≠ 144 * b + 12 * k + rc) → tg' i = tg i) : R_rk b (rc + 1) (X_ug rn rc t) (X_ug lo rc 0) rN' tg' := by
  obtain ⟨a1, a2, a3⟩ := h
  subst h1
  refine ⟨fun i g1 g2 => ?_, fun i j g1 g2 g3 g4 => ?_, fun i j g1 g2 g3 g4 => ?_⟩
  · by_cases hi : i = rc
    · subst hi; rw [X_ug_s, X_ug_s]
    · rw [X_ug_n _ _ hi, X_ug_n _ _ (by omega)]; exact a1 i g1 (by omega)
  · by_cases hi : i = rc
    · subst hi
      rw [(h2 j g3 (by omega)).1, X_ug_s, bI_f (X_bt_0 j (by omega))]
    · rw [X_ug_n _ _ hi]
      by_cases hj : j = rc
      · subst hj
        rw [(h2 i g1 (by omega)).2, bI_f (a3 i j g1 (by omega) (by omega) (by omega))]
      · rw [h3 _ (fun k k1 k2 => ⟨by omega, by omega⟩)]
        exact a2 i j g1 (by omega) g3 (by omega)
  · by_cases hi : i = rc
    · subst hi; rw [X_ug_s]; exact X_bt_0 j (by omega)
    · rw [X_ug_n _ _ hi]; exact a3 i j g1 (by omega) (by omega) g4
theorem r_rankOf (sc : X_Sc) (S : X_S) (o : Nat → Int) (nm : Int64) (rN : Int → Int64) (rn : Int → Int64) (rc : Int) (t : Int64) (hM : M_o S o nm) (hA533 : S.1 533 = .inl (.long, 24, .inr (.inl fun k : Nat => rN (k : Int)))) (hcnt : o 28 = rc) (hcr : 0 ≤ rc ∧ rc ≤ 12) (hb : 0 ≤ o 4 ∧ o 4 ≤ 1) (hN : ∀ i, 0 ≤ i → i < rc → rN (12 * o 4 + i) = rn i) : X_T sc 149 (0, [(0, .ref 530), (1, .long t)], [], S) (fun v S' => v = some (.int (iI (X_ix rn rc t))) ∧ S' = S) := by
  refine X_QI (fun Q hQ => ?_)
  refine T_p xr_149_0 xn_149 (pc' := 1) (ls' := [(0, .ref 530), (1, .long t)]) (st' := [.int (iI 0)]) rfl ?_
  refine T_p xr_149_1 xn_149 (pc' := 2) (ls' := [(3, .int (iI 0)), (0, .ref 530), (1, .long t)]) (st' := []) rfl ?_
  have L988 : ∀ (m990 : Nat) (k : Int) (hk : 0 ≤ k ∧ k ≤ rc) (hno : ∀ i, 0 ≤ i → i < k → ¬ rn i = t) (hm991 : rc - k < m990), X_T sc 149 (2, [(3, .int (iI k)), (0, .ref 530), (1, .long t)], [], S) Q := by
    intro m990
    induction m990 with
    | zero =>
      intro k hk hno hm991
      exact (show False by omega).elim
    | succ m990 ih989 =>
      intro k hk hno hm991
      refine T_p xr_149_2 xn_149 (pc' := 3) (ls' := [(3, .int (iI k)), (0, .ref 530), (1, .long t)]) (st' := [.int (iI k)]) rfl ?_
      refine T_p xr_149_3 xn_149 (pc' := 4) (ls' := [(3, .int (iI k)), (0, .ref 530), (1, .long t)]) (st' := [.ref 530, .int (iI k)]) rfl ?_
      refine T_get xr_149_4 hM rfl (v := .int (iI (o 28))) rfl (pc' := 7) rfl ?_
      refine T_zicmp_ge xr_149_7 (t := 37) (pc' := 10) rfl rfl (fun c993 => ?_) (fun c993 => ?_)
      · skip
        have c993 : (o 28) ≤ k := c993
        refine T_p xr_149_37 xn_149 (pc' := 38) (ls' := [(3, .int (iI k)), (0, .ref 530), (1, .long t)]) (st' := [.int (iI (-1))]) rfl ?_
        refine T_iret xr_149_38 xf_149.2.2 rfl ?_
        refine hQ _ _ ?_
        exact ⟨by rw [← X_ix_e (r := -1) (Or.inr ⟨rfl, fun k1 h1 h2 => hno k1 h1 (by omega)⟩)], rfl⟩
      · skip
        have c993 : ¬ ((o 28) ≤ k) := c993
        refine T_p xr_149_10 xn_149 (pc' := 11) (ls' := [(3, .int (iI k)), (0, .ref 530), (1, .long t)]) (st' := [.ref 530]) rfl ?_
        refine T_get xr_149_11 hM rfl (v := .ref 533) rfl (pc' := 14) rfl ?_
        refine T_p xr_149_14 xn_149 (pc' := 16) (ls' := [(3, .int (iI k)), (0, .ref 530), (1, .long t)]) (st' := [.int (iI 12), .ref 533]) rfl ?_
        refine T_p xr_149_16 xn_149 (pc' := 17) (ls' := [(3, .int (iI k)), (0, .ref 530), (1, .long t)]) (st' := [.ref 530, .int (iI 12), .ref 533]) rfl ?_
        refine T_get xr_149_17 hM rfl (v := .int (iI (o 4))) rfl (pc' := 20) rfl ?_
        refine T_zimul xr_149_20 (z := 12 * (o 4)) rfl (pc' := 21) rfl ?_
        refine T_p xr_149_21 xn_149 (pc' := 22) (ls' := [(3, .int (iI k)), (0, .ref 530), (1, .long t)]) (st' := [.int (iI k), .int (iI (12 * (o 4))), .ref 533]) rfl ?_
        refine T_ziadd xr_149_22 (z := (12 * (o 4)) + k) rfl (pc' := 23) rfl ?_
        refine T_zlald xr_149_23 hA533 (pc' := 24) rfl ?_
        refine T_p xr_149_24 xn_149 (pc' := 25) (ls' := [(3, .int (iI k)), (0, .ref 530), (1, .long t)]) (st' := [.long t, .long (rN ((12 * (o 4)) + k))]) rfl ?_
        refine T_lc_ne xr_149_25 xr_149_26 (t := 31) (pc' := 29) rfl rfl (fun c994 => ?_) (fun c994 => ?_)
        · skip
          have c994 : ¬ (rN ((12 * (o 4)) + k)) = t := c994
          refine T_ziinc xr_149_31 xn_149 (a := k) (z := k + 1) rfl (Nat.le_of_ble_eq_true rfl) (by omega) (ls' := [(3, .int (iI (k + 1))), (0, .ref 530), (1, .long t)]) rfl (pc' := 34) rfl ?_
          refine T_p xr_149_34 xn_149 (pc' := 2) (ls' := [(3, .int (iI (k + 1))), (0, .ref 530), (1, .long t)]) (st' := []) rfl ?_
          exact ih989 (k + 1)  (by omega) (fun i h1 h2 => by
                by_cases hi : i = k
                · subst hi; rw [← hN i (by omega) (by omega)]; assumption
                · exact hno i h1 (by omega)) (by omega)
        · skip
          have c994 : ¬ (¬ (rN ((12 * (o 4)) + k)) = t) := c994
          refine T_p xr_149_29 xn_149 (pc' := 30) (ls' := [(3, .int (iI k)), (0, .ref 530), (1, .long t)]) (st' := [.int (iI k)]) rfl ?_
          refine T_iret xr_149_30 xf_149.2.2 rfl ?_
          refine hQ _ _ ?_
          exact ⟨by rw [← X_ix_e (r := k) (Or.inl ⟨by omega, by omega, by rw [← hN k (by omega) (by omega)]; first | assumption | exact Classical.not_not.mp (by assumption), hno⟩)], rfl⟩
  exact L988 (rc + 1).toNat 0  (by omega) (fun i h1 h2 => absurd h2 (by omega)) (by omega)
theorem r_kindOf (sc : X_Sc) (S : X_S) (o : Nat → Int) (nm : Int64) (kN : Int → Int64) (kn : Int → Int64) (kc : Int) (t : Int64) (hM : M_o S o nm) (hA534 : S.1 534 = .inl (.long, 22, .inr (.inl fun k : Nat => kN (k : Int)))) (hcnt : o 29 = kc) (hcr : 0 ≤ kc ∧ kc ≤ 11) (hb : 0 ≤ o 4 ∧ o 4 ≤ 1) (hN : ∀ i, 0 ≤ i → i < kc → kN (11 * o 4 + i) = kn i) : X_T sc 150 (0, [(0, .ref 530), (1, .long t)], [], S) (fun v S' => v = some (.int (iI (X_ix kn kc t))) ∧ S' = S) := by
  refine X_QI (fun Q hQ => ?_)
  refine T_p xr_150_0 xn_150 (pc' := 1) (ls' := [(0, .ref 530), (1, .long t)]) (st' := [.int (iI 0)]) rfl ?_
  refine T_p xr_150_1 xn_150 (pc' := 2) (ls' := [(3, .int (iI 0)), (0, .ref 530), (1, .long t)]) (st' := []) rfl ?_
  have L995 : ∀ (m997 : Nat) (k : Int) (hk : 0 ≤ k ∧ k ≤ kc) (hno : ∀ i, 0 ≤ i → i < k → ¬ kn i = t) (hm998 : kc - k < m997), X_T sc 150 (2, [(3, .int (iI k)), (0, .ref 530), (1, .long t)], [], S) Q := by
    intro m997
    induction m997 with
    | zero =>
      intro k hk hno hm998
      exact (show False by omega).elim
    | succ m997 ih996 =>
      intro k hk hno hm998
      refine T_p xr_150_2 xn_150 (pc' := 3) (ls' := [(3, .int (iI k)), (0, .ref 530), (1, .long t)]) (st' := [.int (iI k)]) rfl ?_
      refine T_p xr_150_3 xn_150 (pc' := 4) (ls' := [(3, .int (iI k)), (0, .ref 530), (1, .long t)]) (st' := [.ref 530, .int (iI k)]) rfl ?_
      refine T_get xr_150_4 hM rfl (v := .int (iI (o 29))) rfl (pc' := 7) rfl ?_
      refine T_zicmp_ge xr_150_7 (t := 37) (pc' := 10) rfl rfl (fun c1000 => ?_) (fun c1000 => ?_)
      · skip
        have c1000 : (o 29) ≤ k := c1000
        refine T_p xr_150_37 xn_150 (pc' := 38) (ls' := [(3, .int (iI k)), (0, .ref 530), (1, .long t)]) (st' := [.int (iI (-1))]) rfl ?_
        refine T_iret xr_150_38 xf_150.2.2 rfl ?_
        refine hQ _ _ ?_
        exact ⟨by rw [← X_ix_e (r := -1) (Or.inr ⟨rfl, fun k1 h1 h2 => hno k1 h1 (by omega)⟩)], rfl⟩
      · skip
        have c1000 : ¬ ((o 29) ≤ k) := c1000
        refine T_p xr_150_10 xn_150 (pc' := 11) (ls' := [(3, .int (iI k)), (0, .ref 530), (1, .long t)]) (st' := [.ref 530]) rfl ?_
        refine T_get xr_150_11 hM rfl (v := .ref 534) rfl (pc' := 14) rfl ?_
        refine T_p xr_150_14 xn_150 (pc' := 16) (ls' := [(3, .int (iI k)), (0, .ref 530), (1, .long t)]) (st' := [.int (iI 11), .ref 534]) rfl ?_
        refine T_p xr_150_16 xn_150 (pc' := 17) (ls' := [(3, .int (iI k)), (0, .ref 530), (1, .long t)]) (st' := [.ref 530, .int (iI 11), .ref 534]) rfl ?_
        refine T_get xr_150_17 hM rfl (v := .int (iI (o 4))) rfl (pc' := 20) rfl ?_
        refine T_zimul xr_150_20 (z := 11 * (o 4)) rfl (pc' := 21) rfl ?_
        refine T_p xr_150_21 xn_150 (pc' := 22) (ls' := [(3, .int (iI k)), (0, .ref 530), (1, .long t)]) (st' := [.int (iI k), .int (iI (11 * (o 4))), .ref 534]) rfl ?_
        refine T_ziadd xr_150_22 (z := (11 * (o 4)) + k) rfl (pc' := 23) rfl ?_
        refine T_zlald xr_150_23 hA534 (pc' := 24) rfl ?_
        refine T_p xr_150_24 xn_150 (pc' := 25) (ls' := [(3, .int (iI k)), (0, .ref 530), (1, .long t)]) (st' := [.long t, .long (kN ((11 * (o 4)) + k))]) rfl ?_
        refine T_lc_ne xr_150_25 xr_150_26 (t := 31) (pc' := 29) rfl rfl (fun c1001 => ?_) (fun c1001 => ?_)
        · skip
          have c1001 : ¬ (kN ((11 * (o 4)) + k)) = t := c1001
          refine T_ziinc xr_150_31 xn_150 (a := k) (z := k + 1) rfl (Nat.le_of_ble_eq_true rfl) (by omega) (ls' := [(3, .int (iI (k + 1))), (0, .ref 530), (1, .long t)]) rfl (pc' := 34) rfl ?_
          refine T_p xr_150_34 xn_150 (pc' := 2) (ls' := [(3, .int (iI (k + 1))), (0, .ref 530), (1, .long t)]) (st' := []) rfl ?_
          exact ih996 (k + 1)  (by omega) (fun i h1 h2 => by
                by_cases hi : i = k
                · subst hi; rw [← hN i (by omega) (by omega)]; assumption
                · exact hno i h1 (by omega)) (by omega)
        · skip
          have c1001 : ¬ (¬ (kN ((11 * (o 4)) + k)) = t) := c1001
          refine T_p xr_150_29 xn_150 (pc' := 30) (ls' := [(3, .int (iI k)), (0, .ref 530), (1, .long t)]) (st' := [.int (iI k)]) rfl ?_
          refine T_iret xr_150_30 xf_150.2.2 rfl ?_
          refine hQ _ _ ?_
          exact ⟨by rw [← X_ix_e (r := k) (Or.inl ⟨by omega, by omega, by rw [← hN k (by omega) (by omega)]; first | assumption | exact Classical.not_not.mp (by assumption), hno⟩)], rfl⟩
  exact L995 (kc + 1).toNat 0  (by omega) (fun i h1 h2 => absurd h2 (by omega)) (by omega)
theorem r_aRank (sc : X_Sc) (S : X_S) (o : Nat → Int) (nm : Int64) (tx : Int → Int) (rN : Int → Int64) (tb : Int → Int) (len : Int) (n : Int) (so : Int → Int) (pl : Int → Int) (ct : Int → Int64) (E : Int → Int) (c : Int) (rn : Int → Int64) (rc : Int) (hM : M_o S o nm) (hA532 : S.1 532 = .inl (.byte, 2000, .inl fun k : Nat => iI (tx (k : Int)))) (hA533 : S.1 533 = .inl (.long, 24, .inr (.inl fun k : Nat => rN (k : Int)))) (hlen : o 3 = len) (hl : 0 ≤ len ∧ len ≤ 2000) (htx : ∀ k, 0 ≤ k → k < len → tx k = tb k) (hX : X_TxE tb len n so pl ct E) (hT : R_tk n so pl ct E c (o 7) (o 8) (o 9) (o 10) (o 11) nm) (h5 : o 5 = 0) (hcnt : o 28 = rc) (hcr : 0 ≤ rc ∧ rc ≤ 12) (hb : 0 ≤ o 4 ∧ o 4 ≤ 1) (hN : ∀ i, 0 ≤ i → i < rc → rN (12 * o 4 + i) = rn i) : X_T sc 151 (0, [(0, .ref 530)], [], S) (fun v S' => (∃ (at1 : Int) (en1 : Int) (tk1 : Int) (nu1 : Int) (dg1 : Int) (nm1 : Int64), v = some (.int (iI (X_ix rn rc (ct c)))) ∧ R_tk n so pl ct E (X_av n c) at1 en1 tk1 nu1 dg1 nm1 ∧ so c = 2 ∧ (0 ≤ X_ix rn rc (ct c) ∧ X_ix rn rc (ct c) < rc) ∧ M_o S' (X_ou (X_ou (X_ou (X_ou (X_ou o 7 at1) 8 en1) 9 tk1) 10 nu1) 11 dg1) nm1 ∧ X_Fr (fun q => q = 530) S S') ∨ (∃ (r0 : Int) (f1 : Int) (g1 : Int), v = some (.int (iI r0)) ∧ (1 ≤ f1 ∧ f1 ≤ 5) ∧ (¬ so c = 2 ∨ X_ix rn rc (ct c) = -1) ∧ (-1 ≤ r0 ∧ r0 ≤ 11) ∧ M_o S' (X_ou (X_ou o 5 f1) 6 g1) nm ∧ X_Fr (fun q => q = 530) S S')) := by
  obtain ⟨⟨hc0, hcn⟩, ⟨hs0, hs1⟩, hk0, ⟨ha0, ha1⟩, hk0e, ⟨_, _⟩, ⟨_, _⟩⟩ := R_tk_f hX hT
  have hn2 := hX.2.1
  refine X_QI (fun Q hQ => ?_)
  refine T_p xr_151_0 xn_151 (pc' := 1) (ls' := [(0, .ref 530)]) (st' := [.ref 530]) rfl ?_
  refine T_get xr_151_1 hM rfl (v := .int (iI (o 9))) rfl (pc' := 4) rfl ?_
  refine T_p xr_151_4 xn_151 (pc' := 5) (ls' := [(0, .ref 530)]) (st' := [.int (iI 2), .int (iI (o 9))]) rfl ?_
  refine T_zicmp_eq xr_151_5 (t := 12) (pc' := 8) rfl rfl (fun c1002 => ?_) (fun c1002 => ?_)
  · skip
    have c1002 : (o 9) = 2 := c1002
    refine T_p xr_151_12 xn_151 (pc' := 13) (ls' := [(0, .ref 530)]) (st' := [.ref 530]) rfl ?_
    refine T_cv (S := S) (q := 530) xr_151_13 xf_140.1 xf_140.2.1 xn_140 (as := []) (r := []) rfl hM (Nat.le_of_ble_eq_true rfl) (Nat.le_of_ble_eq_true rfl) (pc' := 16) rfl (ls' := [(0, .ref 530)]) rfl ?_
    refine T_mono (r_isGood sc S o nm hM (show 0 ≤ (o 5) ∧ (o 5) ≤ 5 from by omega)) (fun v1003 S1004 h1005 => ?_)
    rcases h1005 with ⟨hv1006, hf1007⟩
    rw [hv1006]
    rw [hf1007]
    show X_T sc 151 (16, [(0, .ref 530)], [.int (iI (bI ((o 5) = 0)))], S) _
    refine T_bif_eq xr_151_16 (t := 30) (pc' := 19) rfl rfl (fun c1008 => ?_) (fun c1008 => ?_)
    · skip
      have c1008 : ¬ ((o 5) = 0) := c1008
      exact (show False by first | contradiction | omega).elim
    · skip
      have c1008 : ((o 5) = 0) := c1008
      refine T_p xr_151_19 xn_151 (pc' := 20) (ls' := [(0, .ref 530)]) (st' := [.ref 530]) rfl ?_
      refine T_p xr_151_20 xn_151 (pc' := 21) (ls' := [(0, .ref 530)]) (st' := [.ref 530, .ref 530]) rfl ?_
      refine T_get xr_151_21 hM rfl (v := .long nm) rfl (pc' := 24) rfl ?_
      refine T_cv (S := S) (q := 530) xr_151_24 xf_149.1 xf_149.2.1 xn_149 (as := [.long nm]) (r := []) rfl hM (Nat.le_of_ble_eq_true rfl) (Nat.le_of_ble_eq_true rfl) (pc' := 27) rfl (ls' := [(0, .ref 530), (1, .long nm)]) rfl ?_
      refine T_mono (r_rankOf sc S o nm rN rn rc nm hM hA533 (show (o 28) = rc from by omega) (by omega) (show 0 ≤ (o 4) ∧ (o 4) ≤ 1 from by omega) hN) (fun v1009 S1010 h1011 => ?_)
      rcases h1011 with ⟨hv1012, hf1013⟩
      rw [hv1012]
      rw [hf1013]
      have hx1014 := X_ix_r (g := rn) (n := rc) (x := nm) (by omega)
      show X_T sc 151 (27, [(0, .ref 530)], [.int (iI (X_ix rn rc nm))], S) _
      refine T_p xr_151_27 xn_151 (pc' := 31) (ls' := [(0, .ref 530)]) (st' := [.int (iI (X_ix rn rc nm))]) rfl ?_
      refine T_p xr_151_31 xn_151 (pc' := 32) (ls' := [(1, .int (iI (X_ix rn rc nm))), (0, .ref 530)]) (st' := []) rfl ?_
      refine T_p xr_151_32 xn_151 (pc' := 33) (ls' := [(1, .int (iI (X_ix rn rc nm))), (0, .ref 530)]) (st' := [.ref 530]) rfl ?_
      refine T_cv (S := S) (q := 530) xr_151_33 xf_140.1 xf_140.2.1 xn_140 (as := []) (r := []) rfl hM (Nat.le_of_ble_eq_true rfl) (Nat.le_of_ble_eq_true rfl) (pc' := 36) rfl (ls' := [(0, .ref 530)]) rfl ?_
      refine T_mono (r_isGood sc S o nm hM (show 0 ≤ (o 5) ∧ (o 5) ≤ 5 from by omega)) (fun v1015 S1016 h1017 => ?_)
      rcases h1017 with ⟨hv1018, hf1019⟩
      rw [hv1018]
      rw [hf1019]
      show X_T sc 151 (36, [(1, .int (iI (X_ix rn rc nm))), (0, .ref 530)], [.int (iI (bI ((o 5) = 0)))], S) _
      refine T_bif_eq xr_151_36 (t := 52) (pc' := 39) rfl rfl (fun c1020 => ?_) (fun c1020 => ?_)
      · skip
        have c1020 : ¬ ((o 5) = 0) := c1020
        exact (show False by first | contradiction | omega).elim
      · skip
        have c1020 : ((o 5) = 0) := c1020
        refine T_p xr_151_39 xn_151 (pc' := 40) (ls' := [(1, .int (iI (X_ix rn rc nm))), (0, .ref 530)]) (st' := [.int (iI (X_ix rn rc nm))]) rfl ?_
        refine T_zif_ge xr_151_40 (t := 52) (pc' := 43) rfl rfl (fun c1021 => ?_) (fun c1021 => ?_)
        · skip
          have c1021 : 0 ≤ (X_ix rn rc nm) := c1021
          refine T_p xr_151_52 xn_151 (pc' := 53) (ls' := [(1, .int (iI (X_ix rn rc nm))), (0, .ref 530)]) (st' := [.ref 530]) rfl ?_
          refine T_cv (S := S) (q := 530) xr_151_53 xf_140.1 xf_140.2.1 xn_140 (as := []) (r := []) rfl hM (Nat.le_of_ble_eq_true rfl) (Nat.le_of_ble_eq_true rfl) (pc' := 56) rfl (ls' := [(0, .ref 530)]) rfl ?_
          refine T_mono (r_isGood sc S o nm hM (show 0 ≤ (o 5) ∧ (o 5) ≤ 5 from by omega)) (fun v1022 S1023 h1024 => ?_)
          rcases h1024 with ⟨hv1025, hf1026⟩
          rw [hv1025]
          rw [hf1026]
          show X_T sc 151 (56, [(1, .int (iI (X_ix rn rc nm))), (0, .ref 530)], [.int (iI (bI ((o 5) = 0)))], S) _
          refine T_bif_eq xr_151_56 (t := 63) (pc' := 59) rfl rfl (fun c1027 => ?_) (fun c1027 => ?_)
          · skip
            have c1027 : ¬ ((o 5) = 0) := c1027
            exact (show False by first | contradiction | omega).elim
          · skip
            have c1027 : ((o 5) = 0) := c1027
            refine T_p xr_151_59 xn_151 (pc' := 60) (ls' := [(1, .int (iI (X_ix rn rc nm))), (0, .ref 530)]) (st' := [.ref 530]) rfl ?_
            refine T_cv (S := S) (q := 530) xr_151_60 xf_141.1 xf_141.2.1 xn_141 (as := []) (r := []) rfl hM (Nat.le_of_ble_eq_true rfl) (Nat.le_of_ble_eq_true rfl) (pc' := 63) rfl (ls' := [(0, .ref 530)]) rfl ?_
            refine T_mono (r_nx sc S o nm tx tb len n so pl ct E c hM hA532 (show (o 3) = len from by first | assumption | omega) hl htx hX hT (by omega)) (fun v1028 S1029 h1030 => ?_)
            rcases h1030 with ⟨at1031, en1032, tk1033, nu1034, dg1035, nm1036, hv1037, hp1038, hM1039, hf1040⟩
            rw [hv1037]
            have h1041 : S1029.1 530 = .inr (11, [.ref 531, .int (iI (o 1)), .ref 532, .int (iI (o 3)), .int (iI (o 4)), .int (iI (o 5)), .int (iI (o 6)), .int (iI at1031), .int (iI en1032), .int (iI tk1033), .int (iI nu1034), .int (iI dg1035), .long nm1036, .ref 533, .ref 534, .ref 535, .ref 536, .ref 537, .ref 538, .ref 539, .ref 540, .ref 541, .ref 542, .ref 543, .ref 544, .ref 545, .ref 546, .ref 547, .int (iI (o 28)), .int (iI (o 29)), .int (iI (o 30)), .int (iI (o 31)), .int (iI (o 32)), .int (iI (o 33)), .ref 548, .ref 549, .ref 550, .ref 551, .int (iI (o 38)), .ref 552, .ref 553, .ref 554, .ref 555, .ref 556, .ref 557, .ref 558, .ref 559, .ref 560, .ref 561, .int (iI (o 49)), .ref 562, .ref 563, .ref 564, .ref 565, .ref 566, .ref 567, .ref 568, .ref 569, .int (iI (o 58)), .ref 570, .ref 571, .ref 572, .ref 573, .ref 574, .ref 575, .ref 576, .ref 577, .ref 578, .int (iI (o 68)), .int (iI (o 69)), .int (iI (o 70)), .ref 579]) := hM1039
            obtain ⟨⟨_, _⟩, ⟨_, _⟩, hk1042, ⟨_, _⟩, hk1042e, ⟨_, _⟩, ⟨_, _⟩⟩ := R_tk_f hX hp1038
            show X_T sc 151 (63, [(1, .int (iI (X_ix rn rc nm))), (0, .ref 530)], [], S1029) _
            refine T_p xr_151_63 xn_151 (pc' := 64) (ls' := [(1, .int (iI (X_ix rn rc nm))), (0, .ref 530)]) (st' := [.int (iI (X_ix rn rc nm))]) rfl ?_
            refine T_iret xr_151_64 xf_151.2.2 rfl ?_
            refine hQ _ _ ?_
            exact Or.inl ⟨at1031, en1032, tk1033, nu1034, dg1035, nm1036, (by rw [hT.2.2.2.2.1 (by omega)]), hp1038, by omega, by rw [← hT.2.2.2.2.1 (by omega)]; omega, h1041, (X_Fr.rf).tr (X_Fr.mono ⟨hf1040.1, hf1040.2⟩ (fun q hq => by first | exact hq | (rcases hq with rfl <;> decide) | (rcases hq with rfl | rfl <;> decide) | (rcases hq with rfl | rfl | rfl <;> decide) | (rcases hq with rfl | rfl | rfl | rfl <;> decide) | (rcases hq with rfl | rfl | rfl | rfl | rfl <;> decide) | (rcases hq with rfl | rfl | rfl | rfl | rfl | rfl <;> decide) | (rcases hq with rfl | rfl | rfl | rfl | rfl | rfl | rfl <;> decide) | omega))⟩
        · skip
          have c1021 : ¬ (0 ≤ (X_ix rn rc nm)) := c1021
          refine T_p xr_151_43 xn_151 (pc' := 44) (ls' := [(1, .int (iI (X_ix rn rc nm))), (0, .ref 530)]) (st' := [.ref 530]) rfl ?_
          refine T_p xr_151_44 xn_151 (pc' := 45) (ls' := [(1, .int (iI (X_ix rn rc nm))), (0, .ref 530)]) (st' := [.int (iI 3), .ref 530]) rfl ?_
          refine T_p xr_151_45 xn_151 (pc' := 46) (ls' := [(1, .int (iI (X_ix rn rc nm))), (0, .ref 530)]) (st' := [.ref 530, .int (iI 3), .ref 530]) rfl ?_
          refine T_get xr_151_46 hM rfl (v := .int (iI (o 7))) rfl (pc' := 49) rfl ?_
          refine T_cv (S := S) (q := 530) xr_151_49 xf_139.1 xf_139.2.1 xn_139 (as := [.int (iI 3), .int (iI (o 7))]) (r := []) rfl hM (Nat.le_of_ble_eq_true rfl) (Nat.le_of_ble_eq_true rfl) (pc' := 52) rfl (ls' := [(0, .ref 530), (1, .int (iI 3)), (2, .int (iI (o 7)))]) rfl ?_
          refine T_mono (r_fails sc S o nm 3 (o 7) hM (show 0 ≤ (o 5) ∧ (o 5) ≤ 5 from by omega) (by omega)) (fun v1043 S1044 h1045 => ?_)
          rcases h1045 with ⟨f1046, g1047, hv1048, hp1049, hM1050, hf1051⟩
          rw [hv1048]
          have h1052 : S1044.1 530 = .inr (11, [.ref 531, .int (iI (o 1)), .ref 532, .int (iI (o 3)), .int (iI (o 4)), .int (iI f1046), .int (iI g1047), .int (iI (o 7)), .int (iI (o 8)), .int (iI (o 9)), .int (iI (o 10)), .int (iI (o 11)), .long nm, .ref 533, .ref 534, .ref 535, .ref 536, .ref 537, .ref 538, .ref 539, .ref 540, .ref 541, .ref 542, .ref 543, .ref 544, .ref 545, .ref 546, .ref 547, .int (iI (o 28)), .int (iI (o 29)), .int (iI (o 30)), .int (iI (o 31)), .int (iI (o 32)), .int (iI (o 33)), .ref 548, .ref 549, .ref 550, .ref 551, .int (iI (o 38)), .ref 552, .ref 553, .ref 554, .ref 555, .ref 556, .ref 557, .ref 558, .ref 559, .ref 560, .ref 561, .int (iI (o 49)), .ref 562, .ref 563, .ref 564, .ref 565, .ref 566, .ref 567, .ref 568, .ref 569, .int (iI (o 58)), .ref 570, .ref 571, .ref 572, .ref 573, .ref 574, .ref 575, .ref 576, .ref 577, .ref 578, .int (iI (o 68)), .int (iI (o 69)), .int (iI (o 70)), .ref 579]) := hM1050
          have hp1049 : ((o 5) = 0 → f1046 = 3) ∧ (¬ (o 5) = 0 → f1046 = (o 5)) := hp1049
          have hf1053 : f1046 = 3 := hp1049.1 h5
          show X_T sc 151 (52, [(1, .int (iI (X_ix rn rc nm))), (0, .ref 530)], [], S1044) _
          refine T_p xr_151_52 xn_151 (pc' := 53) (ls' := [(1, .int (iI (X_ix rn rc nm))), (0, .ref 530)]) (st' := [.ref 530]) rfl ?_
          refine T_cv (S := S1044) (q := 530) xr_151_53 xf_140.1 xf_140.2.1 xn_140 (as := []) (r := []) rfl h1052 (Nat.le_of_ble_eq_true rfl) (Nat.le_of_ble_eq_true rfl) (pc' := 56) rfl (ls' := [(0, .ref 530)]) rfl ?_
          refine T_mono (r_isGood sc S1044 (X_ou (X_ou o 5 f1046) 6 g1047) nm h1052 (show 0 ≤ f1046 ∧ f1046 ≤ 5 from by omega)) (fun v1054 S1055 h1056 => ?_)
          rcases h1056 with ⟨hv1057, hf1058⟩
          rw [hv1057]
          rw [hf1058]
          show X_T sc 151 (56, [(1, .int (iI (X_ix rn rc nm))), (0, .ref 530)], [.int (iI (bI (f1046 = 0)))], S1044) _
          refine T_bif_eq xr_151_56 (t := 63) (pc' := 59) rfl rfl (fun c1059 => ?_) (fun c1059 => ?_)
          · skip
            have c1059 : ¬ (f1046 = 0) := c1059
            refine T_p xr_151_63 xn_151 (pc' := 64) (ls' := [(1, .int (iI (X_ix rn rc nm))), (0, .ref 530)]) (st' := [.int (iI (X_ix rn rc nm))]) rfl ?_
            refine T_iret xr_151_64 xf_151.2.2 rfl ?_
            refine hQ _ _ ?_
            exact Or.inr ⟨X_ix rn rc nm, f1046, g1047, rfl, by omega, by first | exact Or.inl (by omega) | (right; rw [← hT.2.2.2.2.1 (by omega)]; omega), by omega, h1052, (X_Fr.rf).tr (X_Fr.mono ⟨hf1051.1, hf1051.2⟩ (fun q hq => by first | exact hq | (rcases hq with rfl <;> decide) | (rcases hq with rfl | rfl <;> decide) | (rcases hq with rfl | rfl | rfl <;> decide) | (rcases hq with rfl | rfl | rfl | rfl <;> decide) | (rcases hq with rfl | rfl | rfl | rfl | rfl <;> decide) | (rcases hq with rfl | rfl | rfl | rfl | rfl | rfl <;> decide) | (rcases hq with rfl | rfl | rfl | rfl | rfl | rfl | rfl <;> decide) | omega))⟩
          · skip
            have c1059 : (f1046 = 0) := c1059
            exact (show False by first | contradiction | omega).elim
  · skip
    have c1002 : ¬ ((o 9) = 2) := c1002
    refine T_p xr_151_8 xn_151 (pc' := 9) (ls' := [(0, .ref 530)]) (st' := [.ref 530]) rfl ?_
    refine T_cv (S := S) (q := 530) xr_151_9 xf_147.1 xf_147.2.1 xn_147 (as := []) (r := []) rfl hM (Nat.le_of_ble_eq_true rfl) (Nat.le_of_ble_eq_true rfl) (pc' := 12) rfl (ls' := [(0, .ref 530)]) rfl ?_
    refine T_mono (r_wrong sc S o nm tx tb len n so pl ct E c hM hA532 (show (o 3) = len from by first | assumption | omega) hl htx hX hT (show 0 ≤ (o 5) ∧ (o 5) ≤ 5 from by omega)) (fun v1060 S1061 h1062 => ?_)
    rcases h1062 with ⟨f1063, g1064, hv1065, hp1066, hM1067, hf1068⟩
    rw [hv1065]
    have h1069 : S1061.1 530 = .inr (11, [.ref 531, .int (iI (o 1)), .ref 532, .int (iI (o 3)), .int (iI (o 4)), .int (iI f1063), .int (iI g1064), .int (iI (o 7)), .int (iI (o 8)), .int (iI (o 9)), .int (iI (o 10)), .int (iI (o 11)), .long nm, .ref 533, .ref 534, .ref 535, .ref 536, .ref 537, .ref 538, .ref 539, .ref 540, .ref 541, .ref 542, .ref 543, .ref 544, .ref 545, .ref 546, .ref 547, .int (iI (o 28)), .int (iI (o 29)), .int (iI (o 30)), .int (iI (o 31)), .int (iI (o 32)), .int (iI (o 33)), .ref 548, .ref 549, .ref 550, .ref 551, .int (iI (o 38)), .ref 552, .ref 553, .ref 554, .ref 555, .ref 556, .ref 557, .ref 558, .ref 559, .ref 560, .ref 561, .int (iI (o 49)), .ref 562, .ref 563, .ref 564, .ref 565, .ref 566, .ref 567, .ref 568, .ref 569, .int (iI (o 58)), .ref 570, .ref 571, .ref 572, .ref 573, .ref 574, .ref 575, .ref 576, .ref 577, .ref 578, .int (iI (o 68)), .int (iI (o 69)), .int (iI (o 70)), .ref 579]) := hM1067
    show X_T sc 151 (12, [(0, .ref 530)], [], S1061) _
    refine T_p xr_151_12 xn_151 (pc' := 13) (ls' := [(0, .ref 530)]) (st' := [.ref 530]) rfl ?_
    refine T_cv (S := S1061) (q := 530) xr_151_13 xf_140.1 xf_140.2.1 xn_140 (as := []) (r := []) rfl h1069 (Nat.le_of_ble_eq_true rfl) (Nat.le_of_ble_eq_true rfl) (pc' := 16) rfl (ls' := [(0, .ref 530)]) rfl ?_
    refine T_mono (r_isGood sc S1061 (X_ou (X_ou o 5 f1063) 6 g1064) nm h1069 (show 0 ≤ f1063 ∧ f1063 ≤ 5 from by omega)) (fun v1070 S1071 h1072 => ?_)
    rcases h1072 with ⟨hv1073, hf1074⟩
    rw [hv1073]
    rw [hf1074]
    show X_T sc 151 (16, [(0, .ref 530)], [.int (iI (bI (f1063 = 0)))], S1061) _
    refine T_bif_eq xr_151_16 (t := 30) (pc' := 19) rfl rfl (fun c1075 => ?_) (fun c1075 => ?_)
    · skip
      have c1075 : ¬ (f1063 = 0) := c1075
      refine T_p xr_151_30 xn_151 (pc' := 31) (ls' := [(0, .ref 530)]) (st' := [.int (iI 0)]) rfl ?_
      refine T_p xr_151_31 xn_151 (pc' := 32) (ls' := [(1, .int (iI 0)), (0, .ref 530)]) (st' := []) rfl ?_
      refine T_p xr_151_32 xn_151 (pc' := 33) (ls' := [(1, .int (iI 0)), (0, .ref 530)]) (st' := [.ref 530]) rfl ?_
      refine T_cv (S := S1061) (q := 530) xr_151_33 xf_140.1 xf_140.2.1 xn_140 (as := []) (r := []) rfl h1069 (Nat.le_of_ble_eq_true rfl) (Nat.le_of_ble_eq_true rfl) (pc' := 36) rfl (ls' := [(0, .ref 530)]) rfl ?_
      refine T_mono (r_isGood sc S1061 (X_ou (X_ou o 5 f1063) 6 g1064) nm h1069 (show 0 ≤ f1063 ∧ f1063 ≤ 5 from by omega)) (fun v1076 S1077 h1078 => ?_)
      rcases h1078 with ⟨hv1079, hf1080⟩
      rw [hv1079]
      rw [hf1080]
      show X_T sc 151 (36, [(1, .int (iI 0)), (0, .ref 530)], [.int (iI (bI (f1063 = 0)))], S1061) _
      refine T_bif_eq xr_151_36 (t := 52) (pc' := 39) rfl rfl (fun c1081 => ?_) (fun c1081 => ?_)
      · skip
        have c1081 : ¬ (f1063 = 0) := c1081
        refine T_p xr_151_52 xn_151 (pc' := 53) (ls' := [(1, .int (iI 0)), (0, .ref 530)]) (st' := [.ref 530]) rfl ?_
        refine T_cv (S := S1061) (q := 530) xr_151_53 xf_140.1 xf_140.2.1 xn_140 (as := []) (r := []) rfl h1069 (Nat.le_of_ble_eq_true rfl) (Nat.le_of_ble_eq_true rfl) (pc' := 56) rfl (ls' := [(0, .ref 530)]) rfl ?_
        refine T_mono (r_isGood sc S1061 (X_ou (X_ou o 5 f1063) 6 g1064) nm h1069 (show 0 ≤ f1063 ∧ f1063 ≤ 5 from by omega)) (fun v1082 S1083 h1084 => ?_)
        rcases h1084 with ⟨hv1085, hf1086⟩
        rw [hv1085]
        rw [hf1086]
        show X_T sc 151 (56, [(1, .int (iI 0)), (0, .ref 530)], [.int (iI (bI (f1063 = 0)))], S1061) _
        refine T_bif_eq xr_151_56 (t := 63) (pc' := 59) rfl rfl (fun c1087 => ?_) (fun c1087 => ?_)
        · skip
          have c1087 : ¬ (f1063 = 0) := c1087
          refine T_p xr_151_63 xn_151 (pc' := 64) (ls' := [(1, .int (iI 0)), (0, .ref 530)]) (st' := [.int (iI 0)]) rfl ?_
          refine T_iret xr_151_64 xf_151.2.2 rfl ?_
          refine hQ _ _ ?_
          exact Or.inr ⟨0, f1063, g1064, rfl, by omega, by first | exact Or.inl (by omega) | (right; rw [← hT.2.2.2.2.1 (by omega)]; omega), by omega, h1069, (X_Fr.rf).tr (X_Fr.mono ⟨hf1068.1, hf1068.2⟩ (fun q hq => by first | exact hq | (rcases hq with rfl <;> decide) | (rcases hq with rfl | rfl <;> decide) | (rcases hq with rfl | rfl | rfl <;> decide) | (rcases hq with rfl | rfl | rfl | rfl <;> decide) | (rcases hq with rfl | rfl | rfl | rfl | rfl <;> decide) | (rcases hq with rfl | rfl | rfl | rfl | rfl | rfl <;> decide) | (rcases hq with rfl | rfl | rfl | rfl | rfl | rfl | rfl <;> decide) | omega))⟩
        · skip
          have c1087 : (f1063 = 0) := c1087
          exact (show False by first | contradiction | omega).elim
      · skip
        have c1081 : (f1063 = 0) := c1081
        exact (show False by first | contradiction | omega).elim
    · skip
      have c1075 : (f1063 = 0) := c1075
      exact (show False by first | contradiction | omega).elim
theorem r_aKind (sc : X_Sc) (S : X_S) (o : Nat → Int) (nm : Int64) (tx : Int → Int) (kN : Int → Int64) (tb : Int → Int) (len : Int) (n : Int) (so : Int → Int) (pl : Int → Int) (ct : Int → Int64) (E : Int → Int) (c : Int) (kn : Int → Int64) (kc : Int) (hM : M_o S o nm) (hA532 : S.1 532 = .inl (.byte, 2000, .inl fun k : Nat => iI (tx (k : Int)))) (hA534 : S.1 534 = .inl (.long, 22, .inr (.inl fun k : Nat => kN (k : Int)))) (hlen : o 3 = len) (hl : 0 ≤ len ∧ len ≤ 2000) (htx : ∀ k, 0 ≤ k → k < len → tx k = tb k) (hX : X_TxE tb len n so pl ct E) (hT : R_tk n so pl ct E c (o 7) (o 8) (o 9) (o 10) (o 11) nm) (h5 : o 5 = 0) (hcnt : o 29 = kc) (hcr : 0 ≤ kc ∧ kc ≤ 11) (hb : 0 ≤ o 4 ∧ o 4 ≤ 1) (hN : ∀ i, 0 ≤ i → i < kc → kN (11 * o 4 + i) = kn i) : X_T sc 152 (0, [(0, .ref 530)], [], S) (fun v S' => (∃ (at1 : Int) (en1 : Int) (tk1 : Int) (nu1 : Int) (dg1 : Int) (nm1 : Int64), v = some (.int (iI (X_ix kn kc (ct c)))) ∧ R_tk n so pl ct E (X_av n c) at1 en1 tk1 nu1 dg1 nm1 ∧ so c = 2 ∧ (0 ≤ X_ix kn kc (ct c) ∧ X_ix kn kc (ct c) < kc) ∧ M_o S' (X_ou (X_ou (X_ou (X_ou (X_ou o 7 at1) 8 en1) 9 tk1) 10 nu1) 11 dg1) nm1 ∧ X_Fr (fun q => q = 530) S S') ∨ (∃ (r0 : Int) (f1 : Int) (g1 : Int), v = some (.int (iI r0)) ∧ (1 ≤ f1 ∧ f1 ≤ 5) ∧ (¬ so c = 2 ∨ X_ix kn kc (ct c) = -1) ∧ (-1 ≤ r0 ∧ r0 ≤ 11) ∧ M_o S' (X_ou (X_ou o 5 f1) 6 g1) nm ∧ X_Fr (fun q => q = 530) S S')) := by
  obtain ⟨⟨hc0, hcn⟩, ⟨hs0, hs1⟩, hk0, ⟨ha0, ha1⟩, hk0e, ⟨_, _⟩, ⟨_, _⟩⟩ := R_tk_f hX hT
  have hn2 := hX.2.1
  refine X_QI (fun Q hQ => ?_)
  refine T_p xr_152_0 xn_152 (pc' := 1) (ls' := [(0, .ref 530)]) (st' := [.ref 530]) rfl ?_
  refine T_get xr_152_1 hM rfl (v := .int (iI (o 9))) rfl (pc' := 4) rfl ?_
  refine T_p xr_152_4 xn_152 (pc' := 5) (ls' := [(0, .ref 530)]) (st' := [.int (iI 2), .int (iI (o 9))]) rfl ?_
  refine T_zicmp_eq xr_152_5 (t := 12) (pc' := 8) rfl rfl (fun c1088 => ?_) (fun c1088 => ?_)
  · skip
    have c1088 : (o 9) = 2 := c1088
    refine T_p xr_152_12 xn_152 (pc' := 13) (ls' := [(0, .ref 530)]) (st' := [.ref 530]) rfl ?_
    refine T_cv (S := S) (q := 530) xr_152_13 xf_140.1 xf_140.2.1 xn_140 (as := []) (r := []) rfl hM (Nat.le_of_ble_eq_true rfl) (Nat.le_of_ble_eq_true rfl) (pc' := 16) rfl (ls' := [(0, .ref 530)]) rfl ?_
    refine T_mono (r_isGood sc S o nm hM (show 0 ≤ (o 5) ∧ (o 5) ≤ 5 from by omega)) (fun v1089 S1090 h1091 => ?_)
    rcases h1091 with ⟨hv1092, hf1093⟩
    rw [hv1092]
    rw [hf1093]
    show X_T sc 152 (16, [(0, .ref 530)], [.int (iI (bI ((o 5) = 0)))], S) _
    refine T_bif_eq xr_152_16 (t := 30) (pc' := 19) rfl rfl (fun c1094 => ?_) (fun c1094 => ?_)
    · skip
      have c1094 : ¬ ((o 5) = 0) := c1094
      exact (show False by first | contradiction | omega).elim
    · skip
      have c1094 : ((o 5) = 0) := c1094
      refine T_p xr_152_19 xn_152 (pc' := 20) (ls' := [(0, .ref 530)]) (st' := [.ref 530]) rfl ?_
      refine T_p xr_152_20 xn_152 (pc' := 21) (ls' := [(0, .ref 530)]) (st' := [.ref 530, .ref 530]) rfl ?_
      refine T_get xr_152_21 hM rfl (v := .long nm) rfl (pc' := 24) rfl ?_
      refine T_cv (S := S) (q := 530) xr_152_24 xf_150.1 xf_150.2.1 xn_150 (as := [.long nm]) (r := []) rfl hM (Nat.le_of_ble_eq_true rfl) (Nat.le_of_ble_eq_true rfl) (pc' := 27) rfl (ls' := [(0, .ref 530), (1, .long nm)]) rfl ?_
      refine T_mono (r_kindOf sc S o nm kN kn kc nm hM hA534 (show (o 29) = kc from by omega) (by omega) (show 0 ≤ (o 4) ∧ (o 4) ≤ 1 from by omega) hN) (fun v1095 S1096 h1097 => ?_)
      rcases h1097 with ⟨hv1098, hf1099⟩
      rw [hv1098]
      rw [hf1099]
      have hx1100 := X_ix_r (g := kn) (n := kc) (x := nm) (by omega)
      show X_T sc 152 (27, [(0, .ref 530)], [.int (iI (X_ix kn kc nm))], S) _
      refine T_p xr_152_27 xn_152 (pc' := 31) (ls' := [(0, .ref 530)]) (st' := [.int (iI (X_ix kn kc nm))]) rfl ?_
      refine T_p xr_152_31 xn_152 (pc' := 32) (ls' := [(1, .int (iI (X_ix kn kc nm))), (0, .ref 530)]) (st' := []) rfl ?_
      refine T_p xr_152_32 xn_152 (pc' := 33) (ls' := [(1, .int (iI (X_ix kn kc nm))), (0, .ref 530)]) (st' := [.ref 530]) rfl ?_
      refine T_cv (S := S) (q := 530) xr_152_33 xf_140.1 xf_140.2.1 xn_140 (as := []) (r := []) rfl hM (Nat.le_of_ble_eq_true rfl) (Nat.le_of_ble_eq_true rfl) (pc' := 36) rfl (ls' := [(0, .ref 530)]) rfl ?_
      refine T_mono (r_isGood sc S o nm hM (show 0 ≤ (o 5) ∧ (o 5) ≤ 5 from by omega)) (fun v1101 S1102 h1103 => ?_)
      rcases h1103 with ⟨hv1104, hf1105⟩
      rw [hv1104]
      rw [hf1105]
      show X_T sc 152 (36, [(1, .int (iI (X_ix kn kc nm))), (0, .ref 530)], [.int (iI (bI ((o 5) = 0)))], S) _
      refine T_bif_eq xr_152_36 (t := 52) (pc' := 39) rfl rfl (fun c1106 => ?_) (fun c1106 => ?_)
      · skip
        have c1106 : ¬ ((o 5) = 0) := c1106
        exact (show False by first | contradiction | omega).elim
      · skip
        have c1106 : ((o 5) = 0) := c1106
        refine T_p xr_152_39 xn_152 (pc' := 40) (ls' := [(1, .int (iI (X_ix kn kc nm))), (0, .ref 530)]) (st' := [.int (iI (X_ix kn kc nm))]) rfl ?_
        refine T_zif_ge xr_152_40 (t := 52) (pc' := 43) rfl rfl (fun c1107 => ?_) (fun c1107 => ?_)
        · skip
          have c1107 : 0 ≤ (X_ix kn kc nm) := c1107
          refine T_p xr_152_52 xn_152 (pc' := 53) (ls' := [(1, .int (iI (X_ix kn kc nm))), (0, .ref 530)]) (st' := [.ref 530]) rfl ?_
          refine T_cv (S := S) (q := 530) xr_152_53 xf_140.1 xf_140.2.1 xn_140 (as := []) (r := []) rfl hM (Nat.le_of_ble_eq_true rfl) (Nat.le_of_ble_eq_true rfl) (pc' := 56) rfl (ls' := [(0, .ref 530)]) rfl ?_
          refine T_mono (r_isGood sc S o nm hM (show 0 ≤ (o 5) ∧ (o 5) ≤ 5 from by omega)) (fun v1108 S1109 h1110 => ?_)
          rcases h1110 with ⟨hv1111, hf1112⟩
          rw [hv1111]
          rw [hf1112]
          show X_T sc 152 (56, [(1, .int (iI (X_ix kn kc nm))), (0, .ref 530)], [.int (iI (bI ((o 5) = 0)))], S) _
          refine T_bif_eq xr_152_56 (t := 63) (pc' := 59) rfl rfl (fun c1113 => ?_) (fun c1113 => ?_)
          · skip
            have c1113 : ¬ ((o 5) = 0) := c1113
            exact (show False by first | contradiction | omega).elim
          · skip
            have c1113 : ((o 5) = 0) := c1113
            refine T_p xr_152_59 xn_152 (pc' := 60) (ls' := [(1, .int (iI (X_ix kn kc nm))), (0, .ref 530)]) (st' := [.ref 530]) rfl ?_
            refine T_cv (S := S) (q := 530) xr_152_60 xf_141.1 xf_141.2.1 xn_141 (as := []) (r := []) rfl hM (Nat.le_of_ble_eq_true rfl) (Nat.le_of_ble_eq_true rfl) (pc' := 63) rfl (ls' := [(0, .ref 530)]) rfl ?_
            refine T_mono (r_nx sc S o nm tx tb len n so pl ct E c hM hA532 (show (o 3) = len from by first | assumption | omega) hl htx hX hT (by omega)) (fun v1114 S1115 h1116 => ?_)
            rcases h1116 with ⟨at1117, en1118, tk1119, nu1120, dg1121, nm1122, hv1123, hp1124, hM1125, hf1126⟩
            rw [hv1123]
            have h1127 : S1115.1 530 = .inr (11, [.ref 531, .int (iI (o 1)), .ref 532, .int (iI (o 3)), .int (iI (o 4)), .int (iI (o 5)), .int (iI (o 6)), .int (iI at1117), .int (iI en1118), .int (iI tk1119), .int (iI nu1120), .int (iI dg1121), .long nm1122, .ref 533, .ref 534, .ref 535, .ref 536, .ref 537, .ref 538, .ref 539, .ref 540, .ref 541, .ref 542, .ref 543, .ref 544, .ref 545, .ref 546, .ref 547, .int (iI (o 28)), .int (iI (o 29)), .int (iI (o 30)), .int (iI (o 31)), .int (iI (o 32)), .int (iI (o 33)), .ref 548, .ref 549, .ref 550, .ref 551, .int (iI (o 38)), .ref 552, .ref 553, .ref 554, .ref 555, .ref 556, .ref 557, .ref 558, .ref 559, .ref 560, .ref 561, .int (iI (o 49)), .ref 562, .ref 563, .ref 564, .ref 565, .ref 566, .ref 567, .ref 568, .ref 569, .int (iI (o 58)), .ref 570, .ref 571, .ref 572, .ref 573, .ref 574, .ref 575, .ref 576, .ref 577, .ref 578, .int (iI (o 68)), .int (iI (o 69)), .int (iI (o 70)), .ref 579]) := hM1125
            obtain ⟨⟨_, _⟩, ⟨_, _⟩, hk1128, ⟨_, _⟩, hk1128e, ⟨_, _⟩, ⟨_, _⟩⟩ := R_tk_f hX hp1124
            show X_T sc 152 (63, [(1, .int (iI (X_ix kn kc nm))), (0, .ref 530)], [], S1115) _
            refine T_p xr_152_63 xn_152 (pc' := 64) (ls' := [(1, .int (iI (X_ix kn kc nm))), (0, .ref 530)]) (st' := [.int (iI (X_ix kn kc nm))]) rfl ?_
            refine T_iret xr_152_64 xf_152.2.2 rfl ?_
            refine hQ _ _ ?_
            exact Or.inl ⟨at1117, en1118, tk1119, nu1120, dg1121, nm1122, (by rw [hT.2.2.2.2.1 (by omega)]), hp1124, by omega, by rw [← hT.2.2.2.2.1 (by omega)]; omega, h1127, (X_Fr.rf).tr (X_Fr.mono ⟨hf1126.1, hf1126.2⟩ (fun q hq => by first | exact hq | (rcases hq with rfl <;> decide) | (rcases hq with rfl | rfl <;> decide) | (rcases hq with rfl | rfl | rfl <;> decide) | (rcases hq with rfl | rfl | rfl | rfl <;> decide) | (rcases hq with rfl | rfl | rfl | rfl | rfl <;> decide) | (rcases hq with rfl | rfl | rfl | rfl | rfl | rfl <;> decide) | (rcases hq with rfl | rfl | rfl | rfl | rfl | rfl | rfl <;> decide) | omega))⟩
        · skip
          have c1107 : ¬ (0 ≤ (X_ix kn kc nm)) := c1107
          refine T_p xr_152_43 xn_152 (pc' := 44) (ls' := [(1, .int (iI (X_ix kn kc nm))), (0, .ref 530)]) (st' := [.ref 530]) rfl ?_
          refine T_p xr_152_44 xn_152 (pc' := 45) (ls' := [(1, .int (iI (X_ix kn kc nm))), (0, .ref 530)]) (st' := [.int (iI 3), .ref 530]) rfl ?_
          refine T_p xr_152_45 xn_152 (pc' := 46) (ls' := [(1, .int (iI (X_ix kn kc nm))), (0, .ref 530)]) (st' := [.ref 530, .int (iI 3), .ref 530]) rfl ?_
          refine T_get xr_152_46 hM rfl (v := .int (iI (o 7))) rfl (pc' := 49) rfl ?_
          refine T_cv (S := S) (q := 530) xr_152_49 xf_139.1 xf_139.2.1 xn_139 (as := [.int (iI 3), .int (iI (o 7))]) (r := []) rfl hM (Nat.le_of_ble_eq_true rfl) (Nat.le_of_ble_eq_true rfl) (pc' := 52) rfl (ls' := [(0, .ref 530), (1, .int (iI 3)), (2, .int (iI (o 7)))]) rfl ?_
          refine T_mono (r_fails sc S o nm 3 (o 7) hM (show 0 ≤ (o 5) ∧ (o 5) ≤ 5 from by omega) (by omega)) (fun v1129 S1130 h1131 => ?_)
          rcases h1131 with ⟨f1132, g1133, hv1134, hp1135, hM1136, hf1137⟩
          rw [hv1134]
          have h1138 : S1130.1 530 = .inr (11, [.ref 531, .int (iI (o 1)), .ref 532, .int (iI (o 3)), .int (iI (o 4)), .int (iI f1132), .int (iI g1133), .int (iI (o 7)), .int (iI (o 8)), .int (iI (o 9)), .int (iI (o 10)), .int (iI (o 11)), .long nm, .ref 533, .ref 534, .ref 535, .ref 536, .ref 537, .ref 538, .ref 539, .ref 540, .ref 541, .ref 542, .ref 543, .ref 544, .ref 545, .ref 546, .ref 547, .int (iI (o 28)), .int (iI (o 29)), .int (iI (o 30)), .int (iI (o 31)), .int (iI (o 32)), .int (iI (o 33)), .ref 548, .ref 549, .ref 550, .ref 551, .int (iI (o 38)), .ref 552, .ref 553, .ref 554, .ref 555, .ref 556, .ref 557, .ref 558, .ref 559, .ref 560, .ref 561, .int (iI (o 49)), .ref 562, .ref 563, .ref 564, .ref 565, .ref 566, .ref 567, .ref 568, .ref 569, .int (iI (o 58)), .ref 570, .ref 571, .ref 572, .ref 573, .ref 574, .ref 575, .ref 576, .ref 577, .ref 578, .int (iI (o 68)), .int (iI (o 69)), .int (iI (o 70)), .ref 579]) := hM1136
          have hp1135 : ((o 5) = 0 → f1132 = 3) ∧ (¬ (o 5) = 0 → f1132 = (o 5)) := hp1135
          have hf1139 : f1132 = 3 := hp1135.1 h5
          show X_T sc 152 (52, [(1, .int (iI (X_ix kn kc nm))), (0, .ref 530)], [], S1130) _
          refine T_p xr_152_52 xn_152 (pc' := 53) (ls' := [(1, .int (iI (X_ix kn kc nm))), (0, .ref 530)]) (st' := [.ref 530]) rfl ?_
          refine T_cv (S := S1130) (q := 530) xr_152_53 xf_140.1 xf_140.2.1 xn_140 (as := []) (r := []) rfl h1138 (Nat.le_of_ble_eq_true rfl) (Nat.le_of_ble_eq_true rfl) (pc' := 56) rfl (ls' := [(0, .ref 530)]) rfl ?_
          refine T_mono (r_isGood sc S1130 (X_ou (X_ou o 5 f1132) 6 g1133) nm h1138 (show 0 ≤ f1132 ∧ f1132 ≤ 5 from by omega)) (fun v1140 S1141 h1142 => ?_)
          rcases h1142 with ⟨hv1143, hf1144⟩
          rw [hv1143]
          rw [hf1144]
          show X_T sc 152 (56, [(1, .int (iI (X_ix kn kc nm))), (0, .ref 530)], [.int (iI (bI (f1132 = 0)))], S1130) _
          refine T_bif_eq xr_152_56 (t := 63) (pc' := 59) rfl rfl (fun c1145 => ?_) (fun c1145 => ?_)
          · skip
            have c1145 : ¬ (f1132 = 0) := c1145
            refine T_p xr_152_63 xn_152 (pc' := 64) (ls' := [(1, .int (iI (X_ix kn kc nm))), (0, .ref 530)]) (st' := [.int (iI (X_ix kn kc nm))]) rfl ?_
            refine T_iret xr_152_64 xf_152.2.2 rfl ?_
            refine hQ _ _ ?_
            exact Or.inr ⟨X_ix kn kc nm, f1132, g1133, rfl, by omega, by first | exact Or.inl (by omega) | (right; rw [← hT.2.2.2.2.1 (by omega)]; omega), by omega, h1138, (X_Fr.rf).tr (X_Fr.mono ⟨hf1137.1, hf1137.2⟩ (fun q hq => by first | exact hq | (rcases hq with rfl <;> decide) | (rcases hq with rfl | rfl <;> decide) | (rcases hq with rfl | rfl | rfl <;> decide) | (rcases hq with rfl | rfl | rfl | rfl <;> decide) | (rcases hq with rfl | rfl | rfl | rfl | rfl <;> decide) | (rcases hq with rfl | rfl | rfl | rfl | rfl | rfl <;> decide) | (rcases hq with rfl | rfl | rfl | rfl | rfl | rfl | rfl <;> decide) | omega))⟩
          · skip
            have c1145 : (f1132 = 0) := c1145
            exact (show False by first | contradiction | omega).elim
  · skip
    have c1088 : ¬ ((o 9) = 2) := c1088
    refine T_p xr_152_8 xn_152 (pc' := 9) (ls' := [(0, .ref 530)]) (st' := [.ref 530]) rfl ?_
    refine T_cv (S := S) (q := 530) xr_152_9 xf_147.1 xf_147.2.1 xn_147 (as := []) (r := []) rfl hM (Nat.le_of_ble_eq_true rfl) (Nat.le_of_ble_eq_true rfl) (pc' := 12) rfl (ls' := [(0, .ref 530)]) rfl ?_
    refine T_mono (r_wrong sc S o nm tx tb len n so pl ct E c hM hA532 (show (o 3) = len from by first | assumption | omega) hl htx hX hT (show 0 ≤ (o 5) ∧ (o 5) ≤ 5 from by omega)) (fun v1146 S1147 h1148 => ?_)
    rcases h1148 with ⟨f1149, g1150, hv1151, hp1152, hM1153, hf1154⟩
    rw [hv1151]
    have h1155 : S1147.1 530 = .inr (11, [.ref 531, .int (iI (o 1)), .ref 532, .int (iI (o 3)), .int (iI (o 4)), .int (iI f1149), .int (iI g1150), .int (iI (o 7)), .int (iI (o 8)), .int (iI (o 9)), .int (iI (o 10)), .int (iI (o 11)), .long nm, .ref 533, .ref 534, .ref 535, .ref 536, .ref 537, .ref 538, .ref 539, .ref 540, .ref 541, .ref 542, .ref 543, .ref 544, .ref 545, .ref 546, .ref 547, .int (iI (o 28)), .int (iI (o 29)), .int (iI (o 30)), .int (iI (o 31)), .int (iI (o 32)), .int (iI (o 33)), .ref 548, .ref 549, .ref 550, .ref 551, .int (iI (o 38)), .ref 552, .ref 553, .ref 554, .ref 555, .ref 556, .ref 557, .ref 558, .ref 559, .ref 560, .ref 561, .int (iI (o 49)), .ref 562, .ref 563, .ref 564, .ref 565, .ref 566, .ref 567, .ref 568, .ref 569, .int (iI (o 58)), .ref 570, .ref 571, .ref 572, .ref 573, .ref 574, .ref 575, .ref 576, .ref 577, .ref 578, .int (iI (o 68)), .int (iI (o 69)), .int (iI (o 70)), .ref 579]) := hM1153
    show X_T sc 152 (12, [(0, .ref 530)], [], S1147) _
    refine T_p xr_152_12 xn_152 (pc' := 13) (ls' := [(0, .ref 530)]) (st' := [.ref 530]) rfl ?_
    refine T_cv (S := S1147) (q := 530) xr_152_13 xf_140.1 xf_140.2.1 xn_140 (as := []) (r := []) rfl h1155 (Nat.le_of_ble_eq_true rfl) (Nat.le_of_ble_eq_true rfl) (pc' := 16) rfl (ls' := [(0, .ref 530)]) rfl ?_
    refine T_mono (r_isGood sc S1147 (X_ou (X_ou o 5 f1149) 6 g1150) nm h1155 (show 0 ≤ f1149 ∧ f1149 ≤ 5 from by omega)) (fun v1156 S1157 h1158 => ?_)
    rcases h1158 with ⟨hv1159, hf1160⟩
    rw [hv1159]
    rw [hf1160]
    show X_T sc 152 (16, [(0, .ref 530)], [.int (iI (bI (f1149 = 0)))], S1147) _
    refine T_bif_eq xr_152_16 (t := 30) (pc' := 19) rfl rfl (fun c1161 => ?_) (fun c1161 => ?_)
    · skip
      have c1161 : ¬ (f1149 = 0) := c1161
      refine T_p xr_152_30 xn_152 (pc' := 31) (ls' := [(0, .ref 530)]) (st' := [.int (iI 0)]) rfl ?_
      refine T_p xr_152_31 xn_152 (pc' := 32) (ls' := [(1, .int (iI 0)), (0, .ref 530)]) (st' := []) rfl ?_
      refine T_p xr_152_32 xn_152 (pc' := 33) (ls' := [(1, .int (iI 0)), (0, .ref 530)]) (st' := [.ref 530]) rfl ?_
      refine T_cv (S := S1147) (q := 530) xr_152_33 xf_140.1 xf_140.2.1 xn_140 (as := []) (r := []) rfl h1155 (Nat.le_of_ble_eq_true rfl) (Nat.le_of_ble_eq_true rfl) (pc' := 36) rfl (ls' := [(0, .ref 530)]) rfl ?_
      refine T_mono (r_isGood sc S1147 (X_ou (X_ou o 5 f1149) 6 g1150) nm h1155 (show 0 ≤ f1149 ∧ f1149 ≤ 5 from by omega)) (fun v1162 S1163 h1164 => ?_)
      rcases h1164 with ⟨hv1165, hf1166⟩
      rw [hv1165]
      rw [hf1166]
      show X_T sc 152 (36, [(1, .int (iI 0)), (0, .ref 530)], [.int (iI (bI (f1149 = 0)))], S1147) _
      refine T_bif_eq xr_152_36 (t := 52) (pc' := 39) rfl rfl (fun c1167 => ?_) (fun c1167 => ?_)
      · skip
        have c1167 : ¬ (f1149 = 0) := c1167
        refine T_p xr_152_52 xn_152 (pc' := 53) (ls' := [(1, .int (iI 0)), (0, .ref 530)]) (st' := [.ref 530]) rfl ?_
        refine T_cv (S := S1147) (q := 530) xr_152_53 xf_140.1 xf_140.2.1 xn_140 (as := []) (r := []) rfl h1155 (Nat.le_of_ble_eq_true rfl) (Nat.le_of_ble_eq_true rfl) (pc' := 56) rfl (ls' := [(0, .ref 530)]) rfl ?_
        refine T_mono (r_isGood sc S1147 (X_ou (X_ou o 5 f1149) 6 g1150) nm h1155 (show 0 ≤ f1149 ∧ f1149 ≤ 5 from by omega)) (fun v1168 S1169 h1170 => ?_)
        rcases h1170 with ⟨hv1171, hf1172⟩
        rw [hv1171]
        rw [hf1172]
        show X_T sc 152 (56, [(1, .int (iI 0)), (0, .ref 530)], [.int (iI (bI (f1149 = 0)))], S1147) _
        refine T_bif_eq xr_152_56 (t := 63) (pc' := 59) rfl rfl (fun c1173 => ?_) (fun c1173 => ?_)
        · skip
          have c1173 : ¬ (f1149 = 0) := c1173
          refine T_p xr_152_63 xn_152 (pc' := 64) (ls' := [(1, .int (iI 0)), (0, .ref 530)]) (st' := [.int (iI 0)]) rfl ?_
          refine T_iret xr_152_64 xf_152.2.2 rfl ?_
          refine hQ _ _ ?_
          exact Or.inr ⟨0, f1149, g1150, rfl, by omega, by first | exact Or.inl (by omega) | (right; rw [← hT.2.2.2.2.1 (by omega)]; omega), by omega, h1155, (X_Fr.rf).tr (X_Fr.mono ⟨hf1154.1, hf1154.2⟩ (fun q hq => by first | exact hq | (rcases hq with rfl <;> decide) | (rcases hq with rfl | rfl <;> decide) | (rcases hq with rfl | rfl | rfl <;> decide) | (rcases hq with rfl | rfl | rfl | rfl <;> decide) | (rcases hq with rfl | rfl | rfl | rfl | rfl <;> decide) | (rcases hq with rfl | rfl | rfl | rfl | rfl | rfl <;> decide) | (rcases hq with rfl | rfl | rfl | rfl | rfl | rfl | rfl <;> decide) | omega))⟩
        · skip
          have c1173 : (f1149 = 0) := c1173
          exact (show False by first | contradiction | omega).elim
      · skip
        have c1167 : (f1149 = 0) := c1167
        exact (show False by first | contradiction | omega).elim
    · skip
      have c1161 : (f1149 = 0) := c1161
      exact (show False by first | contradiction | omega).elim
theorem r_tight (sc : X_Sc) (S : X_S) (o : Nat → Int) (nm : Int64) (tg : Int → Int) (a : Int) (b : Int) (p_ : Prop) (hM : M_o S o nm) (hA535 : S.1 535 = .inl (.boolean, 288, .inl fun k : Nat => iI (tg (k : Int)))) (hb : 0 ≤ o 4 ∧ o 4 ≤ 1) (ha : 0 ≤ a ∧ a < 12) (hb_ : 0 ≤ b ∧ b < 12) (ht : tg (144 * o 4 + 12 * a + b) = bI p_) : X_T sc 154 (0, [(0, .ref 530), (1, .int (iI a)), (2, .int (iI b))], [], S) (fun v S' => v = some (.int (iI (bI (p_)))) ∧ S' = S) := by
  refine X_QI (fun Q hQ => ?_)
  refine T_p xr_154_0 xn_154 (pc' := 1) (ls' := [(0, .ref 530), (1, .int (iI a)), (2, .int (iI b))]) (st' := [.ref 530]) rfl ?_
  refine T_get xr_154_1 hM rfl (v := .ref 535) rfl (pc' := 4) rfl ?_
  refine T_p xr_154_4 xn_154 (pc' := 7) (ls' := [(0, .ref 530), (1, .int (iI a)), (2, .int (iI b))]) (st' := [.int (iI 144), .ref 535]) rfl ?_
  refine T_p xr_154_7 xn_154 (pc' := 8) (ls' := [(0, .ref 530), (1, .int (iI a)), (2, .int (iI b))]) (st' := [.ref 530, .int (iI 144), .ref 535]) rfl ?_
  refine T_get xr_154_8 hM rfl (v := .int (iI (o 4))) rfl (pc' := 11) rfl ?_
  refine T_zimul xr_154_11 (z := 144 * (o 4)) rfl (pc' := 12) rfl ?_
  refine T_p xr_154_12 xn_154 (pc' := 14) (ls' := [(0, .ref 530), (1, .int (iI a)), (2, .int (iI b))]) (st' := [.int (iI 12), .int (iI (144 * (o 4))), .ref 535]) rfl ?_
  refine T_p xr_154_14 xn_154 (pc' := 15) (ls' := [(0, .ref 530), (1, .int (iI a)), (2, .int (iI b))]) (st' := [.int (iI a), .int (iI 12), .int (iI (144 * (o 4))), .ref 535]) rfl ?_
  refine T_zimul xr_154_15 (z := 12 * a) rfl (pc' := 16) rfl ?_
  refine T_ziadd xr_154_16 (z := (144 * (o 4)) + (12 * a)) rfl (pc' := 17) rfl ?_
  refine T_p xr_154_17 xn_154 (pc' := 18) (ls' := [(0, .ref 530), (1, .int (iI a)), (2, .int (iI b))]) (st' := [.int (iI b), .int (iI ((144 * (o 4)) + (12 * a))), .ref 535]) rfl ?_
  refine T_ziadd xr_154_18 (z := ((144 * (o 4)) + (12 * a)) + b) rfl (pc' := 19) rfl ?_
  refine T_zzald xr_154_19 hA535 (pc' := 20) rfl ?_
  refine T_ie (y := iI (bI (p_))) (by rw [ht]) ?_
  refine T_iret xr_154_20 xf_154.2.2 (X_fit_b _) ?_
  refine hQ _ _ ?_
  exact ⟨rfl, rfl⟩
theorem r_readRank (sc : X_Sc) (S : X_S) (o : Nat → Int) (nm : Int64) (tx : Int → Int) (rN : Int → Int64) (tg : Int → Int) (tb : Int → Int) (len : Int) (n : Int) (so : Int → Int) (pl : Int → Int) (ct : Int → Int64) (E : Int → Int) (c : Int) (c0 : Int) (rc : Int) (kc : Int) (wc : Int) (rn : Int → Int64) (lo : Int → Int) (kn : Int → Int64) (ab : Int → Int) (D : Int → Nat → Int → Int) (W : Int → Int → Int64) (hM : M_o S o nm) (hA532 : S.1 532 = .inl (.byte, 2000, .inl fun k : Nat => iI (tx (k : Int)))) (hA533 : S.1 533 = .inl (.long, 24, .inr (.inl fun k : Nat => rN (k : Int)))) (hA535 : S.1 535 = .inl (.boolean, 288, .inl fun k : Nat => iI (tg (k : Int)))) (hlen : o 3 = len) (hl : 0 ≤ len ∧ len ≤ 2000) (htx : ∀ k, 0 ≤ k → k < len → tx k = tb k) (hX : X_TxE tb len n so pl ct E) (hT : R_tk n so pl ct E c (o 7) (o 8) (o 9) (o 10) (o 11) nm) (h5 : o 5 = 0) (hrc : o 28 = rc) (hcr : 0 ≤ rc ∧ rc < 12) (hb : 0 ≤ o 4 ∧ o 4 ≤ 1) (hc : c = X_av n c0) (hR : R_rk (o 4) rc rn lo rN tg) : X_T sc 153 (0, [(0, .ref 530)], [], S) (fun v S' => (∃ (at1 : Int) (en1 : Int) (tk1 : Int) (nu1 : Int) (dg1 : Int) (nm1 : Int64) (rN1 : Int → Int64) (tg1 : Int → Int), v = none ∧ R_tk n so pl ct E (X_av n (X_av n c)) at1 en1 tk1 nu1 dg1 nm1 ∧ sp_rank n so ct (c0, rc, kc, wc, rn, lo, kn, ab, D, W) = some (X_av n (X_av n c), rc + 1, kc, wc, X_ug rn rc (ct c), X_ug lo rc 0, kn, ab, D, W) ∧ R_rk (o 4) (rc + 1) (X_ug rn rc (ct c)) (X_ug lo rc 0) rN1 tg1 ∧ (R_ob 12 (o 4) rN rN1 ∧ R_ob 144 (o 4) tg tg1) ∧ M_o S' (X_ou (X_ou (X_ou (X_ou (X_ou (X_ou o 7 at1) 8 en1) 9 tk1) 10 nu1) 11 dg1) 28 (rc + 1)) nm1 ∧ S'.1 533 = .inl (.long, 24, .inr (.inl fun k : Nat => rN1 (k : Int))) ∧ S'.1 535 = .inl (.boolean, 288, .inl fun k : Nat => iI (tg1 (k : Int))) ∧ (X_Fr (fun q => q = 530 ∨ q = 533 ∨ q = 535) S S')) ∨ (∃ (at1 : Int) (en1 : Int) (tk1 : Int) (nu1 : Int) (dg1 : Int) (nm1 : Int64) (rc1 : Int) (f1 : Int) (g1 : Int) (rN1 : Int → Int64) (tg1 : Int → Int), v = none ∧ (1 ≤ f1 ∧ f1 ≤ 5) ∧ sp_rank n so ct (c0, rc, kc, wc, rn, lo, kn, ab, D, W) = none ∧ (R_ob 12 (o 4) rN rN1 ∧ R_ob 144 (o 4) tg tg1) ∧ M_o S' (X_ou (X_ou (X_ou (X_ou (X_ou (X_ou (X_ou (X_ou o 7 at1) 8 en1) 9 tk1) 10 nu1) 11 dg1) 28 rc1) 5 f1) 6 g1) nm1 ∧ S'.1 533 = .inl (.long, 24, .inr (.inl fun k : Nat => rN1 (k : Int))) ∧ S'.1 535 = .inl (.boolean, 288, .inl fun k : Nat => iI (tg1 (k : Int))) ∧ (X_Fr (fun q => q = 530 ∨ q = 533 ∨ q = 535) S S'))) := by
  obtain ⟨⟨hc0, hcn⟩, ⟨hs0, hs1⟩, hk0, ⟨ha0, ha1⟩, hk0e, ⟨_, _⟩, ⟨_, _⟩⟩ := R_tk_f hX hT
  have hn2 := hX.2.1
  have hN := hR.1
  refine X_QI (fun Q hQ => ?_)
  refine T_p xr_153_0 xn_153 (pc' := 1) (ls' := [(0, .ref 530)]) (st' := [.ref 530]) rfl ?_
  refine T_get xr_153_1 hM rfl (v := .int (iI (o 9))) rfl (pc' := 4) rfl ?_
  refine T_p xr_153_4 xn_153 (pc' := 5) (ls' := [(0, .ref 530)]) (st' := [.int (iI 2), .int (iI (o 9))]) rfl ?_
  refine T_zicmp_eq xr_153_5 (t := 12) (pc' := 8) rfl rfl (fun c1174 => ?_) (fun c1174 => ?_)
  · skip
    have c1174 : (o 9) = 2 := c1174
    refine T_p xr_153_12 xn_153 (pc' := 13) (ls' := [(0, .ref 530)]) (st' := [.ref 530]) rfl ?_
    refine T_cv (S := S) (q := 530) xr_153_13 xf_140.1 xf_140.2.1 xn_140 (as := []) (r := []) rfl hM (Nat.le_of_ble_eq_true rfl) (Nat.le_of_ble_eq_true rfl) (pc' := 16) rfl (ls' := [(0, .ref 530)]) rfl ?_
    refine T_mono (r_isGood sc S o nm hM (show 0 ≤ (o 5) ∧ (o 5) ≤ 5 from by omega)) (fun v1175 S1176 h1177 => ?_)
    rcases h1177 with ⟨hv1178, hf1179⟩
    rw [hv1178]
    rw [hf1179]
    show X_T sc 153 (16, [(0, .ref 530)], [.int (iI (bI ((o 5) = 0)))], S) _
    refine T_bif_eq xr_153_16 (t := 39) (pc' := 19) rfl rfl (fun c1180 => ?_) (fun c1180 => ?_)
    · skip
      have c1180 : ¬ ((o 5) = 0) := c1180
      exact (show False by first | contradiction | omega).elim
    · skip
      have c1180 : ((o 5) = 0) := c1180
      refine T_p xr_153_19 xn_153 (pc' := 20) (ls' := [(0, .ref 530)]) (st' := [.ref 530]) rfl ?_
      refine T_p xr_153_20 xn_153 (pc' := 21) (ls' := [(0, .ref 530)]) (st' := [.ref 530, .ref 530]) rfl ?_
      refine T_get xr_153_21 hM rfl (v := .long nm) rfl (pc' := 24) rfl ?_
      refine T_le (y := (ct c)) (hT.2.2.2.2.1 (Or.inl (by omega))) ?_
      refine T_cv (S := S) (q := 530) xr_153_24 xf_149.1 xf_149.2.1 xn_149 (as := [.long (ct c)]) (r := []) rfl hM (Nat.le_of_ble_eq_true rfl) (Nat.le_of_ble_eq_true rfl) (pc' := 27) rfl (ls' := [(0, .ref 530), (1, .long (ct c))]) rfl ?_
      refine T_mono (r_rankOf sc S o nm rN rn rc (ct c) hM hA533 (show (o 28) = rc from by omega) (by omega) (show 0 ≤ (o 4) ∧ (o 4) ≤ 1 from by omega) hN) (fun v1181 S1182 h1183 => ?_)
      rcases h1183 with ⟨hv1184, hf1185⟩
      rw [hv1184]
      rw [hf1185]
      have hx1186 := X_ix_r (g := rn) (n := rc) (x := (ct c)) (by omega)
      show X_T sc 153 (27, [(0, .ref 530)], [.int (iI (X_ix rn rc (ct c)))], S) _
      refine T_zif_lt xr_153_27 (t := 39) (pc' := 30) rfl rfl (fun c1187 => ?_) (fun c1187 => ?_)
      · skip
        have c1187 : (X_ix rn rc (ct c)) < 0 := c1187
        refine T_p xr_153_39 xn_153 (pc' := 40) (ls' := [(0, .ref 530)]) (st' := [.ref 530]) rfl ?_
        refine T_cv (S := S) (q := 530) xr_153_40 xf_140.1 xf_140.2.1 xn_140 (as := []) (r := []) rfl hM (Nat.le_of_ble_eq_true rfl) (Nat.le_of_ble_eq_true rfl) (pc' := 43) rfl (ls' := [(0, .ref 530)]) rfl ?_
        refine T_mono (r_isGood sc S o nm hM (show 0 ≤ (o 5) ∧ (o 5) ≤ 5 from by omega)) (fun v1188 S1189 h1190 => ?_)
        rcases h1190 with ⟨hv1191, hf1192⟩
        rw [hv1191]
        rw [hf1192]
        show X_T sc 153 (43, [(0, .ref 530)], [.int (iI (bI ((o 5) = 0)))], S) _
        refine T_bif_ne xr_153_43 (t := 47) (pc' := 46) rfl rfl (fun c1193 => ?_) (fun c1193 => ?_)
        · skip
          have c1193 : ((o 5) = 0) := c1193
          refine T_p xr_153_47 xn_153 (pc' := 48) (ls' := [(0, .ref 530)]) (st' := [.ref 530]) rfl ?_
          refine T_get xr_153_48 hM rfl (v := .ref 533) rfl (pc' := 51) rfl ?_
          refine T_p xr_153_51 xn_153 (pc' := 53) (ls' := [(0, .ref 530)]) (st' := [.int (iI 12), .ref 533]) rfl ?_
          refine T_p xr_153_53 xn_153 (pc' := 54) (ls' := [(0, .ref 530)]) (st' := [.ref 530, .int (iI 12), .ref 533]) rfl ?_
          refine T_get xr_153_54 hM rfl (v := .int (iI (o 4))) rfl (pc' := 57) rfl ?_
          refine T_zimul xr_153_57 (z := 12 * (o 4)) rfl (pc' := 58) rfl ?_
          refine T_p xr_153_58 xn_153 (pc' := 59) (ls' := [(0, .ref 530)]) (st' := [.ref 530, .int (iI (12 * (o 4))), .ref 533]) rfl ?_
          refine T_get xr_153_59 hM rfl (v := .int (iI (o 28))) rfl (pc' := 62) rfl ?_
          refine T_ziadd xr_153_62 (z := (12 * (o 4)) + (o 28)) rfl (pc' := 63) rfl ?_
          refine T_p xr_153_63 xn_153 (pc' := 64) (ls' := [(0, .ref 530)]) (st' := [.ref 530, .int (iI ((12 * (o 4)) + (o 28))), .ref 533]) rfl ?_
          refine T_get xr_153_64 hM rfl (v := .long nm) rfl (pc' := 67) rfl ?_
          refine T_le (y := (ct c)) (hT.2.2.2.2.1 (Or.inl (by omega))) ?_
          refine T_zlast xr_153_67 hA533 (pc' := 68) rfl (fun S1194 h1195 n1196 e1197 => ?_)
          refine T_p xr_153_68 xn_153 (pc' := 69) (ls' := [(0, .ref 530)]) (st' := [.int (iI 0)]) rfl ?_
          refine T_p xr_153_69 xn_153 (pc' := 70) (ls' := [(1, .int (iI 0)), (0, .ref 530)]) (st' := []) rfl ?_
          have h1203 := (n1196 535 (by decide)).trans (hA535)
          have L1198 : ∀ (m1200 : Nat) (S1204 : X_S) (k : Int) (tg1 : Int → Int) (htg1 : S1204.1 535 = .inl (.boolean, 288, .inl fun k : Nat => iI (tg1 (k : Int)))) (hF1202 : X_Fr (fun q => q = 535) S1194 S1204) (hk : 0 ≤ k ∧ k ≤ 12) (ht1 : ∀ i, 0 ≤ i → i < k → tg1 (144 * o 4 + 12 * rc + i) = 0 ∧ tg1 (144 * o 4 + 12 * i + rc) = 0) (ht2 : ∀ i, (∀ j, 0 ≤ j → j < 12 → i ≠ 144 * o 4 + 12 * rc + j ∧ i ≠ 144 * o 4 + 12 * j + rc) → tg1 i = tg i) (ht3 : R_ob 144 (o 4) tg tg1) (hm1201 : 12 - k < m1200), X_T sc 153 (70, [(1, .int (iI k)), (0, .ref 530)], [], S1204) Q := by
            intro m1200
            induction m1200 with
            | zero =>
              intro S1204 k tg1 htg1 hF1202 hk ht1 ht2 ht3 hm1201
              exact (show False by omega).elim
            | succ m1200 ih1199 =>
              intro S1204 k tg1 htg1 hF1202 hk ht1 ht2 ht3 hm1201
              refine T_p xr_153_70 xn_153 (pc' := 71) (ls' := [(1, .int (iI k)), (0, .ref 530)]) (st' := [.int (iI k)]) rfl ?_
              refine T_p xr_153_71 xn_153 (pc' := 73) (ls' := [(1, .int (iI k)), (0, .ref 530)]) (st' := [.int (iI 12), .int (iI k)]) rfl ?_
              refine T_zicmp_ge xr_153_73 (t := 130) (pc' := 76) rfl rfl (fun c1205 => ?_) (fun c1205 => ?_)
              · skip
                have c1205 : 12 ≤ k := c1205
                refine T_p xr_153_130 xn_153 (pc' := 131) (ls' := [(1, .int (iI k)), (0, .ref 530)]) (st' := [.ref 530]) rfl ?_
                refine T_p xr_153_131 xn_153 (pc' := 132) (ls' := [(1, .int (iI k)), (0, .ref 530)]) (st' := [.ref 530, .ref 530]) rfl ?_
                have h1206 := (hF1202.1 530 (by first | decide | omega)).trans ((n1196 530 (by decide)).trans (hM))
                refine T_get xr_153_132 h1206 rfl (v := .int (iI (o 28))) rfl (pc' := 135) rfl ?_
                refine T_p xr_153_135 xn_153 (pc' := 136) (ls' := [(1, .int (iI k)), (0, .ref 530)]) (st' := [.int (iI 1), .int (iI (o 28)), .ref 530]) rfl ?_
                refine T_ziadd xr_153_136 (z := (o 28) + 1) rfl (pc' := 137) rfl ?_
                refine T_ie (y := iI (rc + 1)) (by rw [hrc]) ?_
                refine T_put xr_153_137 h1206 rfl (Nat.le_of_ble_eq_true rfl) rfl (fs' := [.ref 531, .int (iI (o 1)), .ref 532, .int (iI (o 3)), .int (iI (o 4)), .int (iI (o 5)), .int (iI (o 6)), .int (iI (o 7)), .int (iI (o 8)), .int (iI (o 9)), .int (iI (o 10)), .int (iI (o 11)), .long nm, .ref 533, .ref 534, .ref 535, .ref 536, .ref 537, .ref 538, .ref 539, .ref 540, .ref 541, .ref 542, .ref 543, .ref 544, .ref 545, .ref 546, .ref 547, .int (iI (rc + 1)), .int (iI (o 29)), .int (iI (o 30)), .int (iI (o 31)), .int (iI (o 32)), .int (iI (o 33)), .ref 548, .ref 549, .ref 550, .ref 551, .int (iI (o 38)), .ref 552, .ref 553, .ref 554, .ref 555, .ref 556, .ref 557, .ref 558, .ref 559, .ref 560, .ref 561, .int (iI (o 49)), .ref 562, .ref 563, .ref 564, .ref 565, .ref 566, .ref 567, .ref 568, .ref 569, .int (iI (o 58)), .ref 570, .ref 571, .ref 572, .ref 573, .ref 574, .ref 575, .ref 576, .ref 577, .ref 578, .int (iI (o 68)), .int (iI (o 69)), .int (iI (o 70)), .ref 579]) rfl (pc' := 140) rfl (fun S1207 h1208 n1209 e1210 => ?_)
                refine T_p xr_153_140 xn_153 (pc' := 141) (ls' := [(1, .int (iI k)), (0, .ref 530)]) (st' := [.ref 530]) rfl ?_
                refine T_cv (S := S1207) (q := 530) xr_153_141 xf_141.1 xf_141.2.1 xn_141 (as := []) (r := []) rfl h1208 (Nat.le_of_ble_eq_true rfl) (Nat.le_of_ble_eq_true rfl) (pc' := 144) rfl (ls' := [(0, .ref 530)]) rfl ?_
                have h1211 := (n1209 532 (by decide)).trans ((hF1202.1 532 (by first | decide | omega)).trans ((n1196 532 (by decide)).trans (hA532)))
                refine T_mono (r_nx sc S1207 (X_ou o 28 (rc + 1)) nm tx tb len n so pl ct E c h1208 h1211 (show (o 3) = len from by first | assumption | omega) hl htx hX hT (by omega)) (fun v1212 S1213 h1214 => ?_)
                rcases h1214 with ⟨at1215, en1216, tk1217, nu1218, dg1219, nm1220, hv1221, hp1222, hM1223, hf1224⟩
                rw [hv1221]
                have h1225 : S1213.1 530 = .inr (11, [.ref 531, .int (iI (o 1)), .ref 532, .int (iI (o 3)), .int (iI (o 4)), .int (iI (o 5)), .int (iI (o 6)), .int (iI at1215), .int (iI en1216), .int (iI tk1217), .int (iI nu1218), .int (iI dg1219), .long nm1220, .ref 533, .ref 534, .ref 535, .ref 536, .ref 537, .ref 538, .ref 539, .ref 540, .ref 541, .ref 542, .ref 543, .ref 544, .ref 545, .ref 546, .ref 547, .int (iI (rc + 1)), .int (iI (o 29)), .int (iI (o 30)), .int (iI (o 31)), .int (iI (o 32)), .int (iI (o 33)), .ref 548, .ref 549, .ref 550, .ref 551, .int (iI (o 38)), .ref 552, .ref 553, .ref 554, .ref 555, .ref 556, .ref 557, .ref 558, .ref 559, .ref 560, .ref 561, .int (iI (o 49)), .ref 562, .ref 563, .ref 564, .ref 565, .ref 566, .ref 567, .ref 568, .ref 569, .int (iI (o 58)), .ref 570, .ref 571, .ref 572, .ref 573, .ref 574, .ref 575, .ref 576, .ref 577, .ref 578, .int (iI (o 68)), .int (iI (o 69)), .int (iI (o 70)), .ref 579]) := hM1223
                obtain ⟨⟨_, _⟩, ⟨_, _⟩, hk1226, ⟨_, _⟩, hk1226e, ⟨_, _⟩, ⟨_, _⟩⟩ := R_tk_f hX hp1222
                show X_T sc 153 (144, [(1, .int (iI k)), (0, .ref 530)], [], S1213) _
                refine T_p xr_153_144 xn_153 (pc' := 145) (ls' := [(1, .int (iI k)), (0, .ref 530)]) (st' := [.ref 530]) rfl ?_
                refine T_p xr_153_145 xn_153 (pc' := 147) (ls' := [(1, .int (iI k)), (0, .ref 530)]) (st' := [.int (iI 59), .ref 530]) rfl ?_
                refine T_cv (S := S1213) (q := 530) xr_153_147 xf_148.1 xf_148.2.1 xn_148 (as := [.int (iI 59)]) (r := []) rfl h1225 (Nat.le_of_ble_eq_true rfl) (Nat.le_of_ble_eq_true rfl) (pc' := 150) rfl (ls' := [(0, .ref 530), (1, .int (iI 59))]) rfl ?_
                have h1227 := (hf1224.1 532 (by first | decide | omega)).trans (h1211)
                refine T_mono (r_must sc S1213 (X_ou (X_ou (X_ou (X_ou (X_ou (X_ou o 7 at1215) 8 en1216) 9 tk1217) 10 nu1218) 11 dg1219) 28 (rc + 1)) nm1220 tx tb len n so pl ct E (X_av n c) 59 h1225 h1227 (show (o 3) = len from by first | assumption | omega) hl htx hX hp1222 (show (o 5) = 0 from by omega) (by omega)) (fun v1228 S1229 h1230 => ?_)
                rcases h1230 with ⟨at1231, en1232, tk1233, nu1234, dg1235, nm1236, hv1237, hp1238, hp1239, hM1240, hf1241⟩ | ⟨f1242, g1243, hv1244, hp1245, hp1246, hM1247, hf1248⟩
                · skip
                  rw [hv1237]
                  have h1249 : S1229.1 530 = .inr (11, [.ref 531, .int (iI (o 1)), .ref 532, .int (iI (o 3)), .int (iI (o 4)), .int (iI (o 5)), .int (iI (o 6)), .int (iI at1231), .int (iI en1232), .int (iI tk1233), .int (iI nu1234), .int (iI dg1235), .long nm1236, .ref 533, .ref 534, .ref 535, .ref 536, .ref 537, .ref 538, .ref 539, .ref 540, .ref 541, .ref 542, .ref 543, .ref 544, .ref 545, .ref 546, .ref 547, .int (iI (rc + 1)), .int (iI (o 29)), .int (iI (o 30)), .int (iI (o 31)), .int (iI (o 32)), .int (iI (o 33)), .ref 548, .ref 549, .ref 550, .ref 551, .int (iI (o 38)), .ref 552, .ref 553, .ref 554, .ref 555, .ref 556, .ref 557, .ref 558, .ref 559, .ref 560, .ref 561, .int (iI (o 49)), .ref 562, .ref 563, .ref 564, .ref 565, .ref 566, .ref 567, .ref 568, .ref 569, .int (iI (o 58)), .ref 570, .ref 571, .ref 572, .ref 573, .ref 574, .ref 575, .ref 576, .ref 577, .ref 578, .int (iI (o 68)), .int (iI (o 69)), .int (iI (o 70)), .ref 579]) := hM1240
                  obtain ⟨⟨_, _⟩, ⟨_, _⟩, hk1250, ⟨_, _⟩, hk1250e, ⟨_, _⟩, ⟨_, _⟩⟩ := R_tk_f hX hp1238
                  show X_T sc 153 (150, [(1, .int (iI k)), (0, .ref 530)], [], S1229) _
                  refine T_vret xr_153_150 xf_153.2.2 ?_
                  refine hQ _ _ ?_
                  have h1252 := (hf1241.1 533 (by first | decide | omega)).trans ((hf1224.1 533 (by first | decide | omega)).trans ((n1209 533 (by decide)).trans ((hF1202.1 533 (by first | decide | omega)).trans (h1195))))
                  have h1253 := (hf1241.1 535 (by first | decide | omega)).trans ((hf1224.1 535 (by first | decide | omega)).trans ((n1209 535 (by decide)).trans (htg1)))
                  refine Or.inl ⟨at1231, en1232, tk1233, nu1234, dg1235, nm1236, (X_ug rN ((12 * (o 4)) + (o 28)) (ct c)), tg1, rfl, hp1238, ?_, ?_, ?_, h1249, h1252, h1253, (((((X_Fr.rf).tr (X_Fr.of n1196 e1197 (by first | decide | exact ⟨Nat.le_add_right _ _, Nat.add_le_add_left (by decide) _⟩ | omega))).tr (X_Fr.mono ⟨hF1202.1, hF1202.2⟩ (fun q hq => by first | exact hq | (rcases hq with rfl <;> decide) | (rcases hq with rfl | rfl <;> decide) | (rcases hq with rfl | rfl | rfl <;> decide) | (rcases hq with rfl | rfl | rfl | rfl <;> decide) | (rcases hq with rfl | rfl | rfl | rfl | rfl <;> decide) | (rcases hq with rfl | rfl | rfl | rfl | rfl | rfl <;> decide) | (rcases hq with rfl | rfl | rfl | rfl | rfl | rfl | rfl <;> decide) | omega))).tr (X_Fr.of n1209 e1210 (by first | decide | exact ⟨Nat.le_add_right _ _, Nat.add_le_add_left (by decide) _⟩ | omega))).tr (X_Fr.mono ⟨hf1224.1, hf1224.2⟩ (fun q hq => by first | exact hq | (rcases hq with rfl <;> decide) | (rcases hq with rfl | rfl <;> decide) | (rcases hq with rfl | rfl | rfl <;> decide) | (rcases hq with rfl | rfl | rfl | rfl <;> decide) | (rcases hq with rfl | rfl | rfl | rfl | rfl <;> decide) | (rcases hq with rfl | rfl | rfl | rfl | rfl | rfl <;> decide) | (rcases hq with rfl | rfl | rfl | rfl | rfl | rfl | rfl <;> decide) | omega))).tr (X_Fr.mono ⟨hf1241.1, hf1241.2⟩ (fun q hq => by first | exact hq | (rcases hq with rfl <;> decide) | (rcases hq with rfl | rfl <;> decide) | (rcases hq with rfl | rfl | rfl <;> decide) | (rcases hq with rfl | rfl | rfl | rfl <;> decide) | (rcases hq with rfl | rfl | rfl | rfl | rfl <;> decide) | (rcases hq with rfl | rfl | rfl | rfl | rfl | rfl <;> decide) | (rcases hq with rfl | rfl | rfl | rfl | rfl | rfl | rfl <;> decide) | omega))⟩
                  · simp only [sp_rank, ← hc]
                    (repeat (first | rw [if_pos (by assumption)] | rw [if_neg (by assumption)] | rw [if_neg (by omega)] | rw [if_pos (by omega)]))
                  · exact R_rk_add (by omega) (by omega) hR (by rw [hrc]) (fun i h1 h2 => ht1 i h1 (by omega)) ht2
                  · exact ⟨R_ob.rf.up (by omega), ht3⟩
                · skip
                  rw [hv1244]
                  have h1251 : S1229.1 530 = .inr (11, [.ref 531, .int (iI (o 1)), .ref 532, .int (iI (o 3)), .int (iI (o 4)), .int (iI f1242), .int (iI g1243), .int (iI at1215), .int (iI en1216), .int (iI tk1217), .int (iI nu1218), .int (iI dg1219), .long nm1220, .ref 533, .ref 534, .ref 535, .ref 536, .ref 537, .ref 538, .ref 539, .ref 540, .ref 541, .ref 542, .ref 543, .ref 544, .ref 545, .ref 546, .ref 547, .int (iI (rc + 1)), .int (iI (o 29)), .int (iI (o 30)), .int (iI (o 31)), .int (iI (o 32)), .int (iI (o 33)), .ref 548, .ref 549, .ref 550, .ref 551, .int (iI (o 38)), .ref 552, .ref 553, .ref 554, .ref 555, .ref 556, .ref 557, .ref 558, .ref 559, .ref 560, .ref 561, .int (iI (o 49)), .ref 562, .ref 563, .ref 564, .ref 565, .ref 566, .ref 567, .ref 568, .ref 569, .int (iI (o 58)), .ref 570, .ref 571, .ref 572, .ref 573, .ref 574, .ref 575, .ref 576, .ref 577, .ref 578, .int (iI (o 68)), .int (iI (o 69)), .int (iI (o 70)), .ref 579]) := hM1247
                  show X_T sc 153 (150, [(1, .int (iI k)), (0, .ref 530)], [], S1229) _
                  refine T_vret xr_153_150 xf_153.2.2 ?_
                  refine hQ _ _ ?_
                  have h1254 := (hf1248.1 533 (by first | decide | omega)).trans ((hf1224.1 533 (by first | decide | omega)).trans ((n1209 533 (by decide)).trans ((hF1202.1 533 (by first | decide | omega)).trans (h1195))))
                  have h1255 := (hf1248.1 535 (by first | decide | omega)).trans ((hf1224.1 535 (by first | decide | omega)).trans ((n1209 535 (by decide)).trans (htg1)))
                  refine Or.inr ⟨at1215, en1216, tk1217, nu1218, dg1219, nm1220, rc + 1, f1242, g1243, (X_ug rN ((12 * (o 4)) + (o 28)) (ct c)), tg1, rfl, by omega, ?_, ?_, h1251, h1254, h1255, (((((X_Fr.rf).tr (X_Fr.of n1196 e1197 (by first | decide | exact ⟨Nat.le_add_right _ _, Nat.add_le_add_left (by decide) _⟩ | omega))).tr (X_Fr.mono ⟨hF1202.1, hF1202.2⟩ (fun q hq => by first | exact hq | (rcases hq with rfl <;> decide) | (rcases hq with rfl | rfl <;> decide) | (rcases hq with rfl | rfl | rfl <;> decide) | (rcases hq with rfl | rfl | rfl | rfl <;> decide) | (rcases hq with rfl | rfl | rfl | rfl | rfl <;> decide) | (rcases hq with rfl | rfl | rfl | rfl | rfl | rfl <;> decide) | (rcases hq with rfl | rfl | rfl | rfl | rfl | rfl | rfl <;> decide) | omega))).tr (X_Fr.of n1209 e1210 (by first | decide | exact ⟨Nat.le_add_right _ _, Nat.add_le_add_left (by decide) _⟩ | omega))).tr (X_Fr.mono ⟨hf1224.1, hf1224.2⟩ (fun q hq => by first | exact hq | (rcases hq with rfl <;> decide) | (rcases hq with rfl | rfl <;> decide) | (rcases hq with rfl | rfl | rfl <;> decide) | (rcases hq with rfl | rfl | rfl | rfl <;> decide) | (rcases hq with rfl | rfl | rfl | rfl | rfl <;> decide) | (rcases hq with rfl | rfl | rfl | rfl | rfl | rfl <;> decide) | (rcases hq with rfl | rfl | rfl | rfl | rfl | rfl | rfl <;> decide) | omega))).tr (X_Fr.mono ⟨hf1248.1, hf1248.2⟩ (fun q hq => by first | exact hq | (rcases hq with rfl <;> decide) | (rcases hq with rfl | rfl <;> decide) | (rcases hq with rfl | rfl | rfl <;> decide) | (rcases hq with rfl | rfl | rfl | rfl <;> decide) | (rcases hq with rfl | rfl | rfl | rfl | rfl <;> decide) | (rcases hq with rfl | rfl | rfl | rfl | rfl | rfl <;> decide) | (rcases hq with rfl | rfl | rfl | rfl | rfl | rfl | rfl <;> decide) | omega))⟩
                  · simp only [sp_rank, ← hc]
                    (repeat (first | rw [if_pos (by assumption)] | rw [if_neg (by assumption)] | rw [if_neg (by omega)] | rw [if_pos (by omega)]))
                    all_goals first | rfl | ((repeat' split) <;> first | rfl | (exfalso; omega))
                  · first | exact ⟨R_ob.rf, R_ob.rf⟩ | exact ⟨R_ob.rf.up (by omega), ht3⟩
              · skip
                have c1205 : ¬ (12 ≤ k) := c1205
                refine T_p xr_153_76 xn_153 (pc' := 77) (ls' := [(1, .int (iI k)), (0, .ref 530)]) (st' := [.ref 530]) rfl ?_
                have h1256 := (hF1202.1 530 (by first | decide | omega)).trans ((n1196 530 (by decide)).trans (hM))
                refine T_get xr_153_77 h1256 rfl (v := .ref 535) rfl (pc' := 80) rfl ?_
                refine T_p xr_153_80 xn_153 (pc' := 83) (ls' := [(1, .int (iI k)), (0, .ref 530)]) (st' := [.int (iI 144), .ref 535]) rfl ?_
                refine T_p xr_153_83 xn_153 (pc' := 84) (ls' := [(1, .int (iI k)), (0, .ref 530)]) (st' := [.ref 530, .int (iI 144), .ref 535]) rfl ?_
                refine T_get xr_153_84 h1256 rfl (v := .int (iI (o 4))) rfl (pc' := 87) rfl ?_
                refine T_zimul xr_153_87 (z := 144 * (o 4)) rfl (pc' := 88) rfl ?_
                refine T_p xr_153_88 xn_153 (pc' := 90) (ls' := [(1, .int (iI k)), (0, .ref 530)]) (st' := [.int (iI 12), .int (iI (144 * (o 4))), .ref 535]) rfl ?_
                refine T_p xr_153_90 xn_153 (pc' := 91) (ls' := [(1, .int (iI k)), (0, .ref 530)]) (st' := [.ref 530, .int (iI 12), .int (iI (144 * (o 4))), .ref 535]) rfl ?_
                refine T_get xr_153_91 h1256 rfl (v := .int (iI (o 28))) rfl (pc' := 94) rfl ?_
                refine T_zimul xr_153_94 (z := 12 * (o 28)) rfl (pc' := 95) rfl ?_
                refine T_ziadd xr_153_95 (z := (144 * (o 4)) + (12 * (o 28))) rfl (pc' := 96) rfl ?_
                refine T_p xr_153_96 xn_153 (pc' := 97) (ls' := [(1, .int (iI k)), (0, .ref 530)]) (st' := [.int (iI k), .int (iI ((144 * (o 4)) + (12 * (o 28)))), .ref 535]) rfl ?_
                refine T_ziadd xr_153_97 (z := ((144 * (o 4)) + (12 * (o 28))) + k) rfl (pc' := 98) rfl ?_
                refine T_p xr_153_98 xn_153 (pc' := 99) (ls' := [(1, .int (iI k)), (0, .ref 530)]) (st' := [.int (iI 0), .int (iI (((144 * (o 4)) + (12 * (o 28))) + k)), .ref 535]) rfl ?_
                refine T_zzast xr_153_99 htg1 (pc' := 100) rfl (fun S1257 h1258 n1259 e1260 => ?_)
                refine T_p xr_153_100 xn_153 (pc' := 101) (ls' := [(1, .int (iI k)), (0, .ref 530)]) (st' := [.ref 530]) rfl ?_
                have h1261 := (n1259 530 (by decide)).trans (h1256)
                refine T_get xr_153_101 h1261 rfl (v := .ref 535) rfl (pc' := 104) rfl ?_
                refine T_p xr_153_104 xn_153 (pc' := 107) (ls' := [(1, .int (iI k)), (0, .ref 530)]) (st' := [.int (iI 144), .ref 535]) rfl ?_
                refine T_p xr_153_107 xn_153 (pc' := 108) (ls' := [(1, .int (iI k)), (0, .ref 530)]) (st' := [.ref 530, .int (iI 144), .ref 535]) rfl ?_
                refine T_get xr_153_108 h1261 rfl (v := .int (iI (o 4))) rfl (pc' := 111) rfl ?_
                refine T_zimul xr_153_111 (z := 144 * (o 4)) rfl (pc' := 112) rfl ?_
                refine T_p xr_153_112 xn_153 (pc' := 114) (ls' := [(1, .int (iI k)), (0, .ref 530)]) (st' := [.int (iI 12), .int (iI (144 * (o 4))), .ref 535]) rfl ?_
                refine T_p xr_153_114 xn_153 (pc' := 115) (ls' := [(1, .int (iI k)), (0, .ref 530)]) (st' := [.int (iI k), .int (iI 12), .int (iI (144 * (o 4))), .ref 535]) rfl ?_
                refine T_zimul xr_153_115 (z := 12 * k) rfl (pc' := 116) rfl ?_
                refine T_ziadd xr_153_116 (z := (144 * (o 4)) + (12 * k)) rfl (pc' := 117) rfl ?_
                refine T_p xr_153_117 xn_153 (pc' := 118) (ls' := [(1, .int (iI k)), (0, .ref 530)]) (st' := [.ref 530, .int (iI ((144 * (o 4)) + (12 * k))), .ref 535]) rfl ?_
                refine T_get xr_153_118 h1261 rfl (v := .int (iI (o 28))) rfl (pc' := 121) rfl ?_
                refine T_ziadd xr_153_121 (z := ((144 * (o 4)) + (12 * k)) + (o 28)) rfl (pc' := 122) rfl ?_
                refine T_p xr_153_122 xn_153 (pc' := 123) (ls' := [(1, .int (iI k)), (0, .ref 530)]) (st' := [.int (iI 0), .int (iI (((144 * (o 4)) + (12 * k)) + (o 28))), .ref 535]) rfl ?_
                refine T_zzast xr_153_123 h1258 (pc' := 124) rfl (fun S1262 h1263 n1264 e1265 => ?_)
                refine T_ziinc xr_153_124 xn_153 (a := k) (z := k + 1) rfl (Nat.le_of_ble_eq_true rfl) (by omega) (ls' := [(1, .int (iI (k + 1))), (0, .ref 530)]) rfl (pc' := 127) rfl ?_
                refine T_p xr_153_127 xn_153 (pc' := 70) (ls' := [(1, .int (iI (k + 1))), (0, .ref 530)]) (st' := []) rfl ?_
                exact ih1199 S1262 (k + 1) (X_ug (X_ug tg1 (((144 * (o 4)) + (12 * (o 28))) + k) (X_bo 0)) (((144 * (o 4)) + (12 * k)) + (o 28)) (X_bo 0)) h1263 (hF1202.tr (((X_Fr.rf).tr (X_Fr.of n1259 e1260 (by first | decide | exact ⟨Nat.le_add_right _ _, Nat.add_le_add_left (by decide) _⟩ | omega))).tr (X_Fr.of n1264 e1265 (by first | decide | exact ⟨Nat.le_add_right _ _, Nat.add_le_add_left (by decide) _⟩ | omega)))) (by omega) (fun i h1 h2 => by
                      constructor
                      · unfold X_ug; split
                        · exact X_bo_z
                        · split
                          · exact X_bo_z
                          · exact (ht1 i h1 (by omega)).1
                      · unfold X_ug; split
                        · exact X_bo_z
                        · split
                          · exact X_bo_z
                          · exact (ht1 i h1 (by omega)).2) (fun i hi => by
                      have hik := hi k (by omega) (by omega)
                      rw [X_ug_n _ _ (by omega), X_ug_n _ _ (by omega)]
                      exact ht2 i hi) ((ht3.up (by omega)).up (by omega)) (by omega)
          exact L1198 ((12 : Int) + 1).toNat S1194 0 tg h1203 ((X_Fr.rf)) (by omega) (fun i h1 h2 => absurd h2 (by omega)) (fun i _ => rfl) R_ob.rf (by omega)
        · skip
          have c1193 : ¬ ((o 5) = 0) := c1193
          exact (show False by first | contradiction | omega).elim
      · skip
        have c1187 : ¬ ((X_ix rn rc (ct c)) < 0) := c1187
        refine T_p xr_153_30 xn_153 (pc' := 31) (ls' := [(0, .ref 530)]) (st' := [.ref 530]) rfl ?_
        refine T_p xr_153_31 xn_153 (pc' := 32) (ls' := [(0, .ref 530)]) (st' := [.int (iI 3), .ref 530]) rfl ?_
        refine T_p xr_153_32 xn_153 (pc' := 33) (ls' := [(0, .ref 530)]) (st' := [.ref 530, .int (iI 3), .ref 530]) rfl ?_
        refine T_get xr_153_33 hM rfl (v := .int (iI (o 7))) rfl (pc' := 36) rfl ?_
        refine T_cv (S := S) (q := 530) xr_153_36 xf_139.1 xf_139.2.1 xn_139 (as := [.int (iI 3), .int (iI (o 7))]) (r := []) rfl hM (Nat.le_of_ble_eq_true rfl) (Nat.le_of_ble_eq_true rfl) (pc' := 39) rfl (ls' := [(0, .ref 530), (1, .int (iI 3)), (2, .int (iI (o 7)))]) rfl ?_
        refine T_mono (r_fails sc S o nm 3 (o 7) hM (show 0 ≤ (o 5) ∧ (o 5) ≤ 5 from by omega) (by omega)) (fun v1266 S1267 h1268 => ?_)
        rcases h1268 with ⟨f1269, g1270, hv1271, hp1272, hM1273, hf1274⟩
        rw [hv1271]
        have h1275 : S1267.1 530 = .inr (11, [.ref 531, .int (iI (o 1)), .ref 532, .int (iI (o 3)), .int (iI (o 4)), .int (iI f1269), .int (iI g1270), .int (iI (o 7)), .int (iI (o 8)), .int (iI (o 9)), .int (iI (o 10)), .int (iI (o 11)), .long nm, .ref 533, .ref 534, .ref 535, .ref 536, .ref 537, .ref 538, .ref 539, .ref 540, .ref 541, .ref 542, .ref 543, .ref 544, .ref 545, .ref 546, .ref 547, .int (iI (o 28)), .int (iI (o 29)), .int (iI (o 30)), .int (iI (o 31)), .int (iI (o 32)), .int (iI (o 33)), .ref 548, .ref 549, .ref 550, .ref 551, .int (iI (o 38)), .ref 552, .ref 553, .ref 554, .ref 555, .ref 556, .ref 557, .ref 558, .ref 559, .ref 560, .ref 561, .int (iI (o 49)), .ref 562, .ref 563, .ref 564, .ref 565, .ref 566, .ref 567, .ref 568, .ref 569, .int (iI (o 58)), .ref 570, .ref 571, .ref 572, .ref 573, .ref 574, .ref 575, .ref 576, .ref 577, .ref 578, .int (iI (o 68)), .int (iI (o 69)), .int (iI (o 70)), .ref 579]) := hM1273
        have hp1272 : ((o 5) = 0 → f1269 = 3) ∧ (¬ (o 5) = 0 → f1269 = (o 5)) := hp1272
        have hf1276 : f1269 = 3 := hp1272.1 h5
        show X_T sc 153 (39, [(0, .ref 530)], [], S1267) _
        refine T_p xr_153_39 xn_153 (pc' := 40) (ls' := [(0, .ref 530)]) (st' := [.ref 530]) rfl ?_
        refine T_cv (S := S1267) (q := 530) xr_153_40 xf_140.1 xf_140.2.1 xn_140 (as := []) (r := []) rfl h1275 (Nat.le_of_ble_eq_true rfl) (Nat.le_of_ble_eq_true rfl) (pc' := 43) rfl (ls' := [(0, .ref 530)]) rfl ?_
        refine T_mono (r_isGood sc S1267 (X_ou (X_ou o 5 f1269) 6 g1270) nm h1275 (show 0 ≤ f1269 ∧ f1269 ≤ 5 from by omega)) (fun v1277 S1278 h1279 => ?_)
        rcases h1279 with ⟨hv1280, hf1281⟩
        rw [hv1280]
        rw [hf1281]
        show X_T sc 153 (43, [(0, .ref 530)], [.int (iI (bI (f1269 = 0)))], S1267) _
        refine T_bif_ne xr_153_43 (t := 47) (pc' := 46) rfl rfl (fun c1282 => ?_) (fun c1282 => ?_)
        · skip
          have c1282 : (f1269 = 0) := c1282
          exact (show False by first | contradiction | omega).elim
        · skip
          have c1282 : ¬ (f1269 = 0) := c1282
          refine T_vret xr_153_46 xf_153.2.2 ?_
          refine hQ _ _ ?_
          have h1283 := (hf1274.1 533 (by first | decide | omega)).trans (hA533)
          have h1284 := (hf1274.1 535 (by first | decide | omega)).trans (hA535)
          refine Or.inr ⟨o 7, o 8, o 9, o 10, o 11, nm, o 28, f1269, g1270, rN, tg, rfl, by omega, ?_, ?_, h1275, h1283, h1284, (X_Fr.rf).tr (X_Fr.mono ⟨hf1274.1, hf1274.2⟩ (fun q hq => by first | exact hq | (rcases hq with rfl <;> decide) | (rcases hq with rfl | rfl <;> decide) | (rcases hq with rfl | rfl | rfl <;> decide) | (rcases hq with rfl | rfl | rfl | rfl <;> decide) | (rcases hq with rfl | rfl | rfl | rfl | rfl <;> decide) | (rcases hq with rfl | rfl | rfl | rfl | rfl | rfl <;> decide) | (rcases hq with rfl | rfl | rfl | rfl | rfl | rfl | rfl <;> decide) | omega))⟩
          · simp only [sp_rank, ← hc]
            (repeat (first | rw [if_pos (by assumption)] | rw [if_neg (by assumption)] | rw [if_neg (by omega)] | rw [if_pos (by omega)]))
            all_goals first | rfl | ((repeat' split) <;> first | rfl | (exfalso; omega))
          · first | exact ⟨R_ob.rf, R_ob.rf⟩ | exact ⟨R_ob.rf.up (by omega), ht3⟩
  · skip
    have c1174 : ¬ ((o 9) = 2) := c1174
    refine T_p xr_153_8 xn_153 (pc' := 9) (ls' := [(0, .ref 530)]) (st' := [.ref 530]) rfl ?_
    refine T_cv (S := S) (q := 530) xr_153_9 xf_147.1 xf_147.2.1 xn_147 (as := []) (r := []) rfl hM (Nat.le_of_ble_eq_true rfl) (Nat.le_of_ble_eq_true rfl) (pc' := 12) rfl (ls' := [(0, .ref 530)]) rfl ?_
    refine T_mono (r_wrong sc S o nm tx tb len n so pl ct E c hM hA532 (show (o 3) = len from by first | assumption | omega) hl htx hX hT (show 0 ≤ (o 5) ∧ (o 5) ≤ 5 from by omega)) (fun v1285 S1286 h1287 => ?_)
    rcases h1287 with ⟨f1288, g1289, hv1290, hp1291, hM1292, hf1293⟩
    rw [hv1290]
    have h1294 : S1286.1 530 = .inr (11, [.ref 531, .int (iI (o 1)), .ref 532, .int (iI (o 3)), .int (iI (o 4)), .int (iI f1288), .int (iI g1289), .int (iI (o 7)), .int (iI (o 8)), .int (iI (o 9)), .int (iI (o 10)), .int (iI (o 11)), .long nm, .ref 533, .ref 534, .ref 535, .ref 536, .ref 537, .ref 538, .ref 539, .ref 540, .ref 541, .ref 542, .ref 543, .ref 544, .ref 545, .ref 546, .ref 547, .int (iI (o 28)), .int (iI (o 29)), .int (iI (o 30)), .int (iI (o 31)), .int (iI (o 32)), .int (iI (o 33)), .ref 548, .ref 549, .ref 550, .ref 551, .int (iI (o 38)), .ref 552, .ref 553, .ref 554, .ref 555, .ref 556, .ref 557, .ref 558, .ref 559, .ref 560, .ref 561, .int (iI (o 49)), .ref 562, .ref 563, .ref 564, .ref 565, .ref 566, .ref 567, .ref 568, .ref 569, .int (iI (o 58)), .ref 570, .ref 571, .ref 572, .ref 573, .ref 574, .ref 575, .ref 576, .ref 577, .ref 578, .int (iI (o 68)), .int (iI (o 69)), .int (iI (o 70)), .ref 579]) := hM1292
    show X_T sc 153 (12, [(0, .ref 530)], [], S1286) _
    refine T_p xr_153_12 xn_153 (pc' := 13) (ls' := [(0, .ref 530)]) (st' := [.ref 530]) rfl ?_
    refine T_cv (S := S1286) (q := 530) xr_153_13 xf_140.1 xf_140.2.1 xn_140 (as := []) (r := []) rfl h1294 (Nat.le_of_ble_eq_true rfl) (Nat.le_of_ble_eq_true rfl) (pc' := 16) rfl (ls' := [(0, .ref 530)]) rfl ?_
    refine T_mono (r_isGood sc S1286 (X_ou (X_ou o 5 f1288) 6 g1289) nm h1294 (show 0 ≤ f1288 ∧ f1288 ≤ 5 from by omega)) (fun v1295 S1296 h1297 => ?_)
    rcases h1297 with ⟨hv1298, hf1299⟩
    rw [hv1298]
    rw [hf1299]
    show X_T sc 153 (16, [(0, .ref 530)], [.int (iI (bI (f1288 = 0)))], S1286) _
    refine T_bif_eq xr_153_16 (t := 39) (pc' := 19) rfl rfl (fun c1300 => ?_) (fun c1300 => ?_)
    · skip
      have c1300 : ¬ (f1288 = 0) := c1300
      refine T_p xr_153_39 xn_153 (pc' := 40) (ls' := [(0, .ref 530)]) (st' := [.ref 530]) rfl ?_
      refine T_cv (S := S1286) (q := 530) xr_153_40 xf_140.1 xf_140.2.1 xn_140 (as := []) (r := []) rfl h1294 (Nat.le_of_ble_eq_true rfl) (Nat.le_of_ble_eq_true rfl) (pc' := 43) rfl (ls' := [(0, .ref 530)]) rfl ?_
      refine T_mono (r_isGood sc S1286 (X_ou (X_ou o 5 f1288) 6 g1289) nm h1294 (show 0 ≤ f1288 ∧ f1288 ≤ 5 from by omega)) (fun v1301 S1302 h1303 => ?_)
      rcases h1303 with ⟨hv1304, hf1305⟩
      rw [hv1304]
      rw [hf1305]
      show X_T sc 153 (43, [(0, .ref 530)], [.int (iI (bI (f1288 = 0)))], S1286) _
      refine T_bif_ne xr_153_43 (t := 47) (pc' := 46) rfl rfl (fun c1306 => ?_) (fun c1306 => ?_)
      · skip
        have c1306 : (f1288 = 0) := c1306
        exact (show False by first | contradiction | omega).elim
      · skip
        have c1306 : ¬ (f1288 = 0) := c1306
        refine T_vret xr_153_46 xf_153.2.2 ?_
        refine hQ _ _ ?_
        have h1307 := (hf1293.1 533 (by first | decide | omega)).trans (hA533)
        have h1308 := (hf1293.1 535 (by first | decide | omega)).trans (hA535)
        refine Or.inr ⟨o 7, o 8, o 9, o 10, o 11, nm, o 28, f1288, g1289, rN, tg, rfl, by omega, ?_, ?_, h1294, h1307, h1308, (X_Fr.rf).tr (X_Fr.mono ⟨hf1293.1, hf1293.2⟩ (fun q hq => by first | exact hq | (rcases hq with rfl <;> decide) | (rcases hq with rfl | rfl <;> decide) | (rcases hq with rfl | rfl | rfl <;> decide) | (rcases hq with rfl | rfl | rfl | rfl <;> decide) | (rcases hq with rfl | rfl | rfl | rfl | rfl <;> decide) | (rcases hq with rfl | rfl | rfl | rfl | rfl | rfl <;> decide) | (rcases hq with rfl | rfl | rfl | rfl | rfl | rfl | rfl <;> decide) | omega))⟩
        · simp only [sp_rank, ← hc]
          (repeat (first | rw [if_pos (by assumption)] | rw [if_neg (by assumption)] | rw [if_neg (by omega)] | rw [if_pos (by omega)]))
          all_goals first | rfl | ((repeat' split) <;> first | rfl | (exfalso; omega))
        · first | exact ⟨R_ob.rf, R_ob.rf⟩ | exact ⟨R_ob.rf.up (by omega), ht3⟩
    · skip
      have c1300 : (f1288 = 0) := c1300
      exact (show False by first | contradiction | omega).elim
end
section
theorem xr_155_0 : X_row 155 0 = some (0, (.aload_n 0, 1), (0, 0, 0)) := by decide +kernel
theorem xr_155_1 : X_row 155 1 = some (1, (.invokevirtual 119, 3), (151, 30, 0)) := by decide +kernel
theorem xr_155_4 : X_row 155 4 = some (4, (.istore_n 1, 1), (0, 0, 0)) := by decide +kernel
theorem xr_155_5 : X_row 155 5 = some (5, (.aload_n 0, 1), (0, 0, 0)) := by decide +kernel
theorem xr_155_6 : X_row 155 6 = some (6, (.getfield 20, 3), (11, 7, 14)) := by decide +kernel
theorem xr_155_9 : X_row 155 9 = some (9, (.istore_n 2, 1), (0, 0, 0)) := by decide +kernel
theorem xr_155_10 : X_row 155 10 = some (10, (.aload_n 0, 1), (0, 0, 0)) := by decide +kernel
theorem xr_155_11 : X_row 155 11 = some (11, (.invokevirtual 100, 3), (140, 14, 0)) := by decide +kernel
theorem xr_155_14 : X_row 155 14 = some (14, (.ifCond .eq 10, 3), (0, 0, 0)) := by decide +kernel
theorem xr_155_17 : X_row 155 17 = some (17, (.aload_n 0, 1), (0, 0, 0)) := by decide +kernel
theorem xr_155_18 : X_row 155 18 = some (18, (.invokevirtual 119, 3), (151, 30, 0)) := by decide +kernel
theorem xr_155_21 : X_row 155 21 = some (21, (.goto 4, 3), (0, 0, 0)) := by decide +kernel
theorem xr_155_24 : X_row 155 24 = some (24, (.iconst 0, 1), (0, 0, 0)) := by decide +kernel
theorem xr_155_25 : X_row 155 25 = some (25, (.istore_n 3, 1), (0, 0, 0)) := by decide +kernel
theorem xr_155_26 : X_row 155 26 = some (26, (.aload_n 0, 1), (0, 0, 0)) := by decide +kernel
theorem xr_155_27 : X_row 155 27 = some (27, (.invokevirtual 100, 3), (140, 14, 0)) := by decide +kernel
theorem xr_155_30 : X_row 155 30 = some (30, (.ifCond .eq 23, 3), (0, 0, 0)) := by decide +kernel
theorem xr_155_33 : X_row 155 33 = some (33, (.iload_n 1, 1), (0, 0, 0)) := by decide +kernel
theorem xr_155_34 : X_row 155 34 = some (34, (.iload_n 3, 1), (0, 0, 0)) := by decide +kernel
theorem xr_155_35 : X_row 155 35 = some (35, (.if_icmp .eq 12, 3), (0, 0, 0)) := by decide +kernel
theorem xr_155_38 : X_row 155 38 = some (38, (.aload_n 0, 1), (0, 0, 0)) := by decide +kernel
theorem xr_155_39 : X_row 155 39 = some (39, (.iload_n 3, 1), (0, 0, 0)) := by decide +kernel
theorem xr_155_40 : X_row 155 40 = some (40, (.iload_n 1, 1), (0, 0, 0)) := by decide +kernel
theorem xr_155_41 : X_row 155 41 = some (41, (.invokevirtual 123, 3), (154, 32, 0)) := by decide +kernel
theorem xr_155_44 : X_row 155 44 = some (44, (.ifCond .eq 9, 3), (0, 0, 0)) := by decide +kernel
theorem xr_155_47 : X_row 155 47 = some (47, (.aload_n 0, 1), (0, 0, 0)) := by decide +kernel
theorem xr_155_48 : X_row 155 48 = some (48, (.iconst 4, 1), (0, 0, 0)) := by decide +kernel
theorem xr_155_49 : X_row 155 49 = some (49, (.iload_n 2, 1), (0, 0, 0)) := by decide +kernel
theorem xr_155_50 : X_row 155 50 = some (50, (.invokevirtual 72, 3), (139, 18, 0)) := by decide +kernel
theorem xr_155_53 : X_row 155 53 = some (53, (.aload_n 0, 1), (0, 0, 0)) := by decide +kernel
theorem xr_155_54 : X_row 155 54 = some (54, (.invokevirtual 100, 3), (140, 14, 0)) := by decide +kernel
theorem xr_155_57 : X_row 155 57 = some (57, (.ifCond .eq 94, 3), (0, 0, 0)) := by decide +kernel
theorem xr_155_60 : X_row 155 60 = some (60, (.iconst 0, 1), (0, 0, 0)) := by decide +kernel
theorem xr_155_61 : X_row 155 61 = some (61, (.istore 4, 2), (0, 0, 0)) := by decide +kernel
theorem xr_155_63 : X_row 155 63 = some (63, (.iload 4, 2), (0, 0, 0)) := by decide +kernel
theorem xr_155_65 : X_row 155 65 = some (65, (.aload_n 0, 1), (0, 0, 0)) := by decide +kernel
theorem xr_155_66 : X_row 155 66 = some (66, (.getfield 84, 3), (11, 28, 56)) := by decide +kernel
theorem xr_155_69 : X_row 155 69 = some (69, (.if_icmp .ge 82, 3), (0, 0, 0)) := by decide +kernel
theorem xr_155_72 : X_row 155 72 = some (72, (.iconst 0, 1), (0, 0, 0)) := by decide +kernel
theorem xr_155_73 : X_row 155 73 = some (73, (.istore 5, 2), (0, 0, 0)) := by decide +kernel
theorem xr_155_75 : X_row 155 75 = some (75, (.iload 5, 2), (0, 0, 0)) := by decide +kernel
theorem xr_155_77 : X_row 155 77 = some (77, (.aload_n 0, 1), (0, 0, 0)) := by decide +kernel
theorem xr_155_78 : X_row 155 78 = some (78, (.getfield 84, 3), (11, 28, 56)) := by decide +kernel
theorem xr_155_81 : X_row 155 81 = some (81, (.if_icmp .ge 64, 3), (0, 0, 0)) := by decide +kernel
theorem xr_155_84 : X_row 155 84 = some (84, (.iload 4, 2), (0, 0, 0)) := by decide +kernel
theorem xr_155_86 : X_row 155 86 = some (86, (.iload_n 1, 1), (0, 0, 0)) := by decide +kernel
theorem xr_155_87 : X_row 155 87 = some (87, (.if_icmp .eq 13, 3), (0, 0, 0)) := by decide +kernel
theorem xr_155_90 : X_row 155 90 = some (90, (.aload_n 0, 1), (0, 0, 0)) := by decide +kernel
theorem xr_155_91 : X_row 155 91 = some (91, (.iload 4, 2), (0, 0, 0)) := by decide +kernel
theorem xr_155_93 : X_row 155 93 = some (93, (.iload_n 1, 1), (0, 0, 0)) := by decide +kernel
theorem xr_155_94 : X_row 155 94 = some (94, (.invokevirtual 123, 3), (154, 32, 0)) := by decide +kernel
theorem xr_155_97 : X_row 155 97 = some (97, (.ifCond .eq 42, 3), (0, 0, 0)) := by decide +kernel
theorem xr_155_100 : X_row 155 100 = some (100, (.iload 5, 2), (0, 0, 0)) := by decide +kernel
theorem xr_155_102 : X_row 155 102 = some (102, (.iload_n 3, 1), (0, 0, 0)) := by decide +kernel
theorem xr_155_103 : X_row 155 103 = some (103, (.if_icmp .eq 13, 3), (0, 0, 0)) := by decide +kernel
theorem xr_155_106 : X_row 155 106 = some (106, (.aload_n 0, 1), (0, 0, 0)) := by decide +kernel
theorem xr_155_107 : X_row 155 107 = some (107, (.iload_n 3, 1), (0, 0, 0)) := by decide +kernel
theorem xr_155_108 : X_row 155 108 = some (108, (.iload 5, 2), (0, 0, 0)) := by decide +kernel
theorem xr_155_110 : X_row 155 110 = some (110, (.invokevirtual 123, 3), (154, 32, 0)) := by decide +kernel
theorem xr_155_113 : X_row 155 113 = some (113, (.ifCond .eq 26, 3), (0, 0, 0)) := by decide +kernel
theorem xr_155_116 : X_row 155 116 = some (116, (.aload_n 0, 1), (0, 0, 0)) := by decide +kernel
theorem xr_155_117 : X_row 155 117 = some (117, (.getfield 111, 3), (11, 15, 30)) := by decide +kernel
theorem xr_155_120 : X_row 155 120 = some (120, (.sipush 144, 3), (0, 0, 0)) := by decide +kernel
theorem xr_155_123 : X_row 155 123 = some (123, (.aload_n 0, 1), (0, 0, 0)) := by decide +kernel
theorem xr_155_124 : X_row 155 124 = some (124, (.getfield 91, 3), (11, 4, 8)) := by decide +kernel
theorem xr_155_127 : X_row 155 127 = some (127, (.imul, 1), (0, 0, 0)) := by decide +kernel
theorem xr_155_128 : X_row 155 128 = some (128, (.bipush 12, 2), (0, 0, 0)) := by decide +kernel
theorem xr_155_130 : X_row 155 130 = some (130, (.iload 4, 2), (0, 0, 0)) := by decide +kernel
theorem xr_155_132 : X_row 155 132 = some (132, (.imul, 1), (0, 0, 0)) := by decide +kernel
theorem xr_155_133 : X_row 155 133 = some (133, (.iadd, 1), (0, 0, 0)) := by decide +kernel
theorem xr_155_134 : X_row 155 134 = some (134, (.iload 5, 2), (0, 0, 0)) := by decide +kernel
theorem xr_155_136 : X_row 155 136 = some (136, (.iadd, 1), (0, 0, 0)) := by decide +kernel
theorem xr_155_137 : X_row 155 137 = some (137, (.iconst 1, 1), (0, 0, 0)) := by decide +kernel
theorem xr_155_138 : X_row 155 138 = some (138, (.bastore, 1), (0, 0, 0)) := by decide +kernel
theorem xr_155_139 : X_row 155 139 = some (139, (.iinc 5 1, 3), (0, 0, 0)) := by decide +kernel
theorem xr_155_142 : X_row 155 142 = some (142, (.goto (-67), 3), (0, 0, 0)) := by decide +kernel
theorem xr_155_145 : X_row 155 145 = some (145, (.iinc 4 1, 3), (0, 0, 0)) := by decide +kernel
theorem xr_155_148 : X_row 155 148 = some (148, (.goto (-85), 3), (0, 0, 0)) := by decide +kernel
theorem xr_155_151 : X_row 155 151 = some (151, (.aload_n 0, 1), (0, 0, 0)) := by decide +kernel
theorem xr_155_152 : X_row 155 152 = some (152, (.invokevirtual 100, 3), (140, 14, 0)) := by decide +kernel
theorem xr_155_155 : X_row 155 155 = some (155, (.ifCond .eq 9, 3), (0, 0, 0)) := by decide +kernel
theorem xr_155_158 : X_row 155 158 = some (158, (.aload_n 0, 1), (0, 0, 0)) := by decide +kernel
theorem xr_155_159 : X_row 155 159 = some (159, (.bipush 59, 2), (0, 0, 0)) := by decide +kernel
theorem xr_155_161 : X_row 155 161 = some (161, (.invokevirtual 115, 3), (148, 24, 0)) := by decide +kernel
theorem xr_155_164 : X_row 155 164 = some (164, (.return_, 1), (0, 0, 0)) := by decide +kernel
theorem xn_155 : X_nL 155 = 6 := by decide +kernel
theorem xf_155 : X_na 155 = 0 ∧ X_ci 155 = 11 ∧ X_rt 155 = none := by decide +kernel
theorem bI_c {p q : Prop} (h : p ↔ q) : bI p = bI q := by rw [propext h]
/-- tighter, while its table is gone through -/
def R_tM (lo : Int → Int) (a b i j : Int) : Prop := (i = a ∨ X_bt (lo i) a) ∧ (j = b ∨ X_bt (lo b) j)
def R_tI (b0 rc : Int) (lo : Int → Int) (a b x y : Int) (tg : Int → Int) : Prop := ∀ i j, 0 ≤ i → i < rc → 0 ≤ j → j < rc → tg (144 * b0 + 12 * i + j) = bI (X_bt (lo i) j ∨ ((i < x ∨ (i = x ∧ j < y)) ∧ R_tM lo a b i j))
theorem R_tI_0 {b0 rc : Int} {rn : Int → Int64} {lo : Int → Int} {rN : Int → Int64} {tg : Int → Int} {a b : Int} (h : R_rk b0 rc rn lo rN tg) : R_tI b0 rc lo a b 0 0 tg := fun i j h1 h2 h3 h4 => by
  rw [h.2.1 i j h1 h2 h3 h4]
  refine bI_c ⟨fun z => Or.inl z, fun z => z.elim id (fun w => ?_)⟩
  exact (show False by omega).elim
theorem R_tI_y {b0 rc : Int} {lo tg : Int → Int} {a b x y : Int} (hx : 0 ≤ x ∧ x < rc) (hy : 0 ≤ y ∧ y < rc) (hr : rc ≤ 12) (hM : R_tM lo a b x y) (h : R_tI b0 rc lo a b x y tg) {z : Int} (hz : z = 144 * b0 + 12 * x + y) : R_tI b0 rc lo a b x (y + 1) (X_ug tg z (X_bo 1)) := fun i j h1 h2 h3 h4 => by
  subst hz
  by_cases hi : i = x ∧ j = y
  · obtain ⟨e1, e2⟩ := hi
    subst e1; subst e2
    rw [X_ug_s, X_bo_1]
    exact bI_c ⟨fun _ => Or.inr ⟨Or.inr ⟨rfl, by omega⟩, hM⟩, fun _ => trivial⟩
  · rw [X_ug_n _ _ (by omega), h i j h1 h2 h3 h4]
    refine bI_c ⟨fun z => z.imp id (fun w => ⟨by omega, w.2⟩), fun z => z.imp id (fun w => ⟨by omega, w.2⟩)⟩
theorem R_tI_n {b0 rc : Int} {lo tg : Int → Int} {a b x y : Int} (hM : ¬ R_tM lo a b x y) (h : R_tI b0 rc lo a b x y tg) : R_tI b0 rc lo a b x (y + 1) tg := fun i j h1 h2 h3 h4 => by
  rw [h i j h1 h2 h3 h4]
  refine bI_c ⟨fun z => z.imp id (fun w => ⟨by omega, w.2⟩), fun z => z.imp id (fun w => ⟨?_, w.2⟩)⟩
  rcases w.1 with g | ⟨g1, g2⟩
  · exact Or.inl g
  · by_cases hj : j = y
    · subst g1; subst hj
      exact absurd w.2 hM
    · exact Or.inr ⟨g1, by omega⟩
theorem R_tI_x {b0 rc : Int} {lo tg : Int → Int} {a b x y : Int} (hy : rc ≤ y) (h : R_tI b0 rc lo a b x y tg) : R_tI b0 rc lo a b (x + 1) 0 tg := fun i j h1 h2 h3 h4 => by
  rw [h i j h1 h2 h3 h4]
  exact bI_c ⟨fun z => z.imp id (fun w => ⟨by omega, w.2⟩), fun z => z.imp id (fun w => ⟨by omega, w.2⟩)⟩
theorem R_tI_a {b0 rc : Int} {lo tg : Int → Int} {a b x y i : Int} (hab : ¬ a = b) (hnt : ¬ X_bt (lo b) a) (ha : 0 ≤ a ∧ a < rc) (hi : 0 ≤ i ∧ i < rc) (h : R_tI b0 rc lo a b x y tg) : tg (144 * b0 + 12 * i + a) = bI (X_bt (lo i) a) := by
  rw [h i a hi.1 hi.2 ha.1 ha.2]
  exact bI_c ⟨fun z => z.elim id (fun w => absurd w.2.2 (fun g => g.elim hab hnt)), Or.inl⟩
theorem R_tI_b {b0 rc : Int} {lo tg : Int → Int} {a b x y j : Int} (hab : ¬ a = b) (hnt : ¬ X_bt (lo b) a) (hb : 0 ≤ b ∧ b < rc) (hj : 0 ≤ j ∧ j < rc) (h : R_tI b0 rc lo a b x y tg) : tg (144 * b0 + 12 * b + j) = bI (X_bt (lo b) j) := by
  rw [h b j hb.1 hb.2 hj.1 hj.2]
  exact bI_c ⟨fun z => z.elim id (fun w => absurd w.2.1 (fun g => g.elim (fun e => hab e.symm) hnt)), Or.inl⟩
theorem R_tI_e {b0 rc : Int} {rn : Int → Int64} {lo : Int → Int} {rN : Int → Int64} {tg tg' : Int → Int} {a b x y : Int} (hr : rc ≤ 12) (hb : 0 ≤ b ∧ b < rc) (hx : rc ≤ x) (hR : R_rk b0 rc rn lo rN tg) (h : R_tI b0 rc lo a b x y tg') : R_rk b0 rc rn (X_tf rc lo a b) rN tg' := by
  obtain ⟨a1, a2, a3⟩ := hR
  have key : ∀ i j, 0 ≤ i → i < rc → 0 ≤ j → j < 32 → (X_bt (X_tf rc lo a b i) j ↔ (X_bt (lo i) j ∨ R_tM lo a b i j)) := by
    intro i j h1 h2 h3 h4
    unfold X_tf
    rw [if_pos ⟨h1, h2⟩]
    by_cases hc : i = a ∨ X_bt (lo i) a
    · rw [X_ti_t hc, X_bt_or _ _ _ ⟨h3, h4⟩, X_bt_or _ _ _ ⟨h3, h4⟩, X_bt_sh _ _ (by omega) ⟨h3, h4⟩]
      exact ⟨fun z => z.imp id (fun w => ⟨hc, w.symm⟩), fun z => z.imp id (fun w => w.2.symm)⟩
    · rw [X_ti_f hc]
      exact ⟨Or.inl, fun z => z.elim id (fun w => absurd w.1 hc)⟩
  refine ⟨a1, fun i j h1 h2 h3 h4 => ?_, fun i j h1 h2 h3 h4 => ?_⟩
  · rw [h i j h1 h2 h3 h4]
    exact bI_c ((show _ ↔ _ from ⟨fun z => z.imp id (fun w => w.2), fun z => z.imp id (fun w => ⟨Or.inl (by omega), w⟩)⟩).trans (key i j h1 h2 h3 (by omega)).symm)
  · rw [key i j h1 h2 (by omega) h4]
    rintro (z | ⟨-, z | z⟩)
    · exact a3 i j h1 h2 h3 h4 z
    · omega
    · exact a3 b j hb.1 hb.2 h3 h4 z
theorem R_kd_add {b kc up : Int} {kn : Int → Int64} {ab : Int → Int} {kN : Int → Int64} {kU : Int → Int} {t : Int64} (hk : 1 ≤ kc ∧ kc < 11) (hu : 0 ≤ up ∧ up < kc) (h : R_kd b kc kn ab kN kU) {z : Int} (hz : z = 11 * b + kc) : R_kd b (kc + 1) (X_ug kn kc t) (X_ug ab kc (X_bO (ab up) (X_bS kc))) (X_ug kN z t) (X_ug kU z up) := by
  subst hz
  obtain ⟨a1, a2, a3, a4⟩ := h
  refine ⟨fun i g1 g2 => ?_, fun u g1 g2 => ?_, ?_, fun k g1 g2 => ?_⟩
  · by_cases hi : i = kc
    · subst hi; rw [X_ug_s, X_ug_s]
    · rw [X_ug_n _ _ hi, X_ug_n _ _ (by omega)]; exact a1 i g1 (by omega)
  · rw [X_ug_n _ _ (by omega)]; exact a2 u g1 g2
  · rw [X_ug_n _ _ (by omega)]; exact a3
  · by_cases hi : k = kc
    · subst hi
      rw [X_ug_s, X_ug_s]
      refine ⟨hu, fun u h1 h2 => ?_⟩
      rw [X_bt_or _ _ _ ⟨h1, h2⟩, X_bt_sh _ _ (by omega) ⟨h1, h2⟩, X_ug_n _ _ (by omega)]
      exact Or.comm
    · rw [X_ug_n _ _ (show ¬ 11 * b + k = 11 * b + kc by omega), X_ug_n _ _ hi]
      obtain ⟨b1, b2⟩ := a4 k g1 (by omega)
      refine ⟨b1, fun u h1 h2 => ?_⟩
      rw [X_ug_n _ _ (by omega)]
      exact b2 u h1 h2

theorem r_readTighter (sc : X_Sc) (S : X_S) (o : Nat → Int) (nm : Int64) (tx : Int → Int) (rN : Int → Int64) (tg : Int → Int) (tb : Int → Int) (len : Int) (n : Int) (so : Int → Int) (pl : Int → Int) (ct : Int → Int64) (E : Int → Int) (c : Int) (c0 : Int) (rc : Int) (kc : Int) (wc : Int) (rn : Int → Int64) (lo : Int → Int) (kn : Int → Int64) (ab : Int → Int) (D : Int → Nat → Int → Int) (W : Int → Int → Int64) (hM : M_o S o nm) (hA532 : S.1 532 = .inl (.byte, 2000, .inl fun k : Nat => iI (tx (k : Int)))) (hA533 : S.1 533 = .inl (.long, 24, .inr (.inl fun k : Nat => rN (k : Int)))) (hA535 : S.1 535 = .inl (.boolean, 288, .inl fun k : Nat => iI (tg (k : Int)))) (hlen : o 3 = len) (hl : 0 ≤ len ∧ len ≤ 2000) (htx : ∀ k, 0 ≤ k → k < len → tx k = tb k) (hX : X_TxE tb len n so pl ct E) (hT : R_tk n so pl ct E c (o 7) (o 8) (o 9) (o 10) (o 11) nm) (h5 : o 5 = 0) (hrc : o 28 = rc) (hcr : 0 ≤ rc ∧ rc ≤ 12) (hb : 0 ≤ o 4 ∧ o 4 ≤ 1) (hc : c = X_av n c0) (hR : R_rk (o 4) rc rn lo rN tg) : X_T sc 155 (0, [(0, .ref 530)], [], S) (fun v S' => (∃ (at1 : Int) (en1 : Int) (tk1 : Int) (nu1 : Int) (dg1 : Int) (nm1 : Int64) (tg1 : Int → Int), v = none ∧ R_tk n so pl ct E (X_av n (X_av n (X_av n c))) at1 en1 tk1 nu1 dg1 nm1 ∧ sp_tight n so ct (c0, rc, kc, wc, rn, lo, kn, ab, D, W) = some (X_av n (X_av n (X_av n c)), rc, kc, wc, rn, X_tf rc lo (X_ix rn rc (ct c)) (X_ix rn rc (ct (X_av n c))), kn, ab, D, W) ∧ R_rk (o 4) rc rn (X_tf rc lo (X_ix rn rc (ct c)) (X_ix rn rc (ct (X_av n c)))) rN tg1 ∧ R_ob 144 (o 4) tg tg1 ∧ M_o S' (X_ou (X_ou (X_ou (X_ou (X_ou o 7 at1) 8 en1) 9 tk1) 10 nu1) 11 dg1) nm1 ∧ S'.1 535 = .inl (.boolean, 288, .inl fun k : Nat => iI (tg1 (k : Int))) ∧ (X_Fr (fun q => q = 530 ∨ q = 535) S S')) ∨ (∃ (at1 : Int) (en1 : Int) (tk1 : Int) (nu1 : Int) (dg1 : Int) (nm1 : Int64) (f1 : Int) (g1 : Int) (tg1 : Int → Int), v = none ∧ (1 ≤ f1 ∧ f1 ≤ 5) ∧ sp_tight n so ct (c0, rc, kc, wc, rn, lo, kn, ab, D, W) = none ∧ R_ob 144 (o 4) tg tg1 ∧ M_o S' (X_ou (X_ou (X_ou (X_ou (X_ou (X_ou (X_ou o 7 at1) 8 en1) 9 tk1) 10 nu1) 11 dg1) 5 f1) 6 g1) nm1 ∧ S'.1 535 = .inl (.boolean, 288, .inl fun k : Nat => iI (tg1 (k : Int))) ∧ (X_Fr (fun q => q = 530 ∨ q = 535) S S'))) := by
  obtain ⟨⟨hc0, hcn⟩, ⟨hs0, hs1⟩, hk0, ⟨ha0, ha1⟩, hk0e, ⟨_, _⟩, ⟨_, _⟩⟩ := R_tk_f hX hT
  have hn2 := hX.2.1
  have hN := hR.1
  refine X_QI (fun Q hQ => ?_)
  refine T_p xr_155_0 xn_155 (pc' := 1) (ls' := [(0, .ref 530)]) (st' := [.ref 530]) rfl ?_
  refine T_cv (S := S) (q := 530) xr_155_1 xf_151.1 xf_151.2.1 xn_151 (as := []) (r := []) rfl hM (Nat.le_of_ble_eq_true rfl) (Nat.le_of_ble_eq_true rfl) (pc' := 4) rfl (ls' := [(0, .ref 530)]) rfl ?_
  refine T_mono (r_aRank sc S o nm tx rN tb len n so pl ct E c rn rc hM hA532 hA533 (show (o 3) = len from by first | assumption | omega) hl htx hX hT (show (o 5) = 0 from by omega) (show (o 28) = rc from by omega) (by omega) (show 0 ≤ (o 4) ∧ (o 4) ≤ 1 from by omega) hN) (fun v1309 S1310 h1311 => ?_)
  rcases h1311 with ⟨at1312, en1313, tk1314, nu1315, dg1316, nm1317, hv1318, hp1319, hp1320, hp1321, hM1322, hf1323⟩ | ⟨r1324, f1325, g1326, hv1327, hp1328, hp1329, hp1330, hM1331, hf1332⟩
  · skip
    rw [hv1318]
    have h1333 : S1310.1 530 = .inr (11, [.ref 531, .int (iI (o 1)), .ref 532, .int (iI (o 3)), .int (iI (o 4)), .int (iI (o 5)), .int (iI (o 6)), .int (iI at1312), .int (iI en1313), .int (iI tk1314), .int (iI nu1315), .int (iI dg1316), .long nm1317, .ref 533, .ref 534, .ref 535, .ref 536, .ref 537, .ref 538, .ref 539, .ref 540, .ref 541, .ref 542, .ref 543, .ref 544, .ref 545, .ref 546, .ref 547, .int (iI (o 28)), .int (iI (o 29)), .int (iI (o 30)), .int (iI (o 31)), .int (iI (o 32)), .int (iI (o 33)), .ref 548, .ref 549, .ref 550, .ref 551, .int (iI (o 38)), .ref 552, .ref 553, .ref 554, .ref 555, .ref 556, .ref 557, .ref 558, .ref 559, .ref 560, .ref 561, .int (iI (o 49)), .ref 562, .ref 563, .ref 564, .ref 565, .ref 566, .ref 567, .ref 568, .ref 569, .int (iI (o 58)), .ref 570, .ref 571, .ref 572, .ref 573, .ref 574, .ref 575, .ref 576, .ref 577, .ref 578, .int (iI (o 68)), .int (iI (o 69)), .int (iI (o 70)), .ref 579]) := hM1322
    obtain ⟨⟨_, _⟩, ⟨_, _⟩, hk1334, ⟨_, _⟩, hk1334e, ⟨_, _⟩, ⟨_, _⟩⟩ := R_tk_f hX hp1319
    show X_T sc 155 (4, [(0, .ref 530)], [.int (iI (X_ix rn rc (ct c)))], S1310) _
    obtain ⟨a, ha_⟩ : ∃ z : Int, z = (X_ix rn rc (ct c)) := ⟨_, rfl⟩
    refine T_ie (y := iI a) (by rw [ha_]) ?_
    have hr1336 : 0 ≤ a ∧ a < rc := by omega
    refine T_p xr_155_4 xn_155 (pc' := 5) (ls' := [(1, .int (iI a)), (0, .ref 530)]) (st' := []) rfl ?_
    refine T_p xr_155_5 xn_155 (pc' := 6) (ls' := [(1, .int (iI a)), (0, .ref 530)]) (st' := [.ref 530]) rfl ?_
    refine T_get xr_155_6 h1333 rfl (v := .int (iI at1312)) rfl (pc' := 9) rfl ?_
    refine T_p xr_155_9 xn_155 (pc' := 10) (ls' := [(2, .int (iI at1312)), (1, .int (iI a)), (0, .ref 530)]) (st' := []) rfl ?_
    refine T_p xr_155_10 xn_155 (pc' := 11) (ls' := [(2, .int (iI at1312)), (1, .int (iI a)), (0, .ref 530)]) (st' := [.ref 530]) rfl ?_
    refine T_cv (S := S1310) (q := 530) xr_155_11 xf_140.1 xf_140.2.1 xn_140 (as := []) (r := []) rfl h1333 (Nat.le_of_ble_eq_true rfl) (Nat.le_of_ble_eq_true rfl) (pc' := 14) rfl (ls' := [(0, .ref 530)]) rfl ?_
    refine T_mono (r_isGood sc S1310 (X_ou (X_ou (X_ou (X_ou (X_ou o 7 at1312) 8 en1313) 9 tk1314) 10 nu1315) 11 dg1316) nm1317 h1333 (show 0 ≤ (o 5) ∧ (o 5) ≤ 5 from by omega)) (fun v1337 S1338 h1339 => ?_)
    rcases h1339 with ⟨hv1340, hf1341⟩
    rw [hv1340]
    rw [hf1341]
    show X_T sc 155 (14, [(2, .int (iI at1312)), (1, .int (iI a)), (0, .ref 530)], [.int (iI (bI ((o 5) = 0)))], S1310) _
    refine T_bif_eq xr_155_14 (t := 24) (pc' := 17) rfl rfl (fun c1342 => ?_) (fun c1342 => ?_)
    · skip
      have c1342 : ¬ ((o 5) = 0) := c1342
      exact (show False by first | contradiction | omega).elim
    · skip
      have c1342 : ((o 5) = 0) := c1342
      refine T_p xr_155_17 xn_155 (pc' := 18) (ls' := [(2, .int (iI at1312)), (1, .int (iI a)), (0, .ref 530)]) (st' := [.ref 530]) rfl ?_
      refine T_cv (S := S1310) (q := 530) xr_155_18 xf_151.1 xf_151.2.1 xn_151 (as := []) (r := []) rfl h1333 (Nat.le_of_ble_eq_true rfl) (Nat.le_of_ble_eq_true rfl) (pc' := 21) rfl (ls' := [(0, .ref 530)]) rfl ?_
      have h1343 := (hf1323.1 532 (by first | decide | omega)).trans (hA532)
      have h1344 := (hf1323.1 533 (by first | decide | omega)).trans (hA533)
      refine T_mono (r_aRank sc S1310 (X_ou (X_ou (X_ou (X_ou (X_ou o 7 at1312) 8 en1313) 9 tk1314) 10 nu1315) 11 dg1316) nm1317 tx rN tb len n so pl ct E (X_av n c) rn rc h1333 h1343 h1344 (show (o 3) = len from by first | assumption | omega) hl htx hX hp1319 (show (o 5) = 0 from by omega) (show (o 28) = rc from by omega) (by omega) (show 0 ≤ (o 4) ∧ (o 4) ≤ 1 from by omega) hN) (fun v1345 S1346 h1347 => ?_)
      rcases h1347 with ⟨at1348, en1349, tk1350, nu1351, dg1352, nm1353, hv1354, hp1355, hp1356, hp1357, hM1358, hf1359⟩ | ⟨r1360, f1361, g1362, hv1363, hp1364, hp1365, hp1366, hM1367, hf1368⟩
      · skip
        rw [hv1354]
        have h1369 : S1346.1 530 = .inr (11, [.ref 531, .int (iI (o 1)), .ref 532, .int (iI (o 3)), .int (iI (o 4)), .int (iI (o 5)), .int (iI (o 6)), .int (iI at1348), .int (iI en1349), .int (iI tk1350), .int (iI nu1351), .int (iI dg1352), .long nm1353, .ref 533, .ref 534, .ref 535, .ref 536, .ref 537, .ref 538, .ref 539, .ref 540, .ref 541, .ref 542, .ref 543, .ref 544, .ref 545, .ref 546, .ref 547, .int (iI (o 28)), .int (iI (o 29)), .int (iI (o 30)), .int (iI (o 31)), .int (iI (o 32)), .int (iI (o 33)), .ref 548, .ref 549, .ref 550, .ref 551, .int (iI (o 38)), .ref 552, .ref 553, .ref 554, .ref 555, .ref 556, .ref 557, .ref 558, .ref 559, .ref 560, .ref 561, .int (iI (o 49)), .ref 562, .ref 563, .ref 564, .ref 565, .ref 566, .ref 567, .ref 568, .ref 569, .int (iI (o 58)), .ref 570, .ref 571, .ref 572, .ref 573, .ref 574, .ref 575, .ref 576, .ref 577, .ref 578, .int (iI (o 68)), .int (iI (o 69)), .int (iI (o 70)), .ref 579]) := hM1358
        obtain ⟨⟨_, _⟩, ⟨_, _⟩, hk1370, ⟨_, _⟩, hk1370e, ⟨_, _⟩, ⟨_, _⟩⟩ := R_tk_f hX hp1355
        show X_T sc 155 (21, [(2, .int (iI at1312)), (1, .int (iI a)), (0, .ref 530)], [.int (iI (X_ix rn rc (ct (X_av n c))))], S1346) _
        refine T_p xr_155_21 xn_155 (pc' := 25) (ls' := [(2, .int (iI at1312)), (1, .int (iI a)), (0, .ref 530)]) (st' := [.int (iI (X_ix rn rc (ct (X_av n c))))]) rfl ?_
        obtain ⟨b, hb2⟩ : ∃ z : Int, z = (X_ix rn rc (ct (X_av n c))) := ⟨_, rfl⟩
        refine T_ie (y := iI b) (by rw [hb2]) ?_
        have hr1372 : 0 ≤ b ∧ b < rc := by omega
        refine T_p xr_155_25 xn_155 (pc' := 26) (ls' := [(3, .int (iI b)), (2, .int (iI at1312)), (1, .int (iI a)), (0, .ref 530)]) (st' := []) rfl ?_
        refine T_p xr_155_26 xn_155 (pc' := 27) (ls' := [(3, .int (iI b)), (2, .int (iI at1312)), (1, .int (iI a)), (0, .ref 530)]) (st' := [.ref 530]) rfl ?_
        refine T_cv (S := S1346) (q := 530) xr_155_27 xf_140.1 xf_140.2.1 xn_140 (as := []) (r := []) rfl h1369 (Nat.le_of_ble_eq_true rfl) (Nat.le_of_ble_eq_true rfl) (pc' := 30) rfl (ls' := [(0, .ref 530)]) rfl ?_
        refine T_mono (r_isGood sc S1346 (X_ou (X_ou (X_ou (X_ou (X_ou o 7 at1348) 8 en1349) 9 tk1350) 10 nu1351) 11 dg1352) nm1353 h1369 (show 0 ≤ (o 5) ∧ (o 5) ≤ 5 from by omega)) (fun v1373 S1374 h1375 => ?_)
        rcases h1375 with ⟨hv1376, hf1377⟩
        rw [hv1376]
        rw [hf1377]
        show X_T sc 155 (30, [(3, .int (iI b)), (2, .int (iI at1312)), (1, .int (iI a)), (0, .ref 530)], [.int (iI (bI ((o 5) = 0)))], S1346) _
        refine T_bif_eq xr_155_30 (t := 53) (pc' := 33) rfl rfl (fun c1378 => ?_) (fun c1378 => ?_)
        · skip
          have c1378 : ¬ ((o 5) = 0) := c1378
          exact (show False by first | contradiction | omega).elim
        · skip
          have c1378 : ((o 5) = 0) := c1378
          refine T_p xr_155_33 xn_155 (pc' := 34) (ls' := [(3, .int (iI b)), (2, .int (iI at1312)), (1, .int (iI a)), (0, .ref 530)]) (st' := [.int (iI a)]) rfl ?_
          refine T_p xr_155_34 xn_155 (pc' := 35) (ls' := [(3, .int (iI b)), (2, .int (iI at1312)), (1, .int (iI a)), (0, .ref 530)]) (st' := [.int (iI b), .int (iI a)]) rfl ?_
          refine T_zicmp_eq xr_155_35 (t := 47) (pc' := 38) rfl rfl (fun c1379 => ?_) (fun c1379 => ?_)
          · skip
            have c1379 : a = b := c1379
            refine T_p xr_155_47 xn_155 (pc' := 48) (ls' := [(3, .int (iI b)), (2, .int (iI at1312)), (1, .int (iI a)), (0, .ref 530)]) (st' := [.ref 530]) rfl ?_
            refine T_p xr_155_48 xn_155 (pc' := 49) (ls' := [(3, .int (iI b)), (2, .int (iI at1312)), (1, .int (iI a)), (0, .ref 530)]) (st' := [.int (iI 4), .ref 530]) rfl ?_
            refine T_p xr_155_49 xn_155 (pc' := 50) (ls' := [(3, .int (iI b)), (2, .int (iI at1312)), (1, .int (iI a)), (0, .ref 530)]) (st' := [.int (iI at1312), .int (iI 4), .ref 530]) rfl ?_
            refine T_cv (S := S1346) (q := 530) xr_155_50 xf_139.1 xf_139.2.1 xn_139 (as := [.int (iI 4), .int (iI at1312)]) (r := []) rfl h1369 (Nat.le_of_ble_eq_true rfl) (Nat.le_of_ble_eq_true rfl) (pc' := 53) rfl (ls' := [(0, .ref 530), (1, .int (iI 4)), (2, .int (iI at1312))]) rfl ?_
            refine T_mono (r_fails sc S1346 (X_ou (X_ou (X_ou (X_ou (X_ou o 7 at1348) 8 en1349) 9 tk1350) 10 nu1351) 11 dg1352) nm1353 4 at1312 h1369 (show 0 ≤ (o 5) ∧ (o 5) ≤ 5 from by omega) (by omega)) (fun v1380 S1381 h1382 => ?_)
            rcases h1382 with ⟨f1383, g1384, hv1385, hp1386, hM1387, hf1388⟩
            rw [hv1385]
            have h1389 : S1381.1 530 = .inr (11, [.ref 531, .int (iI (o 1)), .ref 532, .int (iI (o 3)), .int (iI (o 4)), .int (iI f1383), .int (iI g1384), .int (iI at1348), .int (iI en1349), .int (iI tk1350), .int (iI nu1351), .int (iI dg1352), .long nm1353, .ref 533, .ref 534, .ref 535, .ref 536, .ref 537, .ref 538, .ref 539, .ref 540, .ref 541, .ref 542, .ref 543, .ref 544, .ref 545, .ref 546, .ref 547, .int (iI (o 28)), .int (iI (o 29)), .int (iI (o 30)), .int (iI (o 31)), .int (iI (o 32)), .int (iI (o 33)), .ref 548, .ref 549, .ref 550, .ref 551, .int (iI (o 38)), .ref 552, .ref 553, .ref 554, .ref 555, .ref 556, .ref 557, .ref 558, .ref 559, .ref 560, .ref 561, .int (iI (o 49)), .ref 562, .ref 563, .ref 564, .ref 565, .ref 566, .ref 567, .ref 568, .ref 569, .int (iI (o 58)), .ref 570, .ref 571, .ref 572, .ref 573, .ref 574, .ref 575, .ref 576, .ref 577, .ref 578, .int (iI (o 68)), .int (iI (o 69)), .int (iI (o 70)), .ref 579]) := hM1387
            have hp1386 : ((o 5) = 0 → f1383 = 4) ∧ (¬ (o 5) = 0 → f1383 = (o 5)) := hp1386
            have hf1390 : f1383 = 4 := hp1386.1 h5
            show X_T sc 155 (53, [(3, .int (iI b)), (2, .int (iI at1312)), (1, .int (iI a)), (0, .ref 530)], [], S1381) _
            refine T_p xr_155_53 xn_155 (pc' := 54) (ls' := [(3, .int (iI b)), (2, .int (iI at1312)), (1, .int (iI a)), (0, .ref 530)]) (st' := [.ref 530]) rfl ?_
            refine T_cv (S := S1381) (q := 530) xr_155_54 xf_140.1 xf_140.2.1 xn_140 (as := []) (r := []) rfl h1389 (Nat.le_of_ble_eq_true rfl) (Nat.le_of_ble_eq_true rfl) (pc' := 57) rfl (ls' := [(0, .ref 530)]) rfl ?_
            refine T_mono (r_isGood sc S1381 (X_ou (X_ou (X_ou (X_ou (X_ou (X_ou (X_ou o 5 f1383) 6 g1384) 7 at1348) 8 en1349) 9 tk1350) 10 nu1351) 11 dg1352) nm1353 h1389 (show 0 ≤ f1383 ∧ f1383 ≤ 5 from by omega)) (fun v1391 S1392 h1393 => ?_)
            rcases h1393 with ⟨hv1394, hf1395⟩
            rw [hv1394]
            rw [hf1395]
            show X_T sc 155 (57, [(3, .int (iI b)), (2, .int (iI at1312)), (1, .int (iI a)), (0, .ref 530)], [.int (iI (bI (f1383 = 0)))], S1381) _
            refine T_bif_eq xr_155_57 (t := 151) (pc' := 60) rfl rfl (fun c1396 => ?_) (fun c1396 => ?_)
            · skip
              have c1396 : ¬ (f1383 = 0) := c1396
              refine T_p xr_155_151 xn_155 (pc' := 152) (ls' := [(3, .int (iI b)), (2, .int (iI at1312)), (1, .int (iI a)), (0, .ref 530)]) (st' := [.ref 530]) rfl ?_
              refine T_cv (S := S1381) (q := 530) xr_155_152 xf_140.1 xf_140.2.1 xn_140 (as := []) (r := []) rfl h1389 (Nat.le_of_ble_eq_true rfl) (Nat.le_of_ble_eq_true rfl) (pc' := 155) rfl (ls' := [(0, .ref 530)]) rfl ?_
              refine T_mono (r_isGood sc S1381 (X_ou (X_ou (X_ou (X_ou (X_ou (X_ou (X_ou o 5 f1383) 6 g1384) 7 at1348) 8 en1349) 9 tk1350) 10 nu1351) 11 dg1352) nm1353 h1389 (show 0 ≤ f1383 ∧ f1383 ≤ 5 from by omega)) (fun v1397 S1398 h1399 => ?_)
              rcases h1399 with ⟨hv1400, hf1401⟩
              rw [hv1400]
              rw [hf1401]
              show X_T sc 155 (155, [(3, .int (iI b)), (2, .int (iI at1312)), (1, .int (iI a)), (0, .ref 530)], [.int (iI (bI (f1383 = 0)))], S1381) _
              refine T_bif_eq xr_155_155 (t := 164) (pc' := 158) rfl rfl (fun c1402 => ?_) (fun c1402 => ?_)
              · skip
                have c1402 : ¬ (f1383 = 0) := c1402
                refine T_vret xr_155_164 xf_155.2.2 ?_
                refine hQ _ _ ?_
                have h1403 := (hf1388.1 535 (by first | decide | omega)).trans ((hf1359.1 535 (by first | decide | omega)).trans ((hf1323.1 535 (by first | decide | omega)).trans (hA535)))
                refine Or.inr ⟨at1348, en1349, tk1350, nu1351, dg1352, nm1353, f1383, g1384, tg, rfl, by omega, ?_, ?_, h1389, h1403, (((X_Fr.rf).tr (X_Fr.mono ⟨hf1323.1, hf1323.2⟩ (fun q hq => by first | exact hq | (rcases hq with rfl <;> decide) | (rcases hq with rfl | rfl <;> decide) | (rcases hq with rfl | rfl | rfl <;> decide) | (rcases hq with rfl | rfl | rfl | rfl <;> decide) | (rcases hq with rfl | rfl | rfl | rfl | rfl <;> decide) | (rcases hq with rfl | rfl | rfl | rfl | rfl | rfl <;> decide) | (rcases hq with rfl | rfl | rfl | rfl | rfl | rfl | rfl <;> decide) | omega))).tr (X_Fr.mono ⟨hf1359.1, hf1359.2⟩ (fun q hq => by first | exact hq | (rcases hq with rfl <;> decide) | (rcases hq with rfl | rfl <;> decide) | (rcases hq with rfl | rfl | rfl <;> decide) | (rcases hq with rfl | rfl | rfl | rfl <;> decide) | (rcases hq with rfl | rfl | rfl | rfl | rfl <;> decide) | (rcases hq with rfl | rfl | rfl | rfl | rfl | rfl <;> decide) | (rcases hq with rfl | rfl | rfl | rfl | rfl | rfl | rfl <;> decide) | omega))).tr (X_Fr.mono ⟨hf1388.1, hf1388.2⟩ (fun q hq => by first | exact hq | (rcases hq with rfl <;> decide) | (rcases hq with rfl | rfl <;> decide) | (rcases hq with rfl | rfl | rfl <;> decide) | (rcases hq with rfl | rfl | rfl | rfl <;> decide) | (rcases hq with rfl | rfl | rfl | rfl | rfl <;> decide) | (rcases hq with rfl | rfl | rfl | rfl | rfl | rfl <;> decide) | (rcases hq with rfl | rfl | rfl | rfl | rfl | rfl | rfl <;> decide) | omega))⟩
                · simp only [sp_tight]
                  rw [← hc]
                  (try rw [← ha_])
                  (try rw [← hb2])
                  (repeat (first | rw [if_pos (by assumption)] | rw [if_neg (by assumption)] | rw [if_neg (by omega)] | rw [if_pos (by omega)]))
                  all_goals first | rfl | ((repeat' split) <;> first | rfl | (exfalso; omega) | contradiction)
                · first | exact R_ob.rf | exact hob
              · skip
                have c1402 : (f1383 = 0) := c1402
                exact (show False by first | contradiction | omega).elim
            · skip
              have c1396 : (f1383 = 0) := c1396
              exact (show False by first | contradiction | omega).elim
          · skip
            have c1379 : ¬ (a = b) := c1379
            refine T_p xr_155_38 xn_155 (pc' := 39) (ls' := [(3, .int (iI b)), (2, .int (iI at1312)), (1, .int (iI a)), (0, .ref 530)]) (st' := [.ref 530]) rfl ?_
            refine T_p xr_155_39 xn_155 (pc' := 40) (ls' := [(3, .int (iI b)), (2, .int (iI at1312)), (1, .int (iI a)), (0, .ref 530)]) (st' := [.int (iI b), .ref 530]) rfl ?_
            refine T_p xr_155_40 xn_155 (pc' := 41) (ls' := [(3, .int (iI b)), (2, .int (iI at1312)), (1, .int (iI a)), (0, .ref 530)]) (st' := [.int (iI a), .int (iI b), .ref 530]) rfl ?_
            refine T_cv (S := S1346) (q := 530) xr_155_41 xf_154.1 xf_154.2.1 xn_154 (as := [.int (iI b), .int (iI a)]) (r := []) rfl h1369 (Nat.le_of_ble_eq_true rfl) (Nat.le_of_ble_eq_true rfl) (pc' := 44) rfl (ls' := [(0, .ref 530), (1, .int (iI b)), (2, .int (iI a))]) rfl ?_
            have h1404 := (hf1359.1 535 (by first | decide | omega)).trans ((hf1323.1 535 (by first | decide | omega)).trans (hA535))
            refine T_mono (r_tight sc S1346 (X_ou (X_ou (X_ou (X_ou (X_ou o 7 at1348) 8 en1349) 9 tk1350) 10 nu1351) 11 dg1352) nm1353 tg b a (X_bt (lo b) a) h1369 h1404 (show 0 ≤ (o 4) ∧ (o 4) ≤ 1 from by omega) (by omega) (by omega) (hR.2.1 _ _ (by omega) (by omega) (by omega) (by omega))) (fun v1405 S1406 h1407 => ?_)
            rcases h1407 with ⟨hv1408, hf1409⟩
            rw [hv1408]
            rw [hf1409]
            show X_T sc 155 (44, [(3, .int (iI b)), (2, .int (iI at1312)), (1, .int (iI a)), (0, .ref 530)], [.int (iI (bI ((X_bt (lo b) a))))], S1346) _
            refine T_bif_eq xr_155_44 (t := 53) (pc' := 47) rfl rfl (fun c1410 => ?_) (fun c1410 => ?_)
            · skip
              have c1410 : ¬ ((X_bt (lo b) a)) := c1410
              refine T_p xr_155_53 xn_155 (pc' := 54) (ls' := [(3, .int (iI b)), (2, .int (iI at1312)), (1, .int (iI a)), (0, .ref 530)]) (st' := [.ref 530]) rfl ?_
              refine T_cv (S := S1346) (q := 530) xr_155_54 xf_140.1 xf_140.2.1 xn_140 (as := []) (r := []) rfl h1369 (Nat.le_of_ble_eq_true rfl) (Nat.le_of_ble_eq_true rfl) (pc' := 57) rfl (ls' := [(0, .ref 530)]) rfl ?_
              refine T_mono (r_isGood sc S1346 (X_ou (X_ou (X_ou (X_ou (X_ou o 7 at1348) 8 en1349) 9 tk1350) 10 nu1351) 11 dg1352) nm1353 h1369 (show 0 ≤ (o 5) ∧ (o 5) ≤ 5 from by omega)) (fun v1411 S1412 h1413 => ?_)
              rcases h1413 with ⟨hv1414, hf1415⟩
              rw [hv1414]
              rw [hf1415]
              show X_T sc 155 (57, [(3, .int (iI b)), (2, .int (iI at1312)), (1, .int (iI a)), (0, .ref 530)], [.int (iI (bI ((o 5) = 0)))], S1346) _
              refine T_bif_eq xr_155_57 (t := 151) (pc' := 60) rfl rfl (fun c1416 => ?_) (fun c1416 => ?_)
              · skip
                have c1416 : ¬ ((o 5) = 0) := c1416
                exact (show False by first | contradiction | omega).elim
              · skip
                have c1416 : ((o 5) = 0) := c1416
                refine T_p xr_155_60 xn_155 (pc' := 61) (ls' := [(3, .int (iI b)), (2, .int (iI at1312)), (1, .int (iI a)), (0, .ref 530)]) (st' := [.int (iI 0)]) rfl ?_
                refine T_p xr_155_61 xn_155 (pc' := 63) (ls' := [(4, .int (iI 0)), (3, .int (iI b)), (2, .int (iI at1312)), (1, .int (iI a)), (0, .ref 530)]) (st' := []) rfl ?_
                have L1417 : ∀ (m1419 : Nat) (S1422 : X_S) (x : Int) (tg1 : Int → Int) (htg1 : S1422.1 535 = .inl (.boolean, 288, .inl fun k : Nat => iI (tg1 (k : Int)))) (hF1421 : X_Fr (fun q => q = 535) S1346 S1422) (hx : 0 ≤ x ∧ x ≤ rc) (hI : R_tI (o 4) rc lo a b x 0 tg1) (hob : R_ob 144 (o 4) tg tg1) (hm1420 : rc - x < m1419), X_T sc 155 (63, [(4, .int (iI x)), (3, .int (iI b)), (1, .int (iI a)), (0, .ref 530)], [], S1422) Q := by
                  intro m1419
                  induction m1419 with
                  | zero =>
                    intro S1422 x tg1 htg1 hF1421 hx hI hob hm1420
                    exact (show False by omega).elim
                  | succ m1419 ih1418 =>
                    intro S1422 x tg1 htg1 hF1421 hx hI hob hm1420
                    refine T_p xr_155_63 xn_155 (pc' := 65) (ls' := [(4, .int (iI x)), (3, .int (iI b)), (1, .int (iI a)), (0, .ref 530)]) (st' := [.int (iI x)]) rfl ?_
                    refine T_p xr_155_65 xn_155 (pc' := 66) (ls' := [(4, .int (iI x)), (3, .int (iI b)), (1, .int (iI a)), (0, .ref 530)]) (st' := [.ref 530, .int (iI x)]) rfl ?_
                    have h1423 := (hF1421.1 530 (by first | decide | omega)).trans (h1369)
                    refine T_get xr_155_66 h1423 rfl (v := .int (iI (o 28))) rfl (pc' := 69) rfl ?_
                    refine T_zicmp_ge xr_155_69 (t := 151) (pc' := 72) rfl rfl (fun c1424 => ?_) (fun c1424 => ?_)
                    · skip
                      have c1424 : (o 28) ≤ x := c1424
                      refine T_p xr_155_151 xn_155 (pc' := 152) (ls' := [(4, .int (iI x)), (3, .int (iI b)), (1, .int (iI a)), (0, .ref 530)]) (st' := [.ref 530]) rfl ?_
                      refine T_cv (S := S1422) (q := 530) xr_155_152 xf_140.1 xf_140.2.1 xn_140 (as := []) (r := []) rfl h1423 (Nat.le_of_ble_eq_true rfl) (Nat.le_of_ble_eq_true rfl) (pc' := 155) rfl (ls' := [(0, .ref 530)]) rfl ?_
                      refine T_mono (r_isGood sc S1422 (X_ou (X_ou (X_ou (X_ou (X_ou o 7 at1348) 8 en1349) 9 tk1350) 10 nu1351) 11 dg1352) nm1353 h1423 (show 0 ≤ (o 5) ∧ (o 5) ≤ 5 from by omega)) (fun v1425 S1426 h1427 => ?_)
                      rcases h1427 with ⟨hv1428, hf1429⟩
                      rw [hv1428]
                      rw [hf1429]
                      show X_T sc 155 (155, [(4, .int (iI x)), (3, .int (iI b)), (1, .int (iI a)), (0, .ref 530)], [.int (iI (bI ((o 5) = 0)))], S1422) _
                      refine T_bif_eq xr_155_155 (t := 164) (pc' := 158) rfl rfl (fun c1430 => ?_) (fun c1430 => ?_)
                      · skip
                        have c1430 : ¬ ((o 5) = 0) := c1430
                        exact (show False by first | contradiction | omega).elim
                      · skip
                        have c1430 : ((o 5) = 0) := c1430
                        refine T_p xr_155_158 xn_155 (pc' := 159) (ls' := [(4, .int (iI x)), (3, .int (iI b)), (1, .int (iI a)), (0, .ref 530)]) (st' := [.ref 530]) rfl ?_
                        refine T_p xr_155_159 xn_155 (pc' := 161) (ls' := [(4, .int (iI x)), (3, .int (iI b)), (1, .int (iI a)), (0, .ref 530)]) (st' := [.int (iI 59), .ref 530]) rfl ?_
                        refine T_cv (S := S1422) (q := 530) xr_155_161 xf_148.1 xf_148.2.1 xn_148 (as := [.int (iI 59)]) (r := []) rfl h1423 (Nat.le_of_ble_eq_true rfl) (Nat.le_of_ble_eq_true rfl) (pc' := 164) rfl (ls' := [(0, .ref 530), (1, .int (iI 59))]) rfl ?_
                        have h1431 := (hF1421.1 532 (by first | decide | omega)).trans ((hf1359.1 532 (by first | decide | omega)).trans (h1343))
                        refine T_mono (r_must sc S1422 (X_ou (X_ou (X_ou (X_ou (X_ou o 7 at1348) 8 en1349) 9 tk1350) 10 nu1351) 11 dg1352) nm1353 tx tb len n so pl ct E (X_av n (X_av n c)) 59 h1423 h1431 (show (o 3) = len from by first | assumption | omega) hl htx hX hp1355 (show (o 5) = 0 from by omega) (by omega)) (fun v1432 S1433 h1434 => ?_)
                        rcases h1434 with ⟨at1435, en1436, tk1437, nu1438, dg1439, nm1440, hv1441, hp1442, hp1443, hM1444, hf1445⟩ | ⟨f1446, g1447, hv1448, hp1449, hp1450, hM1451, hf1452⟩
                        · skip
                          rw [hv1441]
                          have h1453 : S1433.1 530 = .inr (11, [.ref 531, .int (iI (o 1)), .ref 532, .int (iI (o 3)), .int (iI (o 4)), .int (iI (o 5)), .int (iI (o 6)), .int (iI at1435), .int (iI en1436), .int (iI tk1437), .int (iI nu1438), .int (iI dg1439), .long nm1440, .ref 533, .ref 534, .ref 535, .ref 536, .ref 537, .ref 538, .ref 539, .ref 540, .ref 541, .ref 542, .ref 543, .ref 544, .ref 545, .ref 546, .ref 547, .int (iI (o 28)), .int (iI (o 29)), .int (iI (o 30)), .int (iI (o 31)), .int (iI (o 32)), .int (iI (o 33)), .ref 548, .ref 549, .ref 550, .ref 551, .int (iI (o 38)), .ref 552, .ref 553, .ref 554, .ref 555, .ref 556, .ref 557, .ref 558, .ref 559, .ref 560, .ref 561, .int (iI (o 49)), .ref 562, .ref 563, .ref 564, .ref 565, .ref 566, .ref 567, .ref 568, .ref 569, .int (iI (o 58)), .ref 570, .ref 571, .ref 572, .ref 573, .ref 574, .ref 575, .ref 576, .ref 577, .ref 578, .int (iI (o 68)), .int (iI (o 69)), .int (iI (o 70)), .ref 579]) := hM1444
                          obtain ⟨⟨_, _⟩, ⟨_, _⟩, hk1454, ⟨_, _⟩, hk1454e, ⟨_, _⟩, ⟨_, _⟩⟩ := R_tk_f hX hp1442
                          show X_T sc 155 (164, [(4, .int (iI x)), (3, .int (iI b)), (1, .int (iI a)), (0, .ref 530)], [], S1433) _
                          refine T_vret xr_155_164 xf_155.2.2 ?_
                          refine hQ _ _ ?_
                          have h1456 := (hf1445.1 535 (by first | decide | omega)).trans (htg1)
                          refine Or.inl ⟨at1435, en1436, tk1437, nu1438, dg1439, nm1440, tg1, rfl, hp1442, ?_, ?_, hob, h1453, h1456, ((((X_Fr.rf).tr (X_Fr.mono ⟨hf1323.1, hf1323.2⟩ (fun q hq => by first | exact hq | (rcases hq with rfl <;> decide) | (rcases hq with rfl | rfl <;> decide) | (rcases hq with rfl | rfl | rfl <;> decide) | (rcases hq with rfl | rfl | rfl | rfl <;> decide) | (rcases hq with rfl | rfl | rfl | rfl | rfl <;> decide) | (rcases hq with rfl | rfl | rfl | rfl | rfl | rfl <;> decide) | (rcases hq with rfl | rfl | rfl | rfl | rfl | rfl | rfl <;> decide) | omega))).tr (X_Fr.mono ⟨hf1359.1, hf1359.2⟩ (fun q hq => by first | exact hq | (rcases hq with rfl <;> decide) | (rcases hq with rfl | rfl <;> decide) | (rcases hq with rfl | rfl | rfl <;> decide) | (rcases hq with rfl | rfl | rfl | rfl <;> decide) | (rcases hq with rfl | rfl | rfl | rfl | rfl <;> decide) | (rcases hq with rfl | rfl | rfl | rfl | rfl | rfl <;> decide) | (rcases hq with rfl | rfl | rfl | rfl | rfl | rfl | rfl <;> decide) | omega))).tr (X_Fr.mono ⟨hF1421.1, hF1421.2⟩ (fun q hq => by first | exact hq | (rcases hq with rfl <;> decide) | (rcases hq with rfl | rfl <;> decide) | (rcases hq with rfl | rfl | rfl <;> decide) | (rcases hq with rfl | rfl | rfl | rfl <;> decide) | (rcases hq with rfl | rfl | rfl | rfl | rfl <;> decide) | (rcases hq with rfl | rfl | rfl | rfl | rfl | rfl <;> decide) | (rcases hq with rfl | rfl | rfl | rfl | rfl | rfl | rfl <;> decide) | omega))).tr (X_Fr.mono ⟨hf1445.1, hf1445.2⟩ (fun q hq => by first | exact hq | (rcases hq with rfl <;> decide) | (rcases hq with rfl | rfl <;> decide) | (rcases hq with rfl | rfl | rfl <;> decide) | (rcases hq with rfl | rfl | rfl | rfl <;> decide) | (rcases hq with rfl | rfl | rfl | rfl | rfl <;> decide) | (rcases hq with rfl | rfl | rfl | rfl | rfl | rfl <;> decide) | (rcases hq with rfl | rfl | rfl | rfl | rfl | rfl | rfl <;> decide) | omega))⟩
                          · simp only [sp_tight]
                            rw [← hc, ← ha_, ← hb2]
                            (repeat (first | rw [if_pos (by assumption)] | rw [if_neg (by assumption)] | rw [if_neg (by omega)] | rw [if_pos (by omega)]))
                            all_goals first | rfl | ((repeat' split) <;> first | rfl | (exfalso; omega) | contradiction)
                          · rw [← ha_, ← hb2]
                            exact R_tI_e (by omega) (by omega) (by omega) hR hI
                        · skip
                          rw [hv1448]
                          have h1455 : S1433.1 530 = .inr (11, [.ref 531, .int (iI (o 1)), .ref 532, .int (iI (o 3)), .int (iI (o 4)), .int (iI f1446), .int (iI g1447), .int (iI at1348), .int (iI en1349), .int (iI tk1350), .int (iI nu1351), .int (iI dg1352), .long nm1353, .ref 533, .ref 534, .ref 535, .ref 536, .ref 537, .ref 538, .ref 539, .ref 540, .ref 541, .ref 542, .ref 543, .ref 544, .ref 545, .ref 546, .ref 547, .int (iI (o 28)), .int (iI (o 29)), .int (iI (o 30)), .int (iI (o 31)), .int (iI (o 32)), .int (iI (o 33)), .ref 548, .ref 549, .ref 550, .ref 551, .int (iI (o 38)), .ref 552, .ref 553, .ref 554, .ref 555, .ref 556, .ref 557, .ref 558, .ref 559, .ref 560, .ref 561, .int (iI (o 49)), .ref 562, .ref 563, .ref 564, .ref 565, .ref 566, .ref 567, .ref 568, .ref 569, .int (iI (o 58)), .ref 570, .ref 571, .ref 572, .ref 573, .ref 574, .ref 575, .ref 576, .ref 577, .ref 578, .int (iI (o 68)), .int (iI (o 69)), .int (iI (o 70)), .ref 579]) := hM1451
                          show X_T sc 155 (164, [(4, .int (iI x)), (3, .int (iI b)), (1, .int (iI a)), (0, .ref 530)], [], S1433) _
                          refine T_vret xr_155_164 xf_155.2.2 ?_
                          refine hQ _ _ ?_
                          have h1457 := (hf1452.1 535 (by first | decide | omega)).trans (htg1)
                          refine Or.inr ⟨at1348, en1349, tk1350, nu1351, dg1352, nm1353, f1446, g1447, tg1, rfl, by omega, ?_, ?_, h1455, h1457, ((((X_Fr.rf).tr (X_Fr.mono ⟨hf1323.1, hf1323.2⟩ (fun q hq => by first | exact hq | (rcases hq with rfl <;> decide) | (rcases hq with rfl | rfl <;> decide) | (rcases hq with rfl | rfl | rfl <;> decide) | (rcases hq with rfl | rfl | rfl | rfl <;> decide) | (rcases hq with rfl | rfl | rfl | rfl | rfl <;> decide) | (rcases hq with rfl | rfl | rfl | rfl | rfl | rfl <;> decide) | (rcases hq with rfl | rfl | rfl | rfl | rfl | rfl | rfl <;> decide) | omega))).tr (X_Fr.mono ⟨hf1359.1, hf1359.2⟩ (fun q hq => by first | exact hq | (rcases hq with rfl <;> decide) | (rcases hq with rfl | rfl <;> decide) | (rcases hq with rfl | rfl | rfl <;> decide) | (rcases hq with rfl | rfl | rfl | rfl <;> decide) | (rcases hq with rfl | rfl | rfl | rfl | rfl <;> decide) | (rcases hq with rfl | rfl | rfl | rfl | rfl | rfl <;> decide) | (rcases hq with rfl | rfl | rfl | rfl | rfl | rfl | rfl <;> decide) | omega))).tr (X_Fr.mono ⟨hF1421.1, hF1421.2⟩ (fun q hq => by first | exact hq | (rcases hq with rfl <;> decide) | (rcases hq with rfl | rfl <;> decide) | (rcases hq with rfl | rfl | rfl <;> decide) | (rcases hq with rfl | rfl | rfl | rfl <;> decide) | (rcases hq with rfl | rfl | rfl | rfl | rfl <;> decide) | (rcases hq with rfl | rfl | rfl | rfl | rfl | rfl <;> decide) | (rcases hq with rfl | rfl | rfl | rfl | rfl | rfl | rfl <;> decide) | omega))).tr (X_Fr.mono ⟨hf1452.1, hf1452.2⟩ (fun q hq => by first | exact hq | (rcases hq with rfl <;> decide) | (rcases hq with rfl | rfl <;> decide) | (rcases hq with rfl | rfl | rfl <;> decide) | (rcases hq with rfl | rfl | rfl | rfl <;> decide) | (rcases hq with rfl | rfl | rfl | rfl | rfl <;> decide) | (rcases hq with rfl | rfl | rfl | rfl | rfl | rfl <;> decide) | (rcases hq with rfl | rfl | rfl | rfl | rfl | rfl | rfl <;> decide) | omega))⟩
                          · simp only [sp_tight]
                            rw [← hc]
                            (try rw [← ha_])
                            (try rw [← hb2])
                            (repeat (first | rw [if_pos (by assumption)] | rw [if_neg (by assumption)] | rw [if_neg (by omega)] | rw [if_pos (by omega)]))
                            all_goals first | rfl | ((repeat' split) <;> first | rfl | (exfalso; omega) | contradiction)
                          · first | exact R_ob.rf | exact hob
                    · skip
                      have c1424 : ¬ ((o 28) ≤ x) := c1424
                      refine T_p xr_155_72 xn_155 (pc' := 73) (ls' := [(4, .int (iI x)), (3, .int (iI b)), (1, .int (iI a)), (0, .ref 530)]) (st' := [.int (iI 0)]) rfl ?_
                      refine T_p xr_155_73 xn_155 (pc' := 75) (ls' := [(5, .int (iI 0)), (4, .int (iI x)), (3, .int (iI b)), (1, .int (iI a)), (0, .ref 530)]) (st' := []) rfl ?_
                      have L1458 : ∀ (m1460 : Nat) (S1463 : X_S) (y : Int) (tg1 : Int → Int) (htg1 : S1463.1 535 = .inl (.boolean, 288, .inl fun k : Nat => iI (tg1 (k : Int)))) (hF1462 : X_Fr (fun q => q = 535) S1422 S1463) (hy : 0 ≤ y ∧ y ≤ rc) (hI : R_tI (o 4) rc lo a b x y tg1) (hob : R_ob 144 (o 4) tg tg1) (hm1461 : rc - y < m1460), X_T sc 155 (75, [(5, .int (iI y)), (4, .int (iI x)), (3, .int (iI b)), (1, .int (iI a)), (0, .ref 530)], [], S1463) Q := by
                        intro m1460
                        induction m1460 with
                        | zero =>
                          intro S1463 y tg1 htg1 hF1462 hy hI hob hm1461
                          exact (show False by omega).elim
                        | succ m1460 ih1459 =>
                          intro S1463 y tg1 htg1 hF1462 hy hI hob hm1461
                          refine T_p xr_155_75 xn_155 (pc' := 77) (ls' := [(5, .int (iI y)), (4, .int (iI x)), (3, .int (iI b)), (1, .int (iI a)), (0, .ref 530)]) (st' := [.int (iI y)]) rfl ?_
                          refine T_p xr_155_77 xn_155 (pc' := 78) (ls' := [(5, .int (iI y)), (4, .int (iI x)), (3, .int (iI b)), (1, .int (iI a)), (0, .ref 530)]) (st' := [.ref 530, .int (iI y)]) rfl ?_
                          have h1464 := (hF1462.1 530 (by first | decide | omega)).trans (h1423)
                          refine T_get xr_155_78 h1464 rfl (v := .int (iI (o 28))) rfl (pc' := 81) rfl ?_
                          refine T_zicmp_ge xr_155_81 (t := 145) (pc' := 84) rfl rfl (fun c1465 => ?_) (fun c1465 => ?_)
                          · skip
                            have c1465 : (o 28) ≤ y := c1465
                            refine T_ziinc xr_155_145 xn_155 (a := x) (z := x + 1) rfl (Nat.le_of_ble_eq_true rfl) (by omega) (ls' := [(4, .int (iI (x + 1))), (5, .int (iI y)), (3, .int (iI b)), (1, .int (iI a)), (0, .ref 530)]) rfl (pc' := 148) rfl ?_
                            refine T_p xr_155_148 xn_155 (pc' := 63) (ls' := [(4, .int (iI (x + 1))), (5, .int (iI y)), (3, .int (iI b)), (1, .int (iI a)), (0, .ref 530)]) (st' := []) rfl ?_
                            refine T_sub (ls := [(4, .int (iI (x + 1))), (3, .int (iI b)), (1, .int (iI a)), (0, .ref 530)]) ⟨rfl, rfl, rfl, rfl, trivial⟩ rfl rfl ?_
                            exact ih1418 S1463 (x + 1) tg1 htg1 (hF1421.tr ((X_Fr.rf).tr (X_Fr.mono ⟨hF1462.1, hF1462.2⟩ (fun q hq => by first | exact hq | (rcases hq with rfl <;> decide) | (rcases hq with rfl | rfl <;> decide) | (rcases hq with rfl | rfl | rfl <;> decide) | (rcases hq with rfl | rfl | rfl | rfl <;> decide) | (rcases hq with rfl | rfl | rfl | rfl | rfl <;> decide) | (rcases hq with rfl | rfl | rfl | rfl | rfl | rfl <;> decide) | (rcases hq with rfl | rfl | rfl | rfl | rfl | rfl | rfl <;> decide) | omega)))) (by omega) (R_tI_x (by omega) hI) hob (by omega)
                          · skip
                            have c1465 : ¬ ((o 28) ≤ y) := c1465
                            refine T_p xr_155_84 xn_155 (pc' := 86) (ls' := [(5, .int (iI y)), (4, .int (iI x)), (3, .int (iI b)), (1, .int (iI a)), (0, .ref 530)]) (st' := [.int (iI x)]) rfl ?_
                            refine T_p xr_155_86 xn_155 (pc' := 87) (ls' := [(5, .int (iI y)), (4, .int (iI x)), (3, .int (iI b)), (1, .int (iI a)), (0, .ref 530)]) (st' := [.int (iI a), .int (iI x)]) rfl ?_
                            refine T_zicmp_eq xr_155_87 (t := 100) (pc' := 90) rfl rfl (fun c1466 => ?_) (fun c1466 => ?_)
                            · skip
                              have c1466 : x = a := c1466
                              refine T_p xr_155_100 xn_155 (pc' := 102) (ls' := [(5, .int (iI y)), (4, .int (iI x)), (3, .int (iI b)), (1, .int (iI a)), (0, .ref 530)]) (st' := [.int (iI y)]) rfl ?_
                              refine T_p xr_155_102 xn_155 (pc' := 103) (ls' := [(5, .int (iI y)), (4, .int (iI x)), (3, .int (iI b)), (1, .int (iI a)), (0, .ref 530)]) (st' := [.int (iI b), .int (iI y)]) rfl ?_
                              refine T_zicmp_eq xr_155_103 (t := 116) (pc' := 106) rfl rfl (fun c1467 => ?_) (fun c1467 => ?_)
                              · skip
                                have c1467 : y = b := c1467
                                refine T_p xr_155_116 xn_155 (pc' := 117) (ls' := [(5, .int (iI y)), (4, .int (iI x)), (3, .int (iI b)), (1, .int (iI a)), (0, .ref 530)]) (st' := [.ref 530]) rfl ?_
                                refine T_get xr_155_117 h1464 rfl (v := .ref 535) rfl (pc' := 120) rfl ?_
                                refine T_p xr_155_120 xn_155 (pc' := 123) (ls' := [(5, .int (iI y)), (4, .int (iI x)), (3, .int (iI b)), (1, .int (iI a)), (0, .ref 530)]) (st' := [.int (iI 144), .ref 535]) rfl ?_
                                refine T_p xr_155_123 xn_155 (pc' := 124) (ls' := [(5, .int (iI y)), (4, .int (iI x)), (3, .int (iI b)), (1, .int (iI a)), (0, .ref 530)]) (st' := [.ref 530, .int (iI 144), .ref 535]) rfl ?_
                                refine T_get xr_155_124 h1464 rfl (v := .int (iI (o 4))) rfl (pc' := 127) rfl ?_
                                refine T_zimul xr_155_127 (z := 144 * (o 4)) rfl (pc' := 128) rfl ?_
                                refine T_p xr_155_128 xn_155 (pc' := 130) (ls' := [(5, .int (iI y)), (4, .int (iI x)), (3, .int (iI b)), (1, .int (iI a)), (0, .ref 530)]) (st' := [.int (iI 12), .int (iI (144 * (o 4))), .ref 535]) rfl ?_
                                refine T_p xr_155_130 xn_155 (pc' := 132) (ls' := [(5, .int (iI y)), (4, .int (iI x)), (3, .int (iI b)), (1, .int (iI a)), (0, .ref 530)]) (st' := [.int (iI x), .int (iI 12), .int (iI (144 * (o 4))), .ref 535]) rfl ?_
                                refine T_zimul xr_155_132 (z := 12 * x) rfl (pc' := 133) rfl ?_
                                refine T_ziadd xr_155_133 (z := (144 * (o 4)) + (12 * x)) rfl (pc' := 134) rfl ?_
                                refine T_p xr_155_134 xn_155 (pc' := 136) (ls' := [(5, .int (iI y)), (4, .int (iI x)), (3, .int (iI b)), (1, .int (iI a)), (0, .ref 530)]) (st' := [.int (iI y), .int (iI ((144 * (o 4)) + (12 * x))), .ref 535]) rfl ?_
                                refine T_ziadd xr_155_136 (z := ((144 * (o 4)) + (12 * x)) + y) rfl (pc' := 137) rfl ?_
                                refine T_p xr_155_137 xn_155 (pc' := 138) (ls' := [(5, .int (iI y)), (4, .int (iI x)), (3, .int (iI b)), (1, .int (iI a)), (0, .ref 530)]) (st' := [.int (iI 1), .int (iI (((144 * (o 4)) + (12 * x)) + y)), .ref 535]) rfl ?_
                                refine T_zzast xr_155_138 htg1 (pc' := 139) rfl (fun S1468 h1469 n1470 e1471 => ?_)
                                refine T_ziinc xr_155_139 xn_155 (a := y) (z := y + 1) rfl (Nat.le_of_ble_eq_true rfl) (by omega) (ls' := [(5, .int (iI (y + 1))), (4, .int (iI x)), (3, .int (iI b)), (1, .int (iI a)), (0, .ref 530)]) rfl (pc' := 142) rfl ?_
                                refine T_p xr_155_142 xn_155 (pc' := 75) (ls' := [(5, .int (iI (y + 1))), (4, .int (iI x)), (3, .int (iI b)), (1, .int (iI a)), (0, .ref 530)]) (st' := []) rfl ?_
                                exact ih1459 S1468 (y + 1) (X_ug tg1 (((144 * (o 4)) + (12 * x)) + y) (X_bo 1)) h1469 (hF1462.tr ((X_Fr.rf).tr (X_Fr.of n1470 e1471 (by first | decide | exact ⟨Nat.le_add_right _ _, Nat.add_le_add_left (by decide) _⟩ | omega)))) (by omega) (R_tI_y (by omega) (by omega) (by omega) (by unfold R_tM; exact ⟨by first | exact Or.inl (by omega) | exact Or.inr (by assumption), by first | exact Or.inl (by omega) | exact Or.inr (by assumption)⟩) hI (by rfl)) (hob.up (by omega)) (by omega)
                              · skip
                                have c1467 : ¬ (y = b) := c1467
                                refine T_p xr_155_106 xn_155 (pc' := 107) (ls' := [(5, .int (iI y)), (4, .int (iI x)), (3, .int (iI b)), (1, .int (iI a)), (0, .ref 530)]) (st' := [.ref 530]) rfl ?_
                                refine T_p xr_155_107 xn_155 (pc' := 108) (ls' := [(5, .int (iI y)), (4, .int (iI x)), (3, .int (iI b)), (1, .int (iI a)), (0, .ref 530)]) (st' := [.int (iI b), .ref 530]) rfl ?_
                                refine T_p xr_155_108 xn_155 (pc' := 110) (ls' := [(5, .int (iI y)), (4, .int (iI x)), (3, .int (iI b)), (1, .int (iI a)), (0, .ref 530)]) (st' := [.int (iI y), .int (iI b), .ref 530]) rfl ?_
                                refine T_cv (S := S1463) (q := 530) xr_155_110 xf_154.1 xf_154.2.1 xn_154 (as := [.int (iI b), .int (iI y)]) (r := []) rfl h1464 (Nat.le_of_ble_eq_true rfl) (Nat.le_of_ble_eq_true rfl) (pc' := 113) rfl (ls' := [(0, .ref 530), (1, .int (iI b)), (2, .int (iI y))]) rfl ?_
                                refine T_mono (r_tight sc S1463 (X_ou (X_ou (X_ou (X_ou (X_ou o 7 at1348) 8 en1349) 9 tk1350) 10 nu1351) 11 dg1352) nm1353 tg1 b y (X_bt (lo b) y) h1464 htg1 (show 0 ≤ (o 4) ∧ (o 4) ≤ 1 from by omega) (by omega) (by omega) (R_tI_b (by omega) (by assumption) (by omega) (by omega) hI)) (fun v1472 S1473 h1474 => ?_)
                                rcases h1474 with ⟨hv1475, hf1476⟩
                                rw [hv1475]
                                rw [hf1476]
                                show X_T sc 155 (113, [(5, .int (iI y)), (4, .int (iI x)), (3, .int (iI b)), (1, .int (iI a)), (0, .ref 530)], [.int (iI (bI ((X_bt (lo b) y))))], S1463) _
                                refine T_bif_eq xr_155_113 (t := 139) (pc' := 116) rfl rfl (fun c1477 => ?_) (fun c1477 => ?_)
                                · skip
                                  have c1477 : ¬ ((X_bt (lo b) y)) := c1477
                                  refine T_ziinc xr_155_139 xn_155 (a := y) (z := y + 1) rfl (Nat.le_of_ble_eq_true rfl) (by omega) (ls' := [(5, .int (iI (y + 1))), (4, .int (iI x)), (3, .int (iI b)), (1, .int (iI a)), (0, .ref 530)]) rfl (pc' := 142) rfl ?_
                                  refine T_p xr_155_142 xn_155 (pc' := 75) (ls' := [(5, .int (iI (y + 1))), (4, .int (iI x)), (3, .int (iI b)), (1, .int (iI a)), (0, .ref 530)]) (st' := []) rfl ?_
                                  exact ih1459 S1463 (y + 1) tg1 htg1 (hF1462.tr (X_Fr.rf)) (by omega) (R_tI_n (by unfold R_tM; rintro ⟨z1 | z1, z2 | z2⟩ <;> first | contradiction | omega) hI) hob (by omega)
                                · skip
                                  have c1477 : ((X_bt (lo b) y)) := c1477
                                  refine T_p xr_155_116 xn_155 (pc' := 117) (ls' := [(5, .int (iI y)), (4, .int (iI x)), (3, .int (iI b)), (1, .int (iI a)), (0, .ref 530)]) (st' := [.ref 530]) rfl ?_
                                  refine T_get xr_155_117 h1464 rfl (v := .ref 535) rfl (pc' := 120) rfl ?_
                                  refine T_p xr_155_120 xn_155 (pc' := 123) (ls' := [(5, .int (iI y)), (4, .int (iI x)), (3, .int (iI b)), (1, .int (iI a)), (0, .ref 530)]) (st' := [.int (iI 144), .ref 535]) rfl ?_
                                  refine T_p xr_155_123 xn_155 (pc' := 124) (ls' := [(5, .int (iI y)), (4, .int (iI x)), (3, .int (iI b)), (1, .int (iI a)), (0, .ref 530)]) (st' := [.ref 530, .int (iI 144), .ref 535]) rfl ?_
                                  refine T_get xr_155_124 h1464 rfl (v := .int (iI (o 4))) rfl (pc' := 127) rfl ?_
                                  refine T_zimul xr_155_127 (z := 144 * (o 4)) rfl (pc' := 128) rfl ?_
                                  refine T_p xr_155_128 xn_155 (pc' := 130) (ls' := [(5, .int (iI y)), (4, .int (iI x)), (3, .int (iI b)), (1, .int (iI a)), (0, .ref 530)]) (st' := [.int (iI 12), .int (iI (144 * (o 4))), .ref 535]) rfl ?_
                                  refine T_p xr_155_130 xn_155 (pc' := 132) (ls' := [(5, .int (iI y)), (4, .int (iI x)), (3, .int (iI b)), (1, .int (iI a)), (0, .ref 530)]) (st' := [.int (iI x), .int (iI 12), .int (iI (144 * (o 4))), .ref 535]) rfl ?_
                                  refine T_zimul xr_155_132 (z := 12 * x) rfl (pc' := 133) rfl ?_
                                  refine T_ziadd xr_155_133 (z := (144 * (o 4)) + (12 * x)) rfl (pc' := 134) rfl ?_
                                  refine T_p xr_155_134 xn_155 (pc' := 136) (ls' := [(5, .int (iI y)), (4, .int (iI x)), (3, .int (iI b)), (1, .int (iI a)), (0, .ref 530)]) (st' := [.int (iI y), .int (iI ((144 * (o 4)) + (12 * x))), .ref 535]) rfl ?_
                                  refine T_ziadd xr_155_136 (z := ((144 * (o 4)) + (12 * x)) + y) rfl (pc' := 137) rfl ?_
                                  refine T_p xr_155_137 xn_155 (pc' := 138) (ls' := [(5, .int (iI y)), (4, .int (iI x)), (3, .int (iI b)), (1, .int (iI a)), (0, .ref 530)]) (st' := [.int (iI 1), .int (iI (((144 * (o 4)) + (12 * x)) + y)), .ref 535]) rfl ?_
                                  refine T_zzast xr_155_138 htg1 (pc' := 139) rfl (fun S1478 h1479 n1480 e1481 => ?_)
                                  refine T_ziinc xr_155_139 xn_155 (a := y) (z := y + 1) rfl (Nat.le_of_ble_eq_true rfl) (by omega) (ls' := [(5, .int (iI (y + 1))), (4, .int (iI x)), (3, .int (iI b)), (1, .int (iI a)), (0, .ref 530)]) rfl (pc' := 142) rfl ?_
                                  refine T_p xr_155_142 xn_155 (pc' := 75) (ls' := [(5, .int (iI (y + 1))), (4, .int (iI x)), (3, .int (iI b)), (1, .int (iI a)), (0, .ref 530)]) (st' := []) rfl ?_
                                  exact ih1459 S1478 (y + 1) (X_ug tg1 (((144 * (o 4)) + (12 * x)) + y) (X_bo 1)) h1479 (hF1462.tr ((X_Fr.rf).tr (X_Fr.of n1480 e1481 (by first | decide | exact ⟨Nat.le_add_right _ _, Nat.add_le_add_left (by decide) _⟩ | omega)))) (by omega) (R_tI_y (by omega) (by omega) (by omega) (by unfold R_tM; exact ⟨by first | exact Or.inl (by omega) | exact Or.inr (by assumption), by first | exact Or.inl (by omega) | exact Or.inr (by assumption)⟩) hI (by rfl)) (hob.up (by omega)) (by omega)
                            · skip
                              have c1466 : ¬ (x = a) := c1466
                              refine T_p xr_155_90 xn_155 (pc' := 91) (ls' := [(5, .int (iI y)), (4, .int (iI x)), (3, .int (iI b)), (1, .int (iI a)), (0, .ref 530)]) (st' := [.ref 530]) rfl ?_
                              refine T_p xr_155_91 xn_155 (pc' := 93) (ls' := [(5, .int (iI y)), (4, .int (iI x)), (3, .int (iI b)), (1, .int (iI a)), (0, .ref 530)]) (st' := [.int (iI x), .ref 530]) rfl ?_
                              refine T_p xr_155_93 xn_155 (pc' := 94) (ls' := [(5, .int (iI y)), (4, .int (iI x)), (3, .int (iI b)), (1, .int (iI a)), (0, .ref 530)]) (st' := [.int (iI a), .int (iI x), .ref 530]) rfl ?_
                              refine T_cv (S := S1463) (q := 530) xr_155_94 xf_154.1 xf_154.2.1 xn_154 (as := [.int (iI x), .int (iI a)]) (r := []) rfl h1464 (Nat.le_of_ble_eq_true rfl) (Nat.le_of_ble_eq_true rfl) (pc' := 97) rfl (ls' := [(0, .ref 530), (1, .int (iI x)), (2, .int (iI a))]) rfl ?_
                              refine T_mono (r_tight sc S1463 (X_ou (X_ou (X_ou (X_ou (X_ou o 7 at1348) 8 en1349) 9 tk1350) 10 nu1351) 11 dg1352) nm1353 tg1 x a (X_bt (lo x) a) h1464 htg1 (show 0 ≤ (o 4) ∧ (o 4) ≤ 1 from by omega) (by omega) (by omega) (R_tI_a (by omega) (by assumption) (by omega) (by omega) hI)) (fun v1482 S1483 h1484 => ?_)
                              rcases h1484 with ⟨hv1485, hf1486⟩
                              rw [hv1485]
                              rw [hf1486]
                              show X_T sc 155 (97, [(5, .int (iI y)), (4, .int (iI x)), (3, .int (iI b)), (1, .int (iI a)), (0, .ref 530)], [.int (iI (bI ((X_bt (lo x) a))))], S1463) _
                              refine T_bif_eq xr_155_97 (t := 139) (pc' := 100) rfl rfl (fun c1487 => ?_) (fun c1487 => ?_)
                              · skip
                                have c1487 : ¬ ((X_bt (lo x) a)) := c1487
                                refine T_ziinc xr_155_139 xn_155 (a := y) (z := y + 1) rfl (Nat.le_of_ble_eq_true rfl) (by omega) (ls' := [(5, .int (iI (y + 1))), (4, .int (iI x)), (3, .int (iI b)), (1, .int (iI a)), (0, .ref 530)]) rfl (pc' := 142) rfl ?_
                                refine T_p xr_155_142 xn_155 (pc' := 75) (ls' := [(5, .int (iI (y + 1))), (4, .int (iI x)), (3, .int (iI b)), (1, .int (iI a)), (0, .ref 530)]) (st' := []) rfl ?_
                                exact ih1459 S1463 (y + 1) tg1 htg1 (hF1462.tr (X_Fr.rf)) (by omega) (R_tI_n (by unfold R_tM; rintro ⟨z1 | z1, z2 | z2⟩ <;> first | contradiction | omega) hI) hob (by omega)
                              · skip
                                have c1487 : ((X_bt (lo x) a)) := c1487
                                refine T_p xr_155_100 xn_155 (pc' := 102) (ls' := [(5, .int (iI y)), (4, .int (iI x)), (3, .int (iI b)), (1, .int (iI a)), (0, .ref 530)]) (st' := [.int (iI y)]) rfl ?_
                                refine T_p xr_155_102 xn_155 (pc' := 103) (ls' := [(5, .int (iI y)), (4, .int (iI x)), (3, .int (iI b)), (1, .int (iI a)), (0, .ref 530)]) (st' := [.int (iI b), .int (iI y)]) rfl ?_
                                refine T_zicmp_eq xr_155_103 (t := 116) (pc' := 106) rfl rfl (fun c1488 => ?_) (fun c1488 => ?_)
                                · skip
                                  have c1488 : y = b := c1488
                                  refine T_p xr_155_116 xn_155 (pc' := 117) (ls' := [(5, .int (iI y)), (4, .int (iI x)), (3, .int (iI b)), (1, .int (iI a)), (0, .ref 530)]) (st' := [.ref 530]) rfl ?_
                                  refine T_get xr_155_117 h1464 rfl (v := .ref 535) rfl (pc' := 120) rfl ?_
                                  refine T_p xr_155_120 xn_155 (pc' := 123) (ls' := [(5, .int (iI y)), (4, .int (iI x)), (3, .int (iI b)), (1, .int (iI a)), (0, .ref 530)]) (st' := [.int (iI 144), .ref 535]) rfl ?_
                                  refine T_p xr_155_123 xn_155 (pc' := 124) (ls' := [(5, .int (iI y)), (4, .int (iI x)), (3, .int (iI b)), (1, .int (iI a)), (0, .ref 530)]) (st' := [.ref 530, .int (iI 144), .ref 535]) rfl ?_
                                  refine T_get xr_155_124 h1464 rfl (v := .int (iI (o 4))) rfl (pc' := 127) rfl ?_
                                  refine T_zimul xr_155_127 (z := 144 * (o 4)) rfl (pc' := 128) rfl ?_
                                  refine T_p xr_155_128 xn_155 (pc' := 130) (ls' := [(5, .int (iI y)), (4, .int (iI x)), (3, .int (iI b)), (1, .int (iI a)), (0, .ref 530)]) (st' := [.int (iI 12), .int (iI (144 * (o 4))), .ref 535]) rfl ?_
                                  refine T_p xr_155_130 xn_155 (pc' := 132) (ls' := [(5, .int (iI y)), (4, .int (iI x)), (3, .int (iI b)), (1, .int (iI a)), (0, .ref 530)]) (st' := [.int (iI x), .int (iI 12), .int (iI (144 * (o 4))), .ref 535]) rfl ?_
                                  refine T_zimul xr_155_132 (z := 12 * x) rfl (pc' := 133) rfl ?_
                                  refine T_ziadd xr_155_133 (z := (144 * (o 4)) + (12 * x)) rfl (pc' := 134) rfl ?_
                                  refine T_p xr_155_134 xn_155 (pc' := 136) (ls' := [(5, .int (iI y)), (4, .int (iI x)), (3, .int (iI b)), (1, .int (iI a)), (0, .ref 530)]) (st' := [.int (iI y), .int (iI ((144 * (o 4)) + (12 * x))), .ref 535]) rfl ?_
                                  refine T_ziadd xr_155_136 (z := ((144 * (o 4)) + (12 * x)) + y) rfl (pc' := 137) rfl ?_
                                  refine T_p xr_155_137 xn_155 (pc' := 138) (ls' := [(5, .int (iI y)), (4, .int (iI x)), (3, .int (iI b)), (1, .int (iI a)), (0, .ref 530)]) (st' := [.int (iI 1), .int (iI (((144 * (o 4)) + (12 * x)) + y)), .ref 535]) rfl ?_
                                  refine T_zzast xr_155_138 htg1 (pc' := 139) rfl (fun S1489 h1490 n1491 e1492 => ?_)
                                  refine T_ziinc xr_155_139 xn_155 (a := y) (z := y + 1) rfl (Nat.le_of_ble_eq_true rfl) (by omega) (ls' := [(5, .int (iI (y + 1))), (4, .int (iI x)), (3, .int (iI b)), (1, .int (iI a)), (0, .ref 530)]) rfl (pc' := 142) rfl ?_
                                  refine T_p xr_155_142 xn_155 (pc' := 75) (ls' := [(5, .int (iI (y + 1))), (4, .int (iI x)), (3, .int (iI b)), (1, .int (iI a)), (0, .ref 530)]) (st' := []) rfl ?_
                                  exact ih1459 S1489 (y + 1) (X_ug tg1 (((144 * (o 4)) + (12 * x)) + y) (X_bo 1)) h1490 (hF1462.tr ((X_Fr.rf).tr (X_Fr.of n1491 e1492 (by first | decide | exact ⟨Nat.le_add_right _ _, Nat.add_le_add_left (by decide) _⟩ | omega)))) (by omega) (R_tI_y (by omega) (by omega) (by omega) (by unfold R_tM; exact ⟨by first | exact Or.inl (by omega) | exact Or.inr (by assumption), by first | exact Or.inl (by omega) | exact Or.inr (by assumption)⟩) hI (by rfl)) (hob.up (by omega)) (by omega)
                                · skip
                                  have c1488 : ¬ (y = b) := c1488
                                  refine T_p xr_155_106 xn_155 (pc' := 107) (ls' := [(5, .int (iI y)), (4, .int (iI x)), (3, .int (iI b)), (1, .int (iI a)), (0, .ref 530)]) (st' := [.ref 530]) rfl ?_
                                  refine T_p xr_155_107 xn_155 (pc' := 108) (ls' := [(5, .int (iI y)), (4, .int (iI x)), (3, .int (iI b)), (1, .int (iI a)), (0, .ref 530)]) (st' := [.int (iI b), .ref 530]) rfl ?_
                                  refine T_p xr_155_108 xn_155 (pc' := 110) (ls' := [(5, .int (iI y)), (4, .int (iI x)), (3, .int (iI b)), (1, .int (iI a)), (0, .ref 530)]) (st' := [.int (iI y), .int (iI b), .ref 530]) rfl ?_
                                  refine T_cv (S := S1463) (q := 530) xr_155_110 xf_154.1 xf_154.2.1 xn_154 (as := [.int (iI b), .int (iI y)]) (r := []) rfl h1464 (Nat.le_of_ble_eq_true rfl) (Nat.le_of_ble_eq_true rfl) (pc' := 113) rfl (ls' := [(0, .ref 530), (1, .int (iI b)), (2, .int (iI y))]) rfl ?_
                                  refine T_mono (r_tight sc S1463 (X_ou (X_ou (X_ou (X_ou (X_ou o 7 at1348) 8 en1349) 9 tk1350) 10 nu1351) 11 dg1352) nm1353 tg1 b y (X_bt (lo b) y) h1464 htg1 (show 0 ≤ (o 4) ∧ (o 4) ≤ 1 from by omega) (by omega) (by omega) (R_tI_b (by omega) (by assumption) (by omega) (by omega) hI)) (fun v1493 S1494 h1495 => ?_)
                                  rcases h1495 with ⟨hv1496, hf1497⟩
                                  rw [hv1496]
                                  rw [hf1497]
                                  show X_T sc 155 (113, [(5, .int (iI y)), (4, .int (iI x)), (3, .int (iI b)), (1, .int (iI a)), (0, .ref 530)], [.int (iI (bI ((X_bt (lo b) y))))], S1463) _
                                  refine T_bif_eq xr_155_113 (t := 139) (pc' := 116) rfl rfl (fun c1498 => ?_) (fun c1498 => ?_)
                                  · skip
                                    have c1498 : ¬ ((X_bt (lo b) y)) := c1498
                                    refine T_ziinc xr_155_139 xn_155 (a := y) (z := y + 1) rfl (Nat.le_of_ble_eq_true rfl) (by omega) (ls' := [(5, .int (iI (y + 1))), (4, .int (iI x)), (3, .int (iI b)), (1, .int (iI a)), (0, .ref 530)]) rfl (pc' := 142) rfl ?_
                                    refine T_p xr_155_142 xn_155 (pc' := 75) (ls' := [(5, .int (iI (y + 1))), (4, .int (iI x)), (3, .int (iI b)), (1, .int (iI a)), (0, .ref 530)]) (st' := []) rfl ?_
                                    exact ih1459 S1463 (y + 1) tg1 htg1 (hF1462.tr (X_Fr.rf)) (by omega) (R_tI_n (by unfold R_tM; rintro ⟨z1 | z1, z2 | z2⟩ <;> first | contradiction | omega) hI) hob (by omega)
                                  · skip
                                    have c1498 : ((X_bt (lo b) y)) := c1498
                                    refine T_p xr_155_116 xn_155 (pc' := 117) (ls' := [(5, .int (iI y)), (4, .int (iI x)), (3, .int (iI b)), (1, .int (iI a)), (0, .ref 530)]) (st' := [.ref 530]) rfl ?_
                                    refine T_get xr_155_117 h1464 rfl (v := .ref 535) rfl (pc' := 120) rfl ?_
                                    refine T_p xr_155_120 xn_155 (pc' := 123) (ls' := [(5, .int (iI y)), (4, .int (iI x)), (3, .int (iI b)), (1, .int (iI a)), (0, .ref 530)]) (st' := [.int (iI 144), .ref 535]) rfl ?_
                                    refine T_p xr_155_123 xn_155 (pc' := 124) (ls' := [(5, .int (iI y)), (4, .int (iI x)), (3, .int (iI b)), (1, .int (iI a)), (0, .ref 530)]) (st' := [.ref 530, .int (iI 144), .ref 535]) rfl ?_
                                    refine T_get xr_155_124 h1464 rfl (v := .int (iI (o 4))) rfl (pc' := 127) rfl ?_
                                    refine T_zimul xr_155_127 (z := 144 * (o 4)) rfl (pc' := 128) rfl ?_
                                    refine T_p xr_155_128 xn_155 (pc' := 130) (ls' := [(5, .int (iI y)), (4, .int (iI x)), (3, .int (iI b)), (1, .int (iI a)), (0, .ref 530)]) (st' := [.int (iI 12), .int (iI (144 * (o 4))), .ref 535]) rfl ?_
                                    refine T_p xr_155_130 xn_155 (pc' := 132) (ls' := [(5, .int (iI y)), (4, .int (iI x)), (3, .int (iI b)), (1, .int (iI a)), (0, .ref 530)]) (st' := [.int (iI x), .int (iI 12), .int (iI (144 * (o 4))), .ref 535]) rfl ?_
                                    refine T_zimul xr_155_132 (z := 12 * x) rfl (pc' := 133) rfl ?_
                                    refine T_ziadd xr_155_133 (z := (144 * (o 4)) + (12 * x)) rfl (pc' := 134) rfl ?_
                                    refine T_p xr_155_134 xn_155 (pc' := 136) (ls' := [(5, .int (iI y)), (4, .int (iI x)), (3, .int (iI b)), (1, .int (iI a)), (0, .ref 530)]) (st' := [.int (iI y), .int (iI ((144 * (o 4)) + (12 * x))), .ref 535]) rfl ?_
                                    refine T_ziadd xr_155_136 (z := ((144 * (o 4)) + (12 * x)) + y) rfl (pc' := 137) rfl ?_
                                    refine T_p xr_155_137 xn_155 (pc' := 138) (ls' := [(5, .int (iI y)), (4, .int (iI x)), (3, .int (iI b)), (1, .int (iI a)), (0, .ref 530)]) (st' := [.int (iI 1), .int (iI (((144 * (o 4)) + (12 * x)) + y)), .ref 535]) rfl ?_
                                    refine T_zzast xr_155_138 htg1 (pc' := 139) rfl (fun S1499 h1500 n1501 e1502 => ?_)
                                    refine T_ziinc xr_155_139 xn_155 (a := y) (z := y + 1) rfl (Nat.le_of_ble_eq_true rfl) (by omega) (ls' := [(5, .int (iI (y + 1))), (4, .int (iI x)), (3, .int (iI b)), (1, .int (iI a)), (0, .ref 530)]) rfl (pc' := 142) rfl ?_
                                    refine T_p xr_155_142 xn_155 (pc' := 75) (ls' := [(5, .int (iI (y + 1))), (4, .int (iI x)), (3, .int (iI b)), (1, .int (iI a)), (0, .ref 530)]) (st' := []) rfl ?_
                                    exact ih1459 S1499 (y + 1) (X_ug tg1 (((144 * (o 4)) + (12 * x)) + y) (X_bo 1)) h1500 (hF1462.tr ((X_Fr.rf).tr (X_Fr.of n1501 e1502 (by first | decide | exact ⟨Nat.le_add_right _ _, Nat.add_le_add_left (by decide) _⟩ | omega)))) (by omega) (R_tI_y (by omega) (by omega) (by omega) (by unfold R_tM; exact ⟨by first | exact Or.inl (by omega) | exact Or.inr (by assumption), by first | exact Or.inl (by omega) | exact Or.inr (by assumption)⟩) hI (by rfl)) (hob.up (by omega)) (by omega)
                      exact L1458 (rc + 1).toNat S1422 0 tg1 htg1 ((X_Fr.rf)) (by omega) hI hob (by omega)
                refine T_sub (ls := [(4, .int (iI 0)), (3, .int (iI b)), (1, .int (iI a)), (0, .ref 530)]) ⟨rfl, rfl, rfl, rfl, trivial⟩ rfl rfl ?_
                exact L1417 (rc + 1).toNat S1346 0 tg h1404 ((X_Fr.rf)) (by omega) (R_tI_0 hR) R_ob.rf (by omega)
            · skip
              have c1410 : ((X_bt (lo b) a)) := c1410
              refine T_p xr_155_47 xn_155 (pc' := 48) (ls' := [(3, .int (iI b)), (2, .int (iI at1312)), (1, .int (iI a)), (0, .ref 530)]) (st' := [.ref 530]) rfl ?_
              refine T_p xr_155_48 xn_155 (pc' := 49) (ls' := [(3, .int (iI b)), (2, .int (iI at1312)), (1, .int (iI a)), (0, .ref 530)]) (st' := [.int (iI 4), .ref 530]) rfl ?_
              refine T_p xr_155_49 xn_155 (pc' := 50) (ls' := [(3, .int (iI b)), (2, .int (iI at1312)), (1, .int (iI a)), (0, .ref 530)]) (st' := [.int (iI at1312), .int (iI 4), .ref 530]) rfl ?_
              refine T_cv (S := S1346) (q := 530) xr_155_50 xf_139.1 xf_139.2.1 xn_139 (as := [.int (iI 4), .int (iI at1312)]) (r := []) rfl h1369 (Nat.le_of_ble_eq_true rfl) (Nat.le_of_ble_eq_true rfl) (pc' := 53) rfl (ls' := [(0, .ref 530), (1, .int (iI 4)), (2, .int (iI at1312))]) rfl ?_
              refine T_mono (r_fails sc S1346 (X_ou (X_ou (X_ou (X_ou (X_ou o 7 at1348) 8 en1349) 9 tk1350) 10 nu1351) 11 dg1352) nm1353 4 at1312 h1369 (show 0 ≤ (o 5) ∧ (o 5) ≤ 5 from by omega) (by omega)) (fun v1503 S1504 h1505 => ?_)
              rcases h1505 with ⟨f1506, g1507, hv1508, hp1509, hM1510, hf1511⟩
              rw [hv1508]
              have h1512 : S1504.1 530 = .inr (11, [.ref 531, .int (iI (o 1)), .ref 532, .int (iI (o 3)), .int (iI (o 4)), .int (iI f1506), .int (iI g1507), .int (iI at1348), .int (iI en1349), .int (iI tk1350), .int (iI nu1351), .int (iI dg1352), .long nm1353, .ref 533, .ref 534, .ref 535, .ref 536, .ref 537, .ref 538, .ref 539, .ref 540, .ref 541, .ref 542, .ref 543, .ref 544, .ref 545, .ref 546, .ref 547, .int (iI (o 28)), .int (iI (o 29)), .int (iI (o 30)), .int (iI (o 31)), .int (iI (o 32)), .int (iI (o 33)), .ref 548, .ref 549, .ref 550, .ref 551, .int (iI (o 38)), .ref 552, .ref 553, .ref 554, .ref 555, .ref 556, .ref 557, .ref 558, .ref 559, .ref 560, .ref 561, .int (iI (o 49)), .ref 562, .ref 563, .ref 564, .ref 565, .ref 566, .ref 567, .ref 568, .ref 569, .int (iI (o 58)), .ref 570, .ref 571, .ref 572, .ref 573, .ref 574, .ref 575, .ref 576, .ref 577, .ref 578, .int (iI (o 68)), .int (iI (o 69)), .int (iI (o 70)), .ref 579]) := hM1510
              have hp1509 : ((o 5) = 0 → f1506 = 4) ∧ (¬ (o 5) = 0 → f1506 = (o 5)) := hp1509
              have hf1513 : f1506 = 4 := hp1509.1 h5
              show X_T sc 155 (53, [(3, .int (iI b)), (2, .int (iI at1312)), (1, .int (iI a)), (0, .ref 530)], [], S1504) _
              refine T_p xr_155_53 xn_155 (pc' := 54) (ls' := [(3, .int (iI b)), (2, .int (iI at1312)), (1, .int (iI a)), (0, .ref 530)]) (st' := [.ref 530]) rfl ?_
              refine T_cv (S := S1504) (q := 530) xr_155_54 xf_140.1 xf_140.2.1 xn_140 (as := []) (r := []) rfl h1512 (Nat.le_of_ble_eq_true rfl) (Nat.le_of_ble_eq_true rfl) (pc' := 57) rfl (ls' := [(0, .ref 530)]) rfl ?_
              refine T_mono (r_isGood sc S1504 (X_ou (X_ou (X_ou (X_ou (X_ou (X_ou (X_ou o 5 f1506) 6 g1507) 7 at1348) 8 en1349) 9 tk1350) 10 nu1351) 11 dg1352) nm1353 h1512 (show 0 ≤ f1506 ∧ f1506 ≤ 5 from by omega)) (fun v1514 S1515 h1516 => ?_)
              rcases h1516 with ⟨hv1517, hf1518⟩
              rw [hv1517]
              rw [hf1518]
              show X_T sc 155 (57, [(3, .int (iI b)), (2, .int (iI at1312)), (1, .int (iI a)), (0, .ref 530)], [.int (iI (bI (f1506 = 0)))], S1504) _
              refine T_bif_eq xr_155_57 (t := 151) (pc' := 60) rfl rfl (fun c1519 => ?_) (fun c1519 => ?_)
              · skip
                have c1519 : ¬ (f1506 = 0) := c1519
                refine T_p xr_155_151 xn_155 (pc' := 152) (ls' := [(3, .int (iI b)), (2, .int (iI at1312)), (1, .int (iI a)), (0, .ref 530)]) (st' := [.ref 530]) rfl ?_
                refine T_cv (S := S1504) (q := 530) xr_155_152 xf_140.1 xf_140.2.1 xn_140 (as := []) (r := []) rfl h1512 (Nat.le_of_ble_eq_true rfl) (Nat.le_of_ble_eq_true rfl) (pc' := 155) rfl (ls' := [(0, .ref 530)]) rfl ?_
                refine T_mono (r_isGood sc S1504 (X_ou (X_ou (X_ou (X_ou (X_ou (X_ou (X_ou o 5 f1506) 6 g1507) 7 at1348) 8 en1349) 9 tk1350) 10 nu1351) 11 dg1352) nm1353 h1512 (show 0 ≤ f1506 ∧ f1506 ≤ 5 from by omega)) (fun v1520 S1521 h1522 => ?_)
                rcases h1522 with ⟨hv1523, hf1524⟩
                rw [hv1523]
                rw [hf1524]
                show X_T sc 155 (155, [(3, .int (iI b)), (2, .int (iI at1312)), (1, .int (iI a)), (0, .ref 530)], [.int (iI (bI (f1506 = 0)))], S1504) _
                refine T_bif_eq xr_155_155 (t := 164) (pc' := 158) rfl rfl (fun c1525 => ?_) (fun c1525 => ?_)
                · skip
                  have c1525 : ¬ (f1506 = 0) := c1525
                  refine T_vret xr_155_164 xf_155.2.2 ?_
                  refine hQ _ _ ?_
                  have h1526 := (hf1511.1 535 (by first | decide | omega)).trans (h1404)
                  refine Or.inr ⟨at1348, en1349, tk1350, nu1351, dg1352, nm1353, f1506, g1507, tg, rfl, by omega, ?_, ?_, h1512, h1526, (((X_Fr.rf).tr (X_Fr.mono ⟨hf1323.1, hf1323.2⟩ (fun q hq => by first | exact hq | (rcases hq with rfl <;> decide) | (rcases hq with rfl | rfl <;> decide) | (rcases hq with rfl | rfl | rfl <;> decide) | (rcases hq with rfl | rfl | rfl | rfl <;> decide) | (rcases hq with rfl | rfl | rfl | rfl | rfl <;> decide) | (rcases hq with rfl | rfl | rfl | rfl | rfl | rfl <;> decide) | (rcases hq with rfl | rfl | rfl | rfl | rfl | rfl | rfl <;> decide) | omega))).tr (X_Fr.mono ⟨hf1359.1, hf1359.2⟩ (fun q hq => by first | exact hq | (rcases hq with rfl <;> decide) | (rcases hq with rfl | rfl <;> decide) | (rcases hq with rfl | rfl | rfl <;> decide) | (rcases hq with rfl | rfl | rfl | rfl <;> decide) | (rcases hq with rfl | rfl | rfl | rfl | rfl <;> decide) | (rcases hq with rfl | rfl | rfl | rfl | rfl | rfl <;> decide) | (rcases hq with rfl | rfl | rfl | rfl | rfl | rfl | rfl <;> decide) | omega))).tr (X_Fr.mono ⟨hf1511.1, hf1511.2⟩ (fun q hq => by first | exact hq | (rcases hq with rfl <;> decide) | (rcases hq with rfl | rfl <;> decide) | (rcases hq with rfl | rfl | rfl <;> decide) | (rcases hq with rfl | rfl | rfl | rfl <;> decide) | (rcases hq with rfl | rfl | rfl | rfl | rfl <;> decide) | (rcases hq with rfl | rfl | rfl | rfl | rfl | rfl <;> decide) | (rcases hq with rfl | rfl | rfl | rfl | rfl | rfl | rfl <;> decide) | omega))⟩
                  · simp only [sp_tight]
                    rw [← hc]
                    (try rw [← ha_])
                    (try rw [← hb2])
                    (repeat (first | rw [if_pos (by assumption)] | rw [if_neg (by assumption)] | rw [if_neg (by omega)] | rw [if_pos (by omega)]))
                    all_goals first | rfl | ((repeat' split) <;> first | rfl | (exfalso; omega) | contradiction)
                  · first | exact R_ob.rf | exact hob
                · skip
                  have c1525 : (f1506 = 0) := c1525
                  exact (show False by first | contradiction | omega).elim
              · skip
                have c1519 : (f1506 = 0) := c1519
                exact (show False by first | contradiction | omega).elim
      · skip
        rw [hv1363]
        have h1371 : S1346.1 530 = .inr (11, [.ref 531, .int (iI (o 1)), .ref 532, .int (iI (o 3)), .int (iI (o 4)), .int (iI f1361), .int (iI g1362), .int (iI at1312), .int (iI en1313), .int (iI tk1314), .int (iI nu1315), .int (iI dg1316), .long nm1317, .ref 533, .ref 534, .ref 535, .ref 536, .ref 537, .ref 538, .ref 539, .ref 540, .ref 541, .ref 542, .ref 543, .ref 544, .ref 545, .ref 546, .ref 547, .int (iI (o 28)), .int (iI (o 29)), .int (iI (o 30)), .int (iI (o 31)), .int (iI (o 32)), .int (iI (o 33)), .ref 548, .ref 549, .ref 550, .ref 551, .int (iI (o 38)), .ref 552, .ref 553, .ref 554, .ref 555, .ref 556, .ref 557, .ref 558, .ref 559, .ref 560, .ref 561, .int (iI (o 49)), .ref 562, .ref 563, .ref 564, .ref 565, .ref 566, .ref 567, .ref 568, .ref 569, .int (iI (o 58)), .ref 570, .ref 571, .ref 572, .ref 573, .ref 574, .ref 575, .ref 576, .ref 577, .ref 578, .int (iI (o 68)), .int (iI (o 69)), .int (iI (o 70)), .ref 579]) := hM1367
        show X_T sc 155 (21, [(2, .int (iI at1312)), (1, .int (iI a)), (0, .ref 530)], [.int (iI r1360)], S1346) _
        refine T_p xr_155_21 xn_155 (pc' := 25) (ls' := [(2, .int (iI at1312)), (1, .int (iI a)), (0, .ref 530)]) (st' := [.int (iI r1360)]) rfl ?_
        obtain ⟨b, hb2⟩ : ∃ z : Int, z = r1360 := ⟨_, rfl⟩
        refine T_ie (y := iI b) (by rw [hb2]) ?_
        refine T_p xr_155_25 xn_155 (pc' := 26) (ls' := [(3, .int (iI b)), (2, .int (iI at1312)), (1, .int (iI a)), (0, .ref 530)]) (st' := []) rfl ?_
        refine T_p xr_155_26 xn_155 (pc' := 27) (ls' := [(3, .int (iI b)), (2, .int (iI at1312)), (1, .int (iI a)), (0, .ref 530)]) (st' := [.ref 530]) rfl ?_
        refine T_cv (S := S1346) (q := 530) xr_155_27 xf_140.1 xf_140.2.1 xn_140 (as := []) (r := []) rfl h1371 (Nat.le_of_ble_eq_true rfl) (Nat.le_of_ble_eq_true rfl) (pc' := 30) rfl (ls' := [(0, .ref 530)]) rfl ?_
        refine T_mono (r_isGood sc S1346 (X_ou (X_ou (X_ou (X_ou (X_ou (X_ou (X_ou o 5 f1361) 6 g1362) 7 at1312) 8 en1313) 9 tk1314) 10 nu1315) 11 dg1316) nm1317 h1371 (show 0 ≤ f1361 ∧ f1361 ≤ 5 from by omega)) (fun v1527 S1528 h1529 => ?_)
        rcases h1529 with ⟨hv1530, hf1531⟩
        rw [hv1530]
        rw [hf1531]
        show X_T sc 155 (30, [(3, .int (iI b)), (2, .int (iI at1312)), (1, .int (iI a)), (0, .ref 530)], [.int (iI (bI (f1361 = 0)))], S1346) _
        refine T_bif_eq xr_155_30 (t := 53) (pc' := 33) rfl rfl (fun c1532 => ?_) (fun c1532 => ?_)
        · skip
          have c1532 : ¬ (f1361 = 0) := c1532
          refine T_p xr_155_53 xn_155 (pc' := 54) (ls' := [(3, .int (iI b)), (2, .int (iI at1312)), (1, .int (iI a)), (0, .ref 530)]) (st' := [.ref 530]) rfl ?_
          refine T_cv (S := S1346) (q := 530) xr_155_54 xf_140.1 xf_140.2.1 xn_140 (as := []) (r := []) rfl h1371 (Nat.le_of_ble_eq_true rfl) (Nat.le_of_ble_eq_true rfl) (pc' := 57) rfl (ls' := [(0, .ref 530)]) rfl ?_
          refine T_mono (r_isGood sc S1346 (X_ou (X_ou (X_ou (X_ou (X_ou (X_ou (X_ou o 5 f1361) 6 g1362) 7 at1312) 8 en1313) 9 tk1314) 10 nu1315) 11 dg1316) nm1317 h1371 (show 0 ≤ f1361 ∧ f1361 ≤ 5 from by omega)) (fun v1533 S1534 h1535 => ?_)
          rcases h1535 with ⟨hv1536, hf1537⟩
          rw [hv1536]
          rw [hf1537]
          show X_T sc 155 (57, [(3, .int (iI b)), (2, .int (iI at1312)), (1, .int (iI a)), (0, .ref 530)], [.int (iI (bI (f1361 = 0)))], S1346) _
          refine T_bif_eq xr_155_57 (t := 151) (pc' := 60) rfl rfl (fun c1538 => ?_) (fun c1538 => ?_)
          · skip
            have c1538 : ¬ (f1361 = 0) := c1538
            refine T_p xr_155_151 xn_155 (pc' := 152) (ls' := [(3, .int (iI b)), (2, .int (iI at1312)), (1, .int (iI a)), (0, .ref 530)]) (st' := [.ref 530]) rfl ?_
            refine T_cv (S := S1346) (q := 530) xr_155_152 xf_140.1 xf_140.2.1 xn_140 (as := []) (r := []) rfl h1371 (Nat.le_of_ble_eq_true rfl) (Nat.le_of_ble_eq_true rfl) (pc' := 155) rfl (ls' := [(0, .ref 530)]) rfl ?_
            refine T_mono (r_isGood sc S1346 (X_ou (X_ou (X_ou (X_ou (X_ou (X_ou (X_ou o 5 f1361) 6 g1362) 7 at1312) 8 en1313) 9 tk1314) 10 nu1315) 11 dg1316) nm1317 h1371 (show 0 ≤ f1361 ∧ f1361 ≤ 5 from by omega)) (fun v1539 S1540 h1541 => ?_)
            rcases h1541 with ⟨hv1542, hf1543⟩
            rw [hv1542]
            rw [hf1543]
            show X_T sc 155 (155, [(3, .int (iI b)), (2, .int (iI at1312)), (1, .int (iI a)), (0, .ref 530)], [.int (iI (bI (f1361 = 0)))], S1346) _
            refine T_bif_eq xr_155_155 (t := 164) (pc' := 158) rfl rfl (fun c1544 => ?_) (fun c1544 => ?_)
            · skip
              have c1544 : ¬ (f1361 = 0) := c1544
              refine T_vret xr_155_164 xf_155.2.2 ?_
              refine hQ _ _ ?_
              have h1545 := (hf1368.1 535 (by first | decide | omega)).trans ((hf1323.1 535 (by first | decide | omega)).trans (hA535))
              refine Or.inr ⟨at1312, en1313, tk1314, nu1315, dg1316, nm1317, f1361, g1362, tg, rfl, by omega, ?_, ?_, h1371, h1545, ((X_Fr.rf).tr (X_Fr.mono ⟨hf1323.1, hf1323.2⟩ (fun q hq => by first | exact hq | (rcases hq with rfl <;> decide) | (rcases hq with rfl | rfl <;> decide) | (rcases hq with rfl | rfl | rfl <;> decide) | (rcases hq with rfl | rfl | rfl | rfl <;> decide) | (rcases hq with rfl | rfl | rfl | rfl | rfl <;> decide) | (rcases hq with rfl | rfl | rfl | rfl | rfl | rfl <;> decide) | (rcases hq with rfl | rfl | rfl | rfl | rfl | rfl | rfl <;> decide) | omega))).tr (X_Fr.mono ⟨hf1368.1, hf1368.2⟩ (fun q hq => by first | exact hq | (rcases hq with rfl <;> decide) | (rcases hq with rfl | rfl <;> decide) | (rcases hq with rfl | rfl | rfl <;> decide) | (rcases hq with rfl | rfl | rfl | rfl <;> decide) | (rcases hq with rfl | rfl | rfl | rfl | rfl <;> decide) | (rcases hq with rfl | rfl | rfl | rfl | rfl | rfl <;> decide) | (rcases hq with rfl | rfl | rfl | rfl | rfl | rfl | rfl <;> decide) | omega))⟩
              · simp only [sp_tight]
                rw [← hc]
                (try rw [← ha_])
                (try rw [← hb2])
                (repeat (first | rw [if_pos (by assumption)] | rw [if_neg (by assumption)] | rw [if_neg (by omega)] | rw [if_pos (by omega)]))
                all_goals first | rfl | ((repeat' split) <;> first | rfl | (exfalso; omega) | contradiction)
              · first | exact R_ob.rf | exact hob
            · skip
              have c1544 : (f1361 = 0) := c1544
              exact (show False by first | contradiction | omega).elim
          · skip
            have c1538 : (f1361 = 0) := c1538
            exact (show False by first | contradiction | omega).elim
        · skip
          have c1532 : (f1361 = 0) := c1532
          exact (show False by first | contradiction | omega).elim
  · skip
    rw [hv1327]
    have h1335 : S1310.1 530 = .inr (11, [.ref 531, .int (iI (o 1)), .ref 532, .int (iI (o 3)), .int (iI (o 4)), .int (iI f1325), .int (iI g1326), .int (iI (o 7)), .int (iI (o 8)), .int (iI (o 9)), .int (iI (o 10)), .int (iI (o 11)), .long nm, .ref 533, .ref 534, .ref 535, .ref 536, .ref 537, .ref 538, .ref 539, .ref 540, .ref 541, .ref 542, .ref 543, .ref 544, .ref 545, .ref 546, .ref 547, .int (iI (o 28)), .int (iI (o 29)), .int (iI (o 30)), .int (iI (o 31)), .int (iI (o 32)), .int (iI (o 33)), .ref 548, .ref 549, .ref 550, .ref 551, .int (iI (o 38)), .ref 552, .ref 553, .ref 554, .ref 555, .ref 556, .ref 557, .ref 558, .ref 559, .ref 560, .ref 561, .int (iI (o 49)), .ref 562, .ref 563, .ref 564, .ref 565, .ref 566, .ref 567, .ref 568, .ref 569, .int (iI (o 58)), .ref 570, .ref 571, .ref 572, .ref 573, .ref 574, .ref 575, .ref 576, .ref 577, .ref 578, .int (iI (o 68)), .int (iI (o 69)), .int (iI (o 70)), .ref 579]) := hM1331
    show X_T sc 155 (4, [(0, .ref 530)], [.int (iI r1324)], S1310) _
    obtain ⟨a, ha_⟩ : ∃ z : Int, z = r1324 := ⟨_, rfl⟩
    refine T_ie (y := iI a) (by rw [ha_]) ?_
    refine T_p xr_155_4 xn_155 (pc' := 5) (ls' := [(1, .int (iI a)), (0, .ref 530)]) (st' := []) rfl ?_
    refine T_p xr_155_5 xn_155 (pc' := 6) (ls' := [(1, .int (iI a)), (0, .ref 530)]) (st' := [.ref 530]) rfl ?_
    refine T_get xr_155_6 h1335 rfl (v := .int (iI (o 7))) rfl (pc' := 9) rfl ?_
    refine T_p xr_155_9 xn_155 (pc' := 10) (ls' := [(2, .int (iI (o 7))), (1, .int (iI a)), (0, .ref 530)]) (st' := []) rfl ?_
    refine T_p xr_155_10 xn_155 (pc' := 11) (ls' := [(2, .int (iI (o 7))), (1, .int (iI a)), (0, .ref 530)]) (st' := [.ref 530]) rfl ?_
    refine T_cv (S := S1310) (q := 530) xr_155_11 xf_140.1 xf_140.2.1 xn_140 (as := []) (r := []) rfl h1335 (Nat.le_of_ble_eq_true rfl) (Nat.le_of_ble_eq_true rfl) (pc' := 14) rfl (ls' := [(0, .ref 530)]) rfl ?_
    refine T_mono (r_isGood sc S1310 (X_ou (X_ou o 5 f1325) 6 g1326) nm h1335 (show 0 ≤ f1325 ∧ f1325 ≤ 5 from by omega)) (fun v1546 S1547 h1548 => ?_)
    rcases h1548 with ⟨hv1549, hf1550⟩
    rw [hv1549]
    rw [hf1550]
    show X_T sc 155 (14, [(2, .int (iI (o 7))), (1, .int (iI a)), (0, .ref 530)], [.int (iI (bI (f1325 = 0)))], S1310) _
    refine T_bif_eq xr_155_14 (t := 24) (pc' := 17) rfl rfl (fun c1551 => ?_) (fun c1551 => ?_)
    · skip
      have c1551 : ¬ (f1325 = 0) := c1551
      refine T_p xr_155_24 xn_155 (pc' := 25) (ls' := [(2, .int (iI (o 7))), (1, .int (iI a)), (0, .ref 530)]) (st' := [.int (iI 0)]) rfl ?_
      obtain ⟨b, hb2⟩ : ∃ z : Int, z = 0 := ⟨_, rfl⟩
      refine T_ie (y := iI b) (by rw [hb2]) ?_
      refine T_p xr_155_25 xn_155 (pc' := 26) (ls' := [(3, .int (iI b)), (2, .int (iI (o 7))), (1, .int (iI a)), (0, .ref 530)]) (st' := []) rfl ?_
      refine T_p xr_155_26 xn_155 (pc' := 27) (ls' := [(3, .int (iI b)), (2, .int (iI (o 7))), (1, .int (iI a)), (0, .ref 530)]) (st' := [.ref 530]) rfl ?_
      refine T_cv (S := S1310) (q := 530) xr_155_27 xf_140.1 xf_140.2.1 xn_140 (as := []) (r := []) rfl h1335 (Nat.le_of_ble_eq_true rfl) (Nat.le_of_ble_eq_true rfl) (pc' := 30) rfl (ls' := [(0, .ref 530)]) rfl ?_
      refine T_mono (r_isGood sc S1310 (X_ou (X_ou o 5 f1325) 6 g1326) nm h1335 (show 0 ≤ f1325 ∧ f1325 ≤ 5 from by omega)) (fun v1552 S1553 h1554 => ?_)
      rcases h1554 with ⟨hv1555, hf1556⟩
      rw [hv1555]
      rw [hf1556]
      show X_T sc 155 (30, [(3, .int (iI b)), (2, .int (iI (o 7))), (1, .int (iI a)), (0, .ref 530)], [.int (iI (bI (f1325 = 0)))], S1310) _
      refine T_bif_eq xr_155_30 (t := 53) (pc' := 33) rfl rfl (fun c1557 => ?_) (fun c1557 => ?_)
      · skip
        have c1557 : ¬ (f1325 = 0) := c1557
        refine T_p xr_155_53 xn_155 (pc' := 54) (ls' := [(3, .int (iI b)), (2, .int (iI (o 7))), (1, .int (iI a)), (0, .ref 530)]) (st' := [.ref 530]) rfl ?_
        refine T_cv (S := S1310) (q := 530) xr_155_54 xf_140.1 xf_140.2.1 xn_140 (as := []) (r := []) rfl h1335 (Nat.le_of_ble_eq_true rfl) (Nat.le_of_ble_eq_true rfl) (pc' := 57) rfl (ls' := [(0, .ref 530)]) rfl ?_
        refine T_mono (r_isGood sc S1310 (X_ou (X_ou o 5 f1325) 6 g1326) nm h1335 (show 0 ≤ f1325 ∧ f1325 ≤ 5 from by omega)) (fun v1558 S1559 h1560 => ?_)
        rcases h1560 with ⟨hv1561, hf1562⟩
        rw [hv1561]
        rw [hf1562]
        show X_T sc 155 (57, [(3, .int (iI b)), (2, .int (iI (o 7))), (1, .int (iI a)), (0, .ref 530)], [.int (iI (bI (f1325 = 0)))], S1310) _
        refine T_bif_eq xr_155_57 (t := 151) (pc' := 60) rfl rfl (fun c1563 => ?_) (fun c1563 => ?_)
        · skip
          have c1563 : ¬ (f1325 = 0) := c1563
          refine T_p xr_155_151 xn_155 (pc' := 152) (ls' := [(3, .int (iI b)), (2, .int (iI (o 7))), (1, .int (iI a)), (0, .ref 530)]) (st' := [.ref 530]) rfl ?_
          refine T_cv (S := S1310) (q := 530) xr_155_152 xf_140.1 xf_140.2.1 xn_140 (as := []) (r := []) rfl h1335 (Nat.le_of_ble_eq_true rfl) (Nat.le_of_ble_eq_true rfl) (pc' := 155) rfl (ls' := [(0, .ref 530)]) rfl ?_
          refine T_mono (r_isGood sc S1310 (X_ou (X_ou o 5 f1325) 6 g1326) nm h1335 (show 0 ≤ f1325 ∧ f1325 ≤ 5 from by omega)) (fun v1564 S1565 h1566 => ?_)
          rcases h1566 with ⟨hv1567, hf1568⟩
          rw [hv1567]
          rw [hf1568]
          show X_T sc 155 (155, [(3, .int (iI b)), (2, .int (iI (o 7))), (1, .int (iI a)), (0, .ref 530)], [.int (iI (bI (f1325 = 0)))], S1310) _
          refine T_bif_eq xr_155_155 (t := 164) (pc' := 158) rfl rfl (fun c1569 => ?_) (fun c1569 => ?_)
          · skip
            have c1569 : ¬ (f1325 = 0) := c1569
            refine T_vret xr_155_164 xf_155.2.2 ?_
            refine hQ _ _ ?_
            have h1570 := (hf1332.1 535 (by first | decide | omega)).trans (hA535)
            refine Or.inr ⟨o 7, o 8, o 9, o 10, o 11, nm, f1325, g1326, tg, rfl, by omega, ?_, ?_, h1335, h1570, (X_Fr.rf).tr (X_Fr.mono ⟨hf1332.1, hf1332.2⟩ (fun q hq => by first | exact hq | (rcases hq with rfl <;> decide) | (rcases hq with rfl | rfl <;> decide) | (rcases hq with rfl | rfl | rfl <;> decide) | (rcases hq with rfl | rfl | rfl | rfl <;> decide) | (rcases hq with rfl | rfl | rfl | rfl | rfl <;> decide) | (rcases hq with rfl | rfl | rfl | rfl | rfl | rfl <;> decide) | (rcases hq with rfl | rfl | rfl | rfl | rfl | rfl | rfl <;> decide) | omega))⟩
            · simp only [sp_tight]
              rw [← hc]
              (try rw [← ha_])
              (try rw [← hb2])
              (repeat (first | rw [if_pos (by assumption)] | rw [if_neg (by assumption)] | rw [if_neg (by omega)] | rw [if_pos (by omega)]))
              all_goals first | rfl | ((repeat' split) <;> first | rfl | (exfalso; omega) | contradiction)
            · first | exact R_ob.rf | exact hob
          · skip
            have c1569 : (f1325 = 0) := c1569
            exact (show False by first | contradiction | omega).elim
        · skip
          have c1563 : (f1325 = 0) := c1563
          exact (show False by first | contradiction | omega).elim
      · skip
        have c1557 : (f1325 = 0) := c1557
        exact (show False by first | contradiction | omega).elim
    · skip
      have c1551 : (f1325 = 0) := c1551
      exact (show False by first | contradiction | omega).elim
end
section
theorem xr_156_0 : X_row 156 0 = some (0, (.aload_n 0, 1), (0, 0, 0)) := by decide +kernel
theorem xr_156_1 : X_row 156 1 = some (1, (.getfield 27, 3), (11, 9, 18)) := by decide +kernel
theorem xr_156_4 : X_row 156 4 = some (4, (.iconst 2, 1), (0, 0, 0)) := by decide +kernel
theorem xr_156_5 : X_row 156 5 = some (5, (.if_icmp .eq 7, 3), (0, 0, 0)) := by decide +kernel
theorem xr_156_8 : X_row 156 8 = some (8, (.aload_n 0, 1), (0, 0, 0)) := by decide +kernel
theorem xr_156_9 : X_row 156 9 = some (9, (.invokevirtual 81, 3), (147, 16, 0)) := by decide +kernel
theorem xr_156_12 : X_row 156 12 = some (12, (.aload_n 0, 1), (0, 0, 0)) := by decide +kernel
theorem xr_156_13 : X_row 156 13 = some (13, (.invokevirtual 100, 3), (140, 14, 0)) := by decide +kernel
theorem xr_156_16 : X_row 156 16 = some (16, (.ifCond .eq 23, 3), (0, 0, 0)) := by decide +kernel
theorem xr_156_19 : X_row 156 19 = some (19, (.aload_n 0, 1), (0, 0, 0)) := by decide +kernel
theorem xr_156_20 : X_row 156 20 = some (20, (.aload_n 0, 1), (0, 0, 0)) := by decide +kernel
theorem xr_156_21 : X_row 156 21 = some (21, (.getfield 41, 3), (11, 12, 24)) := by decide +kernel
theorem xr_156_24 : X_row 156 24 = some (24, (.invokevirtual 108, 3), (150, 36, 0)) := by decide +kernel
theorem xr_156_27 : X_row 156 27 = some (27, (.ifCond .lt 12, 3), (0, 0, 0)) := by decide +kernel
theorem xr_156_30 : X_row 156 30 = some (30, (.aload_n 0, 1), (0, 0, 0)) := by decide +kernel
theorem xr_156_31 : X_row 156 31 = some (31, (.iconst 3, 1), (0, 0, 0)) := by decide +kernel
theorem xr_156_32 : X_row 156 32 = some (32, (.aload_n 0, 1), (0, 0, 0)) := by decide +kernel
theorem xr_156_33 : X_row 156 33 = some (33, (.getfield 20, 3), (11, 7, 14)) := by decide +kernel
theorem xr_156_36 : X_row 156 36 = some (36, (.invokevirtual 72, 3), (139, 18, 0)) := by decide +kernel
theorem xr_156_39 : X_row 156 39 = some (39, (.aload_n 0, 1), (0, 0, 0)) := by decide +kernel
theorem xr_156_40 : X_row 156 40 = some (40, (.invokevirtual 100, 3), (140, 14, 0)) := by decide +kernel
theorem xr_156_43 : X_row 156 43 = some (43, (.ifCond .ne 4, 3), (0, 0, 0)) := by decide +kernel
theorem xr_156_46 : X_row 156 46 = some (46, (.return_, 1), (0, 0, 0)) := by decide +kernel
theorem xr_156_47 : X_row 156 47 = some (47, (.aload_n 0, 1), (0, 0, 0)) := by decide +kernel
theorem xr_156_48 : X_row 156 48 = some (48, (.getfield 41, 3), (11, 12, 24)) := by decide +kernel
theorem xr_156_51 : X_row 156 51 = some (51, (.lstore_n 1, 1), (0, 0, 0)) := by decide +kernel
theorem xr_156_52 : X_row 156 52 = some (52, (.iconst 0, 1), (0, 0, 0)) := by decide +kernel
theorem xr_156_53 : X_row 156 53 = some (53, (.istore_n 3, 1), (0, 0, 0)) := by decide +kernel
theorem xr_156_54 : X_row 156 54 = some (54, (.aload_n 0, 1), (0, 0, 0)) := by decide +kernel
theorem xr_156_55 : X_row 156 55 = some (55, (.invokevirtual 78, 3), (141, 0, 0)) := by decide +kernel
theorem xr_156_58 : X_row 156 58 = some (58, (.aload_n 0, 1), (0, 0, 0)) := by decide +kernel
theorem xr_156_59 : X_row 156 59 = some (59, (.ldc2_w 51, 3), (504363246962, 1288, 0)) := by decide +kernel
theorem xr_156_62 : X_row 156 62 = some (62, (.invokevirtual 127, 3), (146, 38, 0)) := by decide +kernel
theorem xr_156_65 : X_row 156 65 = some (65, (.ifCond .eq 12, 3), (0, 0, 0)) := by decide +kernel
theorem xr_156_68 : X_row 156 68 = some (68, (.aload_n 0, 1), (0, 0, 0)) := by decide +kernel
theorem xr_156_69 : X_row 156 69 = some (69, (.invokevirtual 78, 3), (141, 0, 0)) := by decide +kernel
theorem xr_156_72 : X_row 156 72 = some (72, (.aload_n 0, 1), (0, 0, 0)) := by decide +kernel
theorem xr_156_73 : X_row 156 73 = some (73, (.invokevirtual 131, 3), (152, 40, 0)) := by decide +kernel
theorem xr_156_76 : X_row 156 76 = some (76, (.istore_n 3, 1), (0, 0, 0)) := by decide +kernel
theorem xr_156_77 : X_row 156 77 = some (77, (.aload_n 0, 1), (0, 0, 0)) := by decide +kernel
theorem xr_156_78 : X_row 156 78 = some (78, (.invokevirtual 100, 3), (140, 14, 0)) := by decide +kernel
theorem xr_156_81 : X_row 156 81 = some (81, (.ifCond .ne 4, 3), (0, 0, 0)) := by decide +kernel
theorem xr_156_84 : X_row 156 84 = some (84, (.return_, 1), (0, 0, 0)) := by decide +kernel
theorem xr_156_85 : X_row 156 85 = some (85, (.aload_n 0, 1), (0, 0, 0)) := by decide +kernel
theorem xr_156_86 : X_row 156 86 = some (86, (.getfield 97, 3), (11, 14, 28)) := by decide +kernel
theorem xr_156_89 : X_row 156 89 = some (89, (.bipush 11, 2), (0, 0, 0)) := by decide +kernel
theorem xr_156_91 : X_row 156 91 = some (91, (.aload_n 0, 1), (0, 0, 0)) := by decide +kernel
theorem xr_156_92 : X_row 156 92 = some (92, (.getfield 91, 3), (11, 4, 8)) := by decide +kernel
theorem xr_156_95 : X_row 156 95 = some (95, (.imul, 1), (0, 0, 0)) := by decide +kernel
theorem xr_156_96 : X_row 156 96 = some (96, (.aload_n 0, 1), (0, 0, 0)) := by decide +kernel
theorem xr_156_97 : X_row 156 97 = some (97, (.getfield 94, 3), (11, 29, 58)) := by decide +kernel
theorem xr_156_100 : X_row 156 100 = some (100, (.iadd, 1), (0, 0, 0)) := by decide +kernel
theorem xr_156_101 : X_row 156 101 = some (101, (.lload_n 1, 1), (0, 0, 0)) := by decide +kernel
theorem xr_156_102 : X_row 156 102 = some (102, (.lastore, 1), (0, 0, 0)) := by decide +kernel
theorem xr_156_103 : X_row 156 103 = some (103, (.aload_n 0, 1), (0, 0, 0)) := by decide +kernel
theorem xr_156_104 : X_row 156 104 = some (104, (.getfield 134, 3), (11, 16, 32)) := by decide +kernel
theorem xr_156_107 : X_row 156 107 = some (107, (.bipush 11, 2), (0, 0, 0)) := by decide +kernel
theorem xr_156_109 : X_row 156 109 = some (109, (.aload_n 0, 1), (0, 0, 0)) := by decide +kernel
theorem xr_156_110 : X_row 156 110 = some (110, (.getfield 91, 3), (11, 4, 8)) := by decide +kernel
theorem xr_156_113 : X_row 156 113 = some (113, (.imul, 1), (0, 0, 0)) := by decide +kernel
theorem xr_156_114 : X_row 156 114 = some (114, (.aload_n 0, 1), (0, 0, 0)) := by decide +kernel
theorem xr_156_115 : X_row 156 115 = some (115, (.getfield 94, 3), (11, 29, 58)) := by decide +kernel
theorem xr_156_118 : X_row 156 118 = some (118, (.iadd, 1), (0, 0, 0)) := by decide +kernel
theorem xr_156_119 : X_row 156 119 = some (119, (.iload_n 3, 1), (0, 0, 0)) := by decide +kernel
theorem xr_156_120 : X_row 156 120 = some (120, (.iastore, 1), (0, 0, 0)) := by decide +kernel
theorem xr_156_121 : X_row 156 121 = some (121, (.aload_n 0, 1), (0, 0, 0)) := by decide +kernel
theorem xr_156_122 : X_row 156 122 = some (122, (.dup, 1), (0, 0, 0)) := by decide +kernel
theorem xr_156_123 : X_row 156 123 = some (123, (.getfield 94, 3), (11, 29, 58)) := by decide +kernel
theorem xr_156_126 : X_row 156 126 = some (126, (.iconst 1, 1), (0, 0, 0)) := by decide +kernel
theorem xr_156_127 : X_row 156 127 = some (127, (.iadd, 1), (0, 0, 0)) := by decide +kernel
theorem xr_156_128 : X_row 156 128 = some (128, (.putfield 94, 3), (11, 29, 58)) := by decide +kernel
theorem xr_156_131 : X_row 156 131 = some (131, (.aload_n 0, 1), (0, 0, 0)) := by decide +kernel
theorem xr_156_132 : X_row 156 132 = some (132, (.bipush 59, 2), (0, 0, 0)) := by decide +kernel
theorem xr_156_134 : X_row 156 134 = some (134, (.invokevirtual 115, 3), (148, 24, 0)) := by decide +kernel
theorem xr_156_137 : X_row 156 137 = some (137, (.return_, 1), (0, 0, 0)) := by decide +kernel
theorem xn_156 : X_nL 156 = 4 := by decide +kernel
theorem xf_156 : X_na 156 = 0 ∧ X_ci 156 = 11 ∧ X_rt 156 = none := by decide +kernel
theorem X_vl_n {ct : Int → Int64} {c nu : Int} (h : ct c = iL nu) (hn : 0 ≤ nu ∧ nu ≤ 999999999) : X_vl ct c = nu := by
  unfold X_vl
  rw [h]
  have e : (iL nu).toInt32 = iI nu := by
    show (Int64.ofInt nu).toInt32 = Int32.ofInt nu
    rw [← Int32.toInt_inj, Int64.toInt_toInt32, Int64.toInt_ofInt_of_le (by omega) (by omega), Int32.toInt_ofInt]
  rw [e, iI_t (by omega) (by omega)]
/-- the reference's elements of word x, as told by d, q -/
def R_e (x : Int) (d : Nat → Int → Int) (q : Int → Int64) (wM wH : Int → Int) (eP : Int → Int64) (eH hK : Int → Int) : Prop := wM x = d 3 0 ∧ wH x = d 4 0 ∧ (∀ e, 0 ≤ e → e < d 3 0 → eP (8 * x + e) = q e ∧ (q e = 0 → eH (8 * x + e) = d 8 e)) ∧ (∀ h, 0 ≤ h → h < d 4 0 → hK (4 * x + h) = d 9 h)
def X_op (s : Int) : Int := if s = 4 then 110 else s
def R_s (x : Int) (d : Nat → Int → Int) (wS sO sN : Int → Int) : Prop := wS x = d 5 0 ∧ ∀ k, 0 ≤ k → k < d 5 0 → sO (30 * x + k) = X_op (d 12 k) ∧ (d 12 k = 4 → sN (30 * x + k) = d 13 k) ∧ (d 12 k = 64 → sN (30 * x + k) = d 13 k - 1)
theorem R_e_P {x : Int} {d : Nat → Int → Int} {q : Int → Int64} {wM wH : Int → Int} {eP : Int → Int64} {eH hK : Int → Int} {t : Int64} (ht : ¬ t = 0) (h0 : 0 ≤ d 3 0) (h : R_e x d q wM wH eP eH hK) {z : Int} (hz : z = 8 * x + d 3 0) {y : Int} (hy : y = d 3 0 + 1) : R_e x (X_aP d) (X_ug q (d 3 0) t) (X_ug wM x y) wH (X_ug eP z t) eH hK := by
  subst hz; subst hy
  obtain ⟨a1, a2, a3, a4⟩ := h
  refine ⟨X_ug_s _ _ _, a2, fun e g1 g2 => ?_, a4⟩
  have g2 : e < d 3 0 + 1 := g2
  by_cases he : e = d 3 0
  · subst he
    rw [X_ug_s, X_ug_s]
    exact ⟨rfl, fun z => absurd z ht⟩
  · rw [X_ug_n _ _ he, X_ug_n _ _ (by omega)]
    exact a3 e g1 (by omega)
theorem R_e_H {x k : Int} {d : Nat → Int → Int} {q : Int → Int64} {wM wH : Int → Int} {eP : Int → Int64} {eH hK : Int → Int} (h0 : 0 ≤ d 3 0) (h : R_e x d q wM wH eP eH hK) {z : Int} (hz : z = 8 * x + d 3 0) {y : Int} (hy : y = d 3 0 + 1) {y2 : Int} (hy2 : y2 = d 4 0) {z3 : Int} (hz3 : z3 = 4 * x + d 4 0) {y3 : Int} (hy3 : y3 = d 4 0 + 1) : R_e x (X_aH d k) (X_ug q (d 3 0) 0) (X_ug wM x y) (X_ug wH x y3) (X_ug eP z 0) (X_ug eH z y2) (X_ug hK z3 k) := by
  subst hz; subst hy; subst hy2; subst hz3; subst hy3
  obtain ⟨a1, a2, a3, a4⟩ := h
  refine ⟨X_ug_s _ _ _, X_ug_s _ _ _, fun e g1 g2 => ?_, fun h g1 g2 => ?_⟩
  · have g2 : e < d 3 0 + 1 := g2
    show _ ∧ (_ → _ = X_ug (d 8) (d 3 0) (d 4 0) e)
    by_cases he : e = d 3 0
    · subst he
      rw [X_ug_s, X_ug_s, X_ug_s, X_ug_s]
      exact ⟨rfl, fun _ => rfl⟩
    · rw [X_ug_n _ _ he, X_ug_n _ _ he, X_ug_n _ _ (by omega), X_ug_n _ _ (by omega)]
      exact a3 e g1 (by omega)
  · have g2 : h < d 4 0 + 1 := g2
    show _ = X_ug (d 9) (d 4 0) k h
    by_cases he : h = d 4 0
    · subst he
      rw [X_ug_s, X_ug_s]
    · rw [X_ug_n _ _ he, X_ug_n _ _ (by omega)]
      exact a4 h g1 (by omega)
theorem R_s_S {x s v n : Int} {d : Nat → Int → Int} {wS sO sN : Int → Int} (h0 : 0 ≤ d 5 0) (hv : (s = 4 → n = v) ∧ (s = 64 → n = v - 1)) (h : R_s x d wS sO sN) {z : Int} (hz : z = 30 * x + d 5 0) {y : Int} (hy : y = d 5 0 + 1) {p : Int} (hp : p = X_op s) {sN' : Int → Int} (hN : sN' z = n ∧ ∀ i, i ≠ z → sN' i = sN i) : R_s x (X_aS d s v) (X_ug wS x y) (X_ug sO z p) sN' := by
  subst hz; subst hy; subst hp
  obtain ⟨a1, a2⟩ := h
  refine ⟨X_ug_s _ _ _, fun k g1 g2 => ?_⟩
  have g2 : k < d 5 0 + 1 := g2
  show _ = X_op (X_ug (d 12) (d 5 0) s k) ∧ (X_ug (d 12) (d 5 0) s k = 4 → _ = X_ug (d 13) (d 5 0) v k) ∧ (X_ug (d 12) (d 5 0) s k = 64 → _ = X_ug (d 13) (d 5 0) v k - 1)
  by_cases hk : k = d 5 0
  · subst hk
    rw [X_ug_s, X_ug_s, X_ug_s, hN.1]
    exact ⟨rfl, hv.1, hv.2⟩
  · rw [X_ug_n _ _ hk, X_ug_n _ _ hk, X_ug_n _ _ (by omega), hN.2 _ (by omega)]
    exact a2 k g1 (by omega)
/-- one element, as sp_el takes it -/
noncomputable def sp_e1 (n : Int) (so : Int → Int) (ct : Int → Int64) (kn : Int → Int64) (kc c : Int) (d : Nat → Int → Int) (q : Int → Int64) : Option (Int × (Nat → Int → Int) × (Int → Int64)) :=
  if so c = 6 ∧ d 3 0 < 8 then some (X_av n c, X_aP d, X_ug q (d 3 0) (ct c)) else
    @ite _ (so c = 95 ∧ (d 3 0 < 8 ∧ d 4 0 < 4 ∧ ¬ X_hl d q (d 3 0 - 1))) (Classical.propDecidable _)
      (if so (X_av n c) = 2 then (if X_ix kn kc (ct (X_av n c)) = -1 then none else some (X_av n (X_av n c), X_aH d (X_ix kn kc (ct (X_av n c))), X_ug q (d 3 0) 0)) else some (X_av n c, X_aH d 0, X_ug q (d 3 0) 0)) none
theorem sp_el_e1 {n : Int} {so : Int → Int} {ct : Int → Int64} {kn : Int → Int64} {kc : Int} (k : Nat) {c : Int} {d : Nat → Int → Int} {q : Int → Int64} (h1 : ¬ so c = 61) (h2 : ¬ so c = 59) : sp_el n so ct kn kc (k + 1) c d q = (sp_e1 n so ct kn kc c d q).bind fun r => sp_el n so ct kn kc k r.1 r.2.1 r.2.2 := by
  show (if so c = 61 then _ else if so c = 59 then _ else if so c = 6 ∧ d 3 0 < 8 then _ else _) = _
  rw [if_neg h1, if_neg h2]
  unfold sp_e1
  repeat' split
  all_goals rfl
theorem R_tk_sg {tb : Int → Int} {len n : Int} {so pl : Int → Int} {ct : Int → Int64} {E : Int → Int} {c : Int} (hX : X_TxE tb len n so pl ct E) (hc : 0 ≤ c ∧ c < n) (h7 : 7 ≤ so c) : X_isSg (so c) := by
  obtain ⟨hl, hn, hK, -, -⟩ := hX
  obtain ⟨-, h⟩ := hK.2 c hc.1 hc.2
  rcases h with ⟨h1, h2, h3, h4⟩ | h | h | h | h
  · omega
  · obtain ⟨h1, h2, h3⟩ := h
    exfalso
    rcases h3 with h | ⟨-, -, h | h⟩
    · omega
    · have := h.2; omega
    · have := h.2; omega
  · obtain ⟨h1, h2, h3⟩ := h
    exfalso
    rcases h3 with h | ⟨-, -, -, h | h⟩
    · have := h.2.1; omega
    · have := h.2; omega
    · have := h.2; omega
  · obtain ⟨h1, m, h2, h3⟩ := h
    exfalso
    rcases h3 with h | h
    · have := h.2.1; omega
    · have := h.2.2.2.1; omega
  · obtain ⟨h1, h2, h3, h4, h5, h6, h7'⟩ := h
    rcases h7' with h | h
    · rw [h.2.2]; exact h.1
    · have := h.2; omega
section X_STEP
variable {n : Int} {so : Int → Int} {ct : Int → Int64} {c pile : Int} {d : Nat → Int → Int}
theorem X_op4 : ¬ X_isOp 4 := by unfold X_isOp; omega
theorem sp_step_n (h : so c = 4 ∨ so c = 5) (hp : ¬ pile = 16) : sp_step n so ct c d pile = some (X_av n c, X_aS d 4 (X_vl ct c), pile + 1) := by
  unfold sp_step sp_stF
  rw [if_pos h, if_neg (by omega), if_neg (fun z => hp z.2), if_neg (fun z => X_op4 z.1), if_neg X_op4]
theorem sp_step_nf (h : so c = 4 ∨ so c = 5) (hp : pile = 16) : sp_step n so ct c d pile = none := by
  unfold sp_step sp_stF
  rw [if_pos h, if_neg (by omega), if_pos ⟨X_op4, hp⟩]
theorem X_op64 {s : Int} (h : s = 64) : ¬ X_isOp s := by unfold X_isOp; omega
theorem sp_step_a (h : so c = 64) (h5 : so (X_av n c) = 5) (hv : ¬ (X_vl ct (X_av n c) < 1 ∨ d 4 0 < X_vl ct (X_av n c))) (hp : ¬ pile = 16) : sp_step n so ct c d pile = some (X_av n (X_av n c), X_aS d (so c) (X_vl ct (X_av n c)), pile + 1) := by
  unfold sp_step sp_stF
  rw [if_neg (by omega), if_pos h, if_pos h5, if_neg (fun z => hv z.2), if_neg (fun z => hp z.2), if_neg (fun z => X_op64 h z.1), if_neg (X_op64 h)]
theorem sp_step_af (h : so c = 64) (h5 : ¬ so (X_av n c) = 5 ∨ pile = 16 ∨ X_vl ct (X_av n c) < 1 ∨ d 4 0 < X_vl ct (X_av n c)) : sp_step n so ct c d pile = none := by
  unfold sp_step sp_stF
  rw [if_neg (by omega), if_pos h]
  by_cases g : so (X_av n c) = 5
  · rw [if_pos g]
    by_cases g2 : X_vl ct (X_av n c) < 1 ∨ d 4 0 < X_vl ct (X_av n c)
    · rw [if_pos ⟨h, g2⟩]
    · rw [if_neg (fun z => g2 z.2), if_pos ⟨X_op64 h, by omega⟩]
  · rw [if_neg g]
theorem X_op_n {s : Int} (h : X_isOp s) : ¬ (s = 4 ∨ s = 5) ∧ ¬ s = 64 := by unfold X_isOp at h; omega
theorem sp_step_o (h : X_isOp (so c)) (hp : ¬ pile < 2) : sp_step n so ct c d pile = some (X_av n c, X_aS d (so c) (X_vl ct c), pile - 1) := by
  unfold sp_step sp_stF
  rw [if_neg (X_op_n h).1, if_neg (X_op_n h).2, if_pos h, if_neg (fun z => (X_op_n h).2 z.1), if_neg (fun z => z.1 h), if_neg (fun z => hp z.2), if_pos h]
theorem sp_step_of (h : X_isOp (so c)) (hp : pile < 2) : sp_step n so ct c d pile = none := by
  unfold sp_step sp_stF
  rw [if_neg (X_op_n h).1, if_neg (X_op_n h).2, if_pos h, if_neg (fun z => (X_op_n h).2 z.1), if_neg (fun z => z.1 h), if_pos ⟨h, hp⟩]
theorem sp_step_x (h1 : ¬ (so c = 4 ∨ so c = 5)) (h2 : ¬ so c = 64) (h3 : ¬ X_isOp (so c)) : sp_step n so ct c d pile = none := by
  unfold sp_step
  rw [if_neg h1, if_neg h2, if_neg h3]
end X_STEP

theorem r_readKind (sc : X_Sc) (S : X_S) (o : Nat → Int) (nm : Int64) (tx : Int → Int) (kN : Int → Int64) (kU : Int → Int) (tb : Int → Int) (len : Int) (n : Int) (so : Int → Int) (pl : Int → Int) (ct : Int → Int64) (E : Int → Int) (c : Int) (c0 : Int) (rc : Int) (kc : Int) (wc : Int) (rn : Int → Int64) (lo : Int → Int) (kn : Int → Int64) (ab : Int → Int) (D : Int → Nat → Int → Int) (W : Int → Int → Int64) (hM : M_o S o nm) (hA532 : S.1 532 = .inl (.byte, 2000, .inl fun k : Nat => iI (tx (k : Int)))) (hA534 : S.1 534 = .inl (.long, 22, .inr (.inl fun k : Nat => kN (k : Int)))) (hA536 : S.1 536 = .inl (.int, 22, .inl fun k : Nat => iI (kU (k : Int)))) (hlen : o 3 = len) (hl : 0 ≤ len ∧ len ≤ 2000) (htx : ∀ k, 0 ≤ k → k < len → tx k = tb k) (hX : X_TxE tb len n so pl ct E) (hT : R_tk n so pl ct E c (o 7) (o 8) (o 9) (o 10) (o 11) nm) (h5 : o 5 = 0) (hkc : o 29 = kc) (hcr : 1 ≤ kc ∧ kc < 11) (hb : 0 ≤ o 4 ∧ o 4 ≤ 1) (hc : c = X_av n c0) (hR : R_kd (o 4) kc kn ab kN kU) : X_T sc 156 (0, [(0, .ref 530)], [], S) (fun v S' => (∃ (at1 : Int) (en1 : Int) (tk1 : Int) (nu1 : Int) (dg1 : Int) (nm1 : Int64) (c2 : Int) (ab1 : Int → Int) (kN1 : Int → Int64) (kU1 : Int → Int), v = none ∧ R_tk n so pl ct E c2 at1 en1 tk1 nu1 dg1 nm1 ∧ sp_kind n so ct (c0, rc, kc, wc, rn, lo, kn, ab, D, W) = some (c2, rc, kc + 1, wc, rn, lo, X_ug kn kc (ct c), ab1, D, W) ∧ R_kd (o 4) (kc + 1) (X_ug kn kc (ct c)) ab1 kN1 kU1 ∧ R_ob 11 (o 4) kN kN1 ∧ R_ob 11 (o 4) kU kU1 ∧ M_o S' (X_ou (X_ou (X_ou (X_ou (X_ou (X_ou o 7 at1) 8 en1) 9 tk1) 10 nu1) 11 dg1) 29 (kc + 1)) nm1 ∧ S'.1 534 = .inl (.long, 22, .inr (.inl fun k : Nat => kN1 (k : Int))) ∧ S'.1 536 = .inl (.int, 22, .inl fun k : Nat => iI (kU1 (k : Int))) ∧ (X_Fr (fun q => q = 530 ∨ q = 534 ∨ q = 536) S S')) ∨ (∃ (at1 : Int) (en1 : Int) (tk1 : Int) (nu1 : Int) (dg1 : Int) (nm1 : Int64) (kc1 : Int) (f1 : Int) (g1 : Int) (kN1 : Int → Int64) (kU1 : Int → Int), v = none ∧ (1 ≤ f1 ∧ f1 ≤ 5) ∧ sp_kind n so ct (c0, rc, kc, wc, rn, lo, kn, ab, D, W) = none ∧ R_ob 11 (o 4) kN kN1 ∧ R_ob 11 (o 4) kU kU1 ∧ M_o S' (X_ou (X_ou (X_ou (X_ou (X_ou (X_ou (X_ou (X_ou o 7 at1) 8 en1) 9 tk1) 10 nu1) 11 dg1) 29 kc1) 5 f1) 6 g1) nm1 ∧ S'.1 534 = .inl (.long, 22, .inr (.inl fun k : Nat => kN1 (k : Int))) ∧ S'.1 536 = .inl (.int, 22, .inl fun k : Nat => iI (kU1 (k : Int))) ∧ (X_Fr (fun q => q = 530 ∨ q = 534 ∨ q = 536) S S'))) := by
  obtain ⟨⟨hc0, hcn⟩, ⟨hs0, hs1⟩, hk0, ⟨ha0, ha1⟩, hk0e, ⟨_, _⟩, ⟨_, _⟩⟩ := R_tk_f hX hT
  have hn2 := hX.2.1
  have hN := hR.1
  refine X_QI (fun Q hQ => ?_)
  refine T_p xr_156_0 xn_156 (pc' := 1) (ls' := [(0, .ref 530)]) (st' := [.ref 530]) rfl ?_
  refine T_get xr_156_1 hM rfl (v := .int (iI (o 9))) rfl (pc' := 4) rfl ?_
  refine T_p xr_156_4 xn_156 (pc' := 5) (ls' := [(0, .ref 530)]) (st' := [.int (iI 2), .int (iI (o 9))]) rfl ?_
  refine T_zicmp_eq xr_156_5 (t := 12) (pc' := 8) rfl rfl (fun c1571 => ?_) (fun c1571 => ?_)
  · skip
    have c1571 : (o 9) = 2 := c1571
    refine T_p xr_156_12 xn_156 (pc' := 13) (ls' := [(0, .ref 530)]) (st' := [.ref 530]) rfl ?_
    refine T_cv (S := S) (q := 530) xr_156_13 xf_140.1 xf_140.2.1 xn_140 (as := []) (r := []) rfl hM (Nat.le_of_ble_eq_true rfl) (Nat.le_of_ble_eq_true rfl) (pc' := 16) rfl (ls' := [(0, .ref 530)]) rfl ?_
    refine T_mono (r_isGood sc S o nm hM (show 0 ≤ (o 5) ∧ (o 5) ≤ 5 from by omega)) (fun v1572 S1573 h1574 => ?_)
    rcases h1574 with ⟨hv1575, hf1576⟩
    rw [hv1575]
    rw [hf1576]
    show X_T sc 156 (16, [(0, .ref 530)], [.int (iI (bI ((o 5) = 0)))], S) _
    refine T_bif_eq xr_156_16 (t := 39) (pc' := 19) rfl rfl (fun c1577 => ?_) (fun c1577 => ?_)
    · skip
      have c1577 : ¬ ((o 5) = 0) := c1577
      exact (show False by first | contradiction | omega).elim
    · skip
      have c1577 : ((o 5) = 0) := c1577
      refine T_p xr_156_19 xn_156 (pc' := 20) (ls' := [(0, .ref 530)]) (st' := [.ref 530]) rfl ?_
      refine T_p xr_156_20 xn_156 (pc' := 21) (ls' := [(0, .ref 530)]) (st' := [.ref 530, .ref 530]) rfl ?_
      refine T_get xr_156_21 hM rfl (v := .long nm) rfl (pc' := 24) rfl ?_
      refine T_le (y := (ct c)) (hT.2.2.2.2.1 (Or.inl (by omega))) ?_
      refine T_cv (S := S) (q := 530) xr_156_24 xf_150.1 xf_150.2.1 xn_150 (as := [.long (ct c)]) (r := []) rfl hM (Nat.le_of_ble_eq_true rfl) (Nat.le_of_ble_eq_true rfl) (pc' := 27) rfl (ls' := [(0, .ref 530), (1, .long (ct c))]) rfl ?_
      refine T_mono (r_kindOf sc S o nm kN kn kc (ct c) hM hA534 (show (o 29) = kc from by omega) (by omega) (show 0 ≤ (o 4) ∧ (o 4) ≤ 1 from by omega) hN) (fun v1578 S1579 h1580 => ?_)
      rcases h1580 with ⟨hv1581, hf1582⟩
      rw [hv1581]
      rw [hf1582]
      have hx1583 := X_ix_r (g := kn) (n := kc) (x := (ct c)) (by omega)
      show X_T sc 156 (27, [(0, .ref 530)], [.int (iI (X_ix kn kc (ct c)))], S) _
      refine T_zif_lt xr_156_27 (t := 39) (pc' := 30) rfl rfl (fun c1584 => ?_) (fun c1584 => ?_)
      · skip
        have c1584 : (X_ix kn kc (ct c)) < 0 := c1584
        refine T_p xr_156_39 xn_156 (pc' := 40) (ls' := [(0, .ref 530)]) (st' := [.ref 530]) rfl ?_
        refine T_cv (S := S) (q := 530) xr_156_40 xf_140.1 xf_140.2.1 xn_140 (as := []) (r := []) rfl hM (Nat.le_of_ble_eq_true rfl) (Nat.le_of_ble_eq_true rfl) (pc' := 43) rfl (ls' := [(0, .ref 530)]) rfl ?_
        refine T_mono (r_isGood sc S o nm hM (show 0 ≤ (o 5) ∧ (o 5) ≤ 5 from by omega)) (fun v1585 S1586 h1587 => ?_)
        rcases h1587 with ⟨hv1588, hf1589⟩
        rw [hv1588]
        rw [hf1589]
        show X_T sc 156 (43, [(0, .ref 530)], [.int (iI (bI ((o 5) = 0)))], S) _
        refine T_bif_ne xr_156_43 (t := 47) (pc' := 46) rfl rfl (fun c1590 => ?_) (fun c1590 => ?_)
        · skip
          have c1590 : ((o 5) = 0) := c1590
          refine T_p xr_156_47 xn_156 (pc' := 48) (ls' := [(0, .ref 530)]) (st' := [.ref 530]) rfl ?_
          refine T_get xr_156_48 hM rfl (v := .long nm) rfl (pc' := 51) rfl ?_
          refine T_le (y := (ct c)) (hT.2.2.2.2.1 (Or.inl (by omega))) ?_
          refine T_p xr_156_51 xn_156 (pc' := 52) (ls' := [(1, .long (ct c)), (0, .ref 530)]) (st' := []) rfl ?_
          refine T_p xr_156_52 xn_156 (pc' := 53) (ls' := [(1, .long (ct c)), (0, .ref 530)]) (st' := [.int (iI 0)]) rfl ?_
          refine T_p xr_156_53 xn_156 (pc' := 54) (ls' := [(3, .int (iI 0)), (1, .long (ct c)), (0, .ref 530)]) (st' := []) rfl ?_
          refine T_p xr_156_54 xn_156 (pc' := 55) (ls' := [(3, .int (iI 0)), (1, .long (ct c)), (0, .ref 530)]) (st' := [.ref 530]) rfl ?_
          refine T_cv (S := S) (q := 530) xr_156_55 xf_141.1 xf_141.2.1 xn_141 (as := []) (r := []) rfl hM (Nat.le_of_ble_eq_true rfl) (Nat.le_of_ble_eq_true rfl) (pc' := 58) rfl (ls' := [(0, .ref 530)]) rfl ?_
          refine T_mono (r_nx sc S o nm tx tb len n so pl ct E c hM hA532 (show (o 3) = len from by first | assumption | omega) hl htx hX hT (by omega)) (fun v1591 S1592 h1593 => ?_)
          rcases h1593 with ⟨at1594, en1595, tk1596, nu1597, dg1598, nm1599, hv1600, hp1601, hM1602, hf1603⟩
          rw [hv1600]
          have h1604 : S1592.1 530 = .inr (11, [.ref 531, .int (iI (o 1)), .ref 532, .int (iI (o 3)), .int (iI (o 4)), .int (iI (o 5)), .int (iI (o 6)), .int (iI at1594), .int (iI en1595), .int (iI tk1596), .int (iI nu1597), .int (iI dg1598), .long nm1599, .ref 533, .ref 534, .ref 535, .ref 536, .ref 537, .ref 538, .ref 539, .ref 540, .ref 541, .ref 542, .ref 543, .ref 544, .ref 545, .ref 546, .ref 547, .int (iI (o 28)), .int (iI (o 29)), .int (iI (o 30)), .int (iI (o 31)), .int (iI (o 32)), .int (iI (o 33)), .ref 548, .ref 549, .ref 550, .ref 551, .int (iI (o 38)), .ref 552, .ref 553, .ref 554, .ref 555, .ref 556, .ref 557, .ref 558, .ref 559, .ref 560, .ref 561, .int (iI (o 49)), .ref 562, .ref 563, .ref 564, .ref 565, .ref 566, .ref 567, .ref 568, .ref 569, .int (iI (o 58)), .ref 570, .ref 571, .ref 572, .ref 573, .ref 574, .ref 575, .ref 576, .ref 577, .ref 578, .int (iI (o 68)), .int (iI (o 69)), .int (iI (o 70)), .ref 579]) := hM1602
          obtain ⟨⟨_, _⟩, ⟨_, _⟩, hk1605, ⟨_, _⟩, hk1605e, ⟨_, _⟩, ⟨_, _⟩⟩ := R_tk_f hX hp1601
          show X_T sc 156 (58, [(3, .int (iI 0)), (1, .long (ct c)), (0, .ref 530)], [], S1592) _
          refine T_p xr_156_58 xn_156 (pc' := 59) (ls' := [(3, .int (iI 0)), (1, .long (ct c)), (0, .ref 530)]) (st' := [.ref 530]) rfl ?_
          refine T_p xr_156_59 xn_156 (pc' := 62) (ls' := [(3, .int (iI 0)), (1, .long (ct c)), (0, .ref 530)]) (st' := [.long (Int64.ofNat 504363246962), .ref 530]) rfl ?_
          refine T_cv (S := S1592) (q := 530) xr_156_62 xf_146.1 xf_146.2.1 xn_146 (as := [.long (Int64.ofNat 504363246962)]) (r := []) rfl h1604 (Nat.le_of_ble_eq_true rfl) (Nat.le_of_ble_eq_true rfl) (pc' := 65) rfl (ls' := [(0, .ref 530), (1, .long (Int64.ofNat 504363246962))]) rfl ?_
          have h1606 := (hf1603.1 532 (by first | decide | omega)).trans (hA532)
          refine T_mono (r_isWord sc S1592 (X_ou (X_ou (X_ou (X_ou (X_ou o 7 at1594) 8 en1595) 9 tk1596) 10 nu1597) 11 dg1598) nm1599 tx tb len n so pl ct E (X_av n c) (Int64.ofNat 504363246962) h1604 h1606 (show (o 3) = len from by first | assumption | omega) hl htx hX hp1601) (fun v1607 S1608 h1609 => ?_)
          rcases h1609 with ⟨hv1610, hf1611⟩
          rw [hv1610]
          rw [hf1611]
          show X_T sc 156 (65, [(3, .int (iI 0)), (1, .long (ct c)), (0, .ref 530)], [.int (iI (bI (so (X_av n c) = 3 ∧ ct (X_av n c) = (Int64.ofNat 504363246962))))], S1592) _
          refine T_bif_eq xr_156_65 (t := 77) (pc' := 68) rfl rfl (fun c1612 => ?_) (fun c1612 => ?_)
          · skip
            have c1612 : ¬ (so (X_av n c) = 3 ∧ ct (X_av n c) = (Int64.ofNat 504363246962)) := c1612
            refine T_p xr_156_77 xn_156 (pc' := 78) (ls' := [(3, .int (iI 0)), (1, .long (ct c)), (0, .ref 530)]) (st' := [.ref 530]) rfl ?_
            refine T_cv (S := S1592) (q := 530) xr_156_78 xf_140.1 xf_140.2.1 xn_140 (as := []) (r := []) rfl h1604 (Nat.le_of_ble_eq_true rfl) (Nat.le_of_ble_eq_true rfl) (pc' := 81) rfl (ls' := [(0, .ref 530)]) rfl ?_
            refine T_mono (r_isGood sc S1592 (X_ou (X_ou (X_ou (X_ou (X_ou o 7 at1594) 8 en1595) 9 tk1596) 10 nu1597) 11 dg1598) nm1599 h1604 (show 0 ≤ (o 5) ∧ (o 5) ≤ 5 from by omega)) (fun v1613 S1614 h1615 => ?_)
            rcases h1615 with ⟨hv1616, hf1617⟩
            rw [hv1616]
            rw [hf1617]
            show X_T sc 156 (81, [(3, .int (iI 0)), (1, .long (ct c)), (0, .ref 530)], [.int (iI (bI ((o 5) = 0)))], S1592) _
            refine T_bif_ne xr_156_81 (t := 85) (pc' := 84) rfl rfl (fun c1618 => ?_) (fun c1618 => ?_)
            · skip
              have c1618 : ((o 5) = 0) := c1618
              refine T_p xr_156_85 xn_156 (pc' := 86) (ls' := [(3, .int (iI 0)), (1, .long (ct c)), (0, .ref 530)]) (st' := [.ref 530]) rfl ?_
              refine T_get xr_156_86 h1604 rfl (v := .ref 534) rfl (pc' := 89) rfl ?_
              refine T_p xr_156_89 xn_156 (pc' := 91) (ls' := [(3, .int (iI 0)), (1, .long (ct c)), (0, .ref 530)]) (st' := [.int (iI 11), .ref 534]) rfl ?_
              refine T_p xr_156_91 xn_156 (pc' := 92) (ls' := [(3, .int (iI 0)), (1, .long (ct c)), (0, .ref 530)]) (st' := [.ref 530, .int (iI 11), .ref 534]) rfl ?_
              refine T_get xr_156_92 h1604 rfl (v := .int (iI (o 4))) rfl (pc' := 95) rfl ?_
              refine T_zimul xr_156_95 (z := 11 * (o 4)) rfl (pc' := 96) rfl ?_
              refine T_p xr_156_96 xn_156 (pc' := 97) (ls' := [(3, .int (iI 0)), (1, .long (ct c)), (0, .ref 530)]) (st' := [.ref 530, .int (iI (11 * (o 4))), .ref 534]) rfl ?_
              refine T_get xr_156_97 h1604 rfl (v := .int (iI (o 29))) rfl (pc' := 100) rfl ?_
              refine T_ziadd xr_156_100 (z := (11 * (o 4)) + (o 29)) rfl (pc' := 101) rfl ?_
              refine T_p xr_156_101 xn_156 (pc' := 102) (ls' := [(3, .int (iI 0)), (1, .long (ct c)), (0, .ref 530)]) (st' := [.long (ct c), .int (iI ((11 * (o 4)) + (o 29))), .ref 534]) rfl ?_
              have h1619 := (hf1603.1 534 (by first | decide | omega)).trans (hA534)
              refine T_zlast xr_156_102 h1619 (pc' := 103) rfl (fun S1620 h1621 n1622 e1623 => ?_)
              refine T_p xr_156_103 xn_156 (pc' := 104) (ls' := [(3, .int (iI 0)), (1, .long (ct c)), (0, .ref 530)]) (st' := [.ref 530]) rfl ?_
              have h1624 := (n1622 530 (by decide)).trans (h1604)
              refine T_get xr_156_104 h1624 rfl (v := .ref 536) rfl (pc' := 107) rfl ?_
              refine T_p xr_156_107 xn_156 (pc' := 109) (ls' := [(3, .int (iI 0)), (1, .long (ct c)), (0, .ref 530)]) (st' := [.int (iI 11), .ref 536]) rfl ?_
              refine T_p xr_156_109 xn_156 (pc' := 110) (ls' := [(3, .int (iI 0)), (1, .long (ct c)), (0, .ref 530)]) (st' := [.ref 530, .int (iI 11), .ref 536]) rfl ?_
              refine T_get xr_156_110 h1624 rfl (v := .int (iI (o 4))) rfl (pc' := 113) rfl ?_
              refine T_zimul xr_156_113 (z := 11 * (o 4)) rfl (pc' := 114) rfl ?_
              refine T_p xr_156_114 xn_156 (pc' := 115) (ls' := [(3, .int (iI 0)), (1, .long (ct c)), (0, .ref 530)]) (st' := [.ref 530, .int (iI (11 * (o 4))), .ref 536]) rfl ?_
              refine T_get xr_156_115 h1624 rfl (v := .int (iI (o 29))) rfl (pc' := 118) rfl ?_
              refine T_ziadd xr_156_118 (z := (11 * (o 4)) + (o 29)) rfl (pc' := 119) rfl ?_
              refine T_p xr_156_119 xn_156 (pc' := 120) (ls' := [(3, .int (iI 0)), (1, .long (ct c)), (0, .ref 530)]) (st' := [.int (iI 0), .int (iI ((11 * (o 4)) + (o 29))), .ref 536]) rfl ?_
              have h1625 := (n1622 536 (by decide)).trans ((hf1603.1 536 (by first | decide | omega)).trans (hA536))
              refine T_ziast xr_156_120 h1625 (pc' := 121) rfl (fun S1626 h1627 n1628 e1629 => ?_)
              refine T_p xr_156_121 xn_156 (pc' := 122) (ls' := [(3, .int (iI 0)), (1, .long (ct c)), (0, .ref 530)]) (st' := [.ref 530]) rfl ?_
              refine T_p xr_156_122 xn_156 (pc' := 123) (ls' := [(3, .int (iI 0)), (1, .long (ct c)), (0, .ref 530)]) (st' := [.ref 530, .ref 530]) rfl ?_
              have h1630 := (n1628 530 (by decide)).trans (h1624)
              refine T_get xr_156_123 h1630 rfl (v := .int (iI (o 29))) rfl (pc' := 126) rfl ?_
              refine T_p xr_156_126 xn_156 (pc' := 127) (ls' := [(3, .int (iI 0)), (1, .long (ct c)), (0, .ref 530)]) (st' := [.int (iI 1), .int (iI (o 29)), .ref 530]) rfl ?_
              refine T_ziadd xr_156_127 (z := (o 29) + 1) rfl (pc' := 128) rfl ?_
              refine T_ie (y := iI (kc + 1)) (by rw [hkc]) ?_
              refine T_put xr_156_128 h1630 rfl (Nat.le_of_ble_eq_true rfl) rfl (fs' := [.ref 531, .int (iI (o 1)), .ref 532, .int (iI (o 3)), .int (iI (o 4)), .int (iI (o 5)), .int (iI (o 6)), .int (iI at1594), .int (iI en1595), .int (iI tk1596), .int (iI nu1597), .int (iI dg1598), .long nm1599, .ref 533, .ref 534, .ref 535, .ref 536, .ref 537, .ref 538, .ref 539, .ref 540, .ref 541, .ref 542, .ref 543, .ref 544, .ref 545, .ref 546, .ref 547, .int (iI (o 28)), .int (iI (kc + 1)), .int (iI (o 30)), .int (iI (o 31)), .int (iI (o 32)), .int (iI (o 33)), .ref 548, .ref 549, .ref 550, .ref 551, .int (iI (o 38)), .ref 552, .ref 553, .ref 554, .ref 555, .ref 556, .ref 557, .ref 558, .ref 559, .ref 560, .ref 561, .int (iI (o 49)), .ref 562, .ref 563, .ref 564, .ref 565, .ref 566, .ref 567, .ref 568, .ref 569, .int (iI (o 58)), .ref 570, .ref 571, .ref 572, .ref 573, .ref 574, .ref 575, .ref 576, .ref 577, .ref 578, .int (iI (o 68)), .int (iI (o 69)), .int (iI (o 70)), .ref 579]) rfl (pc' := 131) rfl (fun S1631 h1632 n1633 e1634 => ?_)
              refine T_p xr_156_131 xn_156 (pc' := 132) (ls' := [(3, .int (iI 0)), (1, .long (ct c)), (0, .ref 530)]) (st' := [.ref 530]) rfl ?_
              refine T_p xr_156_132 xn_156 (pc' := 134) (ls' := [(3, .int (iI 0)), (1, .long (ct c)), (0, .ref 530)]) (st' := [.int (iI 59), .ref 530]) rfl ?_
              refine T_cv (S := S1631) (q := 530) xr_156_134 xf_148.1 xf_148.2.1 xn_148 (as := [.int (iI 59)]) (r := []) rfl h1632 (Nat.le_of_ble_eq_true rfl) (Nat.le_of_ble_eq_true rfl) (pc' := 137) rfl (ls' := [(0, .ref 530), (1, .int (iI 59))]) rfl ?_
              have h1635 := (n1633 532 (by decide)).trans ((n1628 532 (by decide)).trans ((n1622 532 (by decide)).trans (h1606)))
              refine T_mono (r_must sc S1631 (X_ou (X_ou (X_ou (X_ou (X_ou (X_ou o 7 at1594) 8 en1595) 9 tk1596) 10 nu1597) 11 dg1598) 29 (kc + 1)) nm1599 tx tb len n so pl ct E (X_av n c) 59 h1632 h1635 (show (o 3) = len from by first | assumption | omega) hl htx hX hp1601 (show (o 5) = 0 from by omega) (by omega)) (fun v1636 S1637 h1638 => ?_)
              rcases h1638 with ⟨at1639, en1640, tk1641, nu1642, dg1643, nm1644, hv1645, hp1646, hp1647, hM1648, hf1649⟩ | ⟨f1650, g1651, hv1652, hp1653, hp1654, hM1655, hf1656⟩
              · skip
                rw [hv1645]
                have h1657 : S1637.1 530 = .inr (11, [.ref 531, .int (iI (o 1)), .ref 532, .int (iI (o 3)), .int (iI (o 4)), .int (iI (o 5)), .int (iI (o 6)), .int (iI at1639), .int (iI en1640), .int (iI tk1641), .int (iI nu1642), .int (iI dg1643), .long nm1644, .ref 533, .ref 534, .ref 535, .ref 536, .ref 537, .ref 538, .ref 539, .ref 540, .ref 541, .ref 542, .ref 543, .ref 544, .ref 545, .ref 546, .ref 547, .int (iI (o 28)), .int (iI (kc + 1)), .int (iI (o 30)), .int (iI (o 31)), .int (iI (o 32)), .int (iI (o 33)), .ref 548, .ref 549, .ref 550, .ref 551, .int (iI (o 38)), .ref 552, .ref 553, .ref 554, .ref 555, .ref 556, .ref 557, .ref 558, .ref 559, .ref 560, .ref 561, .int (iI (o 49)), .ref 562, .ref 563, .ref 564, .ref 565, .ref 566, .ref 567, .ref 568, .ref 569, .int (iI (o 58)), .ref 570, .ref 571, .ref 572, .ref 573, .ref 574, .ref 575, .ref 576, .ref 577, .ref 578, .int (iI (o 68)), .int (iI (o 69)), .int (iI (o 70)), .ref 579]) := hM1648
                obtain ⟨⟨_, _⟩, ⟨_, _⟩, hk1658, ⟨_, _⟩, hk1658e, ⟨_, _⟩, ⟨_, _⟩⟩ := R_tk_f hX hp1646
                show X_T sc 156 (137, [(3, .int (iI 0)), (1, .long (ct c)), (0, .ref 530)], [], S1637) _
                refine T_vret xr_156_137 xf_156.2.2 ?_
                refine hQ _ _ ?_
                have h1660 := (hf1649.1 534 (by first | decide | omega)).trans ((n1633 534 (by decide)).trans ((n1628 534 (by decide)).trans (h1621)))
                have h1661 := (hf1649.1 536 (by first | decide | omega)).trans ((n1633 536 (by decide)).trans (h1627))
                refine Or.inl ⟨at1639, en1640, tk1641, nu1642, dg1643, nm1644, X_av n (X_av n c), X_ug ab kc (X_bO (ab 0) (X_bS kc)), (X_ug kN ((11 * (o 4)) + (o 29)) (ct c)), (X_ug kU ((11 * (o 4)) + (o 29)) 0), rfl, hp1646, ?_, R_kd_add (by omega) (by omega) hR (by rw [hkc]), R_ob.rf.up (by omega), R_ob.rf.up (by omega), h1657, h1660, h1661, (((((X_Fr.rf).tr (X_Fr.mono ⟨hf1603.1, hf1603.2⟩ (fun q hq => by first | exact hq | (rcases hq with rfl <;> decide) | (rcases hq with rfl | rfl <;> decide) | (rcases hq with rfl | rfl | rfl <;> decide) | (rcases hq with rfl | rfl | rfl | rfl <;> decide) | (rcases hq with rfl | rfl | rfl | rfl | rfl <;> decide) | (rcases hq with rfl | rfl | rfl | rfl | rfl | rfl <;> decide) | (rcases hq with rfl | rfl | rfl | rfl | rfl | rfl | rfl <;> decide) | omega))).tr (X_Fr.of n1622 e1623 (by first | decide | exact ⟨Nat.le_add_right _ _, Nat.add_le_add_left (by decide) _⟩ | omega))).tr (X_Fr.of n1628 e1629 (by first | decide | exact ⟨Nat.le_add_right _ _, Nat.add_le_add_left (by decide) _⟩ | omega))).tr (X_Fr.of n1633 e1634 (by first | decide | exact ⟨Nat.le_add_right _ _, Nat.add_le_add_left (by decide) _⟩ | omega))).tr (X_Fr.mono ⟨hf1649.1, hf1649.2⟩ (fun q hq => by first | exact hq | (rcases hq with rfl <;> decide) | (rcases hq with rfl | rfl <;> decide) | (rcases hq with rfl | rfl | rfl <;> decide) | (rcases hq with rfl | rfl | rfl | rfl <;> decide) | (rcases hq with rfl | rfl | rfl | rfl | rfl <;> decide) | (rcases hq with rfl | rfl | rfl | rfl | rfl | rfl <;> decide) | (rcases hq with rfl | rfl | rfl | rfl | rfl | rfl | rfl <;> decide) | omega))⟩
                · simp only [sp_kind]
                  rw [← hc]
                  (repeat (first | rw [if_pos (by assumption)] | rw [if_neg (by assumption)] | rw [if_neg (by omega)] | rw [if_pos (by omega)]))
                  all_goals first | rfl | ((repeat' split) <;> first | rfl | (exfalso; omega) | contradiction)
              · skip
                rw [hv1652]
                have h1659 : S1637.1 530 = .inr (11, [.ref 531, .int (iI (o 1)), .ref 532, .int (iI (o 3)), .int (iI (o 4)), .int (iI f1650), .int (iI g1651), .int (iI at1594), .int (iI en1595), .int (iI tk1596), .int (iI nu1597), .int (iI dg1598), .long nm1599, .ref 533, .ref 534, .ref 535, .ref 536, .ref 537, .ref 538, .ref 539, .ref 540, .ref 541, .ref 542, .ref 543, .ref 544, .ref 545, .ref 546, .ref 547, .int (iI (o 28)), .int (iI (kc + 1)), .int (iI (o 30)), .int (iI (o 31)), .int (iI (o 32)), .int (iI (o 33)), .ref 548, .ref 549, .ref 550, .ref 551, .int (iI (o 38)), .ref 552, .ref 553, .ref 554, .ref 555, .ref 556, .ref 557, .ref 558, .ref 559, .ref 560, .ref 561, .int (iI (o 49)), .ref 562, .ref 563, .ref 564, .ref 565, .ref 566, .ref 567, .ref 568, .ref 569, .int (iI (o 58)), .ref 570, .ref 571, .ref 572, .ref 573, .ref 574, .ref 575, .ref 576, .ref 577, .ref 578, .int (iI (o 68)), .int (iI (o 69)), .int (iI (o 70)), .ref 579]) := hM1655
                show X_T sc 156 (137, [(3, .int (iI 0)), (1, .long (ct c)), (0, .ref 530)], [], S1637) _
                refine T_vret xr_156_137 xf_156.2.2 ?_
                refine hQ _ _ ?_
                have h1662 := (hf1656.1 534 (by first | decide | omega)).trans ((n1633 534 (by decide)).trans ((n1628 534 (by decide)).trans (h1621)))
                have h1663 := (hf1656.1 536 (by first | decide | omega)).trans ((n1633 536 (by decide)).trans (h1627))
                refine Or.inr ⟨at1594, en1595, tk1596, nu1597, dg1598, nm1599, kc + 1, f1650, g1651, (X_ug kN ((11 * (o 4)) + (o 29)) (ct c)), (X_ug kU ((11 * (o 4)) + (o 29)) 0), rfl, by omega, ?_, ?_, ?_, h1659, h1662, h1663, (((((X_Fr.rf).tr (X_Fr.mono ⟨hf1603.1, hf1603.2⟩ (fun q hq => by first | exact hq | (rcases hq with rfl <;> decide) | (rcases hq with rfl | rfl <;> decide) | (rcases hq with rfl | rfl | rfl <;> decide) | (rcases hq with rfl | rfl | rfl | rfl <;> decide) | (rcases hq with rfl | rfl | rfl | rfl | rfl <;> decide) | (rcases hq with rfl | rfl | rfl | rfl | rfl | rfl <;> decide) | (rcases hq with rfl | rfl | rfl | rfl | rfl | rfl | rfl <;> decide) | omega))).tr (X_Fr.of n1622 e1623 (by first | decide | exact ⟨Nat.le_add_right _ _, Nat.add_le_add_left (by decide) _⟩ | omega))).tr (X_Fr.of n1628 e1629 (by first | decide | exact ⟨Nat.le_add_right _ _, Nat.add_le_add_left (by decide) _⟩ | omega))).tr (X_Fr.of n1633 e1634 (by first | decide | exact ⟨Nat.le_add_right _ _, Nat.add_le_add_left (by decide) _⟩ | omega))).tr (X_Fr.mono ⟨hf1656.1, hf1656.2⟩ (fun q hq => by first | exact hq | (rcases hq with rfl <;> decide) | (rcases hq with rfl | rfl <;> decide) | (rcases hq with rfl | rfl | rfl <;> decide) | (rcases hq with rfl | rfl | rfl | rfl <;> decide) | (rcases hq with rfl | rfl | rfl | rfl | rfl <;> decide) | (rcases hq with rfl | rfl | rfl | rfl | rfl | rfl <;> decide) | (rcases hq with rfl | rfl | rfl | rfl | rfl | rfl | rfl <;> decide) | omega))⟩
                · simp only [sp_kind]
                  rw [← hc]
                  (repeat (first | rw [if_pos (by assumption)] | rw [if_neg (by assumption)] | rw [if_neg (by omega)] | rw [if_pos (by omega)]))
                  all_goals first | rfl | ((repeat' split) <;> first | rfl | (exfalso; omega) | contradiction)
                · first | exact R_ob.rf | exact R_ob.rf.up (by omega)
                · first | exact R_ob.rf | exact R_ob.rf.up (by omega)
            · skip
              have c1618 : ¬ ((o 5) = 0) := c1618
              exact (show False by first | contradiction | omega).elim
          · skip
            have c1612 : (so (X_av n c) = 3 ∧ ct (X_av n c) = (Int64.ofNat 504363246962)) := c1612
            refine T_p xr_156_68 xn_156 (pc' := 69) (ls' := [(3, .int (iI 0)), (1, .long (ct c)), (0, .ref 530)]) (st' := [.ref 530]) rfl ?_
            refine T_cv (S := S1592) (q := 530) xr_156_69 xf_141.1 xf_141.2.1 xn_141 (as := []) (r := []) rfl h1604 (Nat.le_of_ble_eq_true rfl) (Nat.le_of_ble_eq_true rfl) (pc' := 72) rfl (ls' := [(0, .ref 530)]) rfl ?_
            refine T_mono (r_nx sc S1592 (X_ou (X_ou (X_ou (X_ou (X_ou o 7 at1594) 8 en1595) 9 tk1596) 10 nu1597) 11 dg1598) nm1599 tx tb len n so pl ct E (X_av n c) h1604 h1606 (show (o 3) = len from by first | assumption | omega) hl htx hX hp1601 (by omega)) (fun v1664 S1665 h1666 => ?_)
            rcases h1666 with ⟨at1667, en1668, tk1669, nu1670, dg1671, nm1672, hv1673, hp1674, hM1675, hf1676⟩
            rw [hv1673]
            have h1677 : S1665.1 530 = .inr (11, [.ref 531, .int (iI (o 1)), .ref 532, .int (iI (o 3)), .int (iI (o 4)), .int (iI (o 5)), .int (iI (o 6)), .int (iI at1667), .int (iI en1668), .int (iI tk1669), .int (iI nu1670), .int (iI dg1671), .long nm1672, .ref 533, .ref 534, .ref 535, .ref 536, .ref 537, .ref 538, .ref 539, .ref 540, .ref 541, .ref 542, .ref 543, .ref 544, .ref 545, .ref 546, .ref 547, .int (iI (o 28)), .int (iI (o 29)), .int (iI (o 30)), .int (iI (o 31)), .int (iI (o 32)), .int (iI (o 33)), .ref 548, .ref 549, .ref 550, .ref 551, .int (iI (o 38)), .ref 552, .ref 553, .ref 554, .ref 555, .ref 556, .ref 557, .ref 558, .ref 559, .ref 560, .ref 561, .int (iI (o 49)), .ref 562, .ref 563, .ref 564, .ref 565, .ref 566, .ref 567, .ref 568, .ref 569, .int (iI (o 58)), .ref 570, .ref 571, .ref 572, .ref 573, .ref 574, .ref 575, .ref 576, .ref 577, .ref 578, .int (iI (o 68)), .int (iI (o 69)), .int (iI (o 70)), .ref 579]) := hM1675
            obtain ⟨⟨_, _⟩, ⟨_, _⟩, hk1678, ⟨_, _⟩, hk1678e, ⟨_, _⟩, ⟨_, _⟩⟩ := R_tk_f hX hp1674
            show X_T sc 156 (72, [(3, .int (iI 0)), (1, .long (ct c)), (0, .ref 530)], [], S1665) _
            refine T_p xr_156_72 xn_156 (pc' := 73) (ls' := [(3, .int (iI 0)), (1, .long (ct c)), (0, .ref 530)]) (st' := [.ref 530]) rfl ?_
            refine T_cv (S := S1665) (q := 530) xr_156_73 xf_152.1 xf_152.2.1 xn_152 (as := []) (r := []) rfl h1677 (Nat.le_of_ble_eq_true rfl) (Nat.le_of_ble_eq_true rfl) (pc' := 76) rfl (ls' := [(0, .ref 530)]) rfl ?_
            have h1679 := (hf1676.1 532 (by first | decide | omega)).trans (h1606)
            have h1680 := (hf1676.1 534 (by first | decide | omega)).trans ((hf1603.1 534 (by first | decide | omega)).trans (hA534))
            refine T_mono (r_aKind sc S1665 (X_ou (X_ou (X_ou (X_ou (X_ou o 7 at1667) 8 en1668) 9 tk1669) 10 nu1670) 11 dg1671) nm1672 tx kN tb len n so pl ct E (X_av n (X_av n c)) kn kc h1677 h1679 h1680 (show (o 3) = len from by first | assumption | omega) hl htx hX hp1674 (show (o 5) = 0 from by omega) (show (o 29) = kc from by omega) (by omega) (show 0 ≤ (o 4) ∧ (o 4) ≤ 1 from by omega) hN) (fun v1681 S1682 h1683 => ?_)
            rcases h1683 with ⟨at1684, en1685, tk1686, nu1687, dg1688, nm1689, hv1690, hp1691, hp1692, hp1693, hM1694, hf1695⟩ | ⟨r1696, f1697, g1698, hv1699, hp1700, hp1701, hp1702, hM1703, hf1704⟩
            · skip
              rw [hv1690]
              have h1705 : S1682.1 530 = .inr (11, [.ref 531, .int (iI (o 1)), .ref 532, .int (iI (o 3)), .int (iI (o 4)), .int (iI (o 5)), .int (iI (o 6)), .int (iI at1684), .int (iI en1685), .int (iI tk1686), .int (iI nu1687), .int (iI dg1688), .long nm1689, .ref 533, .ref 534, .ref 535, .ref 536, .ref 537, .ref 538, .ref 539, .ref 540, .ref 541, .ref 542, .ref 543, .ref 544, .ref 545, .ref 546, .ref 547, .int (iI (o 28)), .int (iI (o 29)), .int (iI (o 30)), .int (iI (o 31)), .int (iI (o 32)), .int (iI (o 33)), .ref 548, .ref 549, .ref 550, .ref 551, .int (iI (o 38)), .ref 552, .ref 553, .ref 554, .ref 555, .ref 556, .ref 557, .ref 558, .ref 559, .ref 560, .ref 561, .int (iI (o 49)), .ref 562, .ref 563, .ref 564, .ref 565, .ref 566, .ref 567, .ref 568, .ref 569, .int (iI (o 58)), .ref 570, .ref 571, .ref 572, .ref 573, .ref 574, .ref 575, .ref 576, .ref 577, .ref 578, .int (iI (o 68)), .int (iI (o 69)), .int (iI (o 70)), .ref 579]) := hM1694
              obtain ⟨⟨_, _⟩, ⟨_, _⟩, hk1706, ⟨_, _⟩, hk1706e, ⟨_, _⟩, ⟨_, _⟩⟩ := R_tk_f hX hp1691
              show X_T sc 156 (76, [(3, .int (iI 0)), (1, .long (ct c)), (0, .ref 530)], [.int (iI (X_ix kn kc (ct (X_av n (X_av n c)))))], S1682) _
              refine T_p xr_156_76 xn_156 (pc' := 77) (ls' := [(3, .int (iI (X_ix kn kc (ct (X_av n (X_av n c)))))), (1, .long (ct c)), (0, .ref 530)]) (st' := []) rfl ?_
              refine T_p xr_156_77 xn_156 (pc' := 78) (ls' := [(3, .int (iI (X_ix kn kc (ct (X_av n (X_av n c)))))), (1, .long (ct c)), (0, .ref 530)]) (st' := [.ref 530]) rfl ?_
              refine T_cv (S := S1682) (q := 530) xr_156_78 xf_140.1 xf_140.2.1 xn_140 (as := []) (r := []) rfl h1705 (Nat.le_of_ble_eq_true rfl) (Nat.le_of_ble_eq_true rfl) (pc' := 81) rfl (ls' := [(0, .ref 530)]) rfl ?_
              refine T_mono (r_isGood sc S1682 (X_ou (X_ou (X_ou (X_ou (X_ou o 7 at1684) 8 en1685) 9 tk1686) 10 nu1687) 11 dg1688) nm1689 h1705 (show 0 ≤ (o 5) ∧ (o 5) ≤ 5 from by omega)) (fun v1708 S1709 h1710 => ?_)
              rcases h1710 with ⟨hv1711, hf1712⟩
              rw [hv1711]
              rw [hf1712]
              show X_T sc 156 (81, [(3, .int (iI (X_ix kn kc (ct (X_av n (X_av n c)))))), (1, .long (ct c)), (0, .ref 530)], [.int (iI (bI ((o 5) = 0)))], S1682) _
              refine T_bif_ne xr_156_81 (t := 85) (pc' := 84) rfl rfl (fun c1713 => ?_) (fun c1713 => ?_)
              · skip
                have c1713 : ((o 5) = 0) := c1713
                refine T_p xr_156_85 xn_156 (pc' := 86) (ls' := [(3, .int (iI (X_ix kn kc (ct (X_av n (X_av n c)))))), (1, .long (ct c)), (0, .ref 530)]) (st' := [.ref 530]) rfl ?_
                refine T_get xr_156_86 h1705 rfl (v := .ref 534) rfl (pc' := 89) rfl ?_
                refine T_p xr_156_89 xn_156 (pc' := 91) (ls' := [(3, .int (iI (X_ix kn kc (ct (X_av n (X_av n c)))))), (1, .long (ct c)), (0, .ref 530)]) (st' := [.int (iI 11), .ref 534]) rfl ?_
                refine T_p xr_156_91 xn_156 (pc' := 92) (ls' := [(3, .int (iI (X_ix kn kc (ct (X_av n (X_av n c)))))), (1, .long (ct c)), (0, .ref 530)]) (st' := [.ref 530, .int (iI 11), .ref 534]) rfl ?_
                refine T_get xr_156_92 h1705 rfl (v := .int (iI (o 4))) rfl (pc' := 95) rfl ?_
                refine T_zimul xr_156_95 (z := 11 * (o 4)) rfl (pc' := 96) rfl ?_
                refine T_p xr_156_96 xn_156 (pc' := 97) (ls' := [(3, .int (iI (X_ix kn kc (ct (X_av n (X_av n c)))))), (1, .long (ct c)), (0, .ref 530)]) (st' := [.ref 530, .int (iI (11 * (o 4))), .ref 534]) rfl ?_
                refine T_get xr_156_97 h1705 rfl (v := .int (iI (o 29))) rfl (pc' := 100) rfl ?_
                refine T_ziadd xr_156_100 (z := (11 * (o 4)) + (o 29)) rfl (pc' := 101) rfl ?_
                refine T_p xr_156_101 xn_156 (pc' := 102) (ls' := [(3, .int (iI (X_ix kn kc (ct (X_av n (X_av n c)))))), (1, .long (ct c)), (0, .ref 530)]) (st' := [.long (ct c), .int (iI ((11 * (o 4)) + (o 29))), .ref 534]) rfl ?_
                have h1714 := (hf1695.1 534 (by first | decide | omega)).trans (h1680)
                refine T_zlast xr_156_102 h1714 (pc' := 103) rfl (fun S1715 h1716 n1717 e1718 => ?_)
                refine T_p xr_156_103 xn_156 (pc' := 104) (ls' := [(3, .int (iI (X_ix kn kc (ct (X_av n (X_av n c)))))), (1, .long (ct c)), (0, .ref 530)]) (st' := [.ref 530]) rfl ?_
                have h1719 := (n1717 530 (by decide)).trans (h1705)
                refine T_get xr_156_104 h1719 rfl (v := .ref 536) rfl (pc' := 107) rfl ?_
                refine T_p xr_156_107 xn_156 (pc' := 109) (ls' := [(3, .int (iI (X_ix kn kc (ct (X_av n (X_av n c)))))), (1, .long (ct c)), (0, .ref 530)]) (st' := [.int (iI 11), .ref 536]) rfl ?_
                refine T_p xr_156_109 xn_156 (pc' := 110) (ls' := [(3, .int (iI (X_ix kn kc (ct (X_av n (X_av n c)))))), (1, .long (ct c)), (0, .ref 530)]) (st' := [.ref 530, .int (iI 11), .ref 536]) rfl ?_
                refine T_get xr_156_110 h1719 rfl (v := .int (iI (o 4))) rfl (pc' := 113) rfl ?_
                refine T_zimul xr_156_113 (z := 11 * (o 4)) rfl (pc' := 114) rfl ?_
                refine T_p xr_156_114 xn_156 (pc' := 115) (ls' := [(3, .int (iI (X_ix kn kc (ct (X_av n (X_av n c)))))), (1, .long (ct c)), (0, .ref 530)]) (st' := [.ref 530, .int (iI (11 * (o 4))), .ref 536]) rfl ?_
                refine T_get xr_156_115 h1719 rfl (v := .int (iI (o 29))) rfl (pc' := 118) rfl ?_
                refine T_ziadd xr_156_118 (z := (11 * (o 4)) + (o 29)) rfl (pc' := 119) rfl ?_
                refine T_p xr_156_119 xn_156 (pc' := 120) (ls' := [(3, .int (iI (X_ix kn kc (ct (X_av n (X_av n c)))))), (1, .long (ct c)), (0, .ref 530)]) (st' := [.int (iI (X_ix kn kc (ct (X_av n (X_av n c))))), .int (iI ((11 * (o 4)) + (o 29))), .ref 536]) rfl ?_
                have h1720 := (n1717 536 (by decide)).trans ((hf1695.1 536 (by first | decide | omega)).trans ((hf1676.1 536 (by first | decide | omega)).trans ((hf1603.1 536 (by first | decide | omega)).trans (hA536))))
                refine T_ziast xr_156_120 h1720 (pc' := 121) rfl (fun S1721 h1722 n1723 e1724 => ?_)
                refine T_p xr_156_121 xn_156 (pc' := 122) (ls' := [(3, .int (iI (X_ix kn kc (ct (X_av n (X_av n c)))))), (1, .long (ct c)), (0, .ref 530)]) (st' := [.ref 530]) rfl ?_
                refine T_p xr_156_122 xn_156 (pc' := 123) (ls' := [(3, .int (iI (X_ix kn kc (ct (X_av n (X_av n c)))))), (1, .long (ct c)), (0, .ref 530)]) (st' := [.ref 530, .ref 530]) rfl ?_
                have h1725 := (n1723 530 (by decide)).trans (h1719)
                refine T_get xr_156_123 h1725 rfl (v := .int (iI (o 29))) rfl (pc' := 126) rfl ?_
                refine T_p xr_156_126 xn_156 (pc' := 127) (ls' := [(3, .int (iI (X_ix kn kc (ct (X_av n (X_av n c)))))), (1, .long (ct c)), (0, .ref 530)]) (st' := [.int (iI 1), .int (iI (o 29)), .ref 530]) rfl ?_
                refine T_ziadd xr_156_127 (z := (o 29) + 1) rfl (pc' := 128) rfl ?_
                refine T_ie (y := iI (kc + 1)) (by rw [hkc]) ?_
                refine T_put xr_156_128 h1725 rfl (Nat.le_of_ble_eq_true rfl) rfl (fs' := [.ref 531, .int (iI (o 1)), .ref 532, .int (iI (o 3)), .int (iI (o 4)), .int (iI (o 5)), .int (iI (o 6)), .int (iI at1684), .int (iI en1685), .int (iI tk1686), .int (iI nu1687), .int (iI dg1688), .long nm1689, .ref 533, .ref 534, .ref 535, .ref 536, .ref 537, .ref 538, .ref 539, .ref 540, .ref 541, .ref 542, .ref 543, .ref 544, .ref 545, .ref 546, .ref 547, .int (iI (o 28)), .int (iI (kc + 1)), .int (iI (o 30)), .int (iI (o 31)), .int (iI (o 32)), .int (iI (o 33)), .ref 548, .ref 549, .ref 550, .ref 551, .int (iI (o 38)), .ref 552, .ref 553, .ref 554, .ref 555, .ref 556, .ref 557, .ref 558, .ref 559, .ref 560, .ref 561, .int (iI (o 49)), .ref 562, .ref 563, .ref 564, .ref 565, .ref 566, .ref 567, .ref 568, .ref 569, .int (iI (o 58)), .ref 570, .ref 571, .ref 572, .ref 573, .ref 574, .ref 575, .ref 576, .ref 577, .ref 578, .int (iI (o 68)), .int (iI (o 69)), .int (iI (o 70)), .ref 579]) rfl (pc' := 131) rfl (fun S1726 h1727 n1728 e1729 => ?_)
                refine T_p xr_156_131 xn_156 (pc' := 132) (ls' := [(3, .int (iI (X_ix kn kc (ct (X_av n (X_av n c)))))), (1, .long (ct c)), (0, .ref 530)]) (st' := [.ref 530]) rfl ?_
                refine T_p xr_156_132 xn_156 (pc' := 134) (ls' := [(3, .int (iI (X_ix kn kc (ct (X_av n (X_av n c)))))), (1, .long (ct c)), (0, .ref 530)]) (st' := [.int (iI 59), .ref 530]) rfl ?_
                refine T_cv (S := S1726) (q := 530) xr_156_134 xf_148.1 xf_148.2.1 xn_148 (as := [.int (iI 59)]) (r := []) rfl h1727 (Nat.le_of_ble_eq_true rfl) (Nat.le_of_ble_eq_true rfl) (pc' := 137) rfl (ls' := [(0, .ref 530), (1, .int (iI 59))]) rfl ?_
                have h1730 := (n1728 532 (by decide)).trans ((n1723 532 (by decide)).trans ((n1717 532 (by decide)).trans ((hf1695.1 532 (by first | decide | omega)).trans (h1679))))
                refine T_mono (r_must sc S1726 (X_ou (X_ou (X_ou (X_ou (X_ou (X_ou o 7 at1684) 8 en1685) 9 tk1686) 10 nu1687) 11 dg1688) 29 (kc + 1)) nm1689 tx tb len n so pl ct E (X_av n (X_av n (X_av n c))) 59 h1727 h1730 (show (o 3) = len from by first | assumption | omega) hl htx hX hp1691 (show (o 5) = 0 from by omega) (by omega)) (fun v1731 S1732 h1733 => ?_)
                rcases h1733 with ⟨at1734, en1735, tk1736, nu1737, dg1738, nm1739, hv1740, hp1741, hp1742, hM1743, hf1744⟩ | ⟨f1745, g1746, hv1747, hp1748, hp1749, hM1750, hf1751⟩
                · skip
                  rw [hv1740]
                  have h1752 : S1732.1 530 = .inr (11, [.ref 531, .int (iI (o 1)), .ref 532, .int (iI (o 3)), .int (iI (o 4)), .int (iI (o 5)), .int (iI (o 6)), .int (iI at1734), .int (iI en1735), .int (iI tk1736), .int (iI nu1737), .int (iI dg1738), .long nm1739, .ref 533, .ref 534, .ref 535, .ref 536, .ref 537, .ref 538, .ref 539, .ref 540, .ref 541, .ref 542, .ref 543, .ref 544, .ref 545, .ref 546, .ref 547, .int (iI (o 28)), .int (iI (kc + 1)), .int (iI (o 30)), .int (iI (o 31)), .int (iI (o 32)), .int (iI (o 33)), .ref 548, .ref 549, .ref 550, .ref 551, .int (iI (o 38)), .ref 552, .ref 553, .ref 554, .ref 555, .ref 556, .ref 557, .ref 558, .ref 559, .ref 560, .ref 561, .int (iI (o 49)), .ref 562, .ref 563, .ref 564, .ref 565, .ref 566, .ref 567, .ref 568, .ref 569, .int (iI (o 58)), .ref 570, .ref 571, .ref 572, .ref 573, .ref 574, .ref 575, .ref 576, .ref 577, .ref 578, .int (iI (o 68)), .int (iI (o 69)), .int (iI (o 70)), .ref 579]) := hM1743
                  obtain ⟨⟨_, _⟩, ⟨_, _⟩, hk1753, ⟨_, _⟩, hk1753e, ⟨_, _⟩, ⟨_, _⟩⟩ := R_tk_f hX hp1741
                  show X_T sc 156 (137, [(3, .int (iI (X_ix kn kc (ct (X_av n (X_av n c)))))), (1, .long (ct c)), (0, .ref 530)], [], S1732) _
                  refine T_vret xr_156_137 xf_156.2.2 ?_
                  refine hQ _ _ ?_
                  have h1755 := (hf1744.1 534 (by first | decide | omega)).trans ((n1728 534 (by decide)).trans ((n1723 534 (by decide)).trans (h1716)))
                  have h1756 := (hf1744.1 536 (by first | decide | omega)).trans ((n1728 536 (by decide)).trans (h1722))
                  refine Or.inl ⟨at1734, en1735, tk1736, nu1737, dg1738, nm1739, X_av n (X_av n (X_av n (X_av n c))), X_ug ab kc (X_bO (ab (X_ix kn kc (ct (X_av n (X_av n c))))) (X_bS kc)), (X_ug kN ((11 * (o 4)) + (o 29)) (ct c)), (X_ug kU ((11 * (o 4)) + (o 29)) (X_ix kn kc (ct (X_av n (X_av n c))))), rfl, hp1741, ?_, R_kd_add (by omega) (by omega) hR (by rw [hkc]), R_ob.rf.up (by omega), R_ob.rf.up (by omega), h1752, h1755, h1756, (((((((X_Fr.rf).tr (X_Fr.mono ⟨hf1603.1, hf1603.2⟩ (fun q hq => by first | exact hq | (rcases hq with rfl <;> decide) | (rcases hq with rfl | rfl <;> decide) | (rcases hq with rfl | rfl | rfl <;> decide) | (rcases hq with rfl | rfl | rfl | rfl <;> decide) | (rcases hq with rfl | rfl | rfl | rfl | rfl <;> decide) | (rcases hq with rfl | rfl | rfl | rfl | rfl | rfl <;> decide) | (rcases hq with rfl | rfl | rfl | rfl | rfl | rfl | rfl <;> decide) | omega))).tr (X_Fr.mono ⟨hf1676.1, hf1676.2⟩ (fun q hq => by first | exact hq | (rcases hq with rfl <;> decide) | (rcases hq with rfl | rfl <;> decide) | (rcases hq with rfl | rfl | rfl <;> decide) | (rcases hq with rfl | rfl | rfl | rfl <;> decide) | (rcases hq with rfl | rfl | rfl | rfl | rfl <;> decide) | (rcases hq with rfl | rfl | rfl | rfl | rfl | rfl <;> decide) | (rcases hq with rfl | rfl | rfl | rfl | rfl | rfl | rfl <;> decide) | omega))).tr (X_Fr.mono ⟨hf1695.1, hf1695.2⟩ (fun q hq => by first | exact hq | (rcases hq with rfl <;> decide) | (rcases hq with rfl | rfl <;> decide) | (rcases hq with rfl | rfl | rfl <;> decide) | (rcases hq with rfl | rfl | rfl | rfl <;> decide) | (rcases hq with rfl | rfl | rfl | rfl | rfl <;> decide) | (rcases hq with rfl | rfl | rfl | rfl | rfl | rfl <;> decide) | (rcases hq with rfl | rfl | rfl | rfl | rfl | rfl | rfl <;> decide) | omega))).tr (X_Fr.of n1717 e1718 (by first | decide | exact ⟨Nat.le_add_right _ _, Nat.add_le_add_left (by decide) _⟩ | omega))).tr (X_Fr.of n1723 e1724 (by first | decide | exact ⟨Nat.le_add_right _ _, Nat.add_le_add_left (by decide) _⟩ | omega))).tr (X_Fr.of n1728 e1729 (by first | decide | exact ⟨Nat.le_add_right _ _, Nat.add_le_add_left (by decide) _⟩ | omega))).tr (X_Fr.mono ⟨hf1744.1, hf1744.2⟩ (fun q hq => by first | exact hq | (rcases hq with rfl <;> decide) | (rcases hq with rfl | rfl <;> decide) | (rcases hq with rfl | rfl | rfl <;> decide) | (rcases hq with rfl | rfl | rfl | rfl <;> decide) | (rcases hq with rfl | rfl | rfl | rfl | rfl <;> decide) | (rcases hq with rfl | rfl | rfl | rfl | rfl | rfl <;> decide) | (rcases hq with rfl | rfl | rfl | rfl | rfl | rfl | rfl <;> decide) | omega))⟩
                  · simp only [sp_kind]
                    rw [← hc]
                    (repeat (first | rw [if_pos (by assumption)] | rw [if_neg (by assumption)] | rw [if_neg (by omega)] | rw [if_pos (by omega)]))
                    all_goals first | rfl | ((repeat' split) <;> first | rfl | (exfalso; omega) | contradiction)
                · skip
                  rw [hv1747]
                  have h1754 : S1732.1 530 = .inr (11, [.ref 531, .int (iI (o 1)), .ref 532, .int (iI (o 3)), .int (iI (o 4)), .int (iI f1745), .int (iI g1746), .int (iI at1684), .int (iI en1685), .int (iI tk1686), .int (iI nu1687), .int (iI dg1688), .long nm1689, .ref 533, .ref 534, .ref 535, .ref 536, .ref 537, .ref 538, .ref 539, .ref 540, .ref 541, .ref 542, .ref 543, .ref 544, .ref 545, .ref 546, .ref 547, .int (iI (o 28)), .int (iI (kc + 1)), .int (iI (o 30)), .int (iI (o 31)), .int (iI (o 32)), .int (iI (o 33)), .ref 548, .ref 549, .ref 550, .ref 551, .int (iI (o 38)), .ref 552, .ref 553, .ref 554, .ref 555, .ref 556, .ref 557, .ref 558, .ref 559, .ref 560, .ref 561, .int (iI (o 49)), .ref 562, .ref 563, .ref 564, .ref 565, .ref 566, .ref 567, .ref 568, .ref 569, .int (iI (o 58)), .ref 570, .ref 571, .ref 572, .ref 573, .ref 574, .ref 575, .ref 576, .ref 577, .ref 578, .int (iI (o 68)), .int (iI (o 69)), .int (iI (o 70)), .ref 579]) := hM1750
                  show X_T sc 156 (137, [(3, .int (iI (X_ix kn kc (ct (X_av n (X_av n c)))))), (1, .long (ct c)), (0, .ref 530)], [], S1732) _
                  refine T_vret xr_156_137 xf_156.2.2 ?_
                  refine hQ _ _ ?_
                  have h1757 := (hf1751.1 534 (by first | decide | omega)).trans ((n1728 534 (by decide)).trans ((n1723 534 (by decide)).trans (h1716)))
                  have h1758 := (hf1751.1 536 (by first | decide | omega)).trans ((n1728 536 (by decide)).trans (h1722))
                  refine Or.inr ⟨at1684, en1685, tk1686, nu1687, dg1688, nm1689, kc + 1, f1745, g1746, (X_ug kN ((11 * (o 4)) + (o 29)) (ct c)), (X_ug kU ((11 * (o 4)) + (o 29)) (X_ix kn kc (ct (X_av n (X_av n c))))), rfl, by omega, ?_, ?_, ?_, h1754, h1757, h1758, (((((((X_Fr.rf).tr (X_Fr.mono ⟨hf1603.1, hf1603.2⟩ (fun q hq => by first | exact hq | (rcases hq with rfl <;> decide) | (rcases hq with rfl | rfl <;> decide) | (rcases hq with rfl | rfl | rfl <;> decide) | (rcases hq with rfl | rfl | rfl | rfl <;> decide) | (rcases hq with rfl | rfl | rfl | rfl | rfl <;> decide) | (rcases hq with rfl | rfl | rfl | rfl | rfl | rfl <;> decide) | (rcases hq with rfl | rfl | rfl | rfl | rfl | rfl | rfl <;> decide) | omega))).tr (X_Fr.mono ⟨hf1676.1, hf1676.2⟩ (fun q hq => by first | exact hq | (rcases hq with rfl <;> decide) | (rcases hq with rfl | rfl <;> decide) | (rcases hq with rfl | rfl | rfl <;> decide) | (rcases hq with rfl | rfl | rfl | rfl <;> decide) | (rcases hq with rfl | rfl | rfl | rfl | rfl <;> decide) | (rcases hq with rfl | rfl | rfl | rfl | rfl | rfl <;> decide) | (rcases hq with rfl | rfl | rfl | rfl | rfl | rfl | rfl <;> decide) | omega))).tr (X_Fr.mono ⟨hf1695.1, hf1695.2⟩ (fun q hq => by first | exact hq | (rcases hq with rfl <;> decide) | (rcases hq with rfl | rfl <;> decide) | (rcases hq with rfl | rfl | rfl <;> decide) | (rcases hq with rfl | rfl | rfl | rfl <;> decide) | (rcases hq with rfl | rfl | rfl | rfl | rfl <;> decide) | (rcases hq with rfl | rfl | rfl | rfl | rfl | rfl <;> decide) | (rcases hq with rfl | rfl | rfl | rfl | rfl | rfl | rfl <;> decide) | omega))).tr (X_Fr.of n1717 e1718 (by first | decide | exact ⟨Nat.le_add_right _ _, Nat.add_le_add_left (by decide) _⟩ | omega))).tr (X_Fr.of n1723 e1724 (by first | decide | exact ⟨Nat.le_add_right _ _, Nat.add_le_add_left (by decide) _⟩ | omega))).tr (X_Fr.of n1728 e1729 (by first | decide | exact ⟨Nat.le_add_right _ _, Nat.add_le_add_left (by decide) _⟩ | omega))).tr (X_Fr.mono ⟨hf1751.1, hf1751.2⟩ (fun q hq => by first | exact hq | (rcases hq with rfl <;> decide) | (rcases hq with rfl | rfl <;> decide) | (rcases hq with rfl | rfl | rfl <;> decide) | (rcases hq with rfl | rfl | rfl | rfl <;> decide) | (rcases hq with rfl | rfl | rfl | rfl | rfl <;> decide) | (rcases hq with rfl | rfl | rfl | rfl | rfl | rfl <;> decide) | (rcases hq with rfl | rfl | rfl | rfl | rfl | rfl | rfl <;> decide) | omega))⟩
                  · simp only [sp_kind]
                    rw [← hc]
                    (repeat (first | rw [if_pos (by assumption)] | rw [if_neg (by assumption)] | rw [if_neg (by omega)] | rw [if_pos (by omega)]))
                    all_goals first | rfl | ((repeat' split) <;> first | rfl | (exfalso; omega) | contradiction)
                  · first | exact R_ob.rf | exact R_ob.rf.up (by omega)
                  · first | exact R_ob.rf | exact R_ob.rf.up (by omega)
              · skip
                have c1713 : ¬ ((o 5) = 0) := c1713
                exact (show False by first | contradiction | omega).elim
            · skip
              rw [hv1699]
              have h1707 : S1682.1 530 = .inr (11, [.ref 531, .int (iI (o 1)), .ref 532, .int (iI (o 3)), .int (iI (o 4)), .int (iI f1697), .int (iI g1698), .int (iI at1667), .int (iI en1668), .int (iI tk1669), .int (iI nu1670), .int (iI dg1671), .long nm1672, .ref 533, .ref 534, .ref 535, .ref 536, .ref 537, .ref 538, .ref 539, .ref 540, .ref 541, .ref 542, .ref 543, .ref 544, .ref 545, .ref 546, .ref 547, .int (iI (o 28)), .int (iI (o 29)), .int (iI (o 30)), .int (iI (o 31)), .int (iI (o 32)), .int (iI (o 33)), .ref 548, .ref 549, .ref 550, .ref 551, .int (iI (o 38)), .ref 552, .ref 553, .ref 554, .ref 555, .ref 556, .ref 557, .ref 558, .ref 559, .ref 560, .ref 561, .int (iI (o 49)), .ref 562, .ref 563, .ref 564, .ref 565, .ref 566, .ref 567, .ref 568, .ref 569, .int (iI (o 58)), .ref 570, .ref 571, .ref 572, .ref 573, .ref 574, .ref 575, .ref 576, .ref 577, .ref 578, .int (iI (o 68)), .int (iI (o 69)), .int (iI (o 70)), .ref 579]) := hM1703
              show X_T sc 156 (76, [(3, .int (iI 0)), (1, .long (ct c)), (0, .ref 530)], [.int (iI r1696)], S1682) _
              refine T_p xr_156_76 xn_156 (pc' := 77) (ls' := [(3, .int (iI r1696)), (1, .long (ct c)), (0, .ref 530)]) (st' := []) rfl ?_
              refine T_p xr_156_77 xn_156 (pc' := 78) (ls' := [(3, .int (iI r1696)), (1, .long (ct c)), (0, .ref 530)]) (st' := [.ref 530]) rfl ?_
              refine T_cv (S := S1682) (q := 530) xr_156_78 xf_140.1 xf_140.2.1 xn_140 (as := []) (r := []) rfl h1707 (Nat.le_of_ble_eq_true rfl) (Nat.le_of_ble_eq_true rfl) (pc' := 81) rfl (ls' := [(0, .ref 530)]) rfl ?_
              refine T_mono (r_isGood sc S1682 (X_ou (X_ou (X_ou (X_ou (X_ou (X_ou (X_ou o 5 f1697) 6 g1698) 7 at1667) 8 en1668) 9 tk1669) 10 nu1670) 11 dg1671) nm1672 h1707 (show 0 ≤ f1697 ∧ f1697 ≤ 5 from by omega)) (fun v1759 S1760 h1761 => ?_)
              rcases h1761 with ⟨hv1762, hf1763⟩
              rw [hv1762]
              rw [hf1763]
              show X_T sc 156 (81, [(3, .int (iI r1696)), (1, .long (ct c)), (0, .ref 530)], [.int (iI (bI (f1697 = 0)))], S1682) _
              refine T_bif_ne xr_156_81 (t := 85) (pc' := 84) rfl rfl (fun c1764 => ?_) (fun c1764 => ?_)
              · skip
                have c1764 : (f1697 = 0) := c1764
                exact (show False by first | contradiction | omega).elim
              · skip
                have c1764 : ¬ (f1697 = 0) := c1764
                refine T_vret xr_156_84 xf_156.2.2 ?_
                refine hQ _ _ ?_
                have h1765 := (hf1704.1 534 (by first | decide | omega)).trans (h1680)
                have h1766 := (hf1704.1 536 (by first | decide | omega)).trans ((hf1676.1 536 (by first | decide | omega)).trans ((hf1603.1 536 (by first | decide | omega)).trans (hA536)))
                refine Or.inr ⟨at1667, en1668, tk1669, nu1670, dg1671, nm1672, o 29, f1697, g1698, kN, kU, rfl, by omega, ?_, ?_, ?_, h1707, h1765, h1766, (((X_Fr.rf).tr (X_Fr.mono ⟨hf1603.1, hf1603.2⟩ (fun q hq => by first | exact hq | (rcases hq with rfl <;> decide) | (rcases hq with rfl | rfl <;> decide) | (rcases hq with rfl | rfl | rfl <;> decide) | (rcases hq with rfl | rfl | rfl | rfl <;> decide) | (rcases hq with rfl | rfl | rfl | rfl | rfl <;> decide) | (rcases hq with rfl | rfl | rfl | rfl | rfl | rfl <;> decide) | (rcases hq with rfl | rfl | rfl | rfl | rfl | rfl | rfl <;> decide) | omega))).tr (X_Fr.mono ⟨hf1676.1, hf1676.2⟩ (fun q hq => by first | exact hq | (rcases hq with rfl <;> decide) | (rcases hq with rfl | rfl <;> decide) | (rcases hq with rfl | rfl | rfl <;> decide) | (rcases hq with rfl | rfl | rfl | rfl <;> decide) | (rcases hq with rfl | rfl | rfl | rfl | rfl <;> decide) | (rcases hq with rfl | rfl | rfl | rfl | rfl | rfl <;> decide) | (rcases hq with rfl | rfl | rfl | rfl | rfl | rfl | rfl <;> decide) | omega))).tr (X_Fr.mono ⟨hf1704.1, hf1704.2⟩ (fun q hq => by first | exact hq | (rcases hq with rfl <;> decide) | (rcases hq with rfl | rfl <;> decide) | (rcases hq with rfl | rfl | rfl <;> decide) | (rcases hq with rfl | rfl | rfl | rfl <;> decide) | (rcases hq with rfl | rfl | rfl | rfl | rfl <;> decide) | (rcases hq with rfl | rfl | rfl | rfl | rfl | rfl <;> decide) | (rcases hq with rfl | rfl | rfl | rfl | rfl | rfl | rfl <;> decide) | omega))⟩
                · simp only [sp_kind]
                  rw [← hc]
                  (repeat (first | rw [if_pos (by assumption)] | rw [if_neg (by assumption)] | rw [if_neg (by omega)] | rw [if_pos (by omega)]))
                  all_goals first | rfl | ((repeat' split) <;> first | rfl | (exfalso; omega) | contradiction)
                · first | exact R_ob.rf | exact R_ob.rf.up (by omega)
                · first | exact R_ob.rf | exact R_ob.rf.up (by omega)
        · skip
          have c1590 : ¬ ((o 5) = 0) := c1590
          exact (show False by first | contradiction | omega).elim
      · skip
        have c1584 : ¬ ((X_ix kn kc (ct c)) < 0) := c1584
        refine T_p xr_156_30 xn_156 (pc' := 31) (ls' := [(0, .ref 530)]) (st' := [.ref 530]) rfl ?_
        refine T_p xr_156_31 xn_156 (pc' := 32) (ls' := [(0, .ref 530)]) (st' := [.int (iI 3), .ref 530]) rfl ?_
        refine T_p xr_156_32 xn_156 (pc' := 33) (ls' := [(0, .ref 530)]) (st' := [.ref 530, .int (iI 3), .ref 530]) rfl ?_
        refine T_get xr_156_33 hM rfl (v := .int (iI (o 7))) rfl (pc' := 36) rfl ?_
        refine T_cv (S := S) (q := 530) xr_156_36 xf_139.1 xf_139.2.1 xn_139 (as := [.int (iI 3), .int (iI (o 7))]) (r := []) rfl hM (Nat.le_of_ble_eq_true rfl) (Nat.le_of_ble_eq_true rfl) (pc' := 39) rfl (ls' := [(0, .ref 530), (1, .int (iI 3)), (2, .int (iI (o 7)))]) rfl ?_
        refine T_mono (r_fails sc S o nm 3 (o 7) hM (show 0 ≤ (o 5) ∧ (o 5) ≤ 5 from by omega) (by omega)) (fun v1767 S1768 h1769 => ?_)
        rcases h1769 with ⟨f1770, g1771, hv1772, hp1773, hM1774, hf1775⟩
        rw [hv1772]
        have h1776 : S1768.1 530 = .inr (11, [.ref 531, .int (iI (o 1)), .ref 532, .int (iI (o 3)), .int (iI (o 4)), .int (iI f1770), .int (iI g1771), .int (iI (o 7)), .int (iI (o 8)), .int (iI (o 9)), .int (iI (o 10)), .int (iI (o 11)), .long nm, .ref 533, .ref 534, .ref 535, .ref 536, .ref 537, .ref 538, .ref 539, .ref 540, .ref 541, .ref 542, .ref 543, .ref 544, .ref 545, .ref 546, .ref 547, .int (iI (o 28)), .int (iI (o 29)), .int (iI (o 30)), .int (iI (o 31)), .int (iI (o 32)), .int (iI (o 33)), .ref 548, .ref 549, .ref 550, .ref 551, .int (iI (o 38)), .ref 552, .ref 553, .ref 554, .ref 555, .ref 556, .ref 557, .ref 558, .ref 559, .ref 560, .ref 561, .int (iI (o 49)), .ref 562, .ref 563, .ref 564, .ref 565, .ref 566, .ref 567, .ref 568, .ref 569, .int (iI (o 58)), .ref 570, .ref 571, .ref 572, .ref 573, .ref 574, .ref 575, .ref 576, .ref 577, .ref 578, .int (iI (o 68)), .int (iI (o 69)), .int (iI (o 70)), .ref 579]) := hM1774
        have hp1773 : ((o 5) = 0 → f1770 = 3) ∧ (¬ (o 5) = 0 → f1770 = (o 5)) := hp1773
        have hf1777 : f1770 = 3 := hp1773.1 h5
        show X_T sc 156 (39, [(0, .ref 530)], [], S1768) _
        refine T_p xr_156_39 xn_156 (pc' := 40) (ls' := [(0, .ref 530)]) (st' := [.ref 530]) rfl ?_
        refine T_cv (S := S1768) (q := 530) xr_156_40 xf_140.1 xf_140.2.1 xn_140 (as := []) (r := []) rfl h1776 (Nat.le_of_ble_eq_true rfl) (Nat.le_of_ble_eq_true rfl) (pc' := 43) rfl (ls' := [(0, .ref 530)]) rfl ?_
        refine T_mono (r_isGood sc S1768 (X_ou (X_ou o 5 f1770) 6 g1771) nm h1776 (show 0 ≤ f1770 ∧ f1770 ≤ 5 from by omega)) (fun v1778 S1779 h1780 => ?_)
        rcases h1780 with ⟨hv1781, hf1782⟩
        rw [hv1781]
        rw [hf1782]
        show X_T sc 156 (43, [(0, .ref 530)], [.int (iI (bI (f1770 = 0)))], S1768) _
        refine T_bif_ne xr_156_43 (t := 47) (pc' := 46) rfl rfl (fun c1783 => ?_) (fun c1783 => ?_)
        · skip
          have c1783 : (f1770 = 0) := c1783
          exact (show False by first | contradiction | omega).elim
        · skip
          have c1783 : ¬ (f1770 = 0) := c1783
          refine T_vret xr_156_46 xf_156.2.2 ?_
          refine hQ _ _ ?_
          have h1784 := (hf1775.1 534 (by first | decide | omega)).trans (hA534)
          have h1785 := (hf1775.1 536 (by first | decide | omega)).trans (hA536)
          refine Or.inr ⟨o 7, o 8, o 9, o 10, o 11, nm, o 29, f1770, g1771, kN, kU, rfl, by omega, ?_, ?_, ?_, h1776, h1784, h1785, (X_Fr.rf).tr (X_Fr.mono ⟨hf1775.1, hf1775.2⟩ (fun q hq => by first | exact hq | (rcases hq with rfl <;> decide) | (rcases hq with rfl | rfl <;> decide) | (rcases hq with rfl | rfl | rfl <;> decide) | (rcases hq with rfl | rfl | rfl | rfl <;> decide) | (rcases hq with rfl | rfl | rfl | rfl | rfl <;> decide) | (rcases hq with rfl | rfl | rfl | rfl | rfl | rfl <;> decide) | (rcases hq with rfl | rfl | rfl | rfl | rfl | rfl | rfl <;> decide) | omega))⟩
          · simp only [sp_kind]
            rw [← hc]
            (repeat (first | rw [if_pos (by assumption)] | rw [if_neg (by assumption)] | rw [if_neg (by omega)] | rw [if_pos (by omega)]))
            all_goals first | rfl | ((repeat' split) <;> first | rfl | (exfalso; omega) | contradiction)
          · first | exact R_ob.rf | exact R_ob.rf.up (by omega)
          · first | exact R_ob.rf | exact R_ob.rf.up (by omega)
  · skip
    have c1571 : ¬ ((o 9) = 2) := c1571
    refine T_p xr_156_8 xn_156 (pc' := 9) (ls' := [(0, .ref 530)]) (st' := [.ref 530]) rfl ?_
    refine T_cv (S := S) (q := 530) xr_156_9 xf_147.1 xf_147.2.1 xn_147 (as := []) (r := []) rfl hM (Nat.le_of_ble_eq_true rfl) (Nat.le_of_ble_eq_true rfl) (pc' := 12) rfl (ls' := [(0, .ref 530)]) rfl ?_
    refine T_mono (r_wrong sc S o nm tx tb len n so pl ct E c hM hA532 (show (o 3) = len from by first | assumption | omega) hl htx hX hT (show 0 ≤ (o 5) ∧ (o 5) ≤ 5 from by omega)) (fun v1786 S1787 h1788 => ?_)
    rcases h1788 with ⟨f1789, g1790, hv1791, hp1792, hM1793, hf1794⟩
    rw [hv1791]
    have h1795 : S1787.1 530 = .inr (11, [.ref 531, .int (iI (o 1)), .ref 532, .int (iI (o 3)), .int (iI (o 4)), .int (iI f1789), .int (iI g1790), .int (iI (o 7)), .int (iI (o 8)), .int (iI (o 9)), .int (iI (o 10)), .int (iI (o 11)), .long nm, .ref 533, .ref 534, .ref 535, .ref 536, .ref 537, .ref 538, .ref 539, .ref 540, .ref 541, .ref 542, .ref 543, .ref 544, .ref 545, .ref 546, .ref 547, .int (iI (o 28)), .int (iI (o 29)), .int (iI (o 30)), .int (iI (o 31)), .int (iI (o 32)), .int (iI (o 33)), .ref 548, .ref 549, .ref 550, .ref 551, .int (iI (o 38)), .ref 552, .ref 553, .ref 554, .ref 555, .ref 556, .ref 557, .ref 558, .ref 559, .ref 560, .ref 561, .int (iI (o 49)), .ref 562, .ref 563, .ref 564, .ref 565, .ref 566, .ref 567, .ref 568, .ref 569, .int (iI (o 58)), .ref 570, .ref 571, .ref 572, .ref 573, .ref 574, .ref 575, .ref 576, .ref 577, .ref 578, .int (iI (o 68)), .int (iI (o 69)), .int (iI (o 70)), .ref 579]) := hM1793
    show X_T sc 156 (12, [(0, .ref 530)], [], S1787) _
    refine T_p xr_156_12 xn_156 (pc' := 13) (ls' := [(0, .ref 530)]) (st' := [.ref 530]) rfl ?_
    refine T_cv (S := S1787) (q := 530) xr_156_13 xf_140.1 xf_140.2.1 xn_140 (as := []) (r := []) rfl h1795 (Nat.le_of_ble_eq_true rfl) (Nat.le_of_ble_eq_true rfl) (pc' := 16) rfl (ls' := [(0, .ref 530)]) rfl ?_
    refine T_mono (r_isGood sc S1787 (X_ou (X_ou o 5 f1789) 6 g1790) nm h1795 (show 0 ≤ f1789 ∧ f1789 ≤ 5 from by omega)) (fun v1796 S1797 h1798 => ?_)
    rcases h1798 with ⟨hv1799, hf1800⟩
    rw [hv1799]
    rw [hf1800]
    show X_T sc 156 (16, [(0, .ref 530)], [.int (iI (bI (f1789 = 0)))], S1787) _
    refine T_bif_eq xr_156_16 (t := 39) (pc' := 19) rfl rfl (fun c1801 => ?_) (fun c1801 => ?_)
    · skip
      have c1801 : ¬ (f1789 = 0) := c1801
      refine T_p xr_156_39 xn_156 (pc' := 40) (ls' := [(0, .ref 530)]) (st' := [.ref 530]) rfl ?_
      refine T_cv (S := S1787) (q := 530) xr_156_40 xf_140.1 xf_140.2.1 xn_140 (as := []) (r := []) rfl h1795 (Nat.le_of_ble_eq_true rfl) (Nat.le_of_ble_eq_true rfl) (pc' := 43) rfl (ls' := [(0, .ref 530)]) rfl ?_
      refine T_mono (r_isGood sc S1787 (X_ou (X_ou o 5 f1789) 6 g1790) nm h1795 (show 0 ≤ f1789 ∧ f1789 ≤ 5 from by omega)) (fun v1802 S1803 h1804 => ?_)
      rcases h1804 with ⟨hv1805, hf1806⟩
      rw [hv1805]
      rw [hf1806]
      show X_T sc 156 (43, [(0, .ref 530)], [.int (iI (bI (f1789 = 0)))], S1787) _
      refine T_bif_ne xr_156_43 (t := 47) (pc' := 46) rfl rfl (fun c1807 => ?_) (fun c1807 => ?_)
      · skip
        have c1807 : (f1789 = 0) := c1807
        exact (show False by first | contradiction | omega).elim
      · skip
        have c1807 : ¬ (f1789 = 0) := c1807
        refine T_vret xr_156_46 xf_156.2.2 ?_
        refine hQ _ _ ?_
        have h1808 := (hf1794.1 534 (by first | decide | omega)).trans (hA534)
        have h1809 := (hf1794.1 536 (by first | decide | omega)).trans (hA536)
        refine Or.inr ⟨o 7, o 8, o 9, o 10, o 11, nm, o 29, f1789, g1790, kN, kU, rfl, by omega, ?_, ?_, ?_, h1795, h1808, h1809, (X_Fr.rf).tr (X_Fr.mono ⟨hf1794.1, hf1794.2⟩ (fun q hq => by first | exact hq | (rcases hq with rfl <;> decide) | (rcases hq with rfl | rfl <;> decide) | (rcases hq with rfl | rfl | rfl <;> decide) | (rcases hq with rfl | rfl | rfl | rfl <;> decide) | (rcases hq with rfl | rfl | rfl | rfl | rfl <;> decide) | (rcases hq with rfl | rfl | rfl | rfl | rfl | rfl <;> decide) | (rcases hq with rfl | rfl | rfl | rfl | rfl | rfl | rfl <;> decide) | omega))⟩
        · simp only [sp_kind]
          rw [← hc]
          (repeat (first | rw [if_pos (by assumption)] | rw [if_neg (by assumption)] | rw [if_neg (by omega)] | rw [if_pos (by omega)]))
          all_goals first | rfl | ((repeat' split) <;> first | rfl | (exfalso; omega) | contradiction)
        · first | exact R_ob.rf | exact R_ob.rf.up (by omega)
        · first | exact R_ob.rf | exact R_ob.rf.up (by omega)
    · skip
      have c1801 : (f1789 = 0) := c1801
      exact (show False by first | contradiction | omega).elim
end
