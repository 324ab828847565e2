theorem xr_136_0 : X_row 136 0 = some (0, (.iload_n 1, 1), (0, 0, 0)) := by decide +kernel
theorem xr_136_1 : X_row 136 1 = some (1, (.aload_n 0, 1), (0, 0, 0)) := by decide +kernel
theorem xr_136_2 : X_row 136 2 = some (2, (.getfield 1, 3), (11, 3, 6)) := by decide +kernel
theorem xr_136_5 : X_row 136 5 = some (5, (.if_icmp .ge 16, 3), (0, 0, 0)) := by decide +kernel
theorem xr_136_8 : X_row 136 8 = some (8, (.aload_n 0, 1), (0, 0, 0)) := by decide +kernel
theorem xr_136_9 : X_row 136 9 = some (9, (.getfield 7, 3), (11, 2, 4)) := by decide +kernel
theorem xr_136_12 : X_row 136 12 = some (12, (.iload_n 1, 1), (0, 0, 0)) := by decide +kernel
theorem xr_136_13 : X_row 136 13 = some (13, (.baload, 1), (0, 0, 0)) := by decide +kernel
theorem xr_136_14 : X_row 136 14 = some (14, (.sipush 255, 3), (0, 0, 0)) := by decide +kernel
theorem xr_136_17 : X_row 136 17 = some (17, (.iand, 1), (0, 0, 0)) := by decide +kernel
theorem xr_136_18 : X_row 136 18 = some (18, (.goto 4, 3), (0, 0, 0)) := by decide +kernel
theorem xr_136_21 : X_row 136 21 = some (21, (.iconst 0, 1), (0, 0, 0)) := by decide +kernel
theorem xr_136_22 : X_row 136 22 = some (22, (.ireturn, 1), (0, 0, 0)) := by decide +kernel
theorem xr_137_0 : X_row 137 0 = some (0, (.iload_n 0, 1), (0, 0, 0)) := by decide +kernel
theorem xr_137_1 : X_row 137 1 = some (1, (.bipush 97, 2), (0, 0, 0)) := by decide +kernel
theorem xr_137_3 : X_row 137 3 = some (3, (.if_icmp .lt 13, 3), (0, 0, 0)) := by decide +kernel
theorem xr_137_6 : X_row 137 6 = some (6, (.iload_n 0, 1), (0, 0, 0)) := by decide +kernel
theorem xr_137_7 : X_row 137 7 = some (7, (.bipush 122, 2), (0, 0, 0)) := by decide +kernel
theorem xr_137_9 : X_row 137 9 = some (9, (.if_icmp .gt 7, 3), (0, 0, 0)) := by decide +kernel
theorem xr_137_12 : X_row 137 12 = some (12, (.iconst 1, 1), (0, 0, 0)) := by decide +kernel
theorem xr_137_13 : X_row 137 13 = some (13, (.goto 4, 3), (0, 0, 0)) := by decide +kernel
theorem xr_137_16 : X_row 137 16 = some (16, (.iconst 0, 1), (0, 0, 0)) := by decide +kernel
theorem xr_137_17 : X_row 137 17 = some (17, (.ireturn, 1), (0, 0, 0)) := by decide +kernel
theorem xr_138_0 : X_row 138 0 = some (0, (.iload_n 0, 1), (0, 0, 0)) := by decide +kernel
theorem xr_138_1 : X_row 138 1 = some (1, (.bipush 48, 2), (0, 0, 0)) := by decide +kernel
theorem xr_138_3 : X_row 138 3 = some (3, (.if_icmp .lt 13, 3), (0, 0, 0)) := by decide +kernel
theorem xr_138_6 : X_row 138 6 = some (6, (.iload_n 0, 1), (0, 0, 0)) := by decide +kernel
theorem xr_138_7 : X_row 138 7 = some (7, (.bipush 57, 2), (0, 0, 0)) := by decide +kernel
theorem xr_138_9 : X_row 138 9 = some (9, (.if_icmp .gt 7, 3), (0, 0, 0)) := by decide +kernel
theorem xr_138_12 : X_row 138 12 = some (12, (.iconst 1, 1), (0, 0, 0)) := by decide +kernel
theorem xr_138_13 : X_row 138 13 = some (13, (.goto 4, 3), (0, 0, 0)) := by decide +kernel
theorem xr_138_16 : X_row 138 16 = some (16, (.iconst 0, 1), (0, 0, 0)) := by decide +kernel
theorem xr_138_17 : X_row 138 17 = some (17, (.ireturn, 1), (0, 0, 0)) := by decide +kernel
theorem xr_142_0 : X_row 142 0 = some (0, (.aload_n 0, 1), (0, 0, 0)) := by decide +kernel
theorem xr_142_1 : X_row 142 1 = some (1, (.lconst 0, 1), (0, 0, 0)) := by decide +kernel
theorem xr_142_2 : X_row 142 2 = some (2, (.putfield 41, 3), (11, 12, 24)) := by decide +kernel
theorem xr_142_5 : X_row 142 5 = some (5, (.iload_n 1, 1), (0, 0, 0)) := by decide +kernel
theorem xr_142_6 : X_row 142 6 = some (6, (.istore_n 3, 1), (0, 0, 0)) := by decide +kernel
theorem xr_142_7 : X_row 142 7 = some (7, (.iload_n 3, 1), (0, 0, 0)) := by decide +kernel
theorem xr_142_8 : X_row 142 8 = some (8, (.iload_n 2, 1), (0, 0, 0)) := by decide +kernel
theorem xr_142_9 : X_row 142 9 = some (9, (.if_icmp .ge 35, 3), (0, 0, 0)) := by decide +kernel
theorem xr_142_12 : X_row 142 12 = some (12, (.iload_n 3, 1), (0, 0, 0)) := by decide +kernel
theorem xr_142_13 : X_row 142 13 = some (13, (.iload_n 1, 1), (0, 0, 0)) := by decide +kernel
theorem xr_142_14 : X_row 142 14 = some (14, (.bipush 8, 2), (0, 0, 0)) := by decide +kernel
theorem xr_142_16 : X_row 142 16 = some (16, (.iadd, 1), (0, 0, 0)) := by decide +kernel
theorem xr_142_17 : X_row 142 17 = some (17, (.if_icmp .ge 27, 3), (0, 0, 0)) := by decide +kernel
theorem xr_142_20 : X_row 142 20 = some (20, (.aload_n 0, 1), (0, 0, 0)) := by decide +kernel
theorem xr_142_21 : X_row 142 21 = some (21, (.aload_n 0, 1), (0, 0, 0)) := by decide +kernel
theorem xr_142_22 : X_row 142 22 = some (22, (.getfield 41, 3), (11, 12, 24)) := by decide +kernel
theorem xr_142_25 : X_row 142 25 = some (25, (.bipush 8, 2), (0, 0, 0)) := by decide +kernel
theorem xr_142_27 : X_row 142 27 = some (27, (.lshl, 1), (0, 0, 0)) := by decide +kernel
theorem xr_142_28 : X_row 142 28 = some (28, (.aload_n 0, 1), (0, 0, 0)) := by decide +kernel
theorem xr_142_29 : X_row 142 29 = some (29, (.iload_n 3, 1), (0, 0, 0)) := by decide +kernel
theorem xr_142_30 : X_row 142 30 = some (30, (.invokevirtual 23, 3), (136, 2, 0)) := by decide +kernel
theorem xr_142_33 : X_row 142 33 = some (33, (.i2l, 1), (0, 0, 0)) := by decide +kernel
theorem xr_142_34 : X_row 142 34 = some (34, (.lor, 1), (0, 0, 0)) := by decide +kernel
theorem xr_142_35 : X_row 142 35 = some (35, (.putfield 41, 3), (11, 12, 24)) := by decide +kernel
theorem xr_142_38 : X_row 142 38 = some (38, (.iinc 3 1, 3), (0, 0, 0)) := by decide +kernel
theorem xr_142_41 : X_row 142 41 = some (41, (.goto (-34), 3), (0, 0, 0)) := by decide +kernel
theorem xr_142_44 : X_row 142 44 = some (44, (.return_, 1), (0, 0, 0)) := by decide +kernel
theorem xr_144_0 : X_row 144 0 = some (0, (.iload_n 0, 1), (0, 0, 0)) := by decide +kernel
theorem xr_144_1 : X_row 144 1 = some (1, (.bipush 33, 2), (0, 0, 0)) := by decide +kernel
theorem xr_144_3 : X_row 144 3 = some (3, (.if_icmp .lt 31, 3), (0, 0, 0)) := by decide +kernel
theorem xr_144_6 : X_row 144 6 = some (6, (.iload_n 0, 1), (0, 0, 0)) := by decide +kernel
theorem xr_144_7 : X_row 144 7 = some (7, (.bipush 126, 2), (0, 0, 0)) := by decide +kernel
theorem xr_144_9 : X_row 144 9 = some (9, (.if_icmp .gt 25, 3), (0, 0, 0)) := by decide +kernel
theorem xr_144_12 : X_row 144 12 = some (12, (.iload_n 0, 1), (0, 0, 0)) := by decide +kernel
theorem xr_144_13 : X_row 144 13 = some (13, (.bipush 34, 2), (0, 0, 0)) := by decide +kernel
theorem xr_144_15 : X_row 144 15 = some (15, (.if_icmp .eq 19, 3), (0, 0, 0)) := by decide +kernel
theorem xr_144_18 : X_row 144 18 = some (18, (.iload_n 0, 1), (0, 0, 0)) := by decide +kernel
theorem xr_144_19 : X_row 144 19 = some (19, (.bipush 40, 2), (0, 0, 0)) := by decide +kernel
theorem xr_144_21 : X_row 144 21 = some (21, (.if_icmp .eq 13, 3), (0, 0, 0)) := by decide +kernel
theorem xr_144_24 : X_row 144 24 = some (24, (.iload_n 0, 1), (0, 0, 0)) := by decide +kernel
theorem xr_144_25 : X_row 144 25 = some (25, (.bipush 41, 2), (0, 0, 0)) := by decide +kernel
theorem xr_144_27 : X_row 144 27 = some (27, (.if_icmp .eq 7, 3), (0, 0, 0)) := by decide +kernel
theorem xr_144_30 : X_row 144 30 = some (30, (.iconst 1, 1), (0, 0, 0)) := by decide +kernel
theorem xr_144_31 : X_row 144 31 = some (31, (.goto 4, 3), (0, 0, 0)) := by decide +kernel
theorem xr_144_34 : X_row 144 34 = some (34, (.iconst 0, 1), (0, 0, 0)) := by decide +kernel
theorem xr_144_35 : X_row 144 35 = some (35, (.ireturn, 1), (0, 0, 0)) := by decide +kernel
theorem xn_136 : X_nL 136 = 2 := by decide +kernel
theorem xf_136 : X_na 136 = 1 ∧ X_ci 136 = 11 ∧ X_rt 136 = (some .int) := by decide +kernel
theorem xn_137 : X_nL 137 = 1 := by decide +kernel
theorem xf_137 : X_na 137 = 1 ∧ X_ci 137 = 11 ∧ X_rt 137 = (some .boolean) := by decide +kernel
theorem xn_138 : X_nL 138 = 1 := by decide +kernel
theorem xf_138 : X_na 138 = 1 ∧ X_ci 138 = 11 ∧ X_rt 138 = (some .boolean) := by decide +kernel
theorem xn_142 : X_nL 142 = 4 := by decide +kernel
theorem xf_142 : X_na 142 = 2 ∧ X_ci 142 = 11 ∧ X_rt 142 = none := by decide +kernel
theorem xn_144 : X_nL 144 = 1 := by decide +kernel
theorem xf_144 : X_na 144 = 1 ∧ X_ci 144 = 11 ∧ X_rt 144 = (some .boolean) := by decide +kernel
/-! the reference's object: its int fields by number, the one long field -/
def X_ou (o : Nat → Int) (k : Nat) (v : Int) : Nat → Int := fun i => if i = k then v else o i
def M_o (S : X_S) (o : Nat → Int) (nm : Int64) : Prop := S.1 530 = .inr (11, [.ref 531, .int (iI (o 1)), .ref 532, .int (iI (o 3)), .int (iI (o 4)), .int (iI (o 5)), .int (iI (o 6)), .int (iI (o 7)), .int (iI (o 8)), .int (iI (o 9)), .int (iI (o 10)), .int (iI (o 11)), .long nm, .ref 533, .ref 534, .ref 535, .ref 536, .ref 537, .ref 538, .ref 539, .ref 540, .ref 541, .ref 542, .ref 543, .ref 544, .ref 545, .ref 546, .ref 547, .int (iI (o 28)), .int (iI (o 29)), .int (iI (o 30)), .int (iI (o 31)), .int (iI (o 32)), .int (iI (o 33)), .ref 548, .ref 549, .ref 550, .ref 551, .int (iI (o 38)), .ref 552, .ref 553, .ref 554, .ref 555, .ref 556, .ref 557, .ref 558, .ref 559, .ref 560, .ref 561, .int (iI (o 49)), .ref 562, .ref 563, .ref 564, .ref 565, .ref 566, .ref 567, .ref 568, .ref 569, .int (iI (o 58)), .ref 570, .ref 571, .ref 572, .ref 573, .ref 574, .ref 575, .ref 576, .ref 577, .ref 578, .int (iI (o 68)), .int (iI (o 69)), .int (iI (o 70)), .ref 579])
/-- the sign at a place, 0 behind the text -/
noncomputable def X_sg (tb : Int → Int) (len k : Int) : Int := if k < len then X_at tb len k else 0
theorem X_sg_r {tb : Int → Int} {len k : Int} (h : 0 ≤ k) : 0 ≤ X_sg tb len k ∧ X_sg tb len k ≤ 255 := by
  unfold X_sg
  split
  · rw [X_at_in ⟨h, by assumption⟩]; omega
  · omega
theorem X_sg_c {tb : Int → Int} {len k : Int} : (k < len ∧ X_sg tb len k = X_at tb len k) ∨ (len ≤ k ∧ X_sg tb len k = 0 ∧ X_at tb len k = -1) := by
  unfold X_sg
  split
  · exact Or.inl ⟨by assumption, rfl⟩
  · exact Or.inr ⟨by omega, rfl, X_at_out (by omega)⟩
theorem X_sg_L {tb : Int → Int} {len k : Int} : X_isL (X_sg tb len k) ↔ k < len ∧ X_isL (X_at tb len k) := by
  rcases X_sg_c (tb := tb) (len := len) (k := k) with ⟨h1, h2⟩ | ⟨h1, h2, -⟩
  · rw [h2]; exact ⟨fun h => ⟨h1, h⟩, fun h => h.2⟩
  · rw [h2]; unfold X_isL; omega
theorem X_sg_D {tb : Int → Int} {len k : Int} : X_isD (X_sg tb len k) ↔ k < len ∧ X_isD (X_at tb len k) := by
  rcases X_sg_c (tb := tb) (len := len) (k := k) with ⟨h1, h2⟩ | ⟨h1, h2, -⟩
  · rw [h2]; exact ⟨fun h => ⟨h1, h⟩, fun h => h.2⟩
  · rw [h2]; unfold X_isD; omega
theorem X_sg_B {tb : Int → Int} {len k : Int} : X_isPB (X_sg tb len k) ↔ k < len ∧ X_isPB (X_at tb len k) := by
  rcases X_sg_c (tb := tb) (len := len) (k := k) with ⟨h1, h2⟩ | ⟨h1, h2, -⟩
  · rw [h2]; exact ⟨fun h => ⟨h1, h⟩, fun h => h.2⟩
  · rw [h2]; unfold X_isPB; omega
theorem X_sg_LD {tb : Int → Int} {len k : Int} : X_isLD (X_at tb len k) ↔ X_isL (X_sg tb len k) ∨ X_isD (X_sg tb len k) := by
  rcases X_sg_c (tb := tb) (len := len) (k := k) with ⟨h1, h2⟩ | ⟨h1, h2, h3⟩
  · rw [h2]; exact Iff.rfl
  · rw [h2, h3]; unfold X_isLD X_isL X_isD; omega
theorem X_sg_n {tb : Int → Int} {len k : Int} (h1 : ¬ X_isL (X_sg tb len k)) (h2 : ¬ X_isD (X_sg tb len k)) : ¬ X_isLD (X_at tb len k) := fun h => (X_sg_LD.mp h).elim h1 h2
/-- the reference's sort of a token -/
def X_rk (r : Int) : Int := if r ≤ 3 then r else if r ≤ 5 then 4 else if r = 6 then 5 else 6
theorem X_dv_b {tb : Int → Int} {len p : Int} : ∀ k : Nat, (∀ i : Int, 0 ≤ i → i < k → X_isD (X_at tb len (p + i))) → 0 ≤ X_dv tb len p k ∧ X_dv tb len p k < ((10 ^ k : Nat) : Int) := by
  intro k
  induction k with
  | zero => intro _; exact ⟨(show (0 : Int) ≤ 0 by omega), (show (0 : Int) < 1 by omega)⟩
  | succ k ih =>
    intro h
    have h1 := ih (fun i g1 g2 => h i g1 (by omega))
    have h2 := h (k : Int) (by omega) (by omega)
    unfold X_isD at h2
    show 0 ≤ X_dv tb len p k * 10 + X_at tb len (p + k) - 48 ∧ X_dv tb len p k * 10 + X_at tb len (p + k) - 48 < ((10 ^ (k + 1) : Nat) : Int)
    rw [show (10 : Nat) ^ (k + 1) = 10 ^ k * 10 from Nat.pow_succ 10 k]
    omega
theorem X_dv_9 {tb : Int → Int} {len p : Int} (k : Nat) (hk : k ≤ 9) (h : ∀ i : Int, 0 ≤ i → i < k → X_isD (X_at tb len (p + i))) : 0 ≤ X_dv tb len p k ∧ X_dv tb len p k ≤ 999999999 := by
  have h1 := X_dv_b (tb := tb) (len := len) (p := p) k h
  have h2 : (10 : Nat) ^ k ≤ 10 ^ 9 := Nat.pow_le_pow_right (by omega) hk
  have h3 : (10 : Nat) ^ 9 = 1000000000 := by decide
  omega
theorem r_isLetter (sc : X_Sc) (S : X_S) (c : Int) (hc : -1 ≤ c ∧ c ≤ 255) : X_T sc 137 (0, [(0, .int (iI c))], [], S) (fun v S' => v = some (.int (iI (bI (X_isL c)))) ∧ S' = S) := by
  refine X_QI (fun Q hQ => ?_)
  refine T_p xr_137_0 xn_137 (pc' := 1) (ls' := [(0, .int (iI c))]) (st' := [.int (iI c)]) rfl ?_
  refine T_p xr_137_1 xn_137 (pc' := 3) (ls' := [(0, .int (iI c))]) (st' := [.int (iI 97), .int (iI c)]) rfl ?_
  refine T_zicmp_lt xr_137_3 (t := 16) (pc' := 6) rfl rfl (fun c1 => ?_) (fun c1 => ?_)
  · skip
    have c1 : c < 97 := c1
    refine T_p xr_137_16 xn_137 (pc' := 17) (ls' := [(0, .int (iI c))]) (st' := [.int (iI 0)]) rfl ?_
    refine T_iret xr_137_17 xf_137.2.2 (by decide) ?_
    refine hQ _ _ ?_
    exact ⟨by rw [bI_f (by unfold X_isL; omega)], rfl⟩
  · skip
    have c1 : ¬ (c < 97) := c1
    refine T_p xr_137_6 xn_137 (pc' := 7) (ls' := [(0, .int (iI c))]) (st' := [.int (iI c)]) rfl ?_
    refine T_p xr_137_7 xn_137 (pc' := 9) (ls' := [(0, .int (iI c))]) (st' := [.int (iI 122), .int (iI c)]) rfl ?_
    refine T_zicmp_gt xr_137_9 (t := 16) (pc' := 12) rfl rfl (fun c2 => ?_) (fun c2 => ?_)
    · skip
      have c2 : 122 < c := c2
      refine T_p xr_137_16 xn_137 (pc' := 17) (ls' := [(0, .int (iI c))]) (st' := [.int (iI 0)]) rfl ?_
      refine T_iret xr_137_17 xf_137.2.2 (by decide) ?_
      refine hQ _ _ ?_
      exact ⟨by rw [bI_f (by unfold X_isL; omega)], rfl⟩
    · skip
      have c2 : ¬ (122 < c) := c2
      refine T_p xr_137_12 xn_137 (pc' := 13) (ls' := [(0, .int (iI c))]) (st' := [.int (iI 1)]) rfl ?_
      refine T_p xr_137_13 xn_137 (pc' := 17) (ls' := [(0, .int (iI c))]) (st' := [.int (iI 1)]) rfl ?_
      refine T_iret xr_137_17 xf_137.2.2 (by decide) ?_
      refine hQ _ _ ?_
      exact ⟨by rw [bI_t (by unfold X_isL; omega)], rfl⟩
theorem r_isDigit (sc : X_Sc) (S : X_S) (c : Int) (hc : -1 ≤ c ∧ c ≤ 255) : X_T sc 138 (0, [(0, .int (iI c))], [], S) (fun v S' => v = some (.int (iI (bI (X_isD c)))) ∧ S' = S) := by
  refine X_QI (fun Q hQ => ?_)
  refine T_p xr_138_0 xn_138 (pc' := 1) (ls' := [(0, .int (iI c))]) (st' := [.int (iI c)]) rfl ?_
  refine T_p xr_138_1 xn_138 (pc' := 3) (ls' := [(0, .int (iI c))]) (st' := [.int (iI 48), .int (iI c)]) rfl ?_
  refine T_zicmp_lt xr_138_3 (t := 16) (pc' := 6) rfl rfl (fun c3 => ?_) (fun c3 => ?_)
  · skip
    have c3 : c < 48 := c3
    refine T_p xr_138_16 xn_138 (pc' := 17) (ls' := [(0, .int (iI c))]) (st' := [.int (iI 0)]) rfl ?_
    refine T_iret xr_138_17 xf_138.2.2 (by decide) ?_
    refine hQ _ _ ?_
    exact ⟨by rw [bI_f (by unfold X_isD; omega)], rfl⟩
  · skip
    have c3 : ¬ (c < 48) := c3
    refine T_p xr_138_6 xn_138 (pc' := 7) (ls' := [(0, .int (iI c))]) (st' := [.int (iI c)]) rfl ?_
    refine T_p xr_138_7 xn_138 (pc' := 9) (ls' := [(0, .int (iI c))]) (st' := [.int (iI 57), .int (iI c)]) rfl ?_
    refine T_zicmp_gt xr_138_9 (t := 16) (pc' := 12) rfl rfl (fun c4 => ?_) (fun c4 => ?_)
    · skip
      have c4 : 57 < c := c4
      refine T_p xr_138_16 xn_138 (pc' := 17) (ls' := [(0, .int (iI c))]) (st' := [.int (iI 0)]) rfl ?_
      refine T_iret xr_138_17 xf_138.2.2 (by decide) ?_
      refine hQ _ _ ?_
      exact ⟨by rw [bI_f (by unfold X_isD; omega)], rfl⟩
    · skip
      have c4 : ¬ (57 < c) := c4
      refine T_p xr_138_12 xn_138 (pc' := 13) (ls' := [(0, .int (iI c))]) (st' := [.int (iI 1)]) rfl ?_
      refine T_p xr_138_13 xn_138 (pc' := 17) (ls' := [(0, .int (iI c))]) (st' := [.int (iI 1)]) rfl ?_
      refine T_iret xr_138_17 xf_138.2.2 (by decide) ?_
      refine hQ _ _ ?_
      exact ⟨by rw [bI_t (by unfold X_isD; omega)], rfl⟩
theorem r_isPartSign (sc : X_Sc) (S : X_S) (c : Int) (hc : -1 ≤ c ∧ c ≤ 255) : X_T sc 144 (0, [(0, .int (iI c))], [], S) (fun v S' => v = some (.int (iI (bI (X_isPB c)))) ∧ S' = S) := by
  refine X_QI (fun Q hQ => ?_)
  refine T_p xr_144_0 xn_144 (pc' := 1) (ls' := [(0, .int (iI c))]) (st' := [.int (iI c)]) rfl ?_
  refine T_p xr_144_1 xn_144 (pc' := 3) (ls' := [(0, .int (iI c))]) (st' := [.int (iI 33), .int (iI c)]) rfl ?_
  refine T_zicmp_lt xr_144_3 (t := 34) (pc' := 6) rfl rfl (fun c5 => ?_) (fun c5 => ?_)
  · skip
    have c5 : c < 33 := c5
    refine T_p xr_144_34 xn_144 (pc' := 35) (ls' := [(0, .int (iI c))]) (st' := [.int (iI 0)]) rfl ?_
    refine T_iret xr_144_35 xf_144.2.2 (by decide) ?_
    refine hQ _ _ ?_
    exact ⟨by rw [bI_f (by unfold X_isPB; omega)], rfl⟩
  · skip
    have c5 : ¬ (c < 33) := c5
    refine T_p xr_144_6 xn_144 (pc' := 7) (ls' := [(0, .int (iI c))]) (st' := [.int (iI c)]) rfl ?_
    refine T_p xr_144_7 xn_144 (pc' := 9) (ls' := [(0, .int (iI c))]) (st' := [.int (iI 126), .int (iI c)]) rfl ?_
    refine T_zicmp_gt xr_144_9 (t := 34) (pc' := 12) rfl rfl (fun c6 => ?_) (fun c6 => ?_)
    · skip
      have c6 : 126 < c := c6
      refine T_p xr_144_34 xn_144 (pc' := 35) (ls' := [(0, .int (iI c))]) (st' := [.int (iI 0)]) rfl ?_
      refine T_iret xr_144_35 xf_144.2.2 (by decide) ?_
      refine hQ _ _ ?_
      exact ⟨by rw [bI_f (by unfold X_isPB; omega)], rfl⟩
    · skip
      have c6 : ¬ (126 < c) := c6
      refine T_p xr_144_12 xn_144 (pc' := 13) (ls' := [(0, .int (iI c))]) (st' := [.int (iI c)]) rfl ?_
      refine T_p xr_144_13 xn_144 (pc' := 15) (ls' := [(0, .int (iI c))]) (st' := [.int (iI 34), .int (iI c)]) rfl ?_
      refine T_zicmp_eq xr_144_15 (t := 34) (pc' := 18) rfl rfl (fun c7 => ?_) (fun c7 => ?_)
      · skip
        have c7 : c = 34 := c7
        refine T_p xr_144_34 xn_144 (pc' := 35) (ls' := [(0, .int (iI c))]) (st' := [.int (iI 0)]) rfl ?_
        refine T_iret xr_144_35 xf_144.2.2 (by decide) ?_
        refine hQ _ _ ?_
        exact ⟨by rw [bI_f (by unfold X_isPB; omega)], rfl⟩
      · skip
        have c7 : ¬ (c = 34) := c7
        refine T_p xr_144_18 xn_144 (pc' := 19) (ls' := [(0, .int (iI c))]) (st' := [.int (iI c)]) rfl ?_
        refine T_p xr_144_19 xn_144 (pc' := 21) (ls' := [(0, .int (iI c))]) (st' := [.int (iI 40), .int (iI c)]) rfl ?_
        refine T_zicmp_eq xr_144_21 (t := 34) (pc' := 24) rfl rfl (fun c8 => ?_) (fun c8 => ?_)
        · skip
          have c8 : c = 40 := c8
          refine T_p xr_144_34 xn_144 (pc' := 35) (ls' := [(0, .int (iI c))]) (st' := [.int (iI 0)]) rfl ?_
          refine T_iret xr_144_35 xf_144.2.2 (by decide) ?_
          refine hQ _ _ ?_
          exact ⟨by rw [bI_f (by unfold X_isPB; omega)], rfl⟩
        · skip
          have c8 : ¬ (c = 40) := c8
          refine T_p xr_144_24 xn_144 (pc' := 25) (ls' := [(0, .int (iI c))]) (st' := [.int (iI c)]) rfl ?_
          refine T_p xr_144_25 xn_144 (pc' := 27) (ls' := [(0, .int (iI c))]) (st' := [.int (iI 41), .int (iI c)]) rfl ?_
          refine T_zicmp_eq xr_144_27 (t := 34) (pc' := 30) rfl rfl (fun c9 => ?_) (fun c9 => ?_)
          · skip
            have c9 : c = 41 := c9
            refine T_p xr_144_34 xn_144 (pc' := 35) (ls' := [(0, .int (iI c))]) (st' := [.int (iI 0)]) rfl ?_
            refine T_iret xr_144_35 xf_144.2.2 (by decide) ?_
            refine hQ _ _ ?_
            exact ⟨by rw [bI_f (by unfold X_isPB; omega)], rfl⟩
          · skip
            have c9 : ¬ (c = 41) := c9
            refine T_p xr_144_30 xn_144 (pc' := 31) (ls' := [(0, .int (iI c))]) (st' := [.int (iI 1)]) rfl ?_
            refine T_p xr_144_31 xn_144 (pc' := 35) (ls' := [(0, .int (iI c))]) (st' := [.int (iI 1)]) rfl ?_
            refine T_iret xr_144_35 xf_144.2.2 (by decide) ?_
            refine hQ _ _ ?_
            exact ⟨by rw [bI_t (by unfold X_isPB; omega)], rfl⟩
theorem r_sign (sc : X_Sc) (S : X_S) (o : Nat → Int) (nm : Int64) (tx : Int → Int) (tb : Int → Int) (len : Int) (k : Int) (hM : M_o S o nm) (hA532 : S.1 532 = .inl (.byte, 2000, .inl fun k : Nat => iI (tx (k : Int)))) (hlen : o 3 = len) (hl : 0 ≤ len ∧ len ≤ 2000) (htx : ∀ k, 0 ≤ k → k < len → tx k = tb k) (hk : 0 ≤ k ∧ k ≤ 4000) : X_T sc 136 (0, [(0, .ref 530), (1, .int (iI k))], [], S) (fun v S' => v = some (.int (iI (X_sg tb len k))) ∧ S' = S) := by
  refine X_QI (fun Q hQ => ?_)
  refine T_p xr_136_0 xn_136 (pc' := 1) (ls' := [(0, .ref 530), (1, .int (iI k))]) (st' := [.int (iI k)]) rfl ?_
  refine T_p xr_136_1 xn_136 (pc' := 2) (ls' := [(0, .ref 530), (1, .int (iI k))]) (st' := [.ref 530, .int (iI k)]) rfl ?_
  refine T_get xr_136_2 hM rfl (v := .int (iI (o 3))) rfl (pc' := 5) rfl ?_
  refine T_zicmp_ge xr_136_5 (t := 21) (pc' := 8) rfl rfl (fun c10 => ?_) (fun c10 => ?_)
  · skip
    have c10 : (o 3) ≤ k := c10
    refine T_p xr_136_21 xn_136 (pc' := 22) (ls' := [(0, .ref 530), (1, .int (iI k))]) (st' := [.int (iI 0)]) rfl ?_
    refine T_iret xr_136_22 xf_136.2.2 rfl ?_
    refine hQ _ _ ?_
    exact ⟨by rw [show X_sg tb len k = 0 from by unfold X_sg; rw [if_neg (by omega)]], rfl⟩
  · skip
    have c10 : ¬ ((o 3) ≤ k) := c10
    refine T_p xr_136_8 xn_136 (pc' := 9) (ls' := [(0, .ref 530), (1, .int (iI k))]) (st' := [.ref 530]) rfl ?_
    refine T_get xr_136_9 hM rfl (v := .ref 532) rfl (pc' := 12) rfl ?_
    refine T_p xr_136_12 xn_136 (pc' := 13) (ls' := [(0, .ref 530), (1, .int (iI k))]) (st' := [.int (iI k), .ref 532]) rfl ?_
    refine T_zbald xr_136_13 hA532 (pc' := 14) rfl ?_
    refine T_p xr_136_14 xn_136 (pc' := 17) (ls' := [(0, .ref 530), (1, .int (iI k))]) (st' := [.int (iI 255), .int (iI (tx k))]) rfl ?_
    refine T_zop xr_136_17 (pc' := 18) rfl (z := (tx k) % 256) (iI_m255 _) ?_
    refine T_p xr_136_18 xn_136 (pc' := 22) (ls' := [(0, .ref 530), (1, .int (iI k))]) (st' := [.int (iI ((tx k) % 256))]) rfl ?_
    refine T_iret xr_136_22 xf_136.2.2 rfl ?_
    refine hQ _ _ ?_
    exact ⟨by rw [show X_sg tb len k = tx k % 256 from by unfold X_sg; rw [if_pos (by omega), X_at_in (by omega), htx k (by omega) (by omega)]], rfl⟩
theorem r_pack (sc : X_Sc) (S : X_S) (o : Nat → Int) (nm : Int64) (tx : Int → Int) (tb : Int → Int) (len : Int) (f : Int) (t : Int) (hM : M_o S o nm) (hA532 : S.1 532 = .inl (.byte, 2000, .inl fun k : Nat => iI (tx (k : Int)))) (hlen : o 3 = len) (hl : 0 ≤ len ∧ len ≤ 2000) (htx : ∀ k, 0 ≤ k → k < len → tx k = tb k) (hf : 0 ≤ f ∧ f ≤ 2001) (ht : t ≤ len ∧ -1 ≤ t) : X_T sc 142 (0, [(0, .ref 530), (1, .int (iI f)), (2, .int (iI t))], [], S) (fun v S' => ∃ (nm1 : Int64), v = none ∧ (t - f ≤ 8 → nm1 = X_pk tb len f (t - f).toNat) ∧ M_o S' o nm1 ∧ X_Fr (fun q => q = 530) S S') := by
  refine X_QI (fun Q hQ => ?_)
  refine T_p xr_142_0 xn_142 (pc' := 1) (ls' := [(0, .ref 530), (1, .int (iI f)), (2, .int (iI t))]) (st' := [.ref 530]) rfl ?_
  refine T_p xr_142_1 xn_142 (pc' := 2) (ls' := [(0, .ref 530), (1, .int (iI f)), (2, .int (iI t))]) (st' := [.long (0 : Int64), .ref 530]) rfl ?_
  refine T_put xr_142_2 hM rfl (Nat.le_of_ble_eq_true rfl) rfl (fs' := [.ref 531, .int (iI (o 1)), .ref 532, .int (iI (o 3)), .int (iI (o 4)), .int (iI (o 5)), .int (iI (o 6)), .int (iI (o 7)), .int (iI (o 8)), .int (iI (o 9)), .int (iI (o 10)), .int (iI (o 11)), .long (0 : Int64), .ref 533, .ref 534, .ref 535, .ref 536, .ref 537, .ref 538, .ref 539, .ref 540, .ref 541, .ref 542, .ref 543, .ref 544, .ref 545, .ref 546, .ref 547, .int (iI (o 28)), .int (iI (o 29)), .int (iI (o 30)), .int (iI (o 31)), .int (iI (o 32)), .int (iI (o 33)), .ref 548, .ref 549, .ref 550, .ref 551, .int (iI (o 38)), .ref 552, .ref 553, .ref 554, .ref 555, .ref 556, .ref 557, .ref 558, .ref 559, .ref 560, .ref 561, .int (iI (o 49)), .ref 562, .ref 563, .ref 564, .ref 565, .ref 566, .ref 567, .ref 568, .ref 569, .int (iI (o 58)), .ref 570, .ref 571, .ref 572, .ref 573, .ref 574, .ref 575, .ref 576, .ref 577, .ref 578, .int (iI (o 68)), .int (iI (o 69)), .int (iI (o 70)), .ref 579]) rfl (pc' := 5) rfl (fun S11 h12 n13 e14 => ?_)
  refine T_p xr_142_5 xn_142 (pc' := 6) (ls' := [(0, .ref 530), (1, .int (iI f)), (2, .int (iI t))]) (st' := [.int (iI f)]) rfl ?_
  refine T_p xr_142_6 xn_142 (pc' := 7) (ls' := [(3, .int (iI f)), (0, .ref 530), (1, .int (iI f)), (2, .int (iI t))]) (st' := []) rfl ?_
  have L15 : ∀ (m17 : Nat) (S20 : X_S) (k : Int) (n1 : Int64) (hM1 : S20.1 530 = .inr (11, [.ref 531, .int (iI (o 1)), .ref 532, .int (iI (o 3)), .int (iI (o 4)), .int (iI (o 5)), .int (iI (o 6)), .int (iI (o 7)), .int (iI (o 8)), .int (iI (o 9)), .int (iI (o 10)), .int (iI (o 11)), .long n1, .ref 533, .ref 534, .ref 535, .ref 536, .ref 537, .ref 538, .ref 539, .ref 540, .ref 541, .ref 542, .ref 543, .ref 544, .ref 545, .ref 546, .ref 547, .int (iI (o 28)), .int (iI (o 29)), .int (iI (o 30)), .int (iI (o 31)), .int (iI (o 32)), .int (iI (o 33)), .ref 548, .ref 549, .ref 550, .ref 551, .int (iI (o 38)), .ref 552, .ref 553, .ref 554, .ref 555, .ref 556, .ref 557, .ref 558, .ref 559, .ref 560, .ref 561, .int (iI (o 49)), .ref 562, .ref 563, .ref 564, .ref 565, .ref 566, .ref 567, .ref 568, .ref 569, .int (iI (o 58)), .ref 570, .ref 571, .ref 572, .ref 573, .ref 574, .ref 575, .ref 576, .ref 577, .ref 578, .int (iI (o 68)), .int (iI (o 69)), .int (iI (o 70)), .ref 579])) (hF19 : X_Fr (fun q => q = 530) S11 S20) (hk : f ≤ k ∧ (k ≤ t ∨ k = f) ∧ k ≤ f + 8) (hn1 : n1 = X_pk tb len f (k - f).toNat) (hm18 : f + 8 - k < m17), X_T sc 142 (7, [(3, .int (iI k)), (0, .ref 530), (1, .int (iI f)), (2, .int (iI t))], [], S20) Q := by
    intro m17
    induction m17 with
    | zero =>
      intro S20 k n1 hM1 hF19 hk hn1 hm18
      exact (show False by omega).elim
    | succ m17 ih16 =>
      intro S20 k n1 hM1 hF19 hk hn1 hm18
      refine T_p xr_142_7 xn_142 (pc' := 8) (ls' := [(3, .int (iI k)), (0, .ref 530), (1, .int (iI f)), (2, .int (iI t))]) (st' := [.int (iI k)]) rfl ?_
      refine T_p xr_142_8 xn_142 (pc' := 9) (ls' := [(3, .int (iI k)), (0, .ref 530), (1, .int (iI f)), (2, .int (iI t))]) (st' := [.int (iI t), .int (iI k)]) rfl ?_
      refine T_zicmp_ge xr_142_9 (t := 44) (pc' := 12) rfl rfl (fun c21 => ?_) (fun c21 => ?_)
      · skip
        have c21 : t ≤ k := c21
        refine T_vret xr_142_44 xf_142.2.2 ?_
        refine hQ _ _ ?_
        exact ⟨n1, rfl, fun h => by
              rw [hn1]
              rw [show (k - f).toNat = (t - f).toNat by omega], hM1, ((X_Fr.rf).tr (X_Fr.of n13 e14 (by omega))).tr (X_Fr.mono ⟨hF19.1, hF19.2⟩ (fun q hq => (by omega)))⟩
      · skip
        have c21 : ¬ (t ≤ k) := c21
        refine T_p xr_142_12 xn_142 (pc' := 13) (ls' := [(3, .int (iI k)), (0, .ref 530), (1, .int (iI f)), (2, .int (iI t))]) (st' := [.int (iI k)]) rfl ?_
        refine T_p xr_142_13 xn_142 (pc' := 14) (ls' := [(3, .int (iI k)), (0, .ref 530), (1, .int (iI f)), (2, .int (iI t))]) (st' := [.int (iI f), .int (iI k)]) rfl ?_
        refine T_p xr_142_14 xn_142 (pc' := 16) (ls' := [(3, .int (iI k)), (0, .ref 530), (1, .int (iI f)), (2, .int (iI t))]) (st' := [.int (iI 8), .int (iI f), .int (iI k)]) rfl ?_
        refine T_ziadd xr_142_16 (z := f + 8) rfl (pc' := 17) rfl ?_
        refine T_zicmp_ge xr_142_17 (t := 44) (pc' := 20) rfl rfl (fun c22 => ?_) (fun c22 => ?_)
        · skip
          have c22 : (f + 8) ≤ k := c22
          refine T_vret xr_142_44 xf_142.2.2 ?_
          refine hQ _ _ ?_
          exact ⟨n1, rfl, fun h => by
                rw [hn1]
                rw [show (k - f).toNat = (t - f).toNat by omega], hM1, ((X_Fr.rf).tr (X_Fr.of n13 e14 (by omega))).tr (X_Fr.mono ⟨hF19.1, hF19.2⟩ (fun q hq => (by omega)))⟩
        · skip
          have c22 : ¬ ((f + 8) ≤ k) := c22
          refine T_p xr_142_20 xn_142 (pc' := 21) (ls' := [(3, .int (iI k)), (0, .ref 530), (1, .int (iI f)), (2, .int (iI t))]) (st' := [.ref 530]) rfl ?_
          refine T_p xr_142_21 xn_142 (pc' := 22) (ls' := [(3, .int (iI k)), (0, .ref 530), (1, .int (iI f)), (2, .int (iI t))]) (st' := [.ref 530, .ref 530]) rfl ?_
          refine T_get xr_142_22 hM1 rfl (v := .long n1) rfl (pc' := 25) rfl ?_
          refine T_p xr_142_25 xn_142 (pc' := 27) (ls' := [(3, .int (iI k)), (0, .ref 530), (1, .int (iI f)), (2, .int (iI t))]) (st' := [.int (iI 8), .long n1, .ref 530]) rfl ?_
          refine T_p xr_142_27 xn_142 (pc' := 28) (ls' := [(3, .int (iI k)), (0, .ref 530), (1, .int (iI f)), (2, .int (iI t))]) (st' := [.long (n1 <<< ((iI 8).toInt64 &&& 63)), .ref 530]) rfl ?_
          refine T_p xr_142_28 xn_142 (pc' := 29) (ls' := [(3, .int (iI k)), (0, .ref 530), (1, .int (iI f)), (2, .int (iI t))]) (st' := [.ref 530, .long (n1 <<< ((iI 8).toInt64 &&& 63)), .ref 530]) rfl ?_
          refine T_p xr_142_29 xn_142 (pc' := 30) (ls' := [(3, .int (iI k)), (0, .ref 530), (1, .int (iI f)), (2, .int (iI t))]) (st' := [.int (iI k), .ref 530, .long (n1 <<< ((iI 8).toInt64 &&& 63)), .ref 530]) rfl ?_
          refine T_cv (S := S20) (q := 530) xr_142_30 xf_136.1 xf_136.2.1 xn_136 (as := [.int (iI k)]) (r := [.long (n1 <<< ((iI 8).toInt64 &&& 63)), .ref 530]) rfl hM1 (Nat.le_of_ble_eq_true rfl) (Nat.le_of_ble_eq_true rfl) (pc' := 33) rfl (ls' := [(0, .ref 530), (1, .int (iI k))]) rfl ?_
          have h23 := (hF19.1 532 (by omega)).trans ((n13 532 (by decide)).trans (hA532))
          refine T_mono (r_sign sc S20 o n1 tx tb len k hM1 h23 (show (o 3) = len from by first | assumption | omega) hl htx (by omega)) (fun v24 S25 h26 => ?_)
          rcases h26 with ⟨hv27, hf28⟩
          rw [hv27]
          rw [hf28]
          have hg29 := X_sg_r (tb := tb) (len := len) (k := k) (by omega)
          have hg30 := X_sg_c (tb := tb) (len := len) (k := k)
          show X_T sc 142 (33, [(3, .int (iI k)), (0, .ref 530), (1, .int (iI f)), (2, .int (iI t))], [.int (iI (X_sg tb len k)), .long (n1 <<< ((iI 8).toInt64 &&& 63)), .ref 530], S20) _
          refine T_p xr_142_33 xn_142 (pc' := 34) (ls' := [(3, .int (iI k)), (0, .ref 530), (1, .int (iI f)), (2, .int (iI t))]) (st' := [.long ((iI (X_sg tb len k)).toInt64), .long (n1 <<< ((iI 8).toInt64 &&& 63)), .ref 530]) rfl ?_
          refine T_p xr_142_34 xn_142 (pc' := 35) (ls' := [(3, .int (iI k)), (0, .ref 530), (1, .int (iI f)), (2, .int (iI t))]) (st' := [.long ((n1 <<< ((iI 8).toInt64 &&& 63)) ||| ((iI (X_sg tb len k)).toInt64)), .ref 530]) rfl ?_
          refine T_le (y := (X_pk tb len f (k + 1 - f).toNat)) (by rw [hn1, show X_sg tb len k = X_at tb len k by omega]; exact X_pk_go (by omega)) ?_
          refine T_put xr_142_35 hM1 rfl (Nat.le_of_ble_eq_true rfl) rfl (fs' := [.ref 531, .int (iI (o 1)), .ref 532, .int (iI (o 3)), .int (iI (o 4)), .int (iI (o 5)), .int (iI (o 6)), .int (iI (o 7)), .int (iI (o 8)), .int (iI (o 9)), .int (iI (o 10)), .int (iI (o 11)), .long (X_pk tb len f (k + 1 - f).toNat), .ref 533, .ref 534, .ref 535, .ref 536, .ref 537, .ref 538, .ref 539, .ref 540, .ref 541, .ref 542, .ref 543, .ref 544, .ref 545, .ref 546, .ref 547, .int (iI (o 28)), .int (iI (o 29)), .int (iI (o 30)), .int (iI (o 31)), .int (iI (o 32)), .int (iI (o 33)), .ref 548, .ref 549, .ref 550, .ref 551, .int (iI (o 38)), .ref 552, .ref 553, .ref 554, .ref 555, .ref 556, .ref 557, .ref 558, .ref 559, .ref 560, .ref 561, .int (iI (o 49)), .ref 562, .ref 563, .ref 564, .ref 565, .ref 566, .ref 567, .ref 568, .ref 569, .int (iI (o 58)), .ref 570, .ref 571, .ref 572, .ref 573, .ref 574, .ref 575, .ref 576, .ref 577, .ref 578, .int (iI (o 68)), .int (iI (o 69)), .int (iI (o 70)), .ref 579]) rfl (pc' := 38) rfl (fun S31 h32 n33 e34 => ?_)
          refine T_ziinc xr_142_38 xn_142 (a := k) (z := k + 1) rfl (Nat.le_of_ble_eq_true rfl) (by omega) (ls' := [(3, .int (iI (k + 1))), (0, .ref 530), (1, .int (iI f)), (2, .int (iI t))]) rfl (pc' := 41) rfl ?_
          refine T_p xr_142_41 xn_142 (pc' := 7) (ls' := [(3, .int (iI (k + 1))), (0, .ref 530), (1, .int (iI f)), (2, .int (iI t))]) (st' := []) rfl ?_
          exact ih16 S31 (k + 1) (X_pk tb len f (k + 1 - f).toNat) h32 (hF19.tr ((X_Fr.rf).tr (X_Fr.of n33 e34 (by omega)))) (by omega) rfl (by omega)
  exact L15 (f + 8 + 1).toNat S11 f (0 : Int64) h12 ((X_Fr.rf)) (by omega) (by rw [show (f - f).toNat = 0 by omega]; rfl) (by omega)
