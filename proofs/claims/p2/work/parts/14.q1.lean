theorem xr_168_0 : X_row 168 0 = some (0, (.iload_n 1, 1), (0, 0, 0)) := by decide +kernel
theorem xr_168_1 : X_row 168 1 = some (1, (.istore_n 3, 1), (0, 0, 0)) := by decide +kernel
theorem xr_168_2 : X_row 168 2 = some (2, (.iload_n 3, 1), (0, 0, 0)) := by decide +kernel
theorem xr_168_3 : X_row 168 3 = some (3, (.ifCond .lt 26, 3), (0, 0, 0)) := by decide +kernel
theorem xr_168_6 : X_row 168 6 = some (6, (.iload_n 3, 1), (0, 0, 0)) := by decide +kernel
theorem xr_168_7 : X_row 168 7 = some (7, (.iload_n 2, 1), (0, 0, 0)) := by decide +kernel
theorem xr_168_8 : X_row 168 8 = some (8, (.if_icmp .eq 21, 3), (0, 0, 0)) := by decide +kernel
theorem xr_168_11 : X_row 168 11 = some (11, (.aload_n 0, 1), (0, 0, 0)) := by decide +kernel
theorem xr_168_12 : X_row 168 12 = some (12, (.getfield 134, 3), (11, 16, 32)) := by decide +kernel
theorem xr_168_15 : X_row 168 15 = some (15, (.bipush 11, 2), (0, 0, 0)) := by decide +kernel
theorem xr_168_17 : X_row 168 17 = some (17, (.aload_n 0, 1), (0, 0, 0)) := by decide +kernel
theorem xr_168_18 : X_row 168 18 = some (18, (.getfield 91, 3), (11, 4, 8)) := by decide +kernel
theorem xr_168_21 : X_row 168 21 = some (21, (.imul, 1), (0, 0, 0)) := by decide +kernel
theorem xr_168_22 : X_row 168 22 = some (22, (.iload_n 3, 1), (0, 0, 0)) := by decide +kernel
theorem xr_168_23 : X_row 168 23 = some (23, (.iadd, 1), (0, 0, 0)) := by decide +kernel
theorem xr_168_24 : X_row 168 24 = some (24, (.iaload, 1), (0, 0, 0)) := by decide +kernel
theorem xr_168_25 : X_row 168 25 = some (25, (.istore_n 3, 1), (0, 0, 0)) := by decide +kernel
theorem xr_168_26 : X_row 168 26 = some (26, (.goto (-24), 3), (0, 0, 0)) := by decide +kernel
theorem xr_168_29 : X_row 168 29 = some (29, (.iload_n 3, 1), (0, 0, 0)) := by decide +kernel
theorem xr_168_30 : X_row 168 30 = some (30, (.iload_n 2, 1), (0, 0, 0)) := by decide +kernel
theorem xr_168_31 : X_row 168 31 = some (31, (.if_icmp .ne 7, 3), (0, 0, 0)) := by decide +kernel
theorem xr_168_34 : X_row 168 34 = some (34, (.iconst 1, 1), (0, 0, 0)) := by decide +kernel
theorem xr_168_35 : X_row 168 35 = some (35, (.goto 4, 3), (0, 0, 0)) := by decide +kernel
theorem xr_168_38 : X_row 168 38 = some (38, (.iconst 0, 1), (0, 0, 0)) := by decide +kernel
theorem xr_168_39 : X_row 168 39 = some (39, (.ireturn, 1), (0, 0, 0)) := by decide +kernel
theorem xr_171_0 : X_row 171 0 = some (0, (.lload_n 0, 1), (0, 0, 0)) := by decide +kernel
theorem xr_171_1 : X_row 171 1 = some (1, (.lconst 0, 1), (0, 0, 0)) := by decide +kernel
theorem xr_171_2 : X_row 171 2 = some (2, (.lcmp, 1), (0, 0, 0)) := by decide +kernel
theorem xr_171_3 : X_row 171 3 = some (3, (.ifCond .lt 17, 3), (0, 0, 0)) := by decide +kernel
theorem xr_171_6 : X_row 171 6 = some (6, (.lload_n 2, 1), (0, 0, 0)) := by decide +kernel
theorem xr_171_7 : X_row 171 7 = some (7, (.lconst 0, 1), (0, 0, 0)) := by decide +kernel
theorem xr_171_8 : X_row 171 8 = some (8, (.lcmp, 1), (0, 0, 0)) := by decide +kernel
theorem xr_171_9 : X_row 171 9 = some (9, (.ifCond .lt 11, 3), (0, 0, 0)) := by decide +kernel
theorem xr_171_12 : X_row 171 12 = some (12, (.lload_n 0, 1), (0, 0, 0)) := by decide +kernel
theorem xr_171_13 : X_row 171 13 = some (13, (.lload_n 2, 1), (0, 0, 0)) := by decide +kernel
theorem xr_171_14 : X_row 171 14 = some (14, (.ladd, 1), (0, 0, 0)) := by decide +kernel
theorem xr_171_15 : X_row 171 15 = some (15, (.lconst 0, 1), (0, 0, 0)) := by decide +kernel
theorem xr_171_16 : X_row 171 16 = some (16, (.lcmp, 1), (0, 0, 0)) := by decide +kernel
theorem xr_171_17 : X_row 171 17 = some (17, (.ifCond .ge 9, 3), (0, 0, 0)) := by decide +kernel
theorem xr_171_20 : X_row 171 20 = some (20, (.ldc2_w 333, 3), (18446744073709551615, 1417, 0)) := by decide +kernel
theorem xr_171_23 : X_row 171 23 = some (23, (.goto 6, 3), (0, 0, 0)) := by decide +kernel
theorem xr_171_26 : X_row 171 26 = some (26, (.lload_n 0, 1), (0, 0, 0)) := by decide +kernel
theorem xr_171_27 : X_row 171 27 = some (27, (.lload_n 2, 1), (0, 0, 0)) := by decide +kernel
theorem xr_171_28 : X_row 171 28 = some (28, (.ladd, 1), (0, 0, 0)) := by decide +kernel
theorem xr_171_29 : X_row 171 29 = some (29, (.lreturn, 1), (0, 0, 0)) := by decide +kernel
theorem xr_172_0 : X_row 172 0 = some (0, (.lload_n 0, 1), (0, 0, 0)) := by decide +kernel
theorem xr_172_1 : X_row 172 1 = some (1, (.lconst 0, 1), (0, 0, 0)) := by decide +kernel
theorem xr_172_2 : X_row 172 2 = some (2, (.lcmp, 1), (0, 0, 0)) := by decide +kernel
theorem xr_172_3 : X_row 172 3 = some (3, (.ifCond .eq 9, 3), (0, 0, 0)) := by decide +kernel
theorem xr_172_6 : X_row 172 6 = some (6, (.lload_n 2, 1), (0, 0, 0)) := by decide +kernel
theorem xr_172_7 : X_row 172 7 = some (7, (.lconst 0, 1), (0, 0, 0)) := by decide +kernel
theorem xr_172_8 : X_row 172 8 = some (8, (.lcmp, 1), (0, 0, 0)) := by decide +kernel
theorem xr_172_9 : X_row 172 9 = some (9, (.ifCond .ne 5, 3), (0, 0, 0)) := by decide +kernel
theorem xr_172_12 : X_row 172 12 = some (12, (.lconst 0, 1), (0, 0, 0)) := by decide +kernel
theorem xr_172_13 : X_row 172 13 = some (13, (.lreturn, 1), (0, 0, 0)) := by decide +kernel
theorem xr_172_14 : X_row 172 14 = some (14, (.lload_n 0, 1), (0, 0, 0)) := by decide +kernel
theorem xr_172_15 : X_row 172 15 = some (15, (.lconst 0, 1), (0, 0, 0)) := by decide +kernel
theorem xr_172_16 : X_row 172 16 = some (16, (.lcmp, 1), (0, 0, 0)) := by decide +kernel
theorem xr_172_17 : X_row 172 17 = some (17, (.ifCond .lt 19, 3), (0, 0, 0)) := by decide +kernel
theorem xr_172_20 : X_row 172 20 = some (20, (.lload_n 2, 1), (0, 0, 0)) := by decide +kernel
theorem xr_172_21 : X_row 172 21 = some (21, (.lconst 0, 1), (0, 0, 0)) := by decide +kernel
theorem xr_172_22 : X_row 172 22 = some (22, (.lcmp, 1), (0, 0, 0)) := by decide +kernel
theorem xr_172_23 : X_row 172 23 = some (23, (.ifCond .lt 13, 3), (0, 0, 0)) := by decide +kernel
theorem xr_172_26 : X_row 172 26 = some (26, (.lload_n 0, 1), (0, 0, 0)) := by decide +kernel
theorem xr_172_27 : X_row 172 27 = some (27, (.ldc2_w 335, 3), (9223372036854775807, 1421, 0)) := by decide +kernel
theorem xr_172_30 : X_row 172 30 = some (30, (.lload_n 2, 1), (0, 0, 0)) := by decide +kernel
theorem xr_172_31 : X_row 172 31 = some (31, (.ldiv, 1), (0, 0, 0)) := by decide +kernel
theorem xr_172_32 : X_row 172 32 = some (32, (.lcmp, 1), (0, 0, 0)) := by decide +kernel
theorem xr_172_33 : X_row 172 33 = some (33, (.ifCond .le 9, 3), (0, 0, 0)) := by decide +kernel
theorem xr_172_36 : X_row 172 36 = some (36, (.ldc2_w 333, 3), (18446744073709551615, 1417, 0)) := by decide +kernel
theorem xr_172_39 : X_row 172 39 = some (39, (.goto 6, 3), (0, 0, 0)) := by decide +kernel
theorem xr_172_42 : X_row 172 42 = some (42, (.lload_n 0, 1), (0, 0, 0)) := by decide +kernel
theorem xr_172_43 : X_row 172 43 = some (43, (.lload_n 2, 1), (0, 0, 0)) := by decide +kernel
theorem xr_172_44 : X_row 172 44 = some (44, (.lmul, 1), (0, 0, 0)) := by decide +kernel
theorem xr_172_45 : X_row 172 45 = some (45, (.lreturn, 1), (0, 0, 0)) := by decide +kernel
theorem xr_176_0 : X_row 176 0 = some (0, (.iload_n 2, 1), (0, 0, 0)) := by decide +kernel
theorem xr_176_1 : X_row 176 1 = some (1, (.iload_n 1, 1), (0, 0, 0)) := by decide +kernel
theorem xr_176_2 : X_row 176 2 = some (2, (.iconst 1, 1), (0, 0, 0)) := by decide +kernel
theorem xr_176_3 : X_row 176 3 = some (3, (.iadd, 1), (0, 0, 0)) := by decide +kernel
theorem xr_176_4 : X_row 176 4 = some (4, (.if_icmp .ne 16, 3), (0, 0, 0)) := by decide +kernel
theorem xr_176_7 : X_row 176 7 = some (7, (.aload_n 0, 1), (0, 0, 0)) := by decide +kernel
theorem xr_176_8 : X_row 176 8 = some (8, (.getfield 200, 3), (11, 36, 72)) := by decide +kernel
theorem xr_176_11 : X_row 176 11 = some (11, (.iload_n 1, 1), (0, 0, 0)) := by decide +kernel
theorem xr_176_12 : X_row 176 12 = some (12, (.iaload, 1), (0, 0, 0)) := by decide +kernel
theorem xr_176_13 : X_row 176 13 = some (13, (.ifCond .lt 7, 3), (0, 0, 0)) := by decide +kernel
theorem xr_176_16 : X_row 176 16 = some (16, (.iconst 1, 1), (0, 0, 0)) := by decide +kernel
theorem xr_176_17 : X_row 176 17 = some (17, (.goto 4, 3), (0, 0, 0)) := by decide +kernel
theorem xr_176_20 : X_row 176 20 = some (20, (.iconst 0, 1), (0, 0, 0)) := by decide +kernel
theorem xr_176_21 : X_row 176 21 = some (21, (.ireturn, 1), (0, 0, 0)) := by decide +kernel
theorem xn_168 : X_nL 168 = 4 := by decide +kernel
theorem xf_168 : X_na 168 = 2 ∧ X_ci 168 = 11 ∧ X_rt 168 = (some .boolean) := by decide +kernel
theorem xn_171 : X_nL 171 = 4 := by decide +kernel
theorem xf_171 : X_na 171 = 2 ∧ X_ci 171 = 11 ∧ X_rt 171 = (some .long) := by decide +kernel
theorem xn_172 : X_nL 172 = 4 := by decide +kernel
theorem xf_172 : X_na 172 = 2 ∧ X_ci 172 = 11 ∧ X_rt 172 = (some .long) := by decide +kernel
theorem xn_176 : X_nL 176 = 3 := by decide +kernel
theorem xf_176 : X_na 176 = 2 ∧ X_ci 176 = 11 ∧ X_rt 176 = (some .boolean) := by decide +kernel
theorem r_sum (sc : X_Sc) (S : X_S) (pa_ : Nat) (pb_ : Nat) : X_T sc 171 (0, [(0, .long (X_st (-1) pa_)), (2, .long (X_st (-1) pb_))], [], S) (fun v S' => v = some (.long (X_st (-1) (pa_ + pb_))) ∧ S' = S) := by
  refine X_QI (fun Q hQ => ?_)
  refine T_p xr_171_0 xn_171 (pc' := 1) (ls' := [(0, .long (X_st (-1) pa_)), (2, .long (X_st (-1) pb_))]) (st' := [.long (X_st (-1) pa_)]) rfl ?_
  refine T_p xr_171_1 xn_171 (pc' := 2) (ls' := [(0, .long (X_st (-1) pa_)), (2, .long (X_st (-1) pb_))]) (st' := [.long (iL 0), .long (X_st (-1) pa_)]) rfl ?_
  refine T_lc_lt xr_171_2 xr_171_3 (t := 20) (pc' := 6) rfl rfl (fun c562 => ?_) (fun c562 => ?_)
  · skip
    have c562 : (X_st (-1) pa_) < (iL 0) := c562
    refine T_p xr_171_20 xn_171 (pc' := 23) (ls' := [(0, .long (X_st (-1) pa_)), (2, .long (X_st (-1) pb_))]) (st' := [.long (iL (-1))]) rfl ?_
    refine T_p xr_171_23 xn_171 (pc' := 29) (ls' := [(0, .long (X_st (-1) pa_)), (2, .long (X_st (-1) pb_))]) (st' := [.long (iL (-1))]) rfl ?_
    refine T_lret xr_171_29 xf_171.2.2 rfl ?_
    refine hQ _ _ ?_
    exact ⟨(congrArg (fun z => some (Value.long z)) (X_sum_f (by omega) (by first | exact Or.inl ⟨Or.inl (by first | assumption | exact Classical.not_not.mp (by assumption) | exact Int64.not_lt.mpr (by assumption) | exact Int64.not_le.mp (by assumption)), rfl⟩ | exact Or.inl ⟨Or.inr (by first | assumption | exact Classical.not_not.mp (by assumption) | exact Int64.not_lt.mpr (by assumption) | exact Int64.not_le.mp (by assumption)), rfl⟩ | exact Or.inr (Or.inl ⟨by first | assumption | exact Classical.not_not.mp (by assumption) | exact Int64.not_lt.mpr (by assumption) | exact Int64.not_le.mp (by assumption), by first | assumption | exact Classical.not_not.mp (by assumption) | exact Int64.not_lt.mpr (by assumption) | exact Int64.not_le.mp (by assumption), by first | assumption | exact Classical.not_not.mp (by assumption) | exact Int64.not_lt.mpr (by assumption) | exact Int64.not_le.mp (by assumption), rfl⟩) | exact Or.inr (Or.inr ⟨by first | assumption | exact Classical.not_not.mp (by assumption) | exact Int64.not_lt.mpr (by assumption) | exact Int64.not_le.mp (by assumption), by first | assumption | exact Classical.not_not.mp (by assumption) | exact Int64.not_lt.mpr (by assumption) | exact Int64.not_le.mp (by assumption), by first | assumption | exact Classical.not_not.mp (by assumption) | exact Int64.not_lt.mpr (by assumption) | exact Int64.not_le.mp (by assumption), rfl⟩)))), rfl⟩
  · skip
    have c562 : ¬ ((X_st (-1) pa_) < (iL 0)) := c562
    refine T_p xr_171_6 xn_171 (pc' := 7) (ls' := [(0, .long (X_st (-1) pa_)), (2, .long (X_st (-1) pb_))]) (st' := [.long (X_st (-1) pb_)]) rfl ?_
    refine T_p xr_171_7 xn_171 (pc' := 8) (ls' := [(0, .long (X_st (-1) pa_)), (2, .long (X_st (-1) pb_))]) (st' := [.long (iL 0), .long (X_st (-1) pb_)]) rfl ?_
    refine T_lc_lt xr_171_8 xr_171_9 (t := 20) (pc' := 12) rfl rfl (fun c563 => ?_) (fun c563 => ?_)
    · skip
      have c563 : (X_st (-1) pb_) < (iL 0) := c563
      refine T_p xr_171_20 xn_171 (pc' := 23) (ls' := [(0, .long (X_st (-1) pa_)), (2, .long (X_st (-1) pb_))]) (st' := [.long (iL (-1))]) rfl ?_
      refine T_p xr_171_23 xn_171 (pc' := 29) (ls' := [(0, .long (X_st (-1) pa_)), (2, .long (X_st (-1) pb_))]) (st' := [.long (iL (-1))]) rfl ?_
      refine T_lret xr_171_29 xf_171.2.2 rfl ?_
      refine hQ _ _ ?_
      exact ⟨(congrArg (fun z => some (Value.long z)) (X_sum_f (by omega) (by first | exact Or.inl ⟨Or.inl (by first | assumption | exact Classical.not_not.mp (by assumption) | exact Int64.not_lt.mpr (by assumption) | exact Int64.not_le.mp (by assumption)), rfl⟩ | exact Or.inl ⟨Or.inr (by first | assumption | exact Classical.not_not.mp (by assumption) | exact Int64.not_lt.mpr (by assumption) | exact Int64.not_le.mp (by assumption)), rfl⟩ | exact Or.inr (Or.inl ⟨by first | assumption | exact Classical.not_not.mp (by assumption) | exact Int64.not_lt.mpr (by assumption) | exact Int64.not_le.mp (by assumption), by first | assumption | exact Classical.not_not.mp (by assumption) | exact Int64.not_lt.mpr (by assumption) | exact Int64.not_le.mp (by assumption), by first | assumption | exact Classical.not_not.mp (by assumption) | exact Int64.not_lt.mpr (by assumption) | exact Int64.not_le.mp (by assumption), rfl⟩) | exact Or.inr (Or.inr ⟨by first | assumption | exact Classical.not_not.mp (by assumption) | exact Int64.not_lt.mpr (by assumption) | exact Int64.not_le.mp (by assumption), by first | assumption | exact Classical.not_not.mp (by assumption) | exact Int64.not_lt.mpr (by assumption) | exact Int64.not_le.mp (by assumption), by first | assumption | exact Classical.not_not.mp (by assumption) | exact Int64.not_lt.mpr (by assumption) | exact Int64.not_le.mp (by assumption), rfl⟩)))), rfl⟩
    · skip
      have c563 : ¬ ((X_st (-1) pb_) < (iL 0)) := c563
      refine T_p xr_171_12 xn_171 (pc' := 13) (ls' := [(0, .long (X_st (-1) pa_)), (2, .long (X_st (-1) pb_))]) (st' := [.long (X_st (-1) pa_)]) rfl ?_
      refine T_p xr_171_13 xn_171 (pc' := 14) (ls' := [(0, .long (X_st (-1) pa_)), (2, .long (X_st (-1) pb_))]) (st' := [.long (X_st (-1) pb_), .long (X_st (-1) pa_)]) rfl ?_
      refine T_p xr_171_14 xn_171 (pc' := 15) (ls' := [(0, .long (X_st (-1) pa_)), (2, .long (X_st (-1) pb_))]) (st' := [.long ((X_st (-1) pa_) + (X_st (-1) pb_))]) rfl ?_
      refine T_p xr_171_15 xn_171 (pc' := 16) (ls' := [(0, .long (X_st (-1) pa_)), (2, .long (X_st (-1) pb_))]) (st' := [.long (iL 0), .long ((X_st (-1) pa_) + (X_st (-1) pb_))]) rfl ?_
      refine T_lc_ge xr_171_16 xr_171_17 (t := 26) (pc' := 20) rfl rfl (fun c564 => ?_) (fun c564 => ?_)
      · skip
        have c564 : (iL 0) ≤ ((X_st (-1) pa_) + (X_st (-1) pb_)) := c564
        refine T_p xr_171_26 xn_171 (pc' := 27) (ls' := [(0, .long (X_st (-1) pa_)), (2, .long (X_st (-1) pb_))]) (st' := [.long (X_st (-1) pa_)]) rfl ?_
        refine T_p xr_171_27 xn_171 (pc' := 28) (ls' := [(0, .long (X_st (-1) pa_)), (2, .long (X_st (-1) pb_))]) (st' := [.long (X_st (-1) pb_), .long (X_st (-1) pa_)]) rfl ?_
        refine T_p xr_171_28 xn_171 (pc' := 29) (ls' := [(0, .long (X_st (-1) pa_)), (2, .long (X_st (-1) pb_))]) (st' := [.long ((X_st (-1) pa_) + (X_st (-1) pb_))]) rfl ?_
        refine T_lret xr_171_29 xf_171.2.2 rfl ?_
        refine hQ _ _ ?_
        exact ⟨(congrArg (fun z => some (Value.long z)) (X_sum_f (by omega) (by first | exact Or.inl ⟨Or.inl (by first | assumption | exact Classical.not_not.mp (by assumption) | exact Int64.not_lt.mpr (by assumption) | exact Int64.not_le.mp (by assumption)), rfl⟩ | exact Or.inl ⟨Or.inr (by first | assumption | exact Classical.not_not.mp (by assumption) | exact Int64.not_lt.mpr (by assumption) | exact Int64.not_le.mp (by assumption)), rfl⟩ | exact Or.inr (Or.inl ⟨by first | assumption | exact Classical.not_not.mp (by assumption) | exact Int64.not_lt.mpr (by assumption) | exact Int64.not_le.mp (by assumption), by first | assumption | exact Classical.not_not.mp (by assumption) | exact Int64.not_lt.mpr (by assumption) | exact Int64.not_le.mp (by assumption), by first | assumption | exact Classical.not_not.mp (by assumption) | exact Int64.not_lt.mpr (by assumption) | exact Int64.not_le.mp (by assumption), rfl⟩) | exact Or.inr (Or.inr ⟨by first | assumption | exact Classical.not_not.mp (by assumption) | exact Int64.not_lt.mpr (by assumption) | exact Int64.not_le.mp (by assumption), by first | assumption | exact Classical.not_not.mp (by assumption) | exact Int64.not_lt.mpr (by assumption) | exact Int64.not_le.mp (by assumption), by first | assumption | exact Classical.not_not.mp (by assumption) | exact Int64.not_lt.mpr (by assumption) | exact Int64.not_le.mp (by assumption), rfl⟩)))), rfl⟩
      · skip
        have c564 : ¬ ((iL 0) ≤ ((X_st (-1) pa_) + (X_st (-1) pb_))) := c564
        refine T_p xr_171_20 xn_171 (pc' := 23) (ls' := [(0, .long (X_st (-1) pa_)), (2, .long (X_st (-1) pb_))]) (st' := [.long (iL (-1))]) rfl ?_
        refine T_p xr_171_23 xn_171 (pc' := 29) (ls' := [(0, .long (X_st (-1) pa_)), (2, .long (X_st (-1) pb_))]) (st' := [.long (iL (-1))]) rfl ?_
        refine T_lret xr_171_29 xf_171.2.2 rfl ?_
        refine hQ _ _ ?_
        exact ⟨(congrArg (fun z => some (Value.long z)) (X_sum_f (by omega) (by first | exact Or.inl ⟨Or.inl (by first | assumption | exact Classical.not_not.mp (by assumption) | exact Int64.not_lt.mpr (by assumption) | exact Int64.not_le.mp (by assumption)), rfl⟩ | exact Or.inl ⟨Or.inr (by first | assumption | exact Classical.not_not.mp (by assumption) | exact Int64.not_lt.mpr (by assumption) | exact Int64.not_le.mp (by assumption)), rfl⟩ | exact Or.inr (Or.inl ⟨by first | assumption | exact Classical.not_not.mp (by assumption) | exact Int64.not_lt.mpr (by assumption) | exact Int64.not_le.mp (by assumption), by first | assumption | exact Classical.not_not.mp (by assumption) | exact Int64.not_lt.mpr (by assumption) | exact Int64.not_le.mp (by assumption), by first | assumption | exact Classical.not_not.mp (by assumption) | exact Int64.not_lt.mpr (by assumption) | exact Int64.not_le.mp (by assumption), rfl⟩) | exact Or.inr (Or.inr ⟨by first | assumption | exact Classical.not_not.mp (by assumption) | exact Int64.not_lt.mpr (by assumption) | exact Int64.not_le.mp (by assumption), by first | assumption | exact Classical.not_not.mp (by assumption) | exact Int64.not_lt.mpr (by assumption) | exact Int64.not_le.mp (by assumption), by first | assumption | exact Classical.not_not.mp (by assumption) | exact Int64.not_lt.mpr (by assumption) | exact Int64.not_le.mp (by assumption), rfl⟩)))), rfl⟩
theorem r_product (sc : X_Sc) (S : X_S) (pa_ : Nat) (pb_ : Nat) : X_T sc 172 (0, [(0, .long (X_st (-1) pa_)), (2, .long (X_st (-1) pb_))], [], S) (fun v S' => v = some (.long (X_st (-1) (pa_ * pb_))) ∧ S' = S) := by
  refine X_QI (fun Q hQ => ?_)
  refine T_p xr_172_0 xn_172 (pc' := 1) (ls' := [(0, .long (X_st (-1) pa_)), (2, .long (X_st (-1) pb_))]) (st' := [.long (X_st (-1) pa_)]) rfl ?_
  refine T_p xr_172_1 xn_172 (pc' := 2) (ls' := [(0, .long (X_st (-1) pa_)), (2, .long (X_st (-1) pb_))]) (st' := [.long (iL 0), .long (X_st (-1) pa_)]) rfl ?_
  refine T_lc_eq xr_172_2 xr_172_3 (t := 12) (pc' := 6) rfl rfl (fun c565 => ?_) (fun c565 => ?_)
  · skip
    have c565 : (X_st (-1) pa_) = (iL 0) := c565
    refine T_p xr_172_12 xn_172 (pc' := 13) (ls' := [(0, .long (X_st (-1) pa_)), (2, .long (X_st (-1) pb_))]) (st' := [.long (iL 0)]) rfl ?_
    refine T_lret xr_172_13 xf_172.2.2 rfl ?_
    refine hQ _ _ ?_
    exact ⟨(congrArg (fun z => some (Value.long z)) (X_prod_f (by omega) (by first | exact Or.inl ⟨Or.inl (by first | assumption | exact Classical.not_not.mp (by assumption) | exact Int64.not_lt.mpr (by assumption) | exact Int64.not_le.mp (by assumption)), rfl⟩ | exact Or.inl ⟨Or.inr (by first | assumption | exact Classical.not_not.mp (by assumption) | exact Int64.not_lt.mpr (by assumption) | exact Int64.not_le.mp (by assumption)), rfl⟩ | exact Or.inr (Or.inl ⟨by first | assumption | exact Classical.not_not.mp (by assumption) | exact Int64.not_lt.mpr (by assumption) | exact Int64.not_le.mp (by assumption), by first | assumption | exact Classical.not_not.mp (by assumption) | exact Int64.not_lt.mpr (by assumption) | exact Int64.not_le.mp (by assumption), Or.inl (by first | assumption | exact Classical.not_not.mp (by assumption) | exact Int64.not_lt.mpr (by assumption) | exact Int64.not_le.mp (by assumption)), rfl⟩) | exact Or.inr (Or.inl ⟨by first | assumption | exact Classical.not_not.mp (by assumption) | exact Int64.not_lt.mpr (by assumption) | exact Int64.not_le.mp (by assumption), by first | assumption | exact Classical.not_not.mp (by assumption) | exact Int64.not_lt.mpr (by assumption) | exact Int64.not_le.mp (by assumption), Or.inr (by first | assumption | exact Classical.not_not.mp (by assumption) | exact Int64.not_lt.mpr (by assumption) | exact Int64.not_le.mp (by assumption)), rfl⟩) | exact Or.inr (Or.inr (Or.inl ⟨by first | assumption | exact Classical.not_not.mp (by assumption) | exact Int64.not_lt.mpr (by assumption) | exact Int64.not_le.mp (by assumption), by first | assumption | exact Classical.not_not.mp (by assumption) | exact Int64.not_lt.mpr (by assumption) | exact Int64.not_le.mp (by assumption), by first | assumption | exact Classical.not_not.mp (by assumption) | exact Int64.not_lt.mpr (by assumption) | exact Int64.not_le.mp (by assumption), by first | assumption | exact Classical.not_not.mp (by assumption) | exact Int64.not_lt.mpr (by assumption) | exact Int64.not_le.mp (by assumption), by first | assumption | exact Classical.not_not.mp (by assumption) | exact Int64.not_lt.mpr (by assumption) | exact Int64.not_le.mp (by assumption), rfl⟩)) | exact Or.inr (Or.inr (Or.inr ⟨by first | assumption | exact Classical.not_not.mp (by assumption) | exact Int64.not_lt.mpr (by assumption) | exact Int64.not_le.mp (by assumption), by first | assumption | exact Classical.not_not.mp (by assumption) | exact Int64.not_lt.mpr (by assumption) | exact Int64.not_le.mp (by assumption), by first | assumption | exact Classical.not_not.mp (by assumption) | exact Int64.not_lt.mpr (by assumption) | exact Int64.not_le.mp (by assumption), by first | assumption | exact Classical.not_not.mp (by assumption) | exact Int64.not_lt.mpr (by assumption) | exact Int64.not_le.mp (by assumption), by first | assumption | exact Classical.not_not.mp (by assumption) | exact Int64.not_lt.mpr (by assumption) | exact Int64.not_le.mp (by assumption), rfl⟩))))), rfl⟩
  · skip
    have c565 : ¬ ((X_st (-1) pa_) = (iL 0)) := c565
    refine T_p xr_172_6 xn_172 (pc' := 7) (ls' := [(0, .long (X_st (-1) pa_)), (2, .long (X_st (-1) pb_))]) (st' := [.long (X_st (-1) pb_)]) rfl ?_
    refine T_p xr_172_7 xn_172 (pc' := 8) (ls' := [(0, .long (X_st (-1) pa_)), (2, .long (X_st (-1) pb_))]) (st' := [.long (iL 0), .long (X_st (-1) pb_)]) rfl ?_
    refine T_lc_ne xr_172_8 xr_172_9 (t := 14) (pc' := 12) rfl rfl (fun c566 => ?_) (fun c566 => ?_)
    · skip
      have c566 : ¬ (X_st (-1) pb_) = (iL 0) := c566
      refine T_p xr_172_14 xn_172 (pc' := 15) (ls' := [(0, .long (X_st (-1) pa_)), (2, .long (X_st (-1) pb_))]) (st' := [.long (X_st (-1) pa_)]) rfl ?_
      refine T_p xr_172_15 xn_172 (pc' := 16) (ls' := [(0, .long (X_st (-1) pa_)), (2, .long (X_st (-1) pb_))]) (st' := [.long (iL 0), .long (X_st (-1) pa_)]) rfl ?_
      refine T_lc_lt xr_172_16 xr_172_17 (t := 36) (pc' := 20) rfl rfl (fun c567 => ?_) (fun c567 => ?_)
      · skip
        have c567 : (X_st (-1) pa_) < (iL 0) := c567
        refine T_p xr_172_36 xn_172 (pc' := 39) (ls' := [(0, .long (X_st (-1) pa_)), (2, .long (X_st (-1) pb_))]) (st' := [.long (iL (-1))]) rfl ?_
        refine T_p xr_172_39 xn_172 (pc' := 45) (ls' := [(0, .long (X_st (-1) pa_)), (2, .long (X_st (-1) pb_))]) (st' := [.long (iL (-1))]) rfl ?_
        refine T_lret xr_172_45 xf_172.2.2 rfl ?_
        refine hQ _ _ ?_
        exact ⟨(congrArg (fun z => some (Value.long z)) (X_prod_f (by omega) (by first | exact Or.inl ⟨Or.inl (by first | assumption | exact Classical.not_not.mp (by assumption) | exact Int64.not_lt.mpr (by assumption) | exact Int64.not_le.mp (by assumption)), rfl⟩ | exact Or.inl ⟨Or.inr (by first | assumption | exact Classical.not_not.mp (by assumption) | exact Int64.not_lt.mpr (by assumption) | exact Int64.not_le.mp (by assumption)), rfl⟩ | exact Or.inr (Or.inl ⟨by first | assumption | exact Classical.not_not.mp (by assumption) | exact Int64.not_lt.mpr (by assumption) | exact Int64.not_le.mp (by assumption), by first | assumption | exact Classical.not_not.mp (by assumption) | exact Int64.not_lt.mpr (by assumption) | exact Int64.not_le.mp (by assumption), Or.inl (by first | assumption | exact Classical.not_not.mp (by assumption) | exact Int64.not_lt.mpr (by assumption) | exact Int64.not_le.mp (by assumption)), rfl⟩) | exact Or.inr (Or.inl ⟨by first | assumption | exact Classical.not_not.mp (by assumption) | exact Int64.not_lt.mpr (by assumption) | exact Int64.not_le.mp (by assumption), by first | assumption | exact Classical.not_not.mp (by assumption) | exact Int64.not_lt.mpr (by assumption) | exact Int64.not_le.mp (by assumption), Or.inr (by first | assumption | exact Classical.not_not.mp (by assumption) | exact Int64.not_lt.mpr (by assumption) | exact Int64.not_le.mp (by assumption)), rfl⟩) | exact Or.inr (Or.inr (Or.inl ⟨by first | assumption | exact Classical.not_not.mp (by assumption) | exact Int64.not_lt.mpr (by assumption) | exact Int64.not_le.mp (by assumption), by first | assumption | exact Classical.not_not.mp (by assumption) | exact Int64.not_lt.mpr (by assumption) | exact Int64.not_le.mp (by assumption), by first | assumption | exact Classical.not_not.mp (by assumption) | exact Int64.not_lt.mpr (by assumption) | exact Int64.not_le.mp (by assumption), by first | assumption | exact Classical.not_not.mp (by assumption) | exact Int64.not_lt.mpr (by assumption) | exact Int64.not_le.mp (by assumption), by first | assumption | exact Classical.not_not.mp (by assumption) | exact Int64.not_lt.mpr (by assumption) | exact Int64.not_le.mp (by assumption), rfl⟩)) | exact Or.inr (Or.inr (Or.inr ⟨by first | assumption | exact Classical.not_not.mp (by assumption) | exact Int64.not_lt.mpr (by assumption) | exact Int64.not_le.mp (by assumption), by first | assumption | exact Classical.not_not.mp (by assumption) | exact Int64.not_lt.mpr (by assumption) | exact Int64.not_le.mp (by assumption), by first | assumption | exact Classical.not_not.mp (by assumption) | exact Int64.not_lt.mpr (by assumption) | exact Int64.not_le.mp (by assumption), by first | assumption | exact Classical.not_not.mp (by assumption) | exact Int64.not_lt.mpr (by assumption) | exact Int64.not_le.mp (by assumption), by first | assumption | exact Classical.not_not.mp (by assumption) | exact Int64.not_lt.mpr (by assumption) | exact Int64.not_le.mp (by assumption), rfl⟩))))), rfl⟩
      · skip
        have c567 : ¬ ((X_st (-1) pa_) < (iL 0)) := c567
        refine T_p xr_172_20 xn_172 (pc' := 21) (ls' := [(0, .long (X_st (-1) pa_)), (2, .long (X_st (-1) pb_))]) (st' := [.long (X_st (-1) pb_)]) rfl ?_
        refine T_p xr_172_21 xn_172 (pc' := 22) (ls' := [(0, .long (X_st (-1) pa_)), (2, .long (X_st (-1) pb_))]) (st' := [.long (iL 0), .long (X_st (-1) pb_)]) rfl ?_
        refine T_lc_lt xr_172_22 xr_172_23 (t := 36) (pc' := 26) rfl rfl (fun c568 => ?_) (fun c568 => ?_)
        · skip
          have c568 : (X_st (-1) pb_) < (iL 0) := c568
          refine T_p xr_172_36 xn_172 (pc' := 39) (ls' := [(0, .long (X_st (-1) pa_)), (2, .long (X_st (-1) pb_))]) (st' := [.long (iL (-1))]) rfl ?_
          refine T_p xr_172_39 xn_172 (pc' := 45) (ls' := [(0, .long (X_st (-1) pa_)), (2, .long (X_st (-1) pb_))]) (st' := [.long (iL (-1))]) rfl ?_
          refine T_lret xr_172_45 xf_172.2.2 rfl ?_
          refine hQ _ _ ?_
          exact ⟨(congrArg (fun z => some (Value.long z)) (X_prod_f (by omega) (by first | exact Or.inl ⟨Or.inl (by first | assumption | exact Classical.not_not.mp (by assumption) | exact Int64.not_lt.mpr (by assumption) | exact Int64.not_le.mp (by assumption)), rfl⟩ | exact Or.inl ⟨Or.inr (by first | assumption | exact Classical.not_not.mp (by assumption) | exact Int64.not_lt.mpr (by assumption) | exact Int64.not_le.mp (by assumption)), rfl⟩ | exact Or.inr (Or.inl ⟨by first | assumption | exact Classical.not_not.mp (by assumption) | exact Int64.not_lt.mpr (by assumption) | exact Int64.not_le.mp (by assumption), by first | assumption | exact Classical.not_not.mp (by assumption) | exact Int64.not_lt.mpr (by assumption) | exact Int64.not_le.mp (by assumption), Or.inl (by first | assumption | exact Classical.not_not.mp (by assumption) | exact Int64.not_lt.mpr (by assumption) | exact Int64.not_le.mp (by assumption)), rfl⟩) | exact Or.inr (Or.inl ⟨by first | assumption | exact Classical.not_not.mp (by assumption) | exact Int64.not_lt.mpr (by assumption) | exact Int64.not_le.mp (by assumption), by first | assumption | exact Classical.not_not.mp (by assumption) | exact Int64.not_lt.mpr (by assumption) | exact Int64.not_le.mp (by assumption), Or.inr (by first | assumption | exact Classical.not_not.mp (by assumption) | exact Int64.not_lt.mpr (by assumption) | exact Int64.not_le.mp (by assumption)), rfl⟩) | exact Or.inr (Or.inr (Or.inl ⟨by first | assumption | exact Classical.not_not.mp (by assumption) | exact Int64.not_lt.mpr (by assumption) | exact Int64.not_le.mp (by assumption), by first | assumption | exact Classical.not_not.mp (by assumption) | exact Int64.not_lt.mpr (by assumption) | exact Int64.not_le.mp (by assumption), by first | assumption | exact Classical.not_not.mp (by assumption) | exact Int64.not_lt.mpr (by assumption) | exact Int64.not_le.mp (by assumption), by first | assumption | exact Classical.not_not.mp (by assumption) | exact Int64.not_lt.mpr (by assumption) | exact Int64.not_le.mp (by assumption), by first | assumption | exact Classical.not_not.mp (by assumption) | exact Int64.not_lt.mpr (by assumption) | exact Int64.not_le.mp (by assumption), rfl⟩)) | exact Or.inr (Or.inr (Or.inr ⟨by first | assumption | exact Classical.not_not.mp (by assumption) | exact Int64.not_lt.mpr (by assumption) | exact Int64.not_le.mp (by assumption), by first | assumption | exact Classical.not_not.mp (by assumption) | exact Int64.not_lt.mpr (by assumption) | exact Int64.not_le.mp (by assumption), by first | assumption | exact Classical.not_not.mp (by assumption) | exact Int64.not_lt.mpr (by assumption) | exact Int64.not_le.mp (by assumption), by first | assumption | exact Classical.not_not.mp (by assumption) | exact Int64.not_lt.mpr (by assumption) | exact Int64.not_le.mp (by assumption), by first | assumption | exact Classical.not_not.mp (by assumption) | exact Int64.not_lt.mpr (by assumption) | exact Int64.not_le.mp (by assumption), rfl⟩))))), rfl⟩
        · skip
          have c568 : ¬ ((X_st (-1) pb_) < (iL 0)) := c568
          refine T_p xr_172_26 xn_172 (pc' := 27) (ls' := [(0, .long (X_st (-1) pa_)), (2, .long (X_st (-1) pb_))]) (st' := [.long (X_st (-1) pa_)]) rfl ?_
          refine T_p xr_172_27 xn_172 (pc' := 30) (ls' := [(0, .long (X_st (-1) pa_)), (2, .long (X_st (-1) pb_))]) (st' := [.long (iL 9223372036854775807), .long (X_st (-1) pa_)]) rfl ?_
          refine T_p xr_172_30 xn_172 (pc' := 31) (ls' := [(0, .long (X_st (-1) pa_)), (2, .long (X_st (-1) pb_))]) (st' := [.long (X_st (-1) pb_), .long (iL 9223372036854775807), .long (X_st (-1) pa_)]) rfl ?_
          refine T_p xr_172_31 xn_172 (pc' := 32) (ls' := [(0, .long (X_st (-1) pa_)), (2, .long (X_st (-1) pb_))]) (st' := .long ((iL 9223372036854775807) / (X_st (-1) pb_)) :: [.long (X_st (-1) pa_)]) (by simp only [X_pstep, X_l2]; rw [if_neg (by assumption)]) ?_
          refine T_lc_le xr_172_32 xr_172_33 (t := 42) (pc' := 36) rfl rfl (fun c569 => ?_) (fun c569 => ?_)
          · skip
            have c569 : (X_st (-1) pa_) ≤ ((iL 9223372036854775807) / (X_st (-1) pb_)) := c569
            refine T_p xr_172_42 xn_172 (pc' := 43) (ls' := [(0, .long (X_st (-1) pa_)), (2, .long (X_st (-1) pb_))]) (st' := [.long (X_st (-1) pa_)]) rfl ?_
            refine T_p xr_172_43 xn_172 (pc' := 44) (ls' := [(0, .long (X_st (-1) pa_)), (2, .long (X_st (-1) pb_))]) (st' := [.long (X_st (-1) pb_), .long (X_st (-1) pa_)]) rfl ?_
            refine T_p xr_172_44 xn_172 (pc' := 45) (ls' := [(0, .long (X_st (-1) pa_)), (2, .long (X_st (-1) pb_))]) (st' := [.long ((X_st (-1) pa_) * (X_st (-1) pb_))]) rfl ?_
            refine T_lret xr_172_45 xf_172.2.2 rfl ?_
            refine hQ _ _ ?_
            exact ⟨(congrArg (fun z => some (Value.long z)) (X_prod_f (by omega) (by first | exact Or.inl ⟨Or.inl (by first | assumption | exact Classical.not_not.mp (by assumption) | exact Int64.not_lt.mpr (by assumption) | exact Int64.not_le.mp (by assumption)), rfl⟩ | exact Or.inl ⟨Or.inr (by first | assumption | exact Classical.not_not.mp (by assumption) | exact Int64.not_lt.mpr (by assumption) | exact Int64.not_le.mp (by assumption)), rfl⟩ | exact Or.inr (Or.inl ⟨by first | assumption | exact Classical.not_not.mp (by assumption) | exact Int64.not_lt.mpr (by assumption) | exact Int64.not_le.mp (by assumption), by first | assumption | exact Classical.not_not.mp (by assumption) | exact Int64.not_lt.mpr (by assumption) | exact Int64.not_le.mp (by assumption), Or.inl (by first | assumption | exact Classical.not_not.mp (by assumption) | exact Int64.not_lt.mpr (by assumption) | exact Int64.not_le.mp (by assumption)), rfl⟩) | exact Or.inr (Or.inl ⟨by first | assumption | exact Classical.not_not.mp (by assumption) | exact Int64.not_lt.mpr (by assumption) | exact Int64.not_le.mp (by assumption), by first | assumption | exact Classical.not_not.mp (by assumption) | exact Int64.not_lt.mpr (by assumption) | exact Int64.not_le.mp (by assumption), Or.inr (by first | assumption | exact Classical.not_not.mp (by assumption) | exact Int64.not_lt.mpr (by assumption) | exact Int64.not_le.mp (by assumption)), rfl⟩) | exact Or.inr (Or.inr (Or.inl ⟨by first | assumption | exact Classical.not_not.mp (by assumption) | exact Int64.not_lt.mpr (by assumption) | exact Int64.not_le.mp (by assumption), by first | assumption | exact Classical.not_not.mp (by assumption) | exact Int64.not_lt.mpr (by assumption) | exact Int64.not_le.mp (by assumption), by first | assumption | exact Classical.not_not.mp (by assumption) | exact Int64.not_lt.mpr (by assumption) | exact Int64.not_le.mp (by assumption), by first | assumption | exact Classical.not_not.mp (by assumption) | exact Int64.not_lt.mpr (by assumption) | exact Int64.not_le.mp (by assumption), by first | assumption | exact Classical.not_not.mp (by assumption) | exact Int64.not_lt.mpr (by assumption) | exact Int64.not_le.mp (by assumption), rfl⟩)) | exact Or.inr (Or.inr (Or.inr ⟨by first | assumption | exact Classical.not_not.mp (by assumption) | exact Int64.not_lt.mpr (by assumption) | exact Int64.not_le.mp (by assumption), by first | assumption | exact Classical.not_not.mp (by assumption) | exact Int64.not_lt.mpr (by assumption) | exact Int64.not_le.mp (by assumption), by first | assumption | exact Classical.not_not.mp (by assumption) | exact Int64.not_lt.mpr (by assumption) | exact Int64.not_le.mp (by assumption), by first | assumption | exact Classical.not_not.mp (by assumption) | exact Int64.not_lt.mpr (by assumption) | exact Int64.not_le.mp (by assumption), by first | assumption | exact Classical.not_not.mp (by assumption) | exact Int64.not_lt.mpr (by assumption) | exact Int64.not_le.mp (by assumption), rfl⟩))))), rfl⟩
          · skip
            have c569 : ¬ ((X_st (-1) pa_) ≤ ((iL 9223372036854775807) / (X_st (-1) pb_))) := c569
            refine T_p xr_172_36 xn_172 (pc' := 39) (ls' := [(0, .long (X_st (-1) pa_)), (2, .long (X_st (-1) pb_))]) (st' := [.long (iL (-1))]) rfl ?_
            refine T_p xr_172_39 xn_172 (pc' := 45) (ls' := [(0, .long (X_st (-1) pa_)), (2, .long (X_st (-1) pb_))]) (st' := [.long (iL (-1))]) rfl ?_
            refine T_lret xr_172_45 xf_172.2.2 rfl ?_
            refine hQ _ _ ?_
            exact ⟨(congrArg (fun z => some (Value.long z)) (X_prod_f (by omega) (by first | exact Or.inl ⟨Or.inl (by first | assumption | exact Classical.not_not.mp (by assumption) | exact Int64.not_lt.mpr (by assumption) | exact Int64.not_le.mp (by assumption)), rfl⟩ | exact Or.inl ⟨Or.inr (by first | assumption | exact Classical.not_not.mp (by assumption) | exact Int64.not_lt.mpr (by assumption) | exact Int64.not_le.mp (by assumption)), rfl⟩ | exact Or.inr (Or.inl ⟨by first | assumption | exact Classical.not_not.mp (by assumption) | exact Int64.not_lt.mpr (by assumption) | exact Int64.not_le.mp (by assumption), by first | assumption | exact Classical.not_not.mp (by assumption) | exact Int64.not_lt.mpr (by assumption) | exact Int64.not_le.mp (by assumption), Or.inl (by first | assumption | exact Classical.not_not.mp (by assumption) | exact Int64.not_lt.mpr (by assumption) | exact Int64.not_le.mp (by assumption)), rfl⟩) | exact Or.inr (Or.inl ⟨by first | assumption | exact Classical.not_not.mp (by assumption) | exact Int64.not_lt.mpr (by assumption) | exact Int64.not_le.mp (by assumption), by first | assumption | exact Classical.not_not.mp (by assumption) | exact Int64.not_lt.mpr (by assumption) | exact Int64.not_le.mp (by assumption), Or.inr (by first | assumption | exact Classical.not_not.mp (by assumption) | exact Int64.not_lt.mpr (by assumption) | exact Int64.not_le.mp (by assumption)), rfl⟩) | exact Or.inr (Or.inr (Or.inl ⟨by first | assumption | exact Classical.not_not.mp (by assumption) | exact Int64.not_lt.mpr (by assumption) | exact Int64.not_le.mp (by assumption), by first | assumption | exact Classical.not_not.mp (by assumption) | exact Int64.not_lt.mpr (by assumption) | exact Int64.not_le.mp (by assumption), by first | assumption | exact Classical.not_not.mp (by assumption) | exact Int64.not_lt.mpr (by assumption) | exact Int64.not_le.mp (by assumption), by first | assumption | exact Classical.not_not.mp (by assumption) | exact Int64.not_lt.mpr (by assumption) | exact Int64.not_le.mp (by assumption), by first | assumption | exact Classical.not_not.mp (by assumption) | exact Int64.not_lt.mpr (by assumption) | exact Int64.not_le.mp (by assumption), rfl⟩)) | exact Or.inr (Or.inr (Or.inr ⟨by first | assumption | exact Classical.not_not.mp (by assumption) | exact Int64.not_lt.mpr (by assumption) | exact Int64.not_le.mp (by assumption), by first | assumption | exact Classical.not_not.mp (by assumption) | exact Int64.not_lt.mpr (by assumption) | exact Int64.not_le.mp (by assumption), by first | assumption | exact Classical.not_not.mp (by assumption) | exact Int64.not_lt.mpr (by assumption) | exact Int64.not_le.mp (by assumption), by first | assumption | exact Classical.not_not.mp (by assumption) | exact Int64.not_lt.mpr (by assumption) | exact Int64.not_le.mp (by assumption), by first | assumption | exact Classical.not_not.mp (by assumption) | exact Int64.not_lt.mpr (by assumption) | exact Int64.not_le.mp (by assumption), rfl⟩))))), rfl⟩
    · skip
      have c566 : ¬ (¬ (X_st (-1) pb_) = (iL 0)) := c566
      refine T_p xr_172_12 xn_172 (pc' := 13) (ls' := [(0, .long (X_st (-1) pa_)), (2, .long (X_st (-1) pb_))]) (st' := [.long (iL 0)]) rfl ?_
      refine T_lret xr_172_13 xf_172.2.2 rfl ?_
      refine hQ _ _ ?_
      exact ⟨(congrArg (fun z => some (Value.long z)) (X_prod_f (by omega) (by first | exact Or.inl ⟨Or.inl (by first | assumption | exact Classical.not_not.mp (by assumption) | exact Int64.not_lt.mpr (by assumption) | exact Int64.not_le.mp (by assumption)), rfl⟩ | exact Or.inl ⟨Or.inr (by first | assumption | exact Classical.not_not.mp (by assumption) | exact Int64.not_lt.mpr (by assumption) | exact Int64.not_le.mp (by assumption)), rfl⟩ | exact Or.inr (Or.inl ⟨by first | assumption | exact Classical.not_not.mp (by assumption) | exact Int64.not_lt.mpr (by assumption) | exact Int64.not_le.mp (by assumption), by first | assumption | exact Classical.not_not.mp (by assumption) | exact Int64.not_lt.mpr (by assumption) | exact Int64.not_le.mp (by assumption), Or.inl (by first | assumption | exact Classical.not_not.mp (by assumption) | exact Int64.not_lt.mpr (by assumption) | exact Int64.not_le.mp (by assumption)), rfl⟩) | exact Or.inr (Or.inl ⟨by first | assumption | exact Classical.not_not.mp (by assumption) | exact Int64.not_lt.mpr (by assumption) | exact Int64.not_le.mp (by assumption), by first | assumption | exact Classical.not_not.mp (by assumption) | exact Int64.not_lt.mpr (by assumption) | exact Int64.not_le.mp (by assumption), Or.inr (by first | assumption | exact Classical.not_not.mp (by assumption) | exact Int64.not_lt.mpr (by assumption) | exact Int64.not_le.mp (by assumption)), rfl⟩) | exact Or.inr (Or.inr (Or.inl ⟨by first | assumption | exact Classical.not_not.mp (by assumption) | exact Int64.not_lt.mpr (by assumption) | exact Int64.not_le.mp (by assumption), by first | assumption | exact Classical.not_not.mp (by assumption) | exact Int64.not_lt.mpr (by assumption) | exact Int64.not_le.mp (by assumption), by first | assumption | exact Classical.not_not.mp (by assumption) | exact Int64.not_lt.mpr (by assumption) | exact Int64.not_le.mp (by assumption), by first | assumption | exact Classical.not_not.mp (by assumption) | exact Int64.not_lt.mpr (by assumption) | exact Int64.not_le.mp (by assumption), by first | assumption | exact Classical.not_not.mp (by assumption) | exact Int64.not_lt.mpr (by assumption) | exact Int64.not_le.mp (by assumption), rfl⟩)) | exact Or.inr (Or.inr (Or.inr ⟨by first | assumption | exact Classical.not_not.mp (by assumption) | exact Int64.not_lt.mpr (by assumption) | exact Int64.not_le.mp (by assumption), by first | assumption | exact Classical.not_not.mp (by assumption) | exact Int64.not_lt.mpr (by assumption) | exact Int64.not_le.mp (by assumption), by first | assumption | exact Classical.not_not.mp (by assumption) | exact Int64.not_lt.mpr (by assumption) | exact Int64.not_le.mp (by assumption), by first | assumption | exact Classical.not_not.mp (by assumption) | exact Int64.not_lt.mpr (by assumption) | exact Int64.not_le.mp (by assumption), by first | assumption | exact Classical.not_not.mp (by assumption) | exact Int64.not_lt.mpr (by assumption) | exact Int64.not_le.mp (by assumption), rfl⟩))))), rfl⟩
theorem r_isUnder (sc : X_Sc) (S : X_S) (kU : Int → Int) (o : Nat → Int) (nm : Int64) (b : Int) (rc : Int) (G : X_G) (tn : Int) (x : Int) (y : Int) (hO530 : S.1 530 = .inr (11, [.ref 531, .int (iI (o 1)), .ref 532, .int (iI (o 3)), .int (iI b), .int (iI (o 5)), .int (iI (o 6)), .int (iI (o 7)), .int (iI (o 8)), .int (iI (o 9)), .int (iI (o 10)), .int (iI (o 11)), .long nm, .ref 533, .ref 534, .ref 535, .ref 536, .ref 537, .ref 538, .ref 539, .ref 540, .ref 541, .ref 542, .ref 543, .ref 544, .ref 545, .ref 546, .ref 547, .int (iI rc), .int (iI (gk G)), .int (iI (gw G)), .int (iI (o 31)), .int (iI (o 32)), .int (iI (o 33)), .ref 548, .ref 549, .ref 550, .ref 551, .int (iI tn), .ref 552, .ref 553, .ref 554, .ref 555, .ref 556, .ref 557, .ref 558, .ref 559, .ref 560, .ref 561, .int (iI (o 49)), .ref 562, .ref 563, .ref 564, .ref 565, .ref 566, .ref 567, .ref 568, .ref 569, .int (iI (o 58)), .ref 570, .ref 571, .ref 572, .ref 573, .ref 574, .ref 575, .ref 576, .ref 577, .ref 578, .int (iI (o 68)), .int (iI (o 69)), .int (iI (o 70)), .ref 579])) (hA536 : S.1 536 = .inl (.int, 22, .inl fun k : Nat => iI (kU (k : Int)))) (hbr : 0 ≤ b ∧ b ≤ 1) (hG : X_Gok G) (hKU : (∀ u, 0 ≤ u → u < 32 → (X_bt (ga G 0) u ↔ u = 0)) ∧ kU (11 * b) = -1 ∧ ∀ k, 1 ≤ k → k < gk G → (0 ≤ kU (11 * b + k) ∧ kU (11 * b + k) < k) ∧ ∀ u, 0 ≤ u → u < 32 → (X_bt (ga G k) u ↔ u = k ∨ X_bt (ga G (kU (11 * b + k))) u)) (hx : 0 ≤ x ∧ x < gk G) (hy : 0 ≤ y ∧ y < gk G) : X_T sc 168 (0, [(0, .ref 530), (1, .int (iI x)), (2, .int (iI y))], [], S) (fun v S' => v = some (.int (iI (bI (X_bt (ga G x) y)))) ∧ S' = S) := by
  have hkr := hG.2.1
  refine X_QI (fun Q hQ => ?_)
  refine T_p xr_168_0 xn_168 (pc' := 1) (ls' := [(0, .ref 530), (1, .int (iI x)), (2, .int (iI y))]) (st' := [.int (iI x)]) rfl ?_
  refine T_p xr_168_1 xn_168 (pc' := 2) (ls' := [(3, .int (iI x)), (0, .ref 530), (1, .int (iI x)), (2, .int (iI y))]) (st' := []) rfl ?_
  have L570 : ∀ (m572 : Nat) (k : Int) (hk : -1 ≤ k ∧ k < gk G) (hu : (0 ≤ k → (X_bt (ga G x) y ↔ X_bt (ga G k) y)) ∧ (k < 0 → ¬ X_bt (ga G x) y)) (hm573 : k + 1 < m572), X_T sc 168 (2, [(3, .int (iI k)), (0, .ref 530), (1, .int (iI x)), (2, .int (iI y))], [], S) Q := by
    intro m572
    induction m572 with
    | zero =>
      intro k hk hu hm573
      exact (show False by omega).elim
    | succ m572 ih571 =>
      intro k hk hu hm573
      refine T_p xr_168_2 xn_168 (pc' := 3) (ls' := [(3, .int (iI k)), (0, .ref 530), (1, .int (iI x)), (2, .int (iI y))]) (st' := [.int (iI k)]) rfl ?_
      refine T_zif_lt xr_168_3 (t := 29) (pc' := 6) rfl rfl (fun c575 => ?_) (fun c575 => ?_)
      · skip
        have c575 : k < 0 := c575
        refine T_p xr_168_29 xn_168 (pc' := 30) (ls' := [(3, .int (iI k)), (0, .ref 530), (1, .int (iI x)), (2, .int (iI y))]) (st' := [.int (iI k)]) rfl ?_
        refine T_p xr_168_30 xn_168 (pc' := 31) (ls' := [(3, .int (iI k)), (0, .ref 530), (1, .int (iI x)), (2, .int (iI y))]) (st' := [.int (iI y), .int (iI k)]) rfl ?_
        refine T_zicmp_ne xr_168_31 (t := 38) (pc' := 34) rfl rfl (fun c576 => ?_) (fun c576 => ?_)
        · skip
          have c576 : ¬ k = y := c576
          refine T_p xr_168_38 xn_168 (pc' := 39) (ls' := [(3, .int (iI k)), (0, .ref 530), (1, .int (iI x)), (2, .int (iI y))]) (st' := [.int (iI 0)]) rfl ?_
          refine T_iret xr_168_39 xf_168.2.2 (by decide) ?_
          refine hQ _ _ ?_
          exact ⟨(by rw [bI_f (hu.2 (by omega))]), rfl⟩
        · skip
          have c576 : ¬ (¬ k = y) := c576
          refine T_p xr_168_34 xn_168 (pc' := 35) (ls' := [(3, .int (iI k)), (0, .ref 530), (1, .int (iI x)), (2, .int (iI y))]) (st' := [.int (iI 1)]) rfl ?_
          refine T_p xr_168_35 xn_168 (pc' := 39) (ls' := [(3, .int (iI k)), (0, .ref 530), (1, .int (iI x)), (2, .int (iI y))]) (st' := [.int (iI 1)]) rfl ?_
          refine T_iret xr_168_39 xf_168.2.2 (by decide) ?_
          refine hQ _ _ ?_
          exact ⟨(by rw [bI_t ((hu.1 (by omega)).mpr (by rw [show k = y by omega]; exact (hG.2.2.1.1 y hy.1 hy.2).2))]), rfl⟩
      · skip
        have c575 : ¬ (k < 0) := c575
        refine T_p xr_168_6 xn_168 (pc' := 7) (ls' := [(3, .int (iI k)), (0, .ref 530), (1, .int (iI x)), (2, .int (iI y))]) (st' := [.int (iI k)]) rfl ?_
        refine T_p xr_168_7 xn_168 (pc' := 8) (ls' := [(3, .int (iI k)), (0, .ref 530), (1, .int (iI x)), (2, .int (iI y))]) (st' := [.int (iI y), .int (iI k)]) rfl ?_
        refine T_zicmp_eq xr_168_8 (t := 29) (pc' := 11) rfl rfl (fun c577 => ?_) (fun c577 => ?_)
        · skip
          have c577 : k = y := c577
          refine T_p xr_168_29 xn_168 (pc' := 30) (ls' := [(3, .int (iI k)), (0, .ref 530), (1, .int (iI x)), (2, .int (iI y))]) (st' := [.int (iI k)]) rfl ?_
          refine T_p xr_168_30 xn_168 (pc' := 31) (ls' := [(3, .int (iI k)), (0, .ref 530), (1, .int (iI x)), (2, .int (iI y))]) (st' := [.int (iI y), .int (iI k)]) rfl ?_
          refine T_zicmp_ne xr_168_31 (t := 38) (pc' := 34) rfl rfl (fun c578 => ?_) (fun c578 => ?_)
          · skip
            have c578 : ¬ k = y := c578
            refine T_p xr_168_38 xn_168 (pc' := 39) (ls' := [(3, .int (iI k)), (0, .ref 530), (1, .int (iI x)), (2, .int (iI y))]) (st' := [.int (iI 0)]) rfl ?_
            refine T_iret xr_168_39 xf_168.2.2 (by decide) ?_
            refine hQ _ _ ?_
            exact ⟨(by rw [bI_f (hu.2 (by omega))]), rfl⟩
          · skip
            have c578 : ¬ (¬ k = y) := c578
            refine T_p xr_168_34 xn_168 (pc' := 35) (ls' := [(3, .int (iI k)), (0, .ref 530), (1, .int (iI x)), (2, .int (iI y))]) (st' := [.int (iI 1)]) rfl ?_
            refine T_p xr_168_35 xn_168 (pc' := 39) (ls' := [(3, .int (iI k)), (0, .ref 530), (1, .int (iI x)), (2, .int (iI y))]) (st' := [.int (iI 1)]) rfl ?_
            refine T_iret xr_168_39 xf_168.2.2 (by decide) ?_
            refine hQ _ _ ?_
            exact ⟨(by rw [bI_t ((hu.1 (by omega)).mpr (by rw [show k = y by omega]; exact (hG.2.2.1.1 y hy.1 hy.2).2))]), rfl⟩
        · skip
          have c577 : ¬ (k = y) := c577
          refine T_p xr_168_11 xn_168 (pc' := 12) (ls' := [(3, .int (iI k)), (0, .ref 530), (1, .int (iI x)), (2, .int (iI y))]) (st' := [.ref 530]) rfl ?_
          refine T_get xr_168_12 hO530 rfl (v := .ref 536) rfl (pc' := 15) rfl ?_
          refine T_p xr_168_15 xn_168 (pc' := 17) (ls' := [(3, .int (iI k)), (0, .ref 530), (1, .int (iI x)), (2, .int (iI y))]) (st' := [.int (iI 11), .ref 536]) rfl ?_
          refine T_p xr_168_17 xn_168 (pc' := 18) (ls' := [(3, .int (iI k)), (0, .ref 530), (1, .int (iI x)), (2, .int (iI y))]) (st' := [.ref 530, .int (iI 11), .ref 536]) rfl ?_
          refine T_get xr_168_18 hO530 rfl (v := .int (iI b)) rfl (pc' := 21) rfl ?_
          refine T_zimul xr_168_21 (z := 11 * b) rfl (pc' := 22) rfl ?_
          refine T_p xr_168_22 xn_168 (pc' := 23) (ls' := [(3, .int (iI k)), (0, .ref 530), (1, .int (iI x)), (2, .int (iI y))]) (st' := [.int (iI k), .int (iI (11 * b)), .ref 536]) rfl ?_
          refine T_ziadd xr_168_23 (z := (11 * b) + k) rfl (pc' := 24) rfl ?_
          refine T_ziald xr_168_24 hA536 (pc' := 25) rfl ?_
          refine T_p xr_168_25 xn_168 (pc' := 26) (ls' := [(3, .int (iI (kU ((11 * b) + k)))), (0, .ref 530), (1, .int (iI x)), (2, .int (iI y))]) (st' := []) rfl ?_
          refine T_p xr_168_26 xn_168 (pc' := 2) (ls' := [(3, .int (iI (kU ((11 * b) + k)))), (0, .ref 530), (1, .int (iI x)), (2, .int (iI y))]) (st' := []) rfl ?_
          have hu2 : (0 ≤ kU (11 * b + k) → (X_bt (ga G x) y ↔ X_bt (ga G (kU (11 * b + k))) y)) ∧ (kU (11 * b + k) < 0 → ¬ X_bt (ga G x) y) := by
            by_cases h0 : k = 0
            · have hz : kU (11 * b + k) = -1 := by rw [h0, Int.add_zero]; exact hKU.2.1
              rw [hz]
              refine ⟨fun z => absurd z (by omega), fun _ z => ?_⟩
              have h1 := (hu.1 (by omega)).mp z
              rw [h0] at h1
              have := (hKU.1 y hy.1 (by omega)).mp h1
              omega
            · obtain ⟨a1, a2⟩ := hKU.2.2 k (by omega) (by omega)
              refine ⟨fun _ => ?_, fun z => absurd z (by omega)⟩
              rw [hu.1 (by omega), a2 y hy.1 (by omega)]
              exact ⟨fun z => z.resolve_left (by omega), Or.inr⟩
          have hu3 : -1 ≤ kU (11 * b + k) ∧ kU (11 * b + k) < k := by
            by_cases h0 : k = 0
            · have hz : kU (11 * b + k) = -1 := by rw [h0, Int.add_zero]; exact hKU.2.1
              omega
            · have := (hKU.2.2 k (by omega) (by omega)).1; omega
          exact ih571 (kU ((11 * b) + k))  (by omega) hu2 (by omega)
  exact L570 ((x + 1) + 1).toNat x  (by omega) ⟨fun _ => Iff.rfl, fun z => absurd z (by omega)⟩ (by omega)
theorem r_isNumber (sc : X_Sc) (S : X_S) (tU : Int → Int) (o : Nat → Int) (nm : Int64) (b : Int) (rc : Int) (G : X_G) (tn : Int) (i : Int) (j : Int) (hO530 : S.1 530 = .inr (11, [.ref 531, .int (iI (o 1)), .ref 532, .int (iI (o 3)), .int (iI b), .int (iI (o 5)), .int (iI (o 6)), .int (iI (o 7)), .int (iI (o 8)), .int (iI (o 9)), .int (iI (o 10)), .int (iI (o 11)), .long nm, .ref 533, .ref 534, .ref 535, .ref 536, .ref 537, .ref 538, .ref 539, .ref 540, .ref 541, .ref 542, .ref 543, .ref 544, .ref 545, .ref 546, .ref 547, .int (iI rc), .int (iI (gk G)), .int (iI (gw G)), .int (iI (o 31)), .int (iI (o 32)), .int (iI (o 33)), .ref 548, .ref 549, .ref 550, .ref 551, .int (iI tn), .ref 552, .ref 553, .ref 554, .ref 555, .ref 556, .ref 557, .ref 558, .ref 559, .ref 560, .ref 561, .int (iI (o 49)), .ref 562, .ref 563, .ref 564, .ref 565, .ref 566, .ref 567, .ref 568, .ref 569, .int (iI (o 58)), .ref 570, .ref 571, .ref 572, .ref 573, .ref 574, .ref 575, .ref 576, .ref 577, .ref 578, .int (iI (o 68)), .int (iI (o 69)), .int (iI (o 70)), .ref 579])) (hA550 : S.1 550 = .inl (.int, 30, .inl fun k : Nat => iI (tU (k : Int)))) (htn : 0 ≤ tn ∧ tn ≤ 30) (hTU : ∀ t, 0 ≤ t → t < tn → tU t = X_nv (gt G t)) (hij : 0 ≤ i ∧ i < j ∧ j ≤ tn) : X_T sc 176 (0, [(0, .ref 530), (1, .int (iI i)), (2, .int (iI j))], [], S) (fun v S' => (v = some (.int (iI (bI (j = i + 1 ∧ 0 ≤ X_nv (gt G i)))))) ∧ S' = S) := by
  have hti := hTU i hij.1 (by omega)
  have hnvr := X_nv_r (gt G i)
  refine X_QI (fun Q hQ => ?_)
  refine T_p xr_176_0 xn_176 (pc' := 1) (ls' := [(0, .ref 530), (1, .int (iI i)), (2, .int (iI j))]) (st' := [.int (iI j)]) rfl ?_
  refine T_p xr_176_1 xn_176 (pc' := 2) (ls' := [(0, .ref 530), (1, .int (iI i)), (2, .int (iI j))]) (st' := [.int (iI i), .int (iI j)]) rfl ?_
  refine T_p xr_176_2 xn_176 (pc' := 3) (ls' := [(0, .ref 530), (1, .int (iI i)), (2, .int (iI j))]) (st' := [.int (iI 1), .int (iI i), .int (iI j)]) rfl ?_
  refine T_ziadd xr_176_3 (z := i + 1) rfl (pc' := 4) rfl ?_
  refine T_zicmp_ne xr_176_4 (t := 20) (pc' := 7) rfl rfl (fun c579 => ?_) (fun c579 => ?_)
  · skip
    have c579 : ¬ j = (i + 1) := c579
    refine T_p xr_176_20 xn_176 (pc' := 21) (ls' := [(0, .ref 530), (1, .int (iI i)), (2, .int (iI j))]) (st' := [.int (iI 0)]) rfl ?_
    refine T_iret xr_176_21 xf_176.2.2 (by decide) ?_
    refine hQ _ _ ?_
    exact ⟨(by rw [bI_f (by omega)]), rfl⟩
  · skip
    have c579 : ¬ (¬ j = (i + 1)) := c579
    refine T_p xr_176_7 xn_176 (pc' := 8) (ls' := [(0, .ref 530), (1, .int (iI i)), (2, .int (iI j))]) (st' := [.ref 530]) rfl ?_
    refine T_get xr_176_8 hO530 rfl (v := .ref 550) rfl (pc' := 11) rfl ?_
    refine T_p xr_176_11 xn_176 (pc' := 12) (ls' := [(0, .ref 530), (1, .int (iI i)), (2, .int (iI j))]) (st' := [.int (iI i), .ref 550]) rfl ?_
    refine T_ziald xr_176_12 hA550 (pc' := 13) rfl ?_
    refine T_zif_lt xr_176_13 (t := 20) (pc' := 16) rfl rfl (fun c580 => ?_) (fun c580 => ?_)
    · skip
      have c580 : (tU i) < 0 := c580
      refine T_p xr_176_20 xn_176 (pc' := 21) (ls' := [(0, .ref 530), (1, .int (iI i)), (2, .int (iI j))]) (st' := [.int (iI 0)]) rfl ?_
      refine T_iret xr_176_21 xf_176.2.2 (by decide) ?_
      refine hQ _ _ ?_
      exact ⟨(by rw [bI_f (by omega)]), rfl⟩
    · skip
      have c580 : ¬ ((tU i) < 0) := c580
      refine T_p xr_176_16 xn_176 (pc' := 17) (ls' := [(0, .ref 530), (1, .int (iI i)), (2, .int (iI j))]) (st' := [.int (iI 1)]) rfl ?_
      refine T_p xr_176_17 xn_176 (pc' := 21) (ls' := [(0, .ref 530), (1, .int (iI i)), (2, .int (iI j))]) (st' := [.int (iI 1)]) rfl ?_
      refine T_iret xr_176_21 xf_176.2.2 (by decide) ?_
      refine hQ _ _ ?_
      exact ⟨(by rw [bI_t (by omega)]), rfl⟩
theorem r_ends2 (sc : X_Sc) (S : X_S) (wM : Int → Int) (eP : Int → Int64) (o : Nat → Int) (nm : Int64) (b : Int) (rc : Int) (G : X_G) (tn : Int) (w : Int) (hO530 : S.1 530 = .inr (11, [.ref 531, .int (iI (o 1)), .ref 532, .int (iI (o 3)), .int (iI b), .int (iI (o 5)), .int (iI (o 6)), .int (iI (o 7)), .int (iI (o 8)), .int (iI (o 9)), .int (iI (o 10)), .int (iI (o 11)), .long nm, .ref 533, .ref 534, .ref 535, .ref 536, .ref 537, .ref 538, .ref 539, .ref 540, .ref 541, .ref 542, .ref 543, .ref 544, .ref 545, .ref 546, .ref 547, .int (iI rc), .int (iI (gk G)), .int (iI (gw G)), .int (iI (o 31)), .int (iI (o 32)), .int (iI (o 33)), .ref 548, .ref 549, .ref 550, .ref 551, .int (iI tn), .ref 552, .ref 553, .ref 554, .ref 555, .ref 556, .ref 557, .ref 558, .ref 559, .ref 560, .ref 561, .int (iI (o 49)), .ref 562, .ref 563, .ref 564, .ref 565, .ref 566, .ref 567, .ref 568, .ref 569, .int (iI (o 58)), .ref 570, .ref 571, .ref 572, .ref 573, .ref 574, .ref 575, .ref 576, .ref 577, .ref 578, .int (iI (o 68)), .int (iI (o 69)), .int (iI (o 70)), .ref 579])) (hA540 : S.1 540 = .inl (.int, 60, .inl fun k : Nat => iI (wM (k : Int)))) (hA545 : S.1 545 = .inl (.long, 480, .inr (.inl fun k : Nat => eP (k : Int)))) (hbr : 0 ≤ b ∧ b ≤ 1) (hG : X_Gok G) (hWM : ∀ w, 0 ≤ w → w < gw G → wM (30 * b + w) = gD G w 3 0) (hEP : ∀ w, 0 ≤ w → w < gw G → ∀ e, 0 ≤ e → e < gD G w 3 0 → eP (8 * (30 * b + w) + e) = gW G w e) (hw : 0 ≤ w ∧ w < gw G) : X_T sc 160 (0, [(0, .ref 530), (1, .int (iI (30 * b + w)))], [], S) (fun v S' => v = some (.int (iI (X_en (gD G w) (gW G w)))) ∧ S' = S) := by
  have hgw := hG.2.2.2 w hw.1 hw.2
  have hsz := hgw.1
  have hwm := hWM w hw.1 hw.2
  have hc1 := hG.1
  refine X_QI (fun Q hQ => ?_)
  refine T_p xr_160_0 xn_160 (pc' := 1) (ls' := [(0, .ref 530), (1, .int (iI (30 * b + w)))]) (st' := [.ref 530]) rfl ?_
  refine T_get xr_160_1 hO530 rfl (v := .ref 545) rfl (pc' := 4) rfl ?_
  refine T_p xr_160_4 xn_160 (pc' := 6) (ls' := [(0, .ref 530), (1, .int (iI (30 * b + w)))]) (st' := [.int (iI 8), .ref 545]) rfl ?_
  refine T_p xr_160_6 xn_160 (pc' := 7) (ls' := [(0, .ref 530), (1, .int (iI (30 * b + w)))]) (st' := [.int (iI (30 * b + w)), .int (iI 8), .ref 545]) rfl ?_
  refine T_zimul xr_160_7 (z := 8 * (30 * b + w)) rfl (pc' := 8) rfl ?_
  refine T_zlald xr_160_8 hA545 (pc' := 9) rfl ?_
  refine T_le (y := (gW G w 0)) (by rw [← hEP w hw.1 hw.2 0 (Int.le_refl 0) (by omega)]; congr 1; omega) ?_
  refine T_p xr_160_9 xn_160 (pc' := 10) (ls' := [(0, .ref 530), (1, .int (iI (30 * b + w)))]) (st' := [.long (iL 0), .long (gW G w 0)]) rfl ?_
  refine T_lc_ne xr_160_10 xr_160_11 (t := 18) (pc' := 14) rfl rfl (fun c581 => ?_) (fun c581 => ?_)
  · skip
    have c581 : ¬ (gW G w 0) = (iL 0) := c581
    refine T_p xr_160_18 xn_160 (pc' := 19) (ls' := [(0, .ref 530), (1, .int (iI (30 * b + w)))]) (st' := [.int (iI 0)]) rfl ?_
    refine T_p xr_160_19 xn_160 (pc' := 20) (ls' := [(0, .ref 530), (1, .int (iI (30 * b + w)))]) (st' := [.ref 530, .int (iI 0)]) rfl ?_
    refine T_get xr_160_20 hO530 rfl (v := .ref 545) rfl (pc' := 23) rfl ?_
    refine T_p xr_160_23 xn_160 (pc' := 25) (ls' := [(0, .ref 530), (1, .int (iI (30 * b + w)))]) (st' := [.int (iI 8), .ref 545, .int (iI 0)]) rfl ?_
    refine T_p xr_160_25 xn_160 (pc' := 26) (ls' := [(0, .ref 530), (1, .int (iI (30 * b + w)))]) (st' := [.int (iI (30 * b + w)), .int (iI 8), .ref 545, .int (iI 0)]) rfl ?_
    refine T_zimul xr_160_26 (z := 8 * (30 * b + w)) rfl (pc' := 27) rfl ?_
    refine T_p xr_160_27 xn_160 (pc' := 28) (ls' := [(0, .ref 530), (1, .int (iI (30 * b + w)))]) (st' := [.ref 530, .int (iI (8 * (30 * b + w))), .ref 545, .int (iI 0)]) rfl ?_
    refine T_get xr_160_28 hO530 rfl (v := .ref 540) rfl (pc' := 31) rfl ?_
    refine T_p xr_160_31 xn_160 (pc' := 32) (ls' := [(0, .ref 530), (1, .int (iI (30 * b + w)))]) (st' := [.int (iI (30 * b + w)), .ref 540, .int (iI (8 * (30 * b + w))), .ref 545, .int (iI 0)]) rfl ?_
    refine T_ziald xr_160_32 hA540 (pc' := 33) rfl ?_
    refine T_ziadd xr_160_33 (z := (8 * (30 * b + w)) + (wM (30 * b + w))) rfl (pc' := 34) rfl ?_
    refine T_p xr_160_34 xn_160 (pc' := 35) (ls' := [(0, .ref 530), (1, .int (iI (30 * b + w)))]) (st' := [.int (iI 1), .int (iI ((8 * (30 * b + w)) + (wM (30 * b + w)))), .ref 545, .int (iI 0)]) rfl ?_
    refine T_zisub xr_160_35 (z := ((8 * (30 * b + w)) + (wM (30 * b + w))) - 1) rfl (pc' := 36) rfl ?_
    refine T_zlald xr_160_36 hA545 (pc' := 37) rfl ?_
    refine T_le (y := (gW G w (gD G w 3 0 - 1))) (by rw [← hEP w hw.1 hw.2 (gD G w 3 0 - 1) (by omega) (by omega)]; congr 1; omega) ?_
    refine T_p xr_160_37 xn_160 (pc' := 38) (ls' := [(0, .ref 530), (1, .int (iI (30 * b + w)))]) (st' := [.long (iL 0), .long (gW G w (gD G w 3 0 - 1)), .int (iI 0)]) rfl ?_
    refine T_lc_ne xr_160_38 xr_160_39 (t := 46) (pc' := 42) rfl rfl (fun c582 => ?_) (fun c582 => ?_)
    · skip
      have c582 : ¬ (gW G w (gD G w 3 0 - 1)) = (iL 0) := c582
      refine T_p xr_160_46 xn_160 (pc' := 47) (ls' := [(0, .ref 530), (1, .int (iI (30 * b + w)))]) (st' := [.int (iI 0), .int (iI 0)]) rfl ?_
      refine T_ziadd xr_160_47 (z := 0) (by decide) (pc' := 48) rfl ?_
      refine T_iret xr_160_48 xf_160.2.2 rfl ?_
      refine hQ _ _ ?_
      exact ⟨(by
            have h1 := hEP w hw.1 hw.2 0 (Int.le_refl 0) (by omega)
            have h2 := hEP w hw.1 hw.2 (gD G w 3 0 - 1) (by omega) (by omega)
            have g1 : X_hl (gD G w) (gW G w) 0 ↔ gW G w 0 = iL 0 := ⟨fun z => z.2.2, fun z => ⟨Int.le_refl 0, by omega, z⟩⟩
            have g2 : X_hl (gD G w) (gW G w) (gD G w 3 0 - 1) ↔ gW G w (gD G w 3 0 - 1) = iL 0 := ⟨fun z => z.2.2, fun z => ⟨by omega, by omega, z⟩⟩
            unfold X_en
            first
              | (rw [bI_t (g1.mpr (by first | assumption | exact Classical.not_not.mp (by assumption))), bI_t (g2.mpr (by first | assumption | exact Classical.not_not.mp (by assumption)))]; rfl)
              | (rw [bI_t (g1.mpr (by first | assumption | exact Classical.not_not.mp (by assumption))), bI_f (fun z => absurd (g2.mp z) (by assumption))]; rfl)
              | (rw [bI_f (fun z => absurd (g1.mp z) (by assumption)), bI_t (g2.mpr (by first | assumption | exact Classical.not_not.mp (by assumption)))]; rfl)
              | (rw [bI_f (fun z => absurd (g1.mp z) (by assumption)), bI_f (fun z => absurd (g2.mp z) (by assumption))]; rfl)), rfl⟩
    · skip
      have c582 : ¬ (¬ (gW G w (gD G w 3 0 - 1)) = (iL 0)) := c582
      refine T_p xr_160_42 xn_160 (pc' := 43) (ls' := [(0, .ref 530), (1, .int (iI (30 * b + w)))]) (st' := [.int (iI 2), .int (iI 0)]) rfl ?_
      refine T_p xr_160_43 xn_160 (pc' := 47) (ls' := [(0, .ref 530), (1, .int (iI (30 * b + w)))]) (st' := [.int (iI 2), .int (iI 0)]) rfl ?_
      refine T_ziadd xr_160_47 (z := 2) (by decide) (pc' := 48) rfl ?_
      refine T_iret xr_160_48 xf_160.2.2 rfl ?_
      refine hQ _ _ ?_
      exact ⟨(by
            have h1 := hEP w hw.1 hw.2 0 (Int.le_refl 0) (by omega)
            have h2 := hEP w hw.1 hw.2 (gD G w 3 0 - 1) (by omega) (by omega)
            have g1 : X_hl (gD G w) (gW G w) 0 ↔ gW G w 0 = iL 0 := ⟨fun z => z.2.2, fun z => ⟨Int.le_refl 0, by omega, z⟩⟩
            have g2 : X_hl (gD G w) (gW G w) (gD G w 3 0 - 1) ↔ gW G w (gD G w 3 0 - 1) = iL 0 := ⟨fun z => z.2.2, fun z => ⟨by omega, by omega, z⟩⟩
            unfold X_en
            first
              | (rw [bI_t (g1.mpr (by first | assumption | exact Classical.not_not.mp (by assumption))), bI_t (g2.mpr (by first | assumption | exact Classical.not_not.mp (by assumption)))]; rfl)
              | (rw [bI_t (g1.mpr (by first | assumption | exact Classical.not_not.mp (by assumption))), bI_f (fun z => absurd (g2.mp z) (by assumption))]; rfl)
              | (rw [bI_f (fun z => absurd (g1.mp z) (by assumption)), bI_t (g2.mpr (by first | assumption | exact Classical.not_not.mp (by assumption)))]; rfl)
              | (rw [bI_f (fun z => absurd (g1.mp z) (by assumption)), bI_f (fun z => absurd (g2.mp z) (by assumption))]; rfl)), rfl⟩
  · skip
    have c581 : ¬ (¬ (gW G w 0) = (iL 0)) := c581
    refine T_p xr_160_14 xn_160 (pc' := 15) (ls' := [(0, .ref 530), (1, .int (iI (30 * b + w)))]) (st' := [.int (iI 1)]) rfl ?_
    refine T_p xr_160_15 xn_160 (pc' := 19) (ls' := [(0, .ref 530), (1, .int (iI (30 * b + w)))]) (st' := [.int (iI 1)]) rfl ?_
    refine T_p xr_160_19 xn_160 (pc' := 20) (ls' := [(0, .ref 530), (1, .int (iI (30 * b + w)))]) (st' := [.ref 530, .int (iI 1)]) rfl ?_
    refine T_get xr_160_20 hO530 rfl (v := .ref 545) rfl (pc' := 23) rfl ?_
    refine T_p xr_160_23 xn_160 (pc' := 25) (ls' := [(0, .ref 530), (1, .int (iI (30 * b + w)))]) (st' := [.int (iI 8), .ref 545, .int (iI 1)]) rfl ?_
    refine T_p xr_160_25 xn_160 (pc' := 26) (ls' := [(0, .ref 530), (1, .int (iI (30 * b + w)))]) (st' := [.int (iI (30 * b + w)), .int (iI 8), .ref 545, .int (iI 1)]) rfl ?_
    refine T_zimul xr_160_26 (z := 8 * (30 * b + w)) rfl (pc' := 27) rfl ?_
    refine T_p xr_160_27 xn_160 (pc' := 28) (ls' := [(0, .ref 530), (1, .int (iI (30 * b + w)))]) (st' := [.ref 530, .int (iI (8 * (30 * b + w))), .ref 545, .int (iI 1)]) rfl ?_
    refine T_get xr_160_28 hO530 rfl (v := .ref 540) rfl (pc' := 31) rfl ?_
    refine T_p xr_160_31 xn_160 (pc' := 32) (ls' := [(0, .ref 530), (1, .int (iI (30 * b + w)))]) (st' := [.int (iI (30 * b + w)), .ref 540, .int (iI (8 * (30 * b + w))), .ref 545, .int (iI 1)]) rfl ?_
    refine T_ziald xr_160_32 hA540 (pc' := 33) rfl ?_
    refine T_ziadd xr_160_33 (z := (8 * (30 * b + w)) + (wM (30 * b + w))) rfl (pc' := 34) rfl ?_
    refine T_p xr_160_34 xn_160 (pc' := 35) (ls' := [(0, .ref 530), (1, .int (iI (30 * b + w)))]) (st' := [.int (iI 1), .int (iI ((8 * (30 * b + w)) + (wM (30 * b + w)))), .ref 545, .int (iI 1)]) rfl ?_
    refine T_zisub xr_160_35 (z := ((8 * (30 * b + w)) + (wM (30 * b + w))) - 1) rfl (pc' := 36) rfl ?_
    refine T_zlald xr_160_36 hA545 (pc' := 37) rfl ?_
    refine T_le (y := (gW G w (gD G w 3 0 - 1))) (by rw [← hEP w hw.1 hw.2 (gD G w 3 0 - 1) (by omega) (by omega)]; congr 1; omega) ?_
    refine T_p xr_160_37 xn_160 (pc' := 38) (ls' := [(0, .ref 530), (1, .int (iI (30 * b + w)))]) (st' := [.long (iL 0), .long (gW G w (gD G w 3 0 - 1)), .int (iI 1)]) rfl ?_
    refine T_lc_ne xr_160_38 xr_160_39 (t := 46) (pc' := 42) rfl rfl (fun c583 => ?_) (fun c583 => ?_)
    · skip
      have c583 : ¬ (gW G w (gD G w 3 0 - 1)) = (iL 0) := c583
      refine T_p xr_160_46 xn_160 (pc' := 47) (ls' := [(0, .ref 530), (1, .int (iI (30 * b + w)))]) (st' := [.int (iI 0), .int (iI 1)]) rfl ?_
      refine T_ziadd xr_160_47 (z := 1) (by decide) (pc' := 48) rfl ?_
      refine T_iret xr_160_48 xf_160.2.2 rfl ?_
      refine hQ _ _ ?_
      exact ⟨(by
            have h1 := hEP w hw.1 hw.2 0 (Int.le_refl 0) (by omega)
            have h2 := hEP w hw.1 hw.2 (gD G w 3 0 - 1) (by omega) (by omega)
            have g1 : X_hl (gD G w) (gW G w) 0 ↔ gW G w 0 = iL 0 := ⟨fun z => z.2.2, fun z => ⟨Int.le_refl 0, by omega, z⟩⟩
            have g2 : X_hl (gD G w) (gW G w) (gD G w 3 0 - 1) ↔ gW G w (gD G w 3 0 - 1) = iL 0 := ⟨fun z => z.2.2, fun z => ⟨by omega, by omega, z⟩⟩
            unfold X_en
            first
              | (rw [bI_t (g1.mpr (by first | assumption | exact Classical.not_not.mp (by assumption))), bI_t (g2.mpr (by first | assumption | exact Classical.not_not.mp (by assumption)))]; rfl)
              | (rw [bI_t (g1.mpr (by first | assumption | exact Classical.not_not.mp (by assumption))), bI_f (fun z => absurd (g2.mp z) (by assumption))]; rfl)
              | (rw [bI_f (fun z => absurd (g1.mp z) (by assumption)), bI_t (g2.mpr (by first | assumption | exact Classical.not_not.mp (by assumption)))]; rfl)
              | (rw [bI_f (fun z => absurd (g1.mp z) (by assumption)), bI_f (fun z => absurd (g2.mp z) (by assumption))]; rfl)), rfl⟩
    · skip
      have c583 : ¬ (¬ (gW G w (gD G w 3 0 - 1)) = (iL 0)) := c583
      refine T_p xr_160_42 xn_160 (pc' := 43) (ls' := [(0, .ref 530), (1, .int (iI (30 * b + w)))]) (st' := [.int (iI 2), .int (iI 1)]) rfl ?_
      refine T_p xr_160_43 xn_160 (pc' := 47) (ls' := [(0, .ref 530), (1, .int (iI (30 * b + w)))]) (st' := [.int (iI 2), .int (iI 1)]) rfl ?_
      refine T_ziadd xr_160_47 (z := 3) (by decide) (pc' := 48) rfl ?_
      refine T_iret xr_160_48 xf_160.2.2 rfl ?_
      refine hQ _ _ ?_
      exact ⟨(by
            have h1 := hEP w hw.1 hw.2 0 (Int.le_refl 0) (by omega)
            have h2 := hEP w hw.1 hw.2 (gD G w 3 0 - 1) (by omega) (by omega)
            have g1 : X_hl (gD G w) (gW G w) 0 ↔ gW G w 0 = iL 0 := ⟨fun z => z.2.2, fun z => ⟨Int.le_refl 0, by omega, z⟩⟩
            have g2 : X_hl (gD G w) (gW G w) (gD G w 3 0 - 1) ↔ gW G w (gD G w 3 0 - 1) = iL 0 := ⟨fun z => z.2.2, fun z => ⟨by omega, by omega, z⟩⟩
            unfold X_en
            first
              | (rw [bI_t (g1.mpr (by first | assumption | exact Classical.not_not.mp (by assumption))), bI_t (g2.mpr (by first | assumption | exact Classical.not_not.mp (by assumption)))]; rfl)
              | (rw [bI_t (g1.mpr (by first | assumption | exact Classical.not_not.mp (by assumption))), bI_f (fun z => absurd (g2.mp z) (by assumption))]; rfl)
              | (rw [bI_f (fun z => absurd (g1.mp z) (by assumption)), bI_t (g2.mpr (by first | assumption | exact Classical.not_not.mp (by assumption)))]; rfl)
              | (rw [bI_f (fun z => absurd (g1.mp z) (by assumption)), bI_f (fun z => absurd (g2.mp z) (by assumption))]; rfl)), rfl⟩
