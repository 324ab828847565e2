section
theorem xr_24_0 : X_row 24 0 = some (0, (.iload_n 1, 1), (0, 0, 0)) := by decide +kernel
theorem xr_24_1 : X_row 24 1 = some (1, (.iload_n 1, 1), (0, 0, 0)) := by decide +kernel
theorem xr_24_2 : X_row 24 2 = some (2, (.iconst 1, 1), (0, 0, 0)) := by decide +kernel
theorem xr_24_3 : X_row 24 3 = some (3, (.isub, 1), (0, 0, 0)) := by decide +kernel
theorem xr_24_4 : X_row 24 4 = some (4, (.imul, 1), (0, 0, 0)) := by decide +kernel
theorem xr_24_5 : X_row 24 5 = some (5, (.iconst 2, 1), (0, 0, 0)) := by decide +kernel
theorem xr_24_6 : X_row 24 6 = some (6, (.idiv, 1), (0, 0, 0)) := by decide +kernel
theorem xr_24_7 : X_row 24 7 = some (7, (.iload_n 0, 1), (0, 0, 0)) := by decide +kernel
theorem xr_24_8 : X_row 24 8 = some (8, (.iadd, 1), (0, 0, 0)) := by decide +kernel
theorem xr_24_9 : X_row 24 9 = some (9, (.ireturn, 1), (0, 0, 0)) := by decide +kernel
theorem xr_134_0 : X_row 134 0 = some (0, (.lload_n 0, 1), (0, 0, 0)) := by decide +kernel
theorem xr_134_1 : X_row 134 1 = some (1, (.ldc2_w 166, 3), (18446744073709551614, 863, 0)) := by decide +kernel
theorem xr_134_4 : X_row 134 4 = some (4, (.lcmp, 1), (0, 0, 0)) := by decide +kernel
theorem xr_134_5 : X_row 134 5 = some (5, (.ifCond .eq 11, 3), (0, 0, 0)) := by decide +kernel
theorem xr_134_8 : X_row 134 8 = some (8, (.lload_n 2, 1), (0, 0, 0)) := by decide +kernel
theorem xr_134_9 : X_row 134 9 = some (9, (.ldc2_w 166, 3), (18446744073709551614, 863, 0)) := by decide +kernel
theorem xr_134_12 : X_row 134 12 = some (12, (.lcmp, 1), (0, 0, 0)) := by decide +kernel
theorem xr_134_13 : X_row 134 13 = some (13, (.ifCond .ne 7, 3), (0, 0, 0)) := by decide +kernel
theorem xr_134_16 : X_row 134 16 = some (16, (.ldc2_w 166, 3), (18446744073709551614, 863, 0)) := by decide +kernel
theorem xr_134_19 : X_row 134 19 = some (19, (.lreturn, 1), (0, 0, 0)) := by decide +kernel
theorem xr_134_20 : X_row 134 20 = some (20, (.lload_n 0, 1), (0, 0, 0)) := by decide +kernel
theorem xr_134_21 : X_row 134 21 = some (21, (.lload_n 2, 1), (0, 0, 0)) := by decide +kernel
theorem xr_134_22 : X_row 134 22 = some (22, (.ladd, 1), (0, 0, 0)) := by decide +kernel
theorem xr_134_23 : X_row 134 23 = some (23, (.lstore 4, 2), (0, 0, 0)) := by decide +kernel
theorem xr_134_25 : X_row 134 25 = some (25, (.lload 4, 2), (0, 0, 0)) := by decide +kernel
theorem xr_134_27 : X_row 134 27 = some (27, (.lconst 0, 1), (0, 0, 0)) := by decide +kernel
theorem xr_134_28 : X_row 134 28 = some (28, (.lcmp, 1), (0, 0, 0)) := by decide +kernel
theorem xr_134_29 : X_row 134 29 = some (29, (.ifCond .ge 9, 3), (0, 0, 0)) := by decide +kernel
theorem xr_134_32 : X_row 134 32 = some (32, (.ldc2_w 166, 3), (18446744073709551614, 863, 0)) := by decide +kernel
theorem xr_134_35 : X_row 134 35 = some (35, (.goto 5, 3), (0, 0, 0)) := by decide +kernel
theorem xr_134_38 : X_row 134 38 = some (38, (.lload 4, 2), (0, 0, 0)) := by decide +kernel
theorem xr_134_40 : X_row 134 40 = some (40, (.lreturn, 1), (0, 0, 0)) := by decide +kernel
theorem xr_135_0 : X_row 135 0 = some (0, (.lload_n 0, 1), (0, 0, 0)) := by decide +kernel
theorem xr_135_1 : X_row 135 1 = some (1, (.lconst 0, 1), (0, 0, 0)) := by decide +kernel
theorem xr_135_2 : X_row 135 2 = some (2, (.lcmp, 1), (0, 0, 0)) := by decide +kernel
theorem xr_135_3 : X_row 135 3 = some (3, (.ifCond .eq 9, 3), (0, 0, 0)) := by decide +kernel
theorem xr_135_6 : X_row 135 6 = some (6, (.lload_n 2, 1), (0, 0, 0)) := by decide +kernel
theorem xr_135_7 : X_row 135 7 = some (7, (.lconst 0, 1), (0, 0, 0)) := by decide +kernel
theorem xr_135_8 : X_row 135 8 = some (8, (.lcmp, 1), (0, 0, 0)) := by decide +kernel
theorem xr_135_9 : X_row 135 9 = some (9, (.ifCond .ne 5, 3), (0, 0, 0)) := by decide +kernel
theorem xr_135_12 : X_row 135 12 = some (12, (.lconst 0, 1), (0, 0, 0)) := by decide +kernel
theorem xr_135_13 : X_row 135 13 = some (13, (.lreturn, 1), (0, 0, 0)) := by decide +kernel
theorem xr_135_14 : X_row 135 14 = some (14, (.lload_n 0, 1), (0, 0, 0)) := by decide +kernel
theorem xr_135_15 : X_row 135 15 = some (15, (.ldc2_w 166, 3), (18446744073709551614, 863, 0)) := by decide +kernel
theorem xr_135_18 : X_row 135 18 = some (18, (.lcmp, 1), (0, 0, 0)) := by decide +kernel
theorem xr_135_19 : X_row 135 19 = some (19, (.ifCond .eq 21, 3), (0, 0, 0)) := by decide +kernel
theorem xr_135_22 : X_row 135 22 = some (22, (.lload_n 2, 1), (0, 0, 0)) := by decide +kernel
theorem xr_135_23 : X_row 135 23 = some (23, (.ldc2_w 166, 3), (18446744073709551614, 863, 0)) := by decide +kernel
theorem xr_135_26 : X_row 135 26 = some (26, (.lcmp, 1), (0, 0, 0)) := by decide +kernel
theorem xr_135_27 : X_row 135 27 = some (27, (.ifCond .eq 13, 3), (0, 0, 0)) := by decide +kernel
theorem xr_135_30 : X_row 135 30 = some (30, (.lload_n 0, 1), (0, 0, 0)) := by decide +kernel
theorem xr_135_31 : X_row 135 31 = some (31, (.ldc2_w 217, 3), (9223372036854775807, 864, 0)) := by decide +kernel
theorem xr_135_34 : X_row 135 34 = some (34, (.lload_n 2, 1), (0, 0, 0)) := by decide +kernel
theorem xr_135_35 : X_row 135 35 = some (35, (.ldiv, 1), (0, 0, 0)) := by decide +kernel
theorem xr_135_36 : X_row 135 36 = some (36, (.lcmp, 1), (0, 0, 0)) := by decide +kernel
theorem xr_135_37 : X_row 135 37 = some (37, (.ifCond .le 7, 3), (0, 0, 0)) := by decide +kernel
theorem xr_135_40 : X_row 135 40 = some (40, (.ldc2_w 166, 3), (18446744073709551614, 863, 0)) := by decide +kernel
theorem xr_135_43 : X_row 135 43 = some (43, (.lreturn, 1), (0, 0, 0)) := by decide +kernel
theorem xr_135_44 : X_row 135 44 = some (44, (.lload_n 0, 1), (0, 0, 0)) := by decide +kernel
theorem xr_135_45 : X_row 135 45 = some (45, (.lload_n 2, 1), (0, 0, 0)) := by decide +kernel
theorem xr_135_46 : X_row 135 46 = some (46, (.lmul, 1), (0, 0, 0)) := by decide +kernel
theorem xr_135_47 : X_row 135 47 = some (47, (.lreturn, 1), (0, 0, 0)) := by decide +kernel
theorem xn_24 : X_nL 24 = 2 := by decide +kernel
theorem xf_24 : X_na 24 = 2 ∧ X_ci 24 = 1 ∧ X_rt 24 = (some .int) := by decide +kernel
theorem xn_134 : X_nL 134 = 6 := by decide +kernel
theorem xf_134 : X_na 134 = 2 ∧ X_ci 134 = 10 ∧ X_rt 134 = (some .long) := by decide +kernel
theorem xn_135 : X_nL 135 = 4 := by decide +kernel
theorem xf_135 : X_na 135 = 2 ∧ X_ci 135 = 10 ∧ X_rt 135 = (some .long) := by decide +kernel
theorem c_plus (sc : X_Sc) (S : X_S) (pa_ : Nat) (pb_ : Nat) : X_T sc 134 (0, [(0, .long (X_st (-2) pa_)), (2, .long (X_st (-2) pb_))], [], S) (fun v S' => v = some (.long (X_st (-2) (pa_ + pb_))) ∧ S' = S) := by
  refine X_QI (fun Q hQ => ?_)
  refine T_p xr_134_0 xn_134 (pc' := 1) (ls' := [(0, .long (X_st (-2) pa_)), (2, .long (X_st (-2) pb_))]) (st' := [.long (X_st (-2) pa_)]) rfl ?_
  refine T_p xr_134_1 xn_134 (pc' := 4) (ls' := [(0, .long (X_st (-2) pa_)), (2, .long (X_st (-2) pb_))]) (st' := [.long (iL (-2)), .long (X_st (-2) pa_)]) rfl ?_
  refine T_lc_eq xr_134_4 xr_134_5 (t := 16) (pc' := 8) rfl rfl (fun c562 => ?_) (fun c562 => ?_)
  · skip
    have c562 : (X_st (-2) pa_) = (iL (-2)) := c562
    refine T_p xr_134_16 xn_134 (pc' := 19) (ls' := [(0, .long (X_st (-2) pa_)), (2, .long (X_st (-2) pb_))]) (st' := [.long (iL (-2))]) rfl ?_
    refine T_lret xr_134_19 xf_134.2.2 rfl ?_
    refine hQ _ _ ?_
    exact ⟨(congrArg (fun z => some (Value.long z)) (X_plus_f (by omega) (by first | exact Or.inl ⟨Or.inl (by first | assumption | exact Classical.not_not.mp (by assumption) | exact Int64.not_lt.mpr (by assumption) | exact Int64.not_le.mp (by assumption)), rfl⟩ | exact Or.inl ⟨Or.inr (by first | assumption | exact Classical.not_not.mp (by assumption) | exact Int64.not_lt.mpr (by assumption) | exact Int64.not_le.mp (by assumption)), rfl⟩ | exact Or.inr (Or.inl ⟨by first | assumption | exact Classical.not_not.mp (by assumption) | exact Int64.not_lt.mpr (by assumption) | exact Int64.not_le.mp (by assumption), by first | assumption | exact Classical.not_not.mp (by assumption) | exact Int64.not_lt.mpr (by assumption) | exact Int64.not_le.mp (by assumption), by first | assumption | exact Classical.not_not.mp (by assumption) | exact Int64.not_lt.mpr (by assumption) | exact Int64.not_le.mp (by assumption), rfl⟩) | exact Or.inr (Or.inr ⟨by first | assumption | exact Classical.not_not.mp (by assumption) | exact Int64.not_lt.mpr (by assumption) | exact Int64.not_le.mp (by assumption), by first | assumption | exact Classical.not_not.mp (by assumption) | exact Int64.not_lt.mpr (by assumption) | exact Int64.not_le.mp (by assumption), by first | assumption | exact Classical.not_not.mp (by assumption) | exact Int64.not_lt.mpr (by assumption) | exact Int64.not_le.mp (by assumption), rfl⟩)))), rfl⟩
  · skip
    have c562 : ¬ ((X_st (-2) pa_) = (iL (-2))) := c562
    refine T_p xr_134_8 xn_134 (pc' := 9) (ls' := [(0, .long (X_st (-2) pa_)), (2, .long (X_st (-2) pb_))]) (st' := [.long (X_st (-2) pb_)]) rfl ?_
    refine T_p xr_134_9 xn_134 (pc' := 12) (ls' := [(0, .long (X_st (-2) pa_)), (2, .long (X_st (-2) pb_))]) (st' := [.long (iL (-2)), .long (X_st (-2) pb_)]) rfl ?_
    refine T_lc_ne xr_134_12 xr_134_13 (t := 20) (pc' := 16) rfl rfl (fun c563 => ?_) (fun c563 => ?_)
    · skip
      have c563 : ¬ (X_st (-2) pb_) = (iL (-2)) := c563
      refine T_p xr_134_20 xn_134 (pc' := 21) (ls' := [(0, .long (X_st (-2) pa_)), (2, .long (X_st (-2) pb_))]) (st' := [.long (X_st (-2) pa_)]) rfl ?_
      refine T_p xr_134_21 xn_134 (pc' := 22) (ls' := [(0, .long (X_st (-2) pa_)), (2, .long (X_st (-2) pb_))]) (st' := [.long (X_st (-2) pb_), .long (X_st (-2) pa_)]) rfl ?_
      refine T_p xr_134_22 xn_134 (pc' := 23) (ls' := [(0, .long (X_st (-2) pa_)), (2, .long (X_st (-2) pb_))]) (st' := [.long ((X_st (-2) pa_) + (X_st (-2) pb_))]) rfl ?_
      refine T_p xr_134_23 xn_134 (pc' := 25) (ls' := [(4, .long ((X_st (-2) pa_) + (X_st (-2) pb_))), (0, .long (X_st (-2) pa_)), (2, .long (X_st (-2) pb_))]) (st' := []) rfl ?_
      refine T_p xr_134_25 xn_134 (pc' := 27) (ls' := [(4, .long ((X_st (-2) pa_) + (X_st (-2) pb_))), (0, .long (X_st (-2) pa_)), (2, .long (X_st (-2) pb_))]) (st' := [.long ((X_st (-2) pa_) + (X_st (-2) pb_))]) rfl ?_
      refine T_p xr_134_27 xn_134 (pc' := 28) (ls' := [(4, .long ((X_st (-2) pa_) + (X_st (-2) pb_))), (0, .long (X_st (-2) pa_)), (2, .long (X_st (-2) pb_))]) (st' := [.long (iL 0), .long ((X_st (-2) pa_) + (X_st (-2) pb_))]) rfl ?_
      refine T_lc_ge xr_134_28 xr_134_29 (t := 38) (pc' := 32) rfl rfl (fun c564 => ?_) (fun c564 => ?_)
      · skip
        have c564 : (iL 0) ≤ ((X_st (-2) pa_) + (X_st (-2) pb_)) := c564
        refine T_p xr_134_38 xn_134 (pc' := 40) (ls' := [(4, .long ((X_st (-2) pa_) + (X_st (-2) pb_))), (0, .long (X_st (-2) pa_)), (2, .long (X_st (-2) pb_))]) (st' := [.long ((X_st (-2) pa_) + (X_st (-2) pb_))]) rfl ?_
        refine T_lret xr_134_40 xf_134.2.2 rfl ?_
        refine hQ _ _ ?_
        exact ⟨(congrArg (fun z => some (Value.long z)) (X_plus_f (by omega) (by first | exact Or.inl ⟨Or.inl (by first | assumption | exact Classical.not_not.mp (by assumption) | exact Int64.not_lt.mpr (by assumption) | exact Int64.not_le.mp (by assumption)), rfl⟩ | exact Or.inl ⟨Or.inr (by first | assumption | exact Classical.not_not.mp (by assumption) | exact Int64.not_lt.mpr (by assumption) | exact Int64.not_le.mp (by assumption)), rfl⟩ | exact Or.inr (Or.inl ⟨by first | assumption | exact Classical.not_not.mp (by assumption) | exact Int64.not_lt.mpr (by assumption) | exact Int64.not_le.mp (by assumption), by first | assumption | exact Classical.not_not.mp (by assumption) | exact Int64.not_lt.mpr (by assumption) | exact Int64.not_le.mp (by assumption), by first | assumption | exact Classical.not_not.mp (by assumption) | exact Int64.not_lt.mpr (by assumption) | exact Int64.not_le.mp (by assumption), rfl⟩) | exact Or.inr (Or.inr ⟨by first | assumption | exact Classical.not_not.mp (by assumption) | exact Int64.not_lt.mpr (by assumption) | exact Int64.not_le.mp (by assumption), by first | assumption | exact Classical.not_not.mp (by assumption) | exact Int64.not_lt.mpr (by assumption) | exact Int64.not_le.mp (by assumption), by first | assumption | exact Classical.not_not.mp (by assumption) | exact Int64.not_lt.mpr (by assumption) | exact Int64.not_le.mp (by assumption), rfl⟩)))), rfl⟩
      · skip
        have c564 : ¬ ((iL 0) ≤ ((X_st (-2) pa_) + (X_st (-2) pb_))) := c564
        refine T_p xr_134_32 xn_134 (pc' := 35) (ls' := [(4, .long ((X_st (-2) pa_) + (X_st (-2) pb_))), (0, .long (X_st (-2) pa_)), (2, .long (X_st (-2) pb_))]) (st' := [.long (iL (-2))]) rfl ?_
        refine T_p xr_134_35 xn_134 (pc' := 40) (ls' := [(4, .long ((X_st (-2) pa_) + (X_st (-2) pb_))), (0, .long (X_st (-2) pa_)), (2, .long (X_st (-2) pb_))]) (st' := [.long (iL (-2))]) rfl ?_
        refine T_lret xr_134_40 xf_134.2.2 rfl ?_
        refine hQ _ _ ?_
        exact ⟨(congrArg (fun z => some (Value.long z)) (X_plus_f (by omega) (by first | exact Or.inl ⟨Or.inl (by first | assumption | exact Classical.not_not.mp (by assumption) | exact Int64.not_lt.mpr (by assumption) | exact Int64.not_le.mp (by assumption)), rfl⟩ | exact Or.inl ⟨Or.inr (by first | assumption | exact Classical.not_not.mp (by assumption) | exact Int64.not_lt.mpr (by assumption) | exact Int64.not_le.mp (by assumption)), rfl⟩ | exact Or.inr (Or.inl ⟨by first | assumption | exact Classical.not_not.mp (by assumption) | exact Int64.not_lt.mpr (by assumption) | exact Int64.not_le.mp (by assumption), by first | assumption | exact Classical.not_not.mp (by assumption) | exact Int64.not_lt.mpr (by assumption) | exact Int64.not_le.mp (by assumption), by first | assumption | exact Classical.not_not.mp (by assumption) | exact Int64.not_lt.mpr (by assumption) | exact Int64.not_le.mp (by assumption), rfl⟩) | exact Or.inr (Or.inr ⟨by first | assumption | exact Classical.not_not.mp (by assumption) | exact Int64.not_lt.mpr (by assumption) | exact Int64.not_le.mp (by assumption), by first | assumption | exact Classical.not_not.mp (by assumption) | exact Int64.not_lt.mpr (by assumption) | exact Int64.not_le.mp (by assumption), by first | assumption | exact Classical.not_not.mp (by assumption) | exact Int64.not_lt.mpr (by assumption) | exact Int64.not_le.mp (by assumption), rfl⟩)))), rfl⟩
    · skip
      have c563 : ¬ (¬ (X_st (-2) pb_) = (iL (-2))) := c563
      refine T_p xr_134_16 xn_134 (pc' := 19) (ls' := [(0, .long (X_st (-2) pa_)), (2, .long (X_st (-2) pb_))]) (st' := [.long (iL (-2))]) rfl ?_
      refine T_lret xr_134_19 xf_134.2.2 rfl ?_
      refine hQ _ _ ?_
      exact ⟨(congrArg (fun z => some (Value.long z)) (X_plus_f (by omega) (by first | exact Or.inl ⟨Or.inl (by first | assumption | exact Classical.not_not.mp (by assumption) | exact Int64.not_lt.mpr (by assumption) | exact Int64.not_le.mp (by assumption)), rfl⟩ | exact Or.inl ⟨Or.inr (by first | assumption | exact Classical.not_not.mp (by assumption) | exact Int64.not_lt.mpr (by assumption) | exact Int64.not_le.mp (by assumption)), rfl⟩ | exact Or.inr (Or.inl ⟨by first | assumption | exact Classical.not_not.mp (by assumption) | exact Int64.not_lt.mpr (by assumption) | exact Int64.not_le.mp (by assumption), by first | assumption | exact Classical.not_not.mp (by assumption) | exact Int64.not_lt.mpr (by assumption) | exact Int64.not_le.mp (by assumption), by first | assumption | exact Classical.not_not.mp (by assumption) | exact Int64.not_lt.mpr (by assumption) | exact Int64.not_le.mp (by assumption), rfl⟩) | exact Or.inr (Or.inr ⟨by first | assumption | exact Classical.not_not.mp (by assumption) | exact Int64.not_lt.mpr (by assumption) | exact Int64.not_le.mp (by assumption), by first | assumption | exact Classical.not_not.mp (by assumption) | exact Int64.not_lt.mpr (by assumption) | exact Int64.not_le.mp (by assumption), by first | assumption | exact Classical.not_not.mp (by assumption) | exact Int64.not_lt.mpr (by assumption) | exact Int64.not_le.mp (by assumption), rfl⟩)))), rfl⟩
theorem c_times (sc : X_Sc) (S : X_S) (pa_ : Nat) (pb_ : Nat) : X_T sc 135 (0, [(0, .long (X_st (-2) pa_)), (2, .long (X_st (-2) pb_))], [], S) (fun v S' => v = some (.long (X_st (-2) (pa_ * pb_))) ∧ S' = S) := by
  refine X_QI (fun Q hQ => ?_)
  refine T_p xr_135_0 xn_135 (pc' := 1) (ls' := [(0, .long (X_st (-2) pa_)), (2, .long (X_st (-2) pb_))]) (st' := [.long (X_st (-2) pa_)]) rfl ?_
  refine T_p xr_135_1 xn_135 (pc' := 2) (ls' := [(0, .long (X_st (-2) pa_)), (2, .long (X_st (-2) pb_))]) (st' := [.long (iL 0), .long (X_st (-2) pa_)]) rfl ?_
  refine T_lc_eq xr_135_2 xr_135_3 (t := 12) (pc' := 6) rfl rfl (fun c565 => ?_) (fun c565 => ?_)
  · skip
    have c565 : (X_st (-2) pa_) = (iL 0) := c565
    refine T_p xr_135_12 xn_135 (pc' := 13) (ls' := [(0, .long (X_st (-2) pa_)), (2, .long (X_st (-2) pb_))]) (st' := [.long (iL 0)]) rfl ?_
    refine T_lret xr_135_13 xf_135.2.2 rfl ?_
    refine hQ _ _ ?_
    exact ⟨(congrArg (fun z => some (Value.long z)) (X_times_f (by omega) (by first | exact Or.inl ⟨Or.inl (by first | assumption | exact Classical.not_not.mp (by assumption) | exact Int64.not_lt.mpr (by assumption) | exact Int64.not_le.mp (by assumption)), rfl⟩ | exact Or.inl ⟨Or.inr (by first | assumption | exact Classical.not_not.mp (by assumption) | exact Int64.not_lt.mpr (by assumption) | exact Int64.not_le.mp (by assumption)), rfl⟩ | exact Or.inr (Or.inl ⟨by first | assumption | exact Classical.not_not.mp (by assumption) | exact Int64.not_lt.mpr (by assumption) | exact Int64.not_le.mp (by assumption), by first | assumption | exact Classical.not_not.mp (by assumption) | exact Int64.not_lt.mpr (by assumption) | exact Int64.not_le.mp (by assumption), Or.inl (by first | assumption | exact Classical.not_not.mp (by assumption) | exact Int64.not_lt.mpr (by assumption) | exact Int64.not_le.mp (by assumption)), rfl⟩) | exact Or.inr (Or.inl ⟨by first | assumption | exact Classical.not_not.mp (by assumption) | exact Int64.not_lt.mpr (by assumption) | exact Int64.not_le.mp (by assumption), by first | assumption | exact Classical.not_not.mp (by assumption) | exact Int64.not_lt.mpr (by assumption) | exact Int64.not_le.mp (by assumption), Or.inr (by first | assumption | exact Classical.not_not.mp (by assumption) | exact Int64.not_lt.mpr (by assumption) | exact Int64.not_le.mp (by assumption)), rfl⟩) | exact Or.inr (Or.inr (Or.inl ⟨by first | assumption | exact Classical.not_not.mp (by assumption) | exact Int64.not_lt.mpr (by assumption) | exact Int64.not_le.mp (by assumption), by first | assumption | exact Classical.not_not.mp (by assumption) | exact Int64.not_lt.mpr (by assumption) | exact Int64.not_le.mp (by assumption), by first | assumption | exact Classical.not_not.mp (by assumption) | exact Int64.not_lt.mpr (by assumption) | exact Int64.not_le.mp (by assumption), by first | assumption | exact Classical.not_not.mp (by assumption) | exact Int64.not_lt.mpr (by assumption) | exact Int64.not_le.mp (by assumption), by first | assumption | exact Classical.not_not.mp (by assumption) | exact Int64.not_lt.mpr (by assumption) | exact Int64.not_le.mp (by assumption), rfl⟩)) | exact Or.inr (Or.inr (Or.inr ⟨by first | assumption | exact Classical.not_not.mp (by assumption) | exact Int64.not_lt.mpr (by assumption) | exact Int64.not_le.mp (by assumption), by first | assumption | exact Classical.not_not.mp (by assumption) | exact Int64.not_lt.mpr (by assumption) | exact Int64.not_le.mp (by assumption), by first | assumption | exact Classical.not_not.mp (by assumption) | exact Int64.not_lt.mpr (by assumption) | exact Int64.not_le.mp (by assumption), by first | assumption | exact Classical.not_not.mp (by assumption) | exact Int64.not_lt.mpr (by assumption) | exact Int64.not_le.mp (by assumption), by first | assumption | exact Classical.not_not.mp (by assumption) | exact Int64.not_lt.mpr (by assumption) | exact Int64.not_le.mp (by assumption), rfl⟩))))), rfl⟩
  · skip
    have c565 : ¬ ((X_st (-2) pa_) = (iL 0)) := c565
    refine T_p xr_135_6 xn_135 (pc' := 7) (ls' := [(0, .long (X_st (-2) pa_)), (2, .long (X_st (-2) pb_))]) (st' := [.long (X_st (-2) pb_)]) rfl ?_
    refine T_p xr_135_7 xn_135 (pc' := 8) (ls' := [(0, .long (X_st (-2) pa_)), (2, .long (X_st (-2) pb_))]) (st' := [.long (iL 0), .long (X_st (-2) pb_)]) rfl ?_
    refine T_lc_ne xr_135_8 xr_135_9 (t := 14) (pc' := 12) rfl rfl (fun c566 => ?_) (fun c566 => ?_)
    · skip
      have c566 : ¬ (X_st (-2) pb_) = (iL 0) := c566
      refine T_p xr_135_14 xn_135 (pc' := 15) (ls' := [(0, .long (X_st (-2) pa_)), (2, .long (X_st (-2) pb_))]) (st' := [.long (X_st (-2) pa_)]) rfl ?_
      refine T_p xr_135_15 xn_135 (pc' := 18) (ls' := [(0, .long (X_st (-2) pa_)), (2, .long (X_st (-2) pb_))]) (st' := [.long (iL (-2)), .long (X_st (-2) pa_)]) rfl ?_
      refine T_lc_eq xr_135_18 xr_135_19 (t := 40) (pc' := 22) rfl rfl (fun c567 => ?_) (fun c567 => ?_)
      · skip
        have c567 : (X_st (-2) pa_) = (iL (-2)) := c567
        refine T_p xr_135_40 xn_135 (pc' := 43) (ls' := [(0, .long (X_st (-2) pa_)), (2, .long (X_st (-2) pb_))]) (st' := [.long (iL (-2))]) rfl ?_
        refine T_lret xr_135_43 xf_135.2.2 rfl ?_
        refine hQ _ _ ?_
        exact ⟨(congrArg (fun z => some (Value.long z)) (X_times_f (by omega) (by first | exact Or.inl ⟨Or.inl (by first | assumption | exact Classical.not_not.mp (by assumption) | exact Int64.not_lt.mpr (by assumption) | exact Int64.not_le.mp (by assumption)), rfl⟩ | exact Or.inl ⟨Or.inr (by first | assumption | exact Classical.not_not.mp (by assumption) | exact Int64.not_lt.mpr (by assumption) | exact Int64.not_le.mp (by assumption)), rfl⟩ | exact Or.inr (Or.inl ⟨by first | assumption | exact Classical.not_not.mp (by assumption) | exact Int64.not_lt.mpr (by assumption) | exact Int64.not_le.mp (by assumption), by first | assumption | exact Classical.not_not.mp (by assumption) | exact Int64.not_lt.mpr (by assumption) | exact Int64.not_le.mp (by assumption), Or.inl (by first | assumption | exact Classical.not_not.mp (by assumption) | exact Int64.not_lt.mpr (by assumption) | exact Int64.not_le.mp (by assumption)), rfl⟩) | exact Or.inr (Or.inl ⟨by first | assumption | exact Classical.not_not.mp (by assumption) | exact Int64.not_lt.mpr (by assumption) | exact Int64.not_le.mp (by assumption), by first | assumption | exact Classical.not_not.mp (by assumption) | exact Int64.not_lt.mpr (by assumption) | exact Int64.not_le.mp (by assumption), Or.inr (by first | assumption | exact Classical.not_not.mp (by assumption) | exact Int64.not_lt.mpr (by assumption) | exact Int64.not_le.mp (by assumption)), rfl⟩) | exact Or.inr (Or.inr (Or.inl ⟨by first | assumption | exact Classical.not_not.mp (by assumption) | exact Int64.not_lt.mpr (by assumption) | exact Int64.not_le.mp (by assumption), by first | assumption | exact Classical.not_not.mp (by assumption) | exact Int64.not_lt.mpr (by assumption) | exact Int64.not_le.mp (by assumption), by first | assumption | exact Classical.not_not.mp (by assumption) | exact Int64.not_lt.mpr (by assumption) | exact Int64.not_le.mp (by assumption), by first | assumption | exact Classical.not_not.mp (by assumption) | exact Int64.not_lt.mpr (by assumption) | exact Int64.not_le.mp (by assumption), by first | assumption | exact Classical.not_not.mp (by assumption) | exact Int64.not_lt.mpr (by assumption) | exact Int64.not_le.mp (by assumption), rfl⟩)) | exact Or.inr (Or.inr (Or.inr ⟨by first | assumption | exact Classical.not_not.mp (by assumption) | exact Int64.not_lt.mpr (by assumption) | exact Int64.not_le.mp (by assumption), by first | assumption | exact Classical.not_not.mp (by assumption) | exact Int64.not_lt.mpr (by assumption) | exact Int64.not_le.mp (by assumption), by first | assumption | exact Classical.not_not.mp (by assumption) | exact Int64.not_lt.mpr (by assumption) | exact Int64.not_le.mp (by assumption), by first | assumption | exact Classical.not_not.mp (by assumption) | exact Int64.not_lt.mpr (by assumption) | exact Int64.not_le.mp (by assumption), by first | assumption | exact Classical.not_not.mp (by assumption) | exact Int64.not_lt.mpr (by assumption) | exact Int64.not_le.mp (by assumption), rfl⟩))))), rfl⟩
      · skip
        have c567 : ¬ ((X_st (-2) pa_) = (iL (-2))) := c567
        refine T_p xr_135_22 xn_135 (pc' := 23) (ls' := [(0, .long (X_st (-2) pa_)), (2, .long (X_st (-2) pb_))]) (st' := [.long (X_st (-2) pb_)]) rfl ?_
        refine T_p xr_135_23 xn_135 (pc' := 26) (ls' := [(0, .long (X_st (-2) pa_)), (2, .long (X_st (-2) pb_))]) (st' := [.long (iL (-2)), .long (X_st (-2) pb_)]) rfl ?_
        refine T_lc_eq xr_135_26 xr_135_27 (t := 40) (pc' := 30) rfl rfl (fun c568 => ?_) (fun c568 => ?_)
        · skip
          have c568 : (X_st (-2) pb_) = (iL (-2)) := c568
          refine T_p xr_135_40 xn_135 (pc' := 43) (ls' := [(0, .long (X_st (-2) pa_)), (2, .long (X_st (-2) pb_))]) (st' := [.long (iL (-2))]) rfl ?_
          refine T_lret xr_135_43 xf_135.2.2 rfl ?_
          refine hQ _ _ ?_
          exact ⟨(congrArg (fun z => some (Value.long z)) (X_times_f (by omega) (by first | exact Or.inl ⟨Or.inl (by first | assumption | exact Classical.not_not.mp (by assumption) | exact Int64.not_lt.mpr (by assumption) | exact Int64.not_le.mp (by assumption)), rfl⟩ | exact Or.inl ⟨Or.inr (by first | assumption | exact Classical.not_not.mp (by assumption) | exact Int64.not_lt.mpr (by assumption) | exact Int64.not_le.mp (by assumption)), rfl⟩ | exact Or.inr (Or.inl ⟨by first | assumption | exact Classical.not_not.mp (by assumption) | exact Int64.not_lt.mpr (by assumption) | exact Int64.not_le.mp (by assumption), by first | assumption | exact Classical.not_not.mp (by assumption) | exact Int64.not_lt.mpr (by assumption) | exact Int64.not_le.mp (by assumption), Or.inl (by first | assumption | exact Classical.not_not.mp (by assumption) | exact Int64.not_lt.mpr (by assumption) | exact Int64.not_le.mp (by assumption)), rfl⟩) | exact Or.inr (Or.inl ⟨by first | assumption | exact Classical.not_not.mp (by assumption) | exact Int64.not_lt.mpr (by assumption) | exact Int64.not_le.mp (by assumption), by first | assumption | exact Classical.not_not.mp (by assumption) | exact Int64.not_lt.mpr (by assumption) | exact Int64.not_le.mp (by assumption), Or.inr (by first | assumption | exact Classical.not_not.mp (by assumption) | exact Int64.not_lt.mpr (by assumption) | exact Int64.not_le.mp (by assumption)), rfl⟩) | exact Or.inr (Or.inr (Or.inl ⟨by first | assumption | exact Classical.not_not.mp (by assumption) | exact Int64.not_lt.mpr (by assumption) | exact Int64.not_le.mp (by assumption), by first | assumption | exact Classical.not_not.mp (by assumption) | exact Int64.not_lt.mpr (by assumption) | exact Int64.not_le.mp (by assumption), by first | assumption | exact Classical.not_not.mp (by assumption) | exact Int64.not_lt.mpr (by assumption) | exact Int64.not_le.mp (by assumption), by first | assumption | exact Classical.not_not.mp (by assumption) | exact Int64.not_lt.mpr (by assumption) | exact Int64.not_le.mp (by assumption), by first | assumption | exact Classical.not_not.mp (by assumption) | exact Int64.not_lt.mpr (by assumption) | exact Int64.not_le.mp (by assumption), rfl⟩)) | exact Or.inr (Or.inr (Or.inr ⟨by first | assumption | exact Classical.not_not.mp (by assumption) | exact Int64.not_lt.mpr (by assumption) | exact Int64.not_le.mp (by assumption), by first | assumption | exact Classical.not_not.mp (by assumption) | exact Int64.not_lt.mpr (by assumption) | exact Int64.not_le.mp (by assumption), by first | assumption | exact Classical.not_not.mp (by assumption) | exact Int64.not_lt.mpr (by assumption) | exact Int64.not_le.mp (by assumption), by first | assumption | exact Classical.not_not.mp (by assumption) | exact Int64.not_lt.mpr (by assumption) | exact Int64.not_le.mp (by assumption), by first | assumption | exact Classical.not_not.mp (by assumption) | exact Int64.not_lt.mpr (by assumption) | exact Int64.not_le.mp (by assumption), rfl⟩))))), rfl⟩
        · skip
          have c568 : ¬ ((X_st (-2) pb_) = (iL (-2))) := c568
          refine T_p xr_135_30 xn_135 (pc' := 31) (ls' := [(0, .long (X_st (-2) pa_)), (2, .long (X_st (-2) pb_))]) (st' := [.long (X_st (-2) pa_)]) rfl ?_
          refine T_p xr_135_31 xn_135 (pc' := 34) (ls' := [(0, .long (X_st (-2) pa_)), (2, .long (X_st (-2) pb_))]) (st' := [.long (iL 9223372036854775807), .long (X_st (-2) pa_)]) rfl ?_
          refine T_p xr_135_34 xn_135 (pc' := 35) (ls' := [(0, .long (X_st (-2) pa_)), (2, .long (X_st (-2) pb_))]) (st' := [.long (X_st (-2) pb_), .long (iL 9223372036854775807), .long (X_st (-2) pa_)]) rfl ?_
          refine T_p xr_135_35 xn_135 (pc' := 36) (ls' := [(0, .long (X_st (-2) pa_)), (2, .long (X_st (-2) pb_))]) (st' := .long ((iL 9223372036854775807) / (X_st (-2) pb_)) :: [.long (X_st (-2) pa_)]) (by simp only [X_pstep, X_l2]; rw [if_neg (by assumption)]) ?_
          refine T_lc_le xr_135_36 xr_135_37 (t := 44) (pc' := 40) rfl rfl (fun c569 => ?_) (fun c569 => ?_)
          · skip
            have c569 : (X_st (-2) pa_) ≤ ((iL 9223372036854775807) / (X_st (-2) pb_)) := c569
            refine T_p xr_135_44 xn_135 (pc' := 45) (ls' := [(0, .long (X_st (-2) pa_)), (2, .long (X_st (-2) pb_))]) (st' := [.long (X_st (-2) pa_)]) rfl ?_
            refine T_p xr_135_45 xn_135 (pc' := 46) (ls' := [(0, .long (X_st (-2) pa_)), (2, .long (X_st (-2) pb_))]) (st' := [.long (X_st (-2) pb_), .long (X_st (-2) pa_)]) rfl ?_
            refine T_p xr_135_46 xn_135 (pc' := 47) (ls' := [(0, .long (X_st (-2) pa_)), (2, .long (X_st (-2) pb_))]) (st' := [.long ((X_st (-2) pa_) * (X_st (-2) pb_))]) rfl ?_
            refine T_lret xr_135_47 xf_135.2.2 rfl ?_
            refine hQ _ _ ?_
            exact ⟨(congrArg (fun z => some (Value.long z)) (X_times_f (by omega) (by first | exact Or.inl ⟨Or.inl (by first | assumption | exact Classical.not_not.mp (by assumption) | exact Int64.not_lt.mpr (by assumption) | exact Int64.not_le.mp (by assumption)), rfl⟩ | exact Or.inl ⟨Or.inr (by first | assumption | exact Classical.not_not.mp (by assumption) | exact Int64.not_lt.mpr (by assumption) | exact Int64.not_le.mp (by assumption)), rfl⟩ | exact Or.inr (Or.inl ⟨by first | assumption | exact Classical.not_not.mp (by assumption) | exact Int64.not_lt.mpr (by assumption) | exact Int64.not_le.mp (by assumption), by first | assumption | exact Classical.not_not.mp (by assumption) | exact Int64.not_lt.mpr (by assumption) | exact Int64.not_le.mp (by assumption), Or.inl (by first | assumption | exact Classical.not_not.mp (by assumption) | exact Int64.not_lt.mpr (by assumption) | exact Int64.not_le.mp (by assumption)), rfl⟩) | exact Or.inr (Or.inl ⟨by first | assumption | exact Classical.not_not.mp (by assumption) | exact Int64.not_lt.mpr (by assumption) | exact Int64.not_le.mp (by assumption), by first | assumption | exact Classical.not_not.mp (by assumption) | exact Int64.not_lt.mpr (by assumption) | exact Int64.not_le.mp (by assumption), Or.inr (by first | assumption | exact Classical.not_not.mp (by assumption) | exact Int64.not_lt.mpr (by assumption) | exact Int64.not_le.mp (by assumption)), rfl⟩) | exact Or.inr (Or.inr (Or.inl ⟨by first | assumption | exact Classical.not_not.mp (by assumption) | exact Int64.not_lt.mpr (by assumption) | exact Int64.not_le.mp (by assumption), by first | assumption | exact Classical.not_not.mp (by assumption) | exact Int64.not_lt.mpr (by assumption) | exact Int64.not_le.mp (by assumption), by first | assumption | exact Classical.not_not.mp (by assumption) | exact Int64.not_lt.mpr (by assumption) | exact Int64.not_le.mp (by assumption), by first | assumption | exact Classical.not_not.mp (by assumption) | exact Int64.not_lt.mpr (by assumption) | exact Int64.not_le.mp (by assumption), by first | assumption | exact Classical.not_not.mp (by assumption) | exact Int64.not_lt.mpr (by assumption) | exact Int64.not_le.mp (by assumption), rfl⟩)) | exact Or.inr (Or.inr (Or.inr ⟨by first | assumption | exact Classical.not_not.mp (by assumption) | exact Int64.not_lt.mpr (by assumption) | exact Int64.not_le.mp (by assumption), by first | assumption | exact Classical.not_not.mp (by assumption) | exact Int64.not_lt.mpr (by assumption) | exact Int64.not_le.mp (by assumption), by first | assumption | exact Classical.not_not.mp (by assumption) | exact Int64.not_lt.mpr (by assumption) | exact Int64.not_le.mp (by assumption), by first | assumption | exact Classical.not_not.mp (by assumption) | exact Int64.not_lt.mpr (by assumption) | exact Int64.not_le.mp (by assumption), by first | assumption | exact Classical.not_not.mp (by assumption) | exact Int64.not_lt.mpr (by assumption) | exact Int64.not_le.mp (by assumption), rfl⟩))))), rfl⟩
          · skip
            have c569 : ¬ ((X_st (-2) pa_) ≤ ((iL 9223372036854775807) / (X_st (-2) pb_))) := c569
            refine T_p xr_135_40 xn_135 (pc' := 43) (ls' := [(0, .long (X_st (-2) pa_)), (2, .long (X_st (-2) pb_))]) (st' := [.long (iL (-2))]) rfl ?_
            refine T_lret xr_135_43 xf_135.2.2 rfl ?_
            refine hQ _ _ ?_
            exact ⟨(congrArg (fun z => some (Value.long z)) (X_times_f (by omega) (by first | exact Or.inl ⟨Or.inl (by first | assumption | exact Classical.not_not.mp (by assumption) | exact Int64.not_lt.mpr (by assumption) | exact Int64.not_le.mp (by assumption)), rfl⟩ | exact Or.inl ⟨Or.inr (by first | assumption | exact Classical.not_not.mp (by assumption) | exact Int64.not_lt.mpr (by assumption) | exact Int64.not_le.mp (by assumption)), rfl⟩ | exact Or.inr (Or.inl ⟨by first | assumption | exact Classical.not_not.mp (by assumption) | exact Int64.not_lt.mpr (by assumption) | exact Int64.not_le.mp (by assumption), by first | assumption | exact Classical.not_not.mp (by assumption) | exact Int64.not_lt.mpr (by assumption) | exact Int64.not_le.mp (by assumption), Or.inl (by first | assumption | exact Classical.not_not.mp (by assumption) | exact Int64.not_lt.mpr (by assumption) | exact Int64.not_le.mp (by assumption)), rfl⟩) | exact Or.inr (Or.inl ⟨by first | assumption | exact Classical.not_not.mp (by assumption) | exact Int64.not_lt.mpr (by assumption) | exact Int64.not_le.mp (by assumption), by first | assumption | exact Classical.not_not.mp (by assumption) | exact Int64.not_lt.mpr (by assumption) | exact Int64.not_le.mp (by assumption), Or.inr (by first | assumption | exact Classical.not_not.mp (by assumption) | exact Int64.not_lt.mpr (by assumption) | exact Int64.not_le.mp (by assumption)), rfl⟩) | exact Or.inr (Or.inr (Or.inl ⟨by first | assumption | exact Classical.not_not.mp (by assumption) | exact Int64.not_lt.mpr (by assumption) | exact Int64.not_le.mp (by assumption), by first | assumption | exact Classical.not_not.mp (by assumption) | exact Int64.not_lt.mpr (by assumption) | exact Int64.not_le.mp (by assumption), by first | assumption | exact Classical.not_not.mp (by assumption) | exact Int64.not_lt.mpr (by assumption) | exact Int64.not_le.mp (by assumption), by first | assumption | exact Classical.not_not.mp (by assumption) | exact Int64.not_lt.mpr (by assumption) | exact Int64.not_le.mp (by assumption), by first | assumption | exact Classical.not_not.mp (by assumption) | exact Int64.not_lt.mpr (by assumption) | exact Int64.not_le.mp (by assumption), rfl⟩)) | exact Or.inr (Or.inr (Or.inr ⟨by first | assumption | exact Classical.not_not.mp (by assumption) | exact Int64.not_lt.mpr (by assumption) | exact Int64.not_le.mp (by assumption), by first | assumption | exact Classical.not_not.mp (by assumption) | exact Int64.not_lt.mpr (by assumption) | exact Int64.not_le.mp (by assumption), by first | assumption | exact Classical.not_not.mp (by assumption) | exact Int64.not_lt.mpr (by assumption) | exact Int64.not_le.mp (by assumption), by first | assumption | exact Classical.not_not.mp (by assumption) | exact Int64.not_lt.mpr (by assumption) | exact Int64.not_le.mp (by assumption), by first | assumption | exact Classical.not_not.mp (by assumption) | exact Int64.not_lt.mpr (by assumption) | exact Int64.not_le.mp (by assumption), rfl⟩))))), rfl⟩
    · skip
      have c566 : ¬ (¬ (X_st (-2) pb_) = (iL 0)) := c566
      refine T_p xr_135_12 xn_135 (pc' := 13) (ls' := [(0, .long (X_st (-2) pa_)), (2, .long (X_st (-2) pb_))]) (st' := [.long (iL 0)]) rfl ?_
      refine T_lret xr_135_13 xf_135.2.2 rfl ?_
      refine hQ _ _ ?_
      exact ⟨(congrArg (fun z => some (Value.long z)) (X_times_f (by omega) (by first | exact Or.inl ⟨Or.inl (by first | assumption | exact Classical.not_not.mp (by assumption) | exact Int64.not_lt.mpr (by assumption) | exact Int64.not_le.mp (by assumption)), rfl⟩ | exact Or.inl ⟨Or.inr (by first | assumption | exact Classical.not_not.mp (by assumption) | exact Int64.not_lt.mpr (by assumption) | exact Int64.not_le.mp (by assumption)), rfl⟩ | exact Or.inr (Or.inl ⟨by first | assumption | exact Classical.not_not.mp (by assumption) | exact Int64.not_lt.mpr (by assumption) | exact Int64.not_le.mp (by assumption), by first | assumption | exact Classical.not_not.mp (by assumption) | exact Int64.not_lt.mpr (by assumption) | exact Int64.not_le.mp (by assumption), Or.inl (by first | assumption | exact Classical.not_not.mp (by assumption) | exact Int64.not_lt.mpr (by assumption) | exact Int64.not_le.mp (by assumption)), rfl⟩) | exact Or.inr (Or.inl ⟨by first | assumption | exact Classical.not_not.mp (by assumption) | exact Int64.not_lt.mpr (by assumption) | exact Int64.not_le.mp (by assumption), by first | assumption | exact Classical.not_not.mp (by assumption) | exact Int64.not_lt.mpr (by assumption) | exact Int64.not_le.mp (by assumption), Or.inr (by first | assumption | exact Classical.not_not.mp (by assumption) | exact Int64.not_lt.mpr (by assumption) | exact Int64.not_le.mp (by assumption)), rfl⟩) | exact Or.inr (Or.inr (Or.inl ⟨by first | assumption | exact Classical.not_not.mp (by assumption) | exact Int64.not_lt.mpr (by assumption) | exact Int64.not_le.mp (by assumption), by first | assumption | exact Classical.not_not.mp (by assumption) | exact Int64.not_lt.mpr (by assumption) | exact Int64.not_le.mp (by assumption), by first | assumption | exact Classical.not_not.mp (by assumption) | exact Int64.not_lt.mpr (by assumption) | exact Int64.not_le.mp (by assumption), by first | assumption | exact Classical.not_not.mp (by assumption) | exact Int64.not_lt.mpr (by assumption) | exact Int64.not_le.mp (by assumption), by first | assumption | exact Classical.not_not.mp (by assumption) | exact Int64.not_lt.mpr (by assumption) | exact Int64.not_le.mp (by assumption), rfl⟩)) | exact Or.inr (Or.inr (Or.inr ⟨by first | assumption | exact Classical.not_not.mp (by assumption) | exact Int64.not_lt.mpr (by assumption) | exact Int64.not_le.mp (by assumption), by first | assumption | exact Classical.not_not.mp (by assumption) | exact Int64.not_lt.mpr (by assumption) | exact Int64.not_le.mp (by assumption), by first | assumption | exact Classical.not_not.mp (by assumption) | exact Int64.not_lt.mpr (by assumption) | exact Int64.not_le.mp (by assumption), by first | assumption | exact Classical.not_not.mp (by assumption) | exact Int64.not_lt.mpr (by assumption) | exact Int64.not_le.mp (by assumption), by first | assumption | exact Classical.not_not.mp (by assumption) | exact Int64.not_lt.mpr (by assumption) | exact Int64.not_le.mp (by assumption), rfl⟩))))), rfl⟩
theorem c_rowOf (sc : X_Sc) (S : X_S) (i : Int) (j : Int) (hij : 0 ≤ i ∧ i < j ∧ j ≤ 30) : X_T sc 24 (0, [(0, .int (iI i)), (1, .int (iI j))], [], S) (fun v S' => v = some (.int (iI (X_ro i j))) ∧ S' = S) := by
  have hr := X_ro_r hij.1 hij.2.1 hij.2.2
  refine X_QI (fun Q hQ => ?_)
  refine T_p xr_24_0 xn_24 (pc' := 1) (ls' := [(0, .int (iI i)), (1, .int (iI j))]) (st' := [.int (iI j)]) rfl ?_
  refine T_p xr_24_1 xn_24 (pc' := 2) (ls' := [(0, .int (iI i)), (1, .int (iI j))]) (st' := [.int (iI j), .int (iI j)]) rfl ?_
  refine T_p xr_24_2 xn_24 (pc' := 3) (ls' := [(0, .int (iI i)), (1, .int (iI j))]) (st' := [.int (iI 1), .int (iI j), .int (iI j)]) rfl ?_
  refine T_zisub xr_24_3 (z := j - 1) rfl (pc' := 4) rfl ?_
  refine T_zimul xr_24_4 (z := j * (j - 1)) rfl (pc' := 5) rfl ?_
  refine T_p xr_24_5 xn_24 (pc' := 6) (ls' := [(0, .int (iI i)), (1, .int (iI j))]) (st' := [.int (iI 2), .int (iI (j * (j - 1)))]) rfl ?_
  refine T_zidiv xr_24_6 (by omega) (by omega) (z := (j * (j - 1)) / 2) rfl (pc' := 7) rfl ?_
  refine T_p xr_24_7 xn_24 (pc' := 8) (ls' := [(0, .int (iI i)), (1, .int (iI j))]) (st' := [.int (iI i), .int (iI ((j * (j - 1)) / 2))]) rfl ?_
  refine T_ziadd xr_24_8 (z := ((j * (j - 1)) / 2) + i) rfl (pc' := 9) rfl ?_
  refine T_iret xr_24_9 xf_24.2.2 rfl ?_
  refine hQ _ _ ?_
  exact ⟨by rfl, rfl⟩
end
section
theorem xr_29_0 : X_row 29 0 = some (0, (.lconst 0, 1), (0, 0, 0)) := by decide +kernel
theorem xr_29_1 : X_row 29 1 = some (1, (.lstore_n 3, 1), (0, 0, 0)) := by decide +kernel
theorem xr_29_2 : X_row 29 2 = some (2, (.iconst 0, 1), (0, 0, 0)) := by decide +kernel
theorem xr_29_3 : X_row 29 3 = some (3, (.istore 5, 2), (0, 0, 0)) := by decide +kernel
theorem xr_29_5 : X_row 29 5 = some (5, (.iload 5, 2), (0, 0, 0)) := by decide +kernel
theorem xr_29_7 : X_row 29 7 = some (7, (.aload_n 0, 1), (0, 0, 0)) := by decide +kernel
theorem xr_29_8 : X_row 29 8 = some (8, (.getfield 32, 3), (1, 0, 22)) := by decide +kernel
theorem xr_29_11 : X_row 29 11 = some (11, (.getfield 48, 3), (0, 1, 13)) := by decide +kernel
theorem xr_29_14 : X_row 29 14 = some (14, (.if_icmp .ge 35, 3), (0, 0, 0)) := by decide +kernel
theorem xr_29_17 : X_row 29 17 = some (17, (.iload_n 2, 1), (0, 0, 0)) := by decide +kernel
theorem xr_29_18 : X_row 29 18 = some (18, (.iload 5, 2), (0, 0, 0)) := by decide +kernel
theorem xr_29_20 : X_row 29 20 = some (20, (.invokestatic 54, 3), (131, 29, 0)) := by decide +kernel
theorem xr_29_23 : X_row 29 23 = some (23, (.ifCond .eq 20, 3), (0, 0, 0)) := by decide +kernel
theorem xr_29_26 : X_row 29 26 = some (26, (.lload_n 3, 1), (0, 0, 0)) := by decide +kernel
theorem xr_29_27 : X_row 29 27 = some (27, (.aload_n 0, 1), (0, 0, 0)) := by decide +kernel
theorem xr_29_28 : X_row 29 28 = some (28, (.getfield 15, 3), (1, 3, 28)) := by decide +kernel
theorem xr_29_31 : X_row 29 31 = some (31, (.iload_n 1, 1), (0, 0, 0)) := by decide +kernel
theorem xr_29_32 : X_row 29 32 = some (32, (.bipush 11, 2), (0, 0, 0)) := by decide +kernel
theorem xr_29_34 : X_row 29 34 = some (34, (.imul, 1), (0, 0, 0)) := by decide +kernel
theorem xr_29_35 : X_row 29 35 = some (35, (.iload 5, 2), (0, 0, 0)) := by decide +kernel
theorem xr_29_37 : X_row 29 37 = some (37, (.iadd, 1), (0, 0, 0)) := by decide +kernel
theorem xr_29_38 : X_row 29 38 = some (38, (.laload, 1), (0, 0, 0)) := by decide +kernel
theorem xr_29_39 : X_row 29 39 = some (39, (.invokestatic 58, 3), (134, 17, 0)) := by decide +kernel
theorem xr_29_42 : X_row 29 42 = some (42, (.lstore_n 3, 1), (0, 0, 0)) := by decide +kernel
theorem xr_29_43 : X_row 29 43 = some (43, (.iinc 5 1, 3), (0, 0, 0)) := by decide +kernel
theorem xr_29_46 : X_row 29 46 = some (46, (.goto (-41), 3), (0, 0, 0)) := by decide +kernel
theorem xr_29_49 : X_row 29 49 = some (49, (.lload_n 3, 1), (0, 0, 0)) := by decide +kernel
theorem xr_29_50 : X_row 29 50 = some (50, (.lreturn, 1), (0, 0, 0)) := by decide +kernel
theorem xr_30_0 : X_row 30 0 = some (0, (.lconst 0, 1), (0, 0, 0)) := by decide +kernel
theorem xr_30_1 : X_row 30 1 = some (1, (.lstore_n 3, 1), (0, 0, 0)) := by decide +kernel
theorem xr_30_2 : X_row 30 2 = some (2, (.iconst 0, 1), (0, 0, 0)) := by decide +kernel
theorem xr_30_3 : X_row 30 3 = some (3, (.istore 5, 2), (0, 0, 0)) := by decide +kernel
theorem xr_30_5 : X_row 30 5 = some (5, (.iload 5, 2), (0, 0, 0)) := by decide +kernel
theorem xr_30_7 : X_row 30 7 = some (7, (.aload_n 0, 1), (0, 0, 0)) := by decide +kernel
theorem xr_30_8 : X_row 30 8 = some (8, (.getfield 32, 3), (1, 0, 22)) := by decide +kernel
theorem xr_30_11 : X_row 30 11 = some (11, (.getfield 62, 3), (0, 2, 15)) := by decide +kernel
theorem xr_30_14 : X_row 30 14 = some (14, (.if_icmp .ge 35, 3), (0, 0, 0)) := by decide +kernel
theorem xr_30_17 : X_row 30 17 = some (17, (.iload_n 2, 1), (0, 0, 0)) := by decide +kernel
theorem xr_30_18 : X_row 30 18 = some (18, (.iload 5, 2), (0, 0, 0)) := by decide +kernel
theorem xr_30_20 : X_row 30 20 = some (20, (.invokestatic 54, 3), (131, 29, 0)) := by decide +kernel
theorem xr_30_23 : X_row 30 23 = some (23, (.ifCond .eq 20, 3), (0, 0, 0)) := by decide +kernel
theorem xr_30_26 : X_row 30 26 = some (26, (.lload_n 3, 1), (0, 0, 0)) := by decide +kernel
theorem xr_30_27 : X_row 30 27 = some (27, (.aload_n 0, 1), (0, 0, 0)) := by decide +kernel
theorem xr_30_28 : X_row 30 28 = some (28, (.getfield 19, 3), (1, 4, 30)) := by decide +kernel
theorem xr_30_31 : X_row 30 31 = some (31, (.iload_n 1, 1), (0, 0, 0)) := by decide +kernel
theorem xr_30_32 : X_row 30 32 = some (32, (.bipush 30, 2), (0, 0, 0)) := by decide +kernel
theorem xr_30_34 : X_row 30 34 = some (34, (.imul, 1), (0, 0, 0)) := by decide +kernel
theorem xr_30_35 : X_row 30 35 = some (35, (.iload 5, 2), (0, 0, 0)) := by decide +kernel
theorem xr_30_37 : X_row 30 37 = some (37, (.iadd, 1), (0, 0, 0)) := by decide +kernel
theorem xr_30_38 : X_row 30 38 = some (38, (.laload, 1), (0, 0, 0)) := by decide +kernel
theorem xr_30_39 : X_row 30 39 = some (39, (.invokestatic 58, 3), (134, 17, 0)) := by decide +kernel
theorem xr_30_42 : X_row 30 42 = some (42, (.lstore_n 3, 1), (0, 0, 0)) := by decide +kernel
theorem xr_30_43 : X_row 30 43 = some (43, (.iinc 5 1, 3), (0, 0, 0)) := by decide +kernel
theorem xr_30_46 : X_row 30 46 = some (46, (.goto (-41), 3), (0, 0, 0)) := by decide +kernel
theorem xr_30_49 : X_row 30 49 = some (49, (.lload_n 3, 1), (0, 0, 0)) := by decide +kernel
theorem xr_30_50 : X_row 30 50 = some (50, (.lreturn, 1), (0, 0, 0)) := by decide +kernel
theorem xr_88_0 : X_row 88 0 = some (0, (.aload_n 0, 1), (0, 0, 0)) := by decide +kernel
theorem xr_88_1 : X_row 88 1 = some (1, (.iload_n 1, 1), (0, 0, 0)) := by decide +kernel
theorem xr_88_2 : X_row 88 2 = some (2, (.invokevirtual 41, 3), (89, 4, 0)) := by decide +kernel
theorem xr_88_5 : X_row 88 5 = some (5, (.iconst (-1), 1), (0, 0, 0)) := by decide +kernel
theorem xr_88_6 : X_row 88 6 = some (6, (.if_icmp .eq 7, 3), (0, 0, 0)) := by decide +kernel
theorem xr_88_9 : X_row 88 9 = some (9, (.iconst 1, 1), (0, 0, 0)) := by decide +kernel
theorem xr_88_10 : X_row 88 10 = some (10, (.goto 4, 3), (0, 0, 0)) := by decide +kernel
theorem xr_88_13 : X_row 88 13 = some (13, (.iconst 0, 1), (0, 0, 0)) := by decide +kernel
theorem xr_88_14 : X_row 88 14 = some (14, (.ireturn, 1), (0, 0, 0)) := by decide +kernel
theorem xr_89_0 : X_row 89 0 = some (0, (.iconst 0, 1), (0, 0, 0)) := by decide +kernel
theorem xr_89_1 : X_row 89 1 = some (1, (.istore_n 2, 1), (0, 0, 0)) := by decide +kernel
theorem xr_89_2 : X_row 89 2 = some (2, (.bipush 56, 2), (0, 0, 0)) := by decide +kernel
theorem xr_89_4 : X_row 89 4 = some (4, (.istore_n 3, 1), (0, 0, 0)) := by decide +kernel
theorem xr_89_5 : X_row 89 5 = some (5, (.iload_n 3, 1), (0, 0, 0)) := by decide +kernel
theorem xr_89_6 : X_row 89 6 = some (6, (.ifCond .lt 56, 3), (0, 0, 0)) := by decide +kernel
theorem xr_89_9 : X_row 89 9 = some (9, (.aload_n 0, 1), (0, 0, 0)) := by decide +kernel
theorem xr_89_10 : X_row 89 10 = some (10, (.getfield 15, 3), (6, 1, 4)) := by decide +kernel
theorem xr_89_13 : X_row 89 13 = some (13, (.iload_n 1, 1), (0, 0, 0)) := by decide +kernel
theorem xr_89_14 : X_row 89 14 = some (14, (.laload, 1), (0, 0, 0)) := by decide +kernel
theorem xr_89_15 : X_row 89 15 = some (15, (.iload_n 3, 1), (0, 0, 0)) := by decide +kernel
theorem xr_89_16 : X_row 89 16 = some (16, (.lshr, 1), (0, 0, 0)) := by decide +kernel
theorem xr_89_17 : X_row 89 17 = some (17, (.ldc2_w 44, 3), (255, 880, 0)) := by decide +kernel
theorem xr_89_20 : X_row 89 20 = some (20, (.land, 1), (0, 0, 0)) := by decide +kernel
theorem xr_89_21 : X_row 89 21 = some (21, (.l2i, 1), (0, 0, 0)) := by decide +kernel
theorem xr_89_22 : X_row 89 22 = some (22, (.istore 4, 2), (0, 0, 0)) := by decide +kernel
theorem xr_89_24 : X_row 89 24 = some (24, (.iload 4, 2), (0, 0, 0)) := by decide +kernel
theorem xr_89_26 : X_row 89 26 = some (26, (.ifCond .eq 30, 3), (0, 0, 0)) := by decide +kernel
theorem xr_89_29 : X_row 89 29 = some (29, (.iload 4, 2), (0, 0, 0)) := by decide +kernel
theorem xr_89_31 : X_row 89 31 = some (31, (.bipush 48, 2), (0, 0, 0)) := by decide +kernel
theorem xr_89_33 : X_row 89 33 = some (33, (.if_icmp .lt 10, 3), (0, 0, 0)) := by decide +kernel
theorem xr_89_36 : X_row 89 36 = some (36, (.iload 4, 2), (0, 0, 0)) := by decide +kernel
theorem xr_89_38 : X_row 89 38 = some (38, (.bipush 57, 2), (0, 0, 0)) := by decide +kernel
theorem xr_89_40 : X_row 89 40 = some (40, (.if_icmp .le 5, 3), (0, 0, 0)) := by decide +kernel
theorem xr_89_43 : X_row 89 43 = some (43, (.iconst (-1), 1), (0, 0, 0)) := by decide +kernel
theorem xr_89_44 : X_row 89 44 = some (44, (.ireturn, 1), (0, 0, 0)) := by decide +kernel
theorem xr_89_45 : X_row 89 45 = some (45, (.iload_n 2, 1), (0, 0, 0)) := by decide +kernel
theorem xr_89_46 : X_row 89 46 = some (46, (.bipush 10, 2), (0, 0, 0)) := by decide +kernel
theorem xr_89_48 : X_row 89 48 = some (48, (.imul, 1), (0, 0, 0)) := by decide +kernel
theorem xr_89_49 : X_row 89 49 = some (49, (.iload 4, 2), (0, 0, 0)) := by decide +kernel
theorem xr_89_51 : X_row 89 51 = some (51, (.iadd, 1), (0, 0, 0)) := by decide +kernel
theorem xr_89_52 : X_row 89 52 = some (52, (.bipush 48, 2), (0, 0, 0)) := by decide +kernel
theorem xr_89_54 : X_row 89 54 = some (54, (.isub, 1), (0, 0, 0)) := by decide +kernel
theorem xr_89_55 : X_row 89 55 = some (55, (.istore_n 2, 1), (0, 0, 0)) := by decide +kernel
theorem xr_89_56 : X_row 89 56 = some (56, (.iinc 3 (-8), 3), (0, 0, 0)) := by decide +kernel
theorem xr_89_59 : X_row 89 59 = some (59, (.goto (-54), 3), (0, 0, 0)) := by decide +kernel
theorem xr_89_62 : X_row 89 62 = some (62, (.iload_n 2, 1), (0, 0, 0)) := by decide +kernel
theorem xr_89_63 : X_row 89 63 = some (63, (.ireturn, 1), (0, 0, 0)) := by decide +kernel
theorem xr_90_0 : X_row 90 0 = some (0, (.iload_n 2, 1), (0, 0, 0)) := by decide +kernel
theorem xr_90_1 : X_row 90 1 = some (1, (.iload_n 1, 1), (0, 0, 0)) := by decide +kernel
theorem xr_90_2 : X_row 90 2 = some (2, (.isub, 1), (0, 0, 0)) := by decide +kernel
theorem xr_90_3 : X_row 90 3 = some (3, (.iconst 3, 1), (0, 0, 0)) := by decide +kernel
theorem xr_90_4 : X_row 90 4 = some (4, (.if_icmp .lt 35, 3), (0, 0, 0)) := by decide +kernel
theorem xr_90_7 : X_row 90 7 = some (7, (.aload_n 0, 1), (0, 0, 0)) := by decide +kernel
theorem xr_90_8 : X_row 90 8 = some (8, (.getfield 15, 3), (6, 1, 4)) := by decide +kernel
theorem xr_90_11 : X_row 90 11 = some (11, (.iload_n 1, 1), (0, 0, 0)) := by decide +kernel
theorem xr_90_12 : X_row 90 12 = some (12, (.laload, 1), (0, 0, 0)) := by decide +kernel
theorem xr_90_13 : X_row 90 13 = some (13, (.ldc2_w 46, 3), (40, 889, 0)) := by decide +kernel
theorem xr_90_16 : X_row 90 16 = some (16, (.lcmp, 1), (0, 0, 0)) := by decide +kernel
theorem xr_90_17 : X_row 90 17 = some (17, (.ifCond .ne 22, 3), (0, 0, 0)) := by decide +kernel
theorem xr_90_20 : X_row 90 20 = some (20, (.aload_n 0, 1), (0, 0, 0)) := by decide +kernel
theorem xr_90_21 : X_row 90 21 = some (21, (.getfield 15, 3), (6, 1, 4)) := by decide +kernel
theorem xr_90_24 : X_row 90 24 = some (24, (.iload_n 2, 1), (0, 0, 0)) := by decide +kernel
theorem xr_90_25 : X_row 90 25 = some (25, (.iconst 1, 1), (0, 0, 0)) := by decide +kernel
theorem xr_90_26 : X_row 90 26 = some (26, (.isub, 1), (0, 0, 0)) := by decide +kernel
theorem xr_90_27 : X_row 90 27 = some (27, (.laload, 1), (0, 0, 0)) := by decide +kernel
theorem xr_90_28 : X_row 90 28 = some (28, (.ldc2_w 48, 3), (41, 890, 0)) := by decide +kernel
theorem xr_90_31 : X_row 90 31 = some (31, (.lcmp, 1), (0, 0, 0)) := by decide +kernel
theorem xr_90_32 : X_row 90 32 = some (32, (.ifCond .ne 7, 3), (0, 0, 0)) := by decide +kernel
theorem xr_90_35 : X_row 90 35 = some (35, (.iconst 1, 1), (0, 0, 0)) := by decide +kernel
theorem xr_90_36 : X_row 90 36 = some (36, (.goto 4, 3), (0, 0, 0)) := by decide +kernel
theorem xr_90_39 : X_row 90 39 = some (39, (.iconst 0, 1), (0, 0, 0)) := by decide +kernel
theorem xr_90_40 : X_row 90 40 = some (40, (.ireturn, 1), (0, 0, 0)) := by decide +kernel
theorem xn_29 : X_nL 29 = 6 := by decide +kernel
theorem xf_29 : X_na 29 = 2 ∧ X_ci 29 = 1 ∧ X_rt 29 = (some .long) := by decide +kernel
theorem xn_30 : X_nL 30 = 6 := by decide +kernel
theorem xf_30 : X_na 30 = 2 ∧ X_ci 30 = 1 ∧ X_rt 30 = (some .long) := by decide +kernel
theorem xn_88 : X_nL 88 = 2 := by decide +kernel
theorem xf_88 : X_na 88 = 1 ∧ X_ci 88 = 6 ∧ X_rt 88 = (some .boolean) := by decide +kernel
theorem xn_89 : X_nL 89 = 5 := by decide +kernel
theorem xf_89 : X_na 89 = 1 ∧ X_ci 89 = 6 ∧ X_rt 89 = (some .int) := by decide +kernel
theorem xn_90 : X_nL 90 = 3 := by decide +kernel
theorem xf_90 : X_na 90 = 2 ∧ X_ci 90 = 6 ∧ X_rt 90 = (some .boolean) := by decide +kernel
theorem c_numberAt (sc : X_Sc) (S : X_S) (tn : Int) (G : X_G) (t : Int) (hO501 : S.1 501 = .inr (6, [.int (iI tn), .ref 502, .ref 503])) (hA502 : S.1 502 = .inl (.long, 30, .inr (.inl fun k : Nat => (gt G) (k : Int)))) (ht : 0 ≤ t ∧ t < 30) : X_T sc 89 (0, [(0, .ref 501), (1, .int (iI t))], [], S) (fun v S' => v = some (.int (iI (X_nv (gt G t)))) ∧ S' = S) := by
  refine X_QI (fun Q hQ => ?_)
  refine T_p xr_89_0 xn_89 (pc' := 1) (ls' := [(0, .ref 501), (1, .int (iI t))]) (st' := [.int (iI 0)]) rfl ?_
  refine T_p xr_89_1 xn_89 (pc' := 2) (ls' := [(2, .int (iI 0)), (0, .ref 501), (1, .int (iI t))]) (st' := []) rfl ?_
  refine T_p xr_89_2 xn_89 (pc' := 4) (ls' := [(2, .int (iI 0)), (0, .ref 501), (1, .int (iI t))]) (st' := [.int (iI 56)]) rfl ?_
  refine T_p xr_89_4 xn_89 (pc' := 5) (ls' := [(3, .int (iI 56)), (2, .int (iI 0)), (0, .ref 501), (1, .int (iI t))]) (st' := []) rfl ?_
  have L570 : ∀ (m572 : Nat) (s : Int) (v : Int) (m : Int) (hs : s = 56 - 8 * m) (hm : 0 ≤ m ∧ m ≤ 8) (hv : v = X_nvl (gt G t) m.toNat) (hvr : 0 ≤ v ∧ v ≤ 99999999) (hm573 : 9 - m < m572), X_T sc 89 (5, [(3, .int (iI s)), (2, .int (iI v)), (0, .ref 501), (1, .int (iI t))], [], S) Q := by
    intro m572
    induction m572 with
    | zero =>
      intro s v m hs hm hv hvr hm573
      exact (show False by omega).elim
    | succ m572 ih571 =>
      intro s v m hs hm hv hvr hm573
      refine T_p xr_89_5 xn_89 (pc' := 6) (ls' := [(3, .int (iI s)), (2, .int (iI v)), (0, .ref 501), (1, .int (iI t))]) (st' := [.int (iI s)]) rfl ?_
      refine T_zif_lt xr_89_6 (t := 62) (pc' := 9) rfl rfl (fun c575 => ?_) (fun c575 => ?_)
      · skip
        have c575 : s < 0 := c575
        refine T_p xr_89_62 xn_89 (pc' := 63) (ls' := [(3, .int (iI s)), (2, .int (iI v)), (0, .ref 501), (1, .int (iI t))]) (st' := [.int (iI v)]) rfl ?_
        refine T_iret xr_89_63 xf_89.2.2 rfl ?_
        refine hQ _ _ ?_
        exact ⟨by rw [show X_nv (gt G t) = v from (by rw [hv, show m.toNat = 8 by omega]; rfl)], rfl⟩
      · skip
        have c575 : ¬ (s < 0) := c575
        refine T_p xr_89_9 xn_89 (pc' := 10) (ls' := [(3, .int (iI s)), (2, .int (iI v)), (0, .ref 501), (1, .int (iI t))]) (st' := [.ref 501]) rfl ?_
        refine T_get xr_89_10 hO501 rfl (v := .ref 502) rfl (pc' := 13) rfl ?_
        refine T_p xr_89_13 xn_89 (pc' := 14) (ls' := [(3, .int (iI s)), (2, .int (iI v)), (0, .ref 501), (1, .int (iI t))]) (st' := [.int (iI t), .ref 502]) rfl ?_
        refine T_zlald xr_89_14 hA502 (pc' := 15) rfl ?_
        refine T_p xr_89_15 xn_89 (pc' := 16) (ls' := [(3, .int (iI s)), (2, .int (iI v)), (0, .ref 501), (1, .int (iI t))]) (st' := [.int (iI s), .long ((gt G) t)]) rfl ?_
        refine T_p xr_89_16 xn_89 (pc' := 17) (ls' := [(3, .int (iI s)), (2, .int (iI v)), (0, .ref 501), (1, .int (iI t))]) (st' := [.long (((gt G) t) >>> ((iI s).toInt64 &&& 63))]) rfl ?_
        refine T_p xr_89_17 xn_89 (pc' := 20) (ls' := [(3, .int (iI s)), (2, .int (iI v)), (0, .ref 501), (1, .int (iI t))]) (st' := [.long (iL 255), .long (((gt G) t) >>> ((iI s).toInt64 &&& 63))]) rfl ?_
        refine T_p xr_89_20 xn_89 (pc' := 21) (ls' := [(3, .int (iI s)), (2, .int (iI v)), (0, .ref 501), (1, .int (iI t))]) (st' := [.long ((((gt G) t) >>> ((iI s).toInt64 &&& 63)) &&& (iL 255))]) rfl ?_
        refine T_zop xr_89_21 (pc' := 22) rfl (z := ((((((gt G) t) >>> ((iI s).toInt64 &&& 63)) &&& (iL 255)) : Int64).toInt32).toInt) (iI_of _) ?_
        refine T_ie (y := iI (X_tb (gt G t) s)) (by rfl) ?_
        have htb := X_tb_r (gt G t) s
        have hgo := X_nv_go (by omega) hs hv (show ¬ v = -1 by omega)
        refine T_p xr_89_22 xn_89 (pc' := 24) (ls' := [(4, .int (iI (X_tb (gt G t) s))), (3, .int (iI s)), (2, .int (iI v)), (0, .ref 501), (1, .int (iI t))]) (st' := []) rfl ?_
        refine T_p xr_89_24 xn_89 (pc' := 26) (ls' := [(4, .int (iI (X_tb (gt G t) s))), (3, .int (iI s)), (2, .int (iI v)), (0, .ref 501), (1, .int (iI t))]) (st' := [.int (iI (X_tb (gt G t) s))]) rfl ?_
        refine T_zif_eq xr_89_26 (t := 56) (pc' := 29) rfl rfl (fun c576 => ?_) (fun c576 => ?_)
        · skip
          have c576 : (X_tb (gt G t) s) = 0 := c576
          refine T_ziinc xr_89_56 xn_89 (a := s) (z := s - 8) rfl (Nat.le_of_ble_eq_true rfl) (by omega) (ls' := [(3, .int (iI (s - 8))), (4, .int (iI (X_tb (gt G t) s))), (2, .int (iI v)), (0, .ref 501), (1, .int (iI t))]) rfl (pc' := 59) rfl ?_
          refine T_p xr_89_59 xn_89 (pc' := 5) (ls' := [(3, .int (iI (s - 8))), (4, .int (iI (X_tb (gt G t) s))), (2, .int (iI v)), (0, .ref 501), (1, .int (iI t))]) (st' := []) rfl ?_
          refine T_sub (ls := [(3, .int (iI (s - 8))), (2, .int (iI v)), (0, .ref 501), (1, .int (iI t))]) ⟨rfl, rfl, rfl, rfl, trivial⟩ rfl rfl ?_
          exact ih571 (s - 8) v (m + 1)  (by omega) (by omega) (by first | exact (hgo.1 (by omega)).symm | exact (hgo.2.2 (by omega) (by omega) (by omega)).symm) (by
                have hr := X_nvl_r (gt G t) (m + 1).toNat (by omega)
                have hp : (10 : Nat) ^ (m + 1).toNat ≤ 10 ^ 8 := Nat.pow_le_pow_right (by decide) (by omega)
                have h8 : (10 : Nat) ^ 8 = 100000000 := by decide
                first | (have h := hgo.1 (by omega); omega) | (have h := hgo.2.2 (by omega) (by omega) (by omega); omega)) (by omega)
        · skip
          have c576 : ¬ ((X_tb (gt G t) s) = 0) := c576
          refine T_p xr_89_29 xn_89 (pc' := 31) (ls' := [(4, .int (iI (X_tb (gt G t) s))), (3, .int (iI s)), (2, .int (iI v)), (0, .ref 501), (1, .int (iI t))]) (st' := [.int (iI (X_tb (gt G t) s))]) rfl ?_
          refine T_p xr_89_31 xn_89 (pc' := 33) (ls' := [(4, .int (iI (X_tb (gt G t) s))), (3, .int (iI s)), (2, .int (iI v)), (0, .ref 501), (1, .int (iI t))]) (st' := [.int (iI 48), .int (iI (X_tb (gt G t) s))]) rfl ?_
          refine T_zicmp_lt xr_89_33 (t := 43) (pc' := 36) rfl rfl (fun c577 => ?_) (fun c577 => ?_)
          · skip
            have c577 : (X_tb (gt G t) s) < 48 := c577
            refine T_p xr_89_43 xn_89 (pc' := 44) (ls' := [(4, .int (iI (X_tb (gt G t) s))), (3, .int (iI s)), (2, .int (iI v)), (0, .ref 501), (1, .int (iI t))]) (st' := [.int (iI (-1))]) rfl ?_
            refine T_iret xr_89_44 xf_89.2.2 rfl ?_
            refine hQ _ _ ?_
            exact ⟨by rw [show X_nv (gt G t) = -1 from X_nv_no (m := m + 1) (by omega) (hgo.2.1 (by omega) (by omega))], rfl⟩
          · skip
            have c577 : ¬ ((X_tb (gt G t) s) < 48) := c577
            refine T_p xr_89_36 xn_89 (pc' := 38) (ls' := [(4, .int (iI (X_tb (gt G t) s))), (3, .int (iI s)), (2, .int (iI v)), (0, .ref 501), (1, .int (iI t))]) (st' := [.int (iI (X_tb (gt G t) s))]) rfl ?_
            refine T_p xr_89_38 xn_89 (pc' := 40) (ls' := [(4, .int (iI (X_tb (gt G t) s))), (3, .int (iI s)), (2, .int (iI v)), (0, .ref 501), (1, .int (iI t))]) (st' := [.int (iI 57), .int (iI (X_tb (gt G t) s))]) rfl ?_
            refine T_zicmp_le xr_89_40 (t := 45) (pc' := 43) rfl rfl (fun c578 => ?_) (fun c578 => ?_)
            · skip
              have c578 : (X_tb (gt G t) s) ≤ 57 := c578
              refine T_p xr_89_45 xn_89 (pc' := 46) (ls' := [(4, .int (iI (X_tb (gt G t) s))), (3, .int (iI s)), (2, .int (iI v)), (0, .ref 501), (1, .int (iI t))]) (st' := [.int (iI v)]) rfl ?_
              refine T_p xr_89_46 xn_89 (pc' := 48) (ls' := [(4, .int (iI (X_tb (gt G t) s))), (3, .int (iI s)), (2, .int (iI v)), (0, .ref 501), (1, .int (iI t))]) (st' := [.int (iI 10), .int (iI v)]) rfl ?_
              refine T_zimul xr_89_48 (z := v * 10) rfl (pc' := 49) rfl ?_
              refine T_p xr_89_49 xn_89 (pc' := 51) (ls' := [(4, .int (iI (X_tb (gt G t) s))), (3, .int (iI s)), (2, .int (iI v)), (0, .ref 501), (1, .int (iI t))]) (st' := [.int (iI (X_tb (gt G t) s)), .int (iI (v * 10))]) rfl ?_
              refine T_ziadd xr_89_51 (z := (v * 10) + (X_tb (gt G t) s)) rfl (pc' := 52) rfl ?_
              refine T_p xr_89_52 xn_89 (pc' := 54) (ls' := [(4, .int (iI (X_tb (gt G t) s))), (3, .int (iI s)), (2, .int (iI v)), (0, .ref 501), (1, .int (iI t))]) (st' := [.int (iI 48), .int (iI ((v * 10) + (X_tb (gt G t) s)))]) rfl ?_
              refine T_zisub xr_89_54 (z := ((v * 10) + (X_tb (gt G t) s)) - 48) rfl (pc' := 55) rfl ?_
              refine T_p xr_89_55 xn_89 (pc' := 56) (ls' := [(2, .int (iI (((v * 10) + (X_tb (gt G t) s)) - 48))), (4, .int (iI (X_tb (gt G t) s))), (3, .int (iI s)), (0, .ref 501), (1, .int (iI t))]) (st' := []) rfl ?_
              refine T_ziinc xr_89_56 xn_89 (a := s) (z := s - 8) rfl (Nat.le_of_ble_eq_true rfl) (by omega) (ls' := [(3, .int (iI (s - 8))), (2, .int (iI (((v * 10) + (X_tb (gt G t) s)) - 48))), (4, .int (iI (X_tb (gt G t) s))), (0, .ref 501), (1, .int (iI t))]) rfl (pc' := 59) rfl ?_
              refine T_p xr_89_59 xn_89 (pc' := 5) (ls' := [(3, .int (iI (s - 8))), (2, .int (iI (((v * 10) + (X_tb (gt G t) s)) - 48))), (4, .int (iI (X_tb (gt G t) s))), (0, .ref 501), (1, .int (iI t))]) (st' := []) rfl ?_
              refine T_sub (ls := [(3, .int (iI (s - 8))), (2, .int (iI (((v * 10) + (X_tb (gt G t) s)) - 48))), (0, .ref 501), (1, .int (iI t))]) ⟨rfl, rfl, rfl, rfl, trivial⟩ rfl rfl ?_
              exact ih571 (s - 8) (((v * 10) + (X_tb (gt G t) s)) - 48) (m + 1)  (by omega) (by omega) (by first | exact (hgo.1 (by omega)).symm | exact (hgo.2.2 (by omega) (by omega) (by omega)).symm) (by
                    have hr := X_nvl_r (gt G t) (m + 1).toNat (by omega)
                    have hp : (10 : Nat) ^ (m + 1).toNat ≤ 10 ^ 8 := Nat.pow_le_pow_right (by decide) (by omega)
                    have h8 : (10 : Nat) ^ 8 = 100000000 := by decide
                    first | (have h := hgo.1 (by omega); omega) | (have h := hgo.2.2 (by omega) (by omega) (by omega); omega)) (by omega)
            · skip
              have c578 : ¬ ((X_tb (gt G t) s) ≤ 57) := c578
              refine T_p xr_89_43 xn_89 (pc' := 44) (ls' := [(4, .int (iI (X_tb (gt G t) s))), (3, .int (iI s)), (2, .int (iI v)), (0, .ref 501), (1, .int (iI t))]) (st' := [.int (iI (-1))]) rfl ?_
              refine T_iret xr_89_44 xf_89.2.2 rfl ?_
              refine hQ _ _ ?_
              exact ⟨by rw [show X_nv (gt G t) = -1 from X_nv_no (m := m + 1) (by omega) (hgo.2.1 (by omega) (by omega))], rfl⟩
  exact L570 ((9 : Int) + 1).toNat 56 0 0  (by omega) (by omega) rfl (by omega) (by omega)
theorem c_sIsNumber (sc : X_Sc) (S : X_S) (tn : Int) (G : X_G) (t : Int) (hO501 : S.1 501 = .inr (6, [.int (iI tn), .ref 502, .ref 503])) (hA502 : S.1 502 = .inl (.long, 30, .inr (.inl fun k : Nat => (gt G) (k : Int)))) (ht : 0 ≤ t ∧ t < 30) : X_T sc 88 (0, [(0, .ref 501), (1, .int (iI t))], [], S) (fun v S' => v = some (.int (iI (bI (0 ≤ X_nv (gt G t))))) ∧ S' = S) := by
  refine X_QI (fun Q hQ => ?_)
  refine T_p xr_88_0 xn_88 (pc' := 1) (ls' := [(0, .ref 501), (1, .int (iI t))]) (st' := [.ref 501]) rfl ?_
  refine T_p xr_88_1 xn_88 (pc' := 2) (ls' := [(0, .ref 501), (1, .int (iI t))]) (st' := [.int (iI t), .ref 501]) rfl ?_
  refine T_cv (S := S) (q := 501) xr_88_2 xf_89.1 xf_89.2.1 xn_89 (as := [.int (iI t)]) (r := []) rfl hO501 (Nat.le_of_ble_eq_true rfl) (Nat.le_of_ble_eq_true rfl) (pc' := 5) rfl (ls' := [(0, .ref 501), (1, .int (iI t))]) rfl ?_
  refine T_mono (c_numberAt sc S tn G t hO501 hA502 (by omega)) (fun v579 S580 h581 => ?_)
  rcases h581 with ⟨hv582, hf583⟩
  rw [hv582]
  rw [hf583]
  have hnv584 := X_nv_r (gt G t)
  show X_T sc 88 (5, [(0, .ref 501), (1, .int (iI t))], [.int (iI (X_nv (gt G t)))], S) _
  refine T_p xr_88_5 xn_88 (pc' := 6) (ls' := [(0, .ref 501), (1, .int (iI t))]) (st' := [.int (iI (-1)), .int (iI (X_nv (gt G t)))]) rfl ?_
  refine T_zicmp_eq xr_88_6 (t := 13) (pc' := 9) rfl rfl (fun c585 => ?_) (fun c585 => ?_)
  · skip
    have c585 : (X_nv (gt G t)) = (-1) := c585
    refine T_p xr_88_13 xn_88 (pc' := 14) (ls' := [(0, .ref 501), (1, .int (iI t))]) (st' := [.int (iI 0)]) rfl ?_
    refine T_iret xr_88_14 xf_88.2.2 (by decide) ?_
    refine hQ _ _ ?_
    exact ⟨by rw [bI_f (by omega)], rfl⟩
  · skip
    have c585 : ¬ ((X_nv (gt G t)) = (-1)) := c585
    refine T_p xr_88_9 xn_88 (pc' := 10) (ls' := [(0, .ref 501), (1, .int (iI t))]) (st' := [.int (iI 1)]) rfl ?_
    refine T_p xr_88_10 xn_88 (pc' := 14) (ls' := [(0, .ref 501), (1, .int (iI t))]) (st' := [.int (iI 1)]) rfl ?_
    refine T_iret xr_88_14 xf_88.2.2 (by decide) ?_
    refine hQ _ _ ?_
    exact ⟨by rw [bI_t (by omega)], rfl⟩
theorem c_isBracketed (sc : X_Sc) (S : X_S) (tn : Int) (G : X_G) (i : Int) (j : Int) (hO501 : S.1 501 = .inr (6, [.int (iI tn), .ref 502, .ref 503])) (hA502 : S.1 502 = .inl (.long, 30, .inr (.inl fun k : Nat => (gt G) (k : Int)))) (hij : 0 ≤ i ∧ i < j ∧ j ≤ 30) : X_T sc 90 (0, [(0, .ref 501), (1, .int (iI i)), (2, .int (iI j))], [], S) (fun v S' => v = some (.int (iI (bI (X_brk G i j)))) ∧ S' = S) := by
  refine X_QI (fun Q hQ => ?_)
  refine T_p xr_90_0 xn_90 (pc' := 1) (ls' := [(0, .ref 501), (1, .int (iI i)), (2, .int (iI j))]) (st' := [.int (iI j)]) rfl ?_
  refine T_p xr_90_1 xn_90 (pc' := 2) (ls' := [(0, .ref 501), (1, .int (iI i)), (2, .int (iI j))]) (st' := [.int (iI i), .int (iI j)]) rfl ?_
  refine T_zisub xr_90_2 (z := j - i) rfl (pc' := 3) rfl ?_
  refine T_p xr_90_3 xn_90 (pc' := 4) (ls' := [(0, .ref 501), (1, .int (iI i)), (2, .int (iI j))]) (st' := [.int (iI 3), .int (iI (j - i))]) rfl ?_
  refine T_zicmp_lt xr_90_4 (t := 39) (pc' := 7) rfl rfl (fun c586 => ?_) (fun c586 => ?_)
  · skip
    have c586 : (j - i) < 3 := c586
    refine T_p xr_90_39 xn_90 (pc' := 40) (ls' := [(0, .ref 501), (1, .int (iI i)), (2, .int (iI j))]) (st' := [.int (iI 0)]) rfl ?_
    refine T_iret xr_90_40 xf_90.2.2 (by decide) ?_
    refine hQ _ _ ?_
    exact ⟨by rw [bI_f (fun z => by first | exact absurd z.1 (by omega) | exact absurd z.2.1 (by assumption) | exact absurd z.2.2 (by assumption))], rfl⟩
  · skip
    have c586 : ¬ ((j - i) < 3) := c586
    refine T_p xr_90_7 xn_90 (pc' := 8) (ls' := [(0, .ref 501), (1, .int (iI i)), (2, .int (iI j))]) (st' := [.ref 501]) rfl ?_
    refine T_get xr_90_8 hO501 rfl (v := .ref 502) rfl (pc' := 11) rfl ?_
    refine T_p xr_90_11 xn_90 (pc' := 12) (ls' := [(0, .ref 501), (1, .int (iI i)), (2, .int (iI j))]) (st' := [.int (iI i), .ref 502]) rfl ?_
    refine T_zlald xr_90_12 hA502 (pc' := 13) rfl ?_
    refine T_p xr_90_13 xn_90 (pc' := 16) (ls' := [(0, .ref 501), (1, .int (iI i)), (2, .int (iI j))]) (st' := [.long (iL 40), .long ((gt G) i)]) rfl ?_
    refine T_lc_ne xr_90_16 xr_90_17 (t := 39) (pc' := 20) rfl rfl (fun c587 => ?_) (fun c587 => ?_)
    · skip
      have c587 : ¬ ((gt G) i) = (iL 40) := c587
      refine T_p xr_90_39 xn_90 (pc' := 40) (ls' := [(0, .ref 501), (1, .int (iI i)), (2, .int (iI j))]) (st' := [.int (iI 0)]) rfl ?_
      refine T_iret xr_90_40 xf_90.2.2 (by decide) ?_
      refine hQ _ _ ?_
      exact ⟨by rw [bI_f (fun z => by first | exact absurd z.1 (by omega) | exact absurd z.2.1 (by assumption) | exact absurd z.2.2 (by assumption))], rfl⟩
    · skip
      have c587 : ¬ (¬ ((gt G) i) = (iL 40)) := c587
      refine T_p xr_90_20 xn_90 (pc' := 21) (ls' := [(0, .ref 501), (1, .int (iI i)), (2, .int (iI j))]) (st' := [.ref 501]) rfl ?_
      refine T_get xr_90_21 hO501 rfl (v := .ref 502) rfl (pc' := 24) rfl ?_
      refine T_p xr_90_24 xn_90 (pc' := 25) (ls' := [(0, .ref 501), (1, .int (iI i)), (2, .int (iI j))]) (st' := [.int (iI j), .ref 502]) rfl ?_
      refine T_p xr_90_25 xn_90 (pc' := 26) (ls' := [(0, .ref 501), (1, .int (iI i)), (2, .int (iI j))]) (st' := [.int (iI 1), .int (iI j), .ref 502]) rfl ?_
      refine T_zisub xr_90_26 (z := j - 1) rfl (pc' := 27) rfl ?_
      refine T_zlald xr_90_27 hA502 (pc' := 28) rfl ?_
      refine T_p xr_90_28 xn_90 (pc' := 31) (ls' := [(0, .ref 501), (1, .int (iI i)), (2, .int (iI j))]) (st' := [.long (iL 41), .long ((gt G) (j - 1))]) rfl ?_
      refine T_lc_ne xr_90_31 xr_90_32 (t := 39) (pc' := 35) rfl rfl (fun c588 => ?_) (fun c588 => ?_)
      · skip
        have c588 : ¬ ((gt G) (j - 1)) = (iL 41) := c588
        refine T_p xr_90_39 xn_90 (pc' := 40) (ls' := [(0, .ref 501), (1, .int (iI i)), (2, .int (iI j))]) (st' := [.int (iI 0)]) rfl ?_
        refine T_iret xr_90_40 xf_90.2.2 (by decide) ?_
        refine hQ _ _ ?_
        exact ⟨by rw [bI_f (fun z => by first | exact absurd z.1 (by omega) | exact absurd z.2.1 (by assumption) | exact absurd z.2.2 (by assumption))], rfl⟩
      · skip
        have c588 : ¬ (¬ ((gt G) (j - 1)) = (iL 41)) := c588
        refine T_p xr_90_35 xn_90 (pc' := 36) (ls' := [(0, .ref 501), (1, .int (iI i)), (2, .int (iI j))]) (st' := [.int (iI 1)]) rfl ?_
        refine T_p xr_90_36 xn_90 (pc' := 40) (ls' := [(0, .ref 501), (1, .int (iI i)), (2, .int (iI j))]) (st' := [.int (iI 1)]) rfl ?_
        refine T_iret xr_90_40 xf_90.2.2 (by decide) ?_
        refine hQ _ _ ?_
        exact ⟨by rw [bI_t ⟨by omega, by first | assumption | exact Classical.not_not.mp (by assumption) | exact Int64.not_lt.mpr (by assumption) | exact Int64.not_le.mp (by assumption), by first | assumption | exact Classical.not_not.mp (by assumption) | exact Int64.not_lt.mpr (by assumption) | exact Int64.not_le.mp (by assumption)⟩], rfl⟩
theorem c_sumK (sc : X_Sc) (S : X_S) (oK : Int → Int64) (B : Nat) (rc : Int) (rn : Int → Int64) (kn : Int → Int64) (G : X_G) (tn : Int) (fl : Int) (row : Int) (ks : Int) (F_ : Int → Nat) (hO511 : S.1 511 = .inr (1, [.ref B, .ref 501, .int (iI fl), .ref 512, .ref 513, .ref 514, .ref 515, .ref 516])) (hA512 : S.1 512 = .inl (.long, 5115, .inr (.inl fun k : Nat => oK (k : Int)))) (hB : B = 4 ∨ B = 250) (hb : C_bk S B rc (gk G) (gw G) rn (gl G) kn (ga G)) (hs : C_ws S B (gD G) (gW G)) (hG : X_Gok G) (hrow : 0 ≤ row ∧ row ≤ 464) (hF_ : ∀ k, 0 ≤ k → k < gk G → oK (row * 11 + k) = X_st (-2) (F_ k)) : X_T sc 29 (0, [(0, .ref 511), (1, .int (iI row)), (2, .int (iI ks))], [], S) (fun v S' => v = some (.long (X_st (-2) (X_Su (fun k => X_if (X_bt ks k) (F_ k)) 0 (gk G)))) ∧ S' = S) := by
  obtain ⟨hb0, hb1, hb2, hb3, hb4, ⟨f, hb5, hf⟩, ⟨hrc, hrcb⟩, ⟨hkc, hkcb⟩, ⟨hwc, hwcb⟩⟩ := id hb
  refine X_QI (fun Q hQ => ?_)
  refine T_p xr_29_0 xn_29 (pc' := 1) (ls' := [(0, .ref 511), (1, .int (iI row)), (2, .int (iI ks))]) (st' := [.long (iL 0)]) rfl ?_
  refine T_p xr_29_1 xn_29 (pc' := 2) (ls' := [(3, .long (iL 0)), (0, .ref 511), (1, .int (iI row)), (2, .int (iI ks))]) (st' := []) rfl ?_
  refine T_p xr_29_2 xn_29 (pc' := 3) (ls' := [(3, .long (iL 0)), (0, .ref 511), (1, .int (iI row)), (2, .int (iI ks))]) (st' := [.int (iI 0)]) rfl ?_
  refine T_p xr_29_3 xn_29 (pc' := 5) (ls' := [(5, .int (iI 0)), (3, .long (iL 0)), (0, .ref 511), (1, .int (iI row)), (2, .int (iI ks))]) (st' := []) rfl ?_
  have L589 : ∀ (m591 : Nat) (k : Int) (s : Nat) (hk : 0 ≤ k ∧ k ≤ gk G) (hsu : s = X_Su (fun k => X_if (X_bt ks k) (F_ k)) 0 k) (hm592 : gk G - k < m591), X_T sc 29 (5, [(5, .int (iI k)), (3, .long (X_st (-2) s)), (0, .ref 511), (1, .int (iI row)), (2, .int (iI ks))], [], S) Q := by
    intro m591
    induction m591 with
    | zero =>
      intro k s hk hsu hm592
      exact (show False by omega).elim
    | succ m591 ih590 =>
      intro k s hk hsu hm592
      refine T_p xr_29_5 xn_29 (pc' := 7) (ls' := [(5, .int (iI k)), (3, .long (X_st (-2) s)), (0, .ref 511), (1, .int (iI row)), (2, .int (iI ks))]) (st' := [.int (iI k)]) rfl ?_
      refine T_p xr_29_7 xn_29 (pc' := 8) (ls' := [(5, .int (iI k)), (3, .long (X_st (-2) s)), (0, .ref 511), (1, .int (iI row)), (2, .int (iI ks))]) (st' := [.ref 511, .int (iI k)]) rfl ?_
      refine T_get xr_29_8 hO511 rfl (v := .ref B) rfl (pc' := 11) rfl ?_
      refine T_get xr_29_11 hb0 rfl (v := .int (iI (gk G))) rfl (pc' := 14) rfl ?_
      refine T_zicmp_ge xr_29_14 (t := 49) (pc' := 17) rfl rfl (fun c594 => ?_) (fun c594 => ?_)
      · skip
        have c594 : (gk G) ≤ k := c594
        refine T_p xr_29_49 xn_29 (pc' := 50) (ls' := [(5, .int (iI k)), (3, .long (X_st (-2) s)), (0, .ref 511), (1, .int (iI row)), (2, .int (iI ks))]) (st' := [.long (X_st (-2) s)]) rfl ?_
        refine T_lret xr_29_50 xf_29.2.2 rfl ?_
        refine hQ _ _ ?_
        exact ⟨by rw [hsu, show k = gk G by omega], rfl⟩
      · skip
        have c594 : ¬ ((gk G) ≤ k) := c594
        refine T_p xr_29_17 xn_29 (pc' := 18) (ls' := [(5, .int (iI k)), (3, .long (X_st (-2) s)), (0, .ref 511), (1, .int (iI row)), (2, .int (iI ks))]) (st' := [.int (iI ks)]) rfl ?_
        refine T_p xr_29_18 xn_29 (pc' := 20) (ls' := [(5, .int (iI k)), (3, .long (X_st (-2) s)), (0, .ref 511), (1, .int (iI row)), (2, .int (iI ks))]) (st' := [.int (iI k), .int (iI ks)]) rfl ?_
        refine T_cs xr_29_20 (by decide) xf_131.1 xn_131 (as := [.int (iI ks), .int (iI k)]) (r := []) rfl (Nat.le_of_ble_eq_true rfl) (Nat.le_of_ble_eq_true rfl) (pc' := 23) rfl (ls' := [(0, .int (iI ks)), (1, .int (iI k))]) rfl ?_
        refine T_mono (c_hasBit sc S ks k) (fun v596 S597 h595 => ?_)
        obtain ⟨h598, h599⟩ := h595
        rw [h598, h599]
        show X_T sc 29 (23, [(5, .int (iI k)), (3, .long (X_st (-2) s)), (0, .ref 511), (1, .int (iI row)), (2, .int (iI ks))], [.int (iI (bI (X_bt ks k)))], S) _
        refine T_bif_eq xr_29_23 (t := 43) (pc' := 26) rfl rfl (fun c600 => ?_) (fun c600 => ?_)
        · skip
          have c600 : ¬ (X_bt ks k) := c600
          refine T_ziinc xr_29_43 xn_29 (a := k) (z := k + 1) rfl (Nat.le_of_ble_eq_true rfl) (by omega) (ls' := [(5, .int (iI (k + 1))), (3, .long (X_st (-2) s)), (0, .ref 511), (1, .int (iI row)), (2, .int (iI ks))]) rfl (pc' := 46) rfl ?_
          refine T_p xr_29_46 xn_29 (pc' := 5) (ls' := [(5, .int (iI (k + 1))), (3, .long (X_st (-2) s)), (0, .ref 511), (1, .int (iI row)), (2, .int (iI ks))]) (st' := []) rfl ?_
          exact ih590 (k + 1) s  (by omega) (by first | exact ((X_Su_if (p := fun k => X_bt ks k) (f := F_) (show (0 : Int) ≤ k by omega)).1 (by assumption)).symm ▸ (by rw [hsu]) | exact ((X_Su_if (p := fun k => X_bt ks k) (f := F_) (show (0 : Int) ≤ k by omega)).2 (by assumption)).symm ▸ hsu) (by omega)
        · skip
          have c600 : (X_bt ks k) := c600
          refine T_p xr_29_26 xn_29 (pc' := 27) (ls' := [(5, .int (iI k)), (3, .long (X_st (-2) s)), (0, .ref 511), (1, .int (iI row)), (2, .int (iI ks))]) (st' := [.long (X_st (-2) s)]) rfl ?_
          refine T_p xr_29_27 xn_29 (pc' := 28) (ls' := [(5, .int (iI k)), (3, .long (X_st (-2) s)), (0, .ref 511), (1, .int (iI row)), (2, .int (iI ks))]) (st' := [.ref 511, .long (X_st (-2) s)]) rfl ?_
          refine T_get xr_29_28 hO511 rfl (v := .ref 512) rfl (pc' := 31) rfl ?_
          refine T_p xr_29_31 xn_29 (pc' := 32) (ls' := [(5, .int (iI k)), (3, .long (X_st (-2) s)), (0, .ref 511), (1, .int (iI row)), (2, .int (iI ks))]) (st' := [.int (iI row), .ref 512, .long (X_st (-2) s)]) rfl ?_
          refine T_p xr_29_32 xn_29 (pc' := 34) (ls' := [(5, .int (iI k)), (3, .long (X_st (-2) s)), (0, .ref 511), (1, .int (iI row)), (2, .int (iI ks))]) (st' := [.int (iI 11), .int (iI row), .ref 512, .long (X_st (-2) s)]) rfl ?_
          refine T_zimul xr_29_34 (z := row * 11) rfl (pc' := 35) rfl ?_
          refine T_p xr_29_35 xn_29 (pc' := 37) (ls' := [(5, .int (iI k)), (3, .long (X_st (-2) s)), (0, .ref 511), (1, .int (iI row)), (2, .int (iI ks))]) (st' := [.int (iI k), .int (iI (row * 11)), .ref 512, .long (X_st (-2) s)]) rfl ?_
          refine T_ziadd xr_29_37 (z := (row * 11) + k) rfl (pc' := 38) rfl ?_
          refine T_zlald xr_29_38 hA512 (pc' := 39) rfl ?_
          refine T_le (y := (X_st (-2) (F_ k))) (hF_ k (by omega) (by omega)) ?_
          refine T_cs xr_29_39 (by decide) xf_134.1 xn_134 (as := [.long (X_st (-2) s), .long (X_st (-2) (F_ k))]) (r := []) rfl (Nat.le_of_ble_eq_true rfl) (Nat.le_of_ble_eq_true rfl) (pc' := 42) rfl (ls' := [(0, .long (X_st (-2) s)), (2, .long (X_st (-2) (F_ k)))]) rfl ?_
          refine T_mono (c_plus sc S s (F_ k)) (fun v601 S602 h603 => ?_)
          rcases h603 with ⟨hv604, hf605⟩
          rw [hv604]
          rw [hf605]
          show X_T sc 29 (42, [(5, .int (iI k)), (3, .long (X_st (-2) s)), (0, .ref 511), (1, .int (iI row)), (2, .int (iI ks))], [.long (X_st (-2) (s + (F_ k)))], S) _
          refine T_p xr_29_42 xn_29 (pc' := 43) (ls' := [(3, .long (X_st (-2) (s + (F_ k)))), (5, .int (iI k)), (0, .ref 511), (1, .int (iI row)), (2, .int (iI ks))]) (st' := []) rfl ?_
          refine T_ziinc xr_29_43 xn_29 (a := k) (z := k + 1) rfl (Nat.le_of_ble_eq_true rfl) (by omega) (ls' := [(5, .int (iI (k + 1))), (3, .long (X_st (-2) (s + (F_ k)))), (0, .ref 511), (1, .int (iI row)), (2, .int (iI ks))]) rfl (pc' := 46) rfl ?_
          refine T_p xr_29_46 xn_29 (pc' := 5) (ls' := [(5, .int (iI (k + 1))), (3, .long (X_st (-2) (s + (F_ k)))), (0, .ref 511), (1, .int (iI row)), (2, .int (iI ks))]) (st' := []) rfl ?_
          exact ih590 (k + 1) (s + (F_ k))  (by omega) (by first | exact ((X_Su_if (p := fun k => X_bt ks k) (f := F_) (show (0 : Int) ≤ k by omega)).1 (by assumption)).symm ▸ (by rw [hsu]) | exact ((X_Su_if (p := fun k => X_bt ks k) (f := F_) (show (0 : Int) ≤ k by omega)).2 (by assumption)).symm ▸ hsu) (by omega)
  exact L589 (gk G + 1).toNat 0 0  (by omega) (X_Su_e (Int.le_refl 0)).symm (by omega)
theorem c_sumW (sc : X_Sc) (S : X_S) (oW : Int → Int64) (B : Nat) (rc : Int) (rn : Int → Int64) (kn : Int → Int64) (G : X_G) (tn : Int) (fl : Int) (row : Int) (ks : Int) (F_ : Int → Nat) (hO511 : S.1 511 = .inr (1, [.ref B, .ref 501, .int (iI fl), .ref 512, .ref 513, .ref 514, .ref 515, .ref 516])) (hA513 : S.1 513 = .inl (.long, 13950, .inr (.inl fun k : Nat => oW (k : Int)))) (hB : B = 4 ∨ B = 250) (hb : C_bk S B rc (gk G) (gw G) rn (gl G) kn (ga G)) (hs : C_ws S B (gD G) (gW G)) (hG : X_Gok G) (hrow : 0 ≤ row ∧ row ≤ 464) (hF_ : ∀ k, 0 ≤ k → k < gw G → oW (row * 30 + k) = X_st (-2) (F_ k)) : X_T sc 30 (0, [(0, .ref 511), (1, .int (iI row)), (2, .int (iI ks))], [], S) (fun v S' => v = some (.long (X_st (-2) (X_Su (fun k => X_if (X_bt ks k) (F_ k)) 0 (gw G)))) ∧ S' = S) := by
  obtain ⟨hb0, hb1, hb2, hb3, hb4, ⟨f, hb5, hf⟩, ⟨hrc, hrcb⟩, ⟨hkc, hkcb⟩, ⟨hwc, hwcb⟩⟩ := id hb
  refine X_QI (fun Q hQ => ?_)
  refine T_p xr_30_0 xn_30 (pc' := 1) (ls' := [(0, .ref 511), (1, .int (iI row)), (2, .int (iI ks))]) (st' := [.long (iL 0)]) rfl ?_
  refine T_p xr_30_1 xn_30 (pc' := 2) (ls' := [(3, .long (iL 0)), (0, .ref 511), (1, .int (iI row)), (2, .int (iI ks))]) (st' := []) rfl ?_
  refine T_p xr_30_2 xn_30 (pc' := 3) (ls' := [(3, .long (iL 0)), (0, .ref 511), (1, .int (iI row)), (2, .int (iI ks))]) (st' := [.int (iI 0)]) rfl ?_
  refine T_p xr_30_3 xn_30 (pc' := 5) (ls' := [(5, .int (iI 0)), (3, .long (iL 0)), (0, .ref 511), (1, .int (iI row)), (2, .int (iI ks))]) (st' := []) rfl ?_
  have L606 : ∀ (m608 : Nat) (k : Int) (s : Nat) (hk : 0 ≤ k ∧ k ≤ gw G) (hsu : s = X_Su (fun k => X_if (X_bt ks k) (F_ k)) 0 k) (hm609 : gw G - k < m608), X_T sc 30 (5, [(5, .int (iI k)), (3, .long (X_st (-2) s)), (0, .ref 511), (1, .int (iI row)), (2, .int (iI ks))], [], S) Q := by
    intro m608
    induction m608 with
    | zero =>
      intro k s hk hsu hm609
      exact (show False by omega).elim
    | succ m608 ih607 =>
      intro k s hk hsu hm609
      refine T_p xr_30_5 xn_30 (pc' := 7) (ls' := [(5, .int (iI k)), (3, .long (X_st (-2) s)), (0, .ref 511), (1, .int (iI row)), (2, .int (iI ks))]) (st' := [.int (iI k)]) rfl ?_
      refine T_p xr_30_7 xn_30 (pc' := 8) (ls' := [(5, .int (iI k)), (3, .long (X_st (-2) s)), (0, .ref 511), (1, .int (iI row)), (2, .int (iI ks))]) (st' := [.ref 511, .int (iI k)]) rfl ?_
      refine T_get xr_30_8 hO511 rfl (v := .ref B) rfl (pc' := 11) rfl ?_
      refine T_get xr_30_11 hb0 rfl (v := .int (iI (gw G))) rfl (pc' := 14) rfl ?_
      refine T_zicmp_ge xr_30_14 (t := 49) (pc' := 17) rfl rfl (fun c611 => ?_) (fun c611 => ?_)
      · skip
        have c611 : (gw G) ≤ k := c611
        refine T_p xr_30_49 xn_30 (pc' := 50) (ls' := [(5, .int (iI k)), (3, .long (X_st (-2) s)), (0, .ref 511), (1, .int (iI row)), (2, .int (iI ks))]) (st' := [.long (X_st (-2) s)]) rfl ?_
        refine T_lret xr_30_50 xf_30.2.2 rfl ?_
        refine hQ _ _ ?_
        exact ⟨by rw [hsu, show k = gw G by omega], rfl⟩
      · skip
        have c611 : ¬ ((gw G) ≤ k) := c611
        refine T_p xr_30_17 xn_30 (pc' := 18) (ls' := [(5, .int (iI k)), (3, .long (X_st (-2) s)), (0, .ref 511), (1, .int (iI row)), (2, .int (iI ks))]) (st' := [.int (iI ks)]) rfl ?_
        refine T_p xr_30_18 xn_30 (pc' := 20) (ls' := [(5, .int (iI k)), (3, .long (X_st (-2) s)), (0, .ref 511), (1, .int (iI row)), (2, .int (iI ks))]) (st' := [.int (iI k), .int (iI ks)]) rfl ?_
        refine T_cs xr_30_20 (by decide) xf_131.1 xn_131 (as := [.int (iI ks), .int (iI k)]) (r := []) rfl (Nat.le_of_ble_eq_true rfl) (Nat.le_of_ble_eq_true rfl) (pc' := 23) rfl (ls' := [(0, .int (iI ks)), (1, .int (iI k))]) rfl ?_
        refine T_mono (c_hasBit sc S ks k) (fun v613 S614 h612 => ?_)
        obtain ⟨h615, h616⟩ := h612
        rw [h615, h616]
        show X_T sc 30 (23, [(5, .int (iI k)), (3, .long (X_st (-2) s)), (0, .ref 511), (1, .int (iI row)), (2, .int (iI ks))], [.int (iI (bI (X_bt ks k)))], S) _
        refine T_bif_eq xr_30_23 (t := 43) (pc' := 26) rfl rfl (fun c617 => ?_) (fun c617 => ?_)
        · skip
          have c617 : ¬ (X_bt ks k) := c617
          refine T_ziinc xr_30_43 xn_30 (a := k) (z := k + 1) rfl (Nat.le_of_ble_eq_true rfl) (by omega) (ls' := [(5, .int (iI (k + 1))), (3, .long (X_st (-2) s)), (0, .ref 511), (1, .int (iI row)), (2, .int (iI ks))]) rfl (pc' := 46) rfl ?_
          refine T_p xr_30_46 xn_30 (pc' := 5) (ls' := [(5, .int (iI (k + 1))), (3, .long (X_st (-2) s)), (0, .ref 511), (1, .int (iI row)), (2, .int (iI ks))]) (st' := []) rfl ?_
          exact ih607 (k + 1) s  (by omega) (by first | exact ((X_Su_if (p := fun k => X_bt ks k) (f := F_) (show (0 : Int) ≤ k by omega)).1 (by assumption)).symm ▸ (by rw [hsu]) | exact ((X_Su_if (p := fun k => X_bt ks k) (f := F_) (show (0 : Int) ≤ k by omega)).2 (by assumption)).symm ▸ hsu) (by omega)
        · skip
          have c617 : (X_bt ks k) := c617
          refine T_p xr_30_26 xn_30 (pc' := 27) (ls' := [(5, .int (iI k)), (3, .long (X_st (-2) s)), (0, .ref 511), (1, .int (iI row)), (2, .int (iI ks))]) (st' := [.long (X_st (-2) s)]) rfl ?_
          refine T_p xr_30_27 xn_30 (pc' := 28) (ls' := [(5, .int (iI k)), (3, .long (X_st (-2) s)), (0, .ref 511), (1, .int (iI row)), (2, .int (iI ks))]) (st' := [.ref 511, .long (X_st (-2) s)]) rfl ?_
          refine T_get xr_30_28 hO511 rfl (v := .ref 513) rfl (pc' := 31) rfl ?_
          refine T_p xr_30_31 xn_30 (pc' := 32) (ls' := [(5, .int (iI k)), (3, .long (X_st (-2) s)), (0, .ref 511), (1, .int (iI row)), (2, .int (iI ks))]) (st' := [.int (iI row), .ref 513, .long (X_st (-2) s)]) rfl ?_
          refine T_p xr_30_32 xn_30 (pc' := 34) (ls' := [(5, .int (iI k)), (3, .long (X_st (-2) s)), (0, .ref 511), (1, .int (iI row)), (2, .int (iI ks))]) (st' := [.int (iI 30), .int (iI row), .ref 513, .long (X_st (-2) s)]) rfl ?_
          refine T_zimul xr_30_34 (z := row * 30) rfl (pc' := 35) rfl ?_
          refine T_p xr_30_35 xn_30 (pc' := 37) (ls' := [(5, .int (iI k)), (3, .long (X_st (-2) s)), (0, .ref 511), (1, .int (iI row)), (2, .int (iI ks))]) (st' := [.int (iI k), .int (iI (row * 30)), .ref 513, .long (X_st (-2) s)]) rfl ?_
          refine T_ziadd xr_30_37 (z := (row * 30) + k) rfl (pc' := 38) rfl ?_
          refine T_zlald xr_30_38 hA513 (pc' := 39) rfl ?_
          refine T_le (y := (X_st (-2) (F_ k))) (hF_ k (by omega) (by omega)) ?_
          refine T_cs xr_30_39 (by decide) xf_134.1 xn_134 (as := [.long (X_st (-2) s), .long (X_st (-2) (F_ k))]) (r := []) rfl (Nat.le_of_ble_eq_true rfl) (Nat.le_of_ble_eq_true rfl) (pc' := 42) rfl (ls' := [(0, .long (X_st (-2) s)), (2, .long (X_st (-2) (F_ k)))]) rfl ?_
          refine T_mono (c_plus sc S s (F_ k)) (fun v618 S619 h620 => ?_)
          rcases h620 with ⟨hv621, hf622⟩
          rw [hv621]
          rw [hf622]
          show X_T sc 30 (42, [(5, .int (iI k)), (3, .long (X_st (-2) s)), (0, .ref 511), (1, .int (iI row)), (2, .int (iI ks))], [.long (X_st (-2) (s + (F_ k)))], S) _
          refine T_p xr_30_42 xn_30 (pc' := 43) (ls' := [(3, .long (X_st (-2) (s + (F_ k)))), (5, .int (iI k)), (0, .ref 511), (1, .int (iI row)), (2, .int (iI ks))]) (st' := []) rfl ?_
          refine T_ziinc xr_30_43 xn_30 (a := k) (z := k + 1) rfl (Nat.le_of_ble_eq_true rfl) (by omega) (ls' := [(5, .int (iI (k + 1))), (3, .long (X_st (-2) (s + (F_ k)))), (0, .ref 511), (1, .int (iI row)), (2, .int (iI ks))]) rfl (pc' := 46) rfl ?_
          refine T_p xr_30_46 xn_30 (pc' := 5) (ls' := [(5, .int (iI (k + 1))), (3, .long (X_st (-2) (s + (F_ k)))), (0, .ref 511), (1, .int (iI row)), (2, .int (iI ks))]) (st' := []) rfl ?_
          exact ih607 (k + 1) (s + (F_ k))  (by omega) (by first | exact ((X_Su_if (p := fun k => X_bt ks k) (f := F_) (show (0 : Int) ≤ k by omega)).1 (by assumption)).symm ▸ (by rw [hsu]) | exact ((X_Su_if (p := fun k => X_bt ks k) (f := F_) (show (0 : Int) ≤ k by omega)).2 (by assumption)).symm ▸ hsu) (by omega)
  exact L606 (gw G + 1).toNat 0 0  (by omega) (X_Su_e (Int.le_refl 0)).symm (by omega)
end
section
theorem xr_25_0 : X_row 25 0 = some (0, (.iload_n 0, 1), (0, 0, 0)) := by decide +kernel
theorem xr_25_1 : X_row 25 1 = some (1, (.bipush 8, 2), (0, 0, 0)) := by decide +kernel
theorem xr_25_3 : X_row 25 3 = some (3, (.imul, 1), (0, 0, 0)) := by decide +kernel
theorem xr_25_4 : X_row 25 4 = some (4, (.iload_n 1, 1), (0, 0, 0)) := by decide +kernel
theorem xr_25_5 : X_row 25 5 = some (5, (.iadd, 1), (0, 0, 0)) := by decide +kernel
theorem xr_25_6 : X_row 25 6 = some (6, (.bipush 30, 2), (0, 0, 0)) := by decide +kernel
theorem xr_25_8 : X_row 25 8 = some (8, (.imul, 1), (0, 0, 0)) := by decide +kernel
theorem xr_25_9 : X_row 25 9 = some (9, (.iload_n 2, 1), (0, 0, 0)) := by decide +kernel
theorem xr_25_10 : X_row 25 10 = some (10, (.iadd, 1), (0, 0, 0)) := by decide +kernel
theorem xr_25_11 : X_row 25 11 = some (11, (.ireturn, 1), (0, 0, 0)) := by decide +kernel
theorem xr_27_0 : X_row 27 0 = some (0, (.aload_n 0, 1), (0, 0, 0)) := by decide +kernel
theorem xr_27_1 : X_row 27 1 = some (1, (.getfield 26, 3), (1, 6, 34)) := by decide +kernel
theorem xr_27_4 : X_row 27 4 = some (4, (.iload_n 1, 1), (0, 0, 0)) := by decide +kernel
theorem xr_27_5 : X_row 27 5 = some (5, (.iload_n 2, 1), (0, 0, 0)) := by decide +kernel
theorem xr_27_6 : X_row 27 6 = some (6, (.invokestatic 40, 3), (24, 2, 0)) := by decide +kernel
theorem xr_27_9 : X_row 27 9 = some (9, (.bipush 30, 2), (0, 0, 0)) := by decide +kernel
theorem xr_27_11 : X_row 27 11 = some (11, (.imul, 1), (0, 0, 0)) := by decide +kernel
theorem xr_27_12 : X_row 27 12 = some (12, (.iload_n 3, 1), (0, 0, 0)) := by decide +kernel
theorem xr_27_13 : X_row 27 13 = some (13, (.iadd, 1), (0, 0, 0)) := by decide +kernel
theorem xr_27_14 : X_row 27 14 = some (14, (.iconst 4, 1), (0, 0, 0)) := by decide +kernel
theorem xr_27_15 : X_row 27 15 = some (15, (.imul, 1), (0, 0, 0)) := by decide +kernel
theorem xr_27_16 : X_row 27 16 = some (16, (.iload 4, 2), (0, 0, 0)) := by decide +kernel
theorem xr_27_18 : X_row 27 18 = some (18, (.iadd, 1), (0, 0, 0)) := by decide +kernel
theorem xr_27_19 : X_row 27 19 = some (19, (.laload, 1), (0, 0, 0)) := by decide +kernel
theorem xr_27_20 : X_row 27 20 = some (20, (.lreturn, 1), (0, 0, 0)) := by decide +kernel
theorem xr_35_0 : X_row 35 0 = some (0, (.iconst 1, 1), (0, 0, 0)) := by decide +kernel
theorem xr_35_1 : X_row 35 1 = some (1, (.istore 4, 2), (0, 0, 0)) := by decide +kernel
theorem xr_35_3 : X_row 35 3 = some (3, (.iload 4, 2), (0, 0, 0)) := by decide +kernel
theorem xr_35_5 : X_row 35 5 = some (5, (.aload_n 0, 1), (0, 0, 0)) := by decide +kernel
theorem xr_35_6 : X_row 35 6 = some (6, (.getfield 32, 3), (1, 0, 22)) := by decide +kernel
theorem xr_35_9 : X_row 35 9 = some (9, (.getfield 110, 3), (0, 7, 17)) := by decide +kernel
theorem xr_35_12 : X_row 35 12 = some (12, (.iload_n 1, 1), (0, 0, 0)) := by decide +kernel
theorem xr_35_13 : X_row 35 13 = some (13, (.aaload, 1), (0, 0, 0)) := by decide +kernel
theorem xr_35_14 : X_row 35 14 = some (14, (.getfield 126, 3), (8, 3, 1)) := by decide +kernel
theorem xr_35_17 : X_row 35 17 = some (17, (.if_icmp .ge 30, 3), (0, 0, 0)) := by decide +kernel
theorem xr_35_20 : X_row 35 20 = some (20, (.aload_n 0, 1), (0, 0, 0)) := by decide +kernel
theorem xr_35_21 : X_row 35 21 = some (21, (.getfield 29, 3), (1, 7, 36)) := by decide +kernel
theorem xr_35_24 : X_row 35 24 = some (24, (.iload_n 1, 1), (0, 0, 0)) := by decide +kernel
theorem xr_35_25 : X_row 35 25 = some (25, (.iload 4, 2), (0, 0, 0)) := by decide +kernel
theorem xr_35_27 : X_row 35 27 = some (27, (.iload_n 2, 1), (0, 0, 0)) := by decide +kernel
theorem xr_35_28 : X_row 35 28 = some (28, (.invokestatic 78, 3), (25, 10, 0)) := by decide +kernel
theorem xr_35_31 : X_row 35 31 = some (31, (.aload_n 0, 1), (0, 0, 0)) := by decide +kernel
theorem xr_35_32 : X_row 35 32 = some (32, (.iload_n 1, 1), (0, 0, 0)) := by decide +kernel
theorem xr_35_33 : X_row 35 33 = some (33, (.iload 4, 2), (0, 0, 0)) := by decide +kernel
theorem xr_35_35 : X_row 35 35 = some (35, (.iload_n 2, 1), (0, 0, 0)) := by decide +kernel
theorem xr_35_36 : X_row 35 36 = some (36, (.iload_n 3, 1), (0, 0, 0)) := by decide +kernel
theorem xr_35_37 : X_row 35 37 = some (37, (.invokevirtual 74, 3), (37, 4, 0)) := by decide +kernel
theorem xr_35_40 : X_row 35 40 = some (40, (.lastore, 1), (0, 0, 0)) := by decide +kernel
theorem xr_35_41 : X_row 35 41 = some (41, (.iinc 4 1, 3), (0, 0, 0)) := by decide +kernel
theorem xr_35_44 : X_row 35 44 = some (44, (.goto (-41), 3), (0, 0, 0)) := by decide +kernel
theorem xr_35_47 : X_row 35 47 = some (47, (.return_, 1), (0, 0, 0)) := by decide +kernel
theorem xr_36_0 : X_row 36 0 = some (0, (.iload_n 3, 1), (0, 0, 0)) := by decide +kernel
theorem xr_36_1 : X_row 36 1 = some (1, (.iconst 1, 1), (0, 0, 0)) := by decide +kernel
theorem xr_36_2 : X_row 36 2 = some (2, (.isub, 1), (0, 0, 0)) := by decide +kernel
theorem xr_36_3 : X_row 36 3 = some (3, (.istore 4, 2), (0, 0, 0)) := by decide +kernel
theorem xr_36_5 : X_row 36 5 = some (5, (.iload 4, 2), (0, 0, 0)) := by decide +kernel
theorem xr_36_7 : X_row 36 7 = some (7, (.iload_n 2, 1), (0, 0, 0)) := by decide +kernel
theorem xr_36_8 : X_row 36 8 = some (8, (.if_icmp .le 58, 3), (0, 0, 0)) := by decide +kernel
theorem xr_36_11 : X_row 36 11 = some (11, (.iconst 1, 1), (0, 0, 0)) := by decide +kernel
theorem xr_36_12 : X_row 36 12 = some (12, (.istore 5, 2), (0, 0, 0)) := by decide +kernel
theorem xr_36_14 : X_row 36 14 = some (14, (.iload 5, 2), (0, 0, 0)) := by decide +kernel
theorem xr_36_16 : X_row 36 16 = some (16, (.aload_n 0, 1), (0, 0, 0)) := by decide +kernel
theorem xr_36_17 : X_row 36 17 = some (17, (.getfield 32, 3), (1, 0, 22)) := by decide +kernel
theorem xr_36_20 : X_row 36 20 = some (20, (.getfield 110, 3), (0, 7, 17)) := by decide +kernel
theorem xr_36_23 : X_row 36 23 = some (23, (.iload_n 1, 1), (0, 0, 0)) := by decide +kernel
theorem xr_36_24 : X_row 36 24 = some (24, (.aaload, 1), (0, 0, 0)) := by decide +kernel
theorem xr_36_25 : X_row 36 25 = some (25, (.getfield 126, 3), (8, 3, 1)) := by decide +kernel
theorem xr_36_28 : X_row 36 28 = some (28, (.if_icmp .ge 32, 3), (0, 0, 0)) := by decide +kernel
theorem xr_36_31 : X_row 36 31 = some (31, (.aload_n 0, 1), (0, 0, 0)) := by decide +kernel
theorem xr_36_32 : X_row 36 32 = some (32, (.getfield 29, 3), (1, 7, 36)) := by decide +kernel
theorem xr_36_35 : X_row 36 35 = some (35, (.iload_n 1, 1), (0, 0, 0)) := by decide +kernel
theorem xr_36_36 : X_row 36 36 = some (36, (.iload 5, 2), (0, 0, 0)) := by decide +kernel
theorem xr_36_38 : X_row 36 38 = some (38, (.iload 4, 2), (0, 0, 0)) := by decide +kernel
theorem xr_36_40 : X_row 36 40 = some (40, (.invokestatic 78, 3), (25, 10, 0)) := by decide +kernel
theorem xr_36_43 : X_row 36 43 = some (43, (.aload_n 0, 1), (0, 0, 0)) := by decide +kernel
theorem xr_36_44 : X_row 36 44 = some (44, (.iload_n 1, 1), (0, 0, 0)) := by decide +kernel
theorem xr_36_45 : X_row 36 45 = some (45, (.iload 5, 2), (0, 0, 0)) := by decide +kernel
theorem xr_36_47 : X_row 36 47 = some (47, (.iload 4, 2), (0, 0, 0)) := by decide +kernel
theorem xr_36_49 : X_row 36 49 = some (49, (.iload_n 3, 1), (0, 0, 0)) := by decide +kernel
theorem xr_36_50 : X_row 36 50 = some (50, (.invokevirtual 74, 3), (37, 4, 0)) := by decide +kernel
theorem xr_36_53 : X_row 36 53 = some (53, (.lastore, 1), (0, 0, 0)) := by decide +kernel
theorem xr_36_54 : X_row 36 54 = some (54, (.iinc 5 1, 3), (0, 0, 0)) := by decide +kernel
theorem xr_36_57 : X_row 36 57 = some (57, (.goto (-43), 3), (0, 0, 0)) := by decide +kernel
theorem xr_36_60 : X_row 36 60 = some (60, (.iinc 4 (-1), 3), (0, 0, 0)) := by decide +kernel
theorem xr_36_63 : X_row 36 63 = some (63, (.goto (-58), 3), (0, 0, 0)) := by decide +kernel
theorem xr_36_66 : X_row 36 66 = some (66, (.return_, 1), (0, 0, 0)) := by decide +kernel
theorem xr_37_0 : X_row 37 0 = some (0, (.aload_n 0, 1), (0, 0, 0)) := by decide +kernel
theorem xr_37_1 : X_row 37 1 = some (1, (.getfield 32, 3), (1, 0, 22)) := by decide +kernel
theorem xr_37_4 : X_row 37 4 = some (4, (.getfield 110, 3), (0, 7, 17)) := by decide +kernel
theorem xr_37_7 : X_row 37 7 = some (7, (.iload_n 1, 1), (0, 0, 0)) := by decide +kernel
theorem xr_37_8 : X_row 37 8 = some (8, (.aaload, 1), (0, 0, 0)) := by decide +kernel
theorem xr_37_9 : X_row 37 9 = some (9, (.astore 5, 2), (0, 0, 0)) := by decide +kernel
theorem xr_37_11 : X_row 37 11 = some (11, (.aload 5, 2), (0, 0, 0)) := by decide +kernel
theorem xr_37_13 : X_row 37 13 = some (13, (.iload_n 2, 1), (0, 0, 0)) := by decide +kernel
theorem xr_37_14 : X_row 37 14 = some (14, (.invokevirtual 129, 3), (100, 6, 0)) := by decide +kernel
theorem xr_37_17 : X_row 37 17 = some (17, (.ifCond .ne 53, 3), (0, 0, 0)) := by decide +kernel
theorem xr_37_20 : X_row 37 20 = some (20, (.aload 5, 2), (0, 0, 0)) := by decide +kernel
theorem xr_37_22 : X_row 37 22 = some (22, (.getfield 132, 3), (8, 8, 5)) := by decide +kernel
theorem xr_37_25 : X_row 37 25 = some (25, (.iload_n 2, 1), (0, 0, 0)) := by decide +kernel
theorem xr_37_26 : X_row 37 26 = some (26, (.laload, 1), (0, 0, 0)) := by decide +kernel
theorem xr_37_27 : X_row 37 27 = some (27, (.aload_n 0, 1), (0, 0, 0)) := by decide +kernel
theorem xr_37_28 : X_row 37 28 = some (28, (.getfield 36, 3), (1, 1, 24)) := by decide +kernel
theorem xr_37_31 : X_row 37 31 = some (31, (.getfield 135, 3), (6, 1, 21)) := by decide +kernel
theorem xr_37_34 : X_row 37 34 = some (34, (.iload_n 3, 1), (0, 0, 0)) := by decide +kernel
theorem xr_37_35 : X_row 37 35 = some (35, (.laload, 1), (0, 0, 0)) := by decide +kernel
theorem xr_37_36 : X_row 37 36 = some (36, (.lcmp, 1), (0, 0, 0)) := by decide +kernel
theorem xr_37_37 : X_row 37 37 = some (37, (.ifCond .ne 7, 3), (0, 0, 0)) := by decide +kernel
theorem xr_37_40 : X_row 37 40 = some (40, (.iconst 1, 1), (0, 0, 0)) := by decide +kernel
theorem xr_37_41 : X_row 37 41 = some (41, (.goto 4, 3), (0, 0, 0)) := by decide +kernel
theorem xr_37_44 : X_row 37 44 = some (44, (.iconst 0, 1), (0, 0, 0)) := by decide +kernel
theorem xr_37_45 : X_row 37 45 = some (45, (.istore 6, 2), (0, 0, 0)) := by decide +kernel
theorem xr_37_47 : X_row 37 47 = some (47, (.iload 6, 2), (0, 0, 0)) := by decide +kernel
theorem xr_37_49 : X_row 37 49 = some (49, (.ifCond .eq 19, 3), (0, 0, 0)) := by decide +kernel
theorem xr_37_52 : X_row 37 52 = some (52, (.aload_n 0, 1), (0, 0, 0)) := by decide +kernel
theorem xr_37_53 : X_row 37 53 = some (53, (.iload_n 1, 1), (0, 0, 0)) := by decide +kernel
theorem xr_37_54 : X_row 37 54 = some (54, (.iload_n 2, 1), (0, 0, 0)) := by decide +kernel
theorem xr_37_55 : X_row 37 55 = some (55, (.iconst 1, 1), (0, 0, 0)) := by decide +kernel
theorem xr_37_56 : X_row 37 56 = some (56, (.iadd, 1), (0, 0, 0)) := by decide +kernel
theorem xr_37_57 : X_row 37 57 = some (57, (.iload_n 3, 1), (0, 0, 0)) := by decide +kernel
theorem xr_37_58 : X_row 37 58 = some (58, (.iconst 1, 1), (0, 0, 0)) := by decide +kernel
theorem xr_37_59 : X_row 37 59 = some (59, (.iadd, 1), (0, 0, 0)) := by decide +kernel
theorem xr_37_60 : X_row 37 60 = some (60, (.iload 4, 2), (0, 0, 0)) := by decide +kernel
theorem xr_37_62 : X_row 37 62 = some (62, (.invokevirtual 138, 3), (38, 8, 0)) := by decide +kernel
theorem xr_37_65 : X_row 37 65 = some (65, (.goto 4, 3), (0, 0, 0)) := by decide +kernel
theorem xr_37_68 : X_row 37 68 = some (68, (.lconst 0, 1), (0, 0, 0)) := by decide +kernel
theorem xr_37_69 : X_row 37 69 = some (69, (.lreturn, 1), (0, 0, 0)) := by decide +kernel
theorem xr_37_70 : X_row 37 70 = some (70, (.aload 5, 2), (0, 0, 0)) := by decide +kernel
theorem xr_37_72 : X_row 37 72 = some (72, (.getfield 141, 3), (8, 9, 7)) := by decide +kernel
theorem xr_37_75 : X_row 37 75 = some (75, (.iload_n 2, 1), (0, 0, 0)) := by decide +kernel
theorem xr_37_76 : X_row 37 76 = some (76, (.iaload, 1), (0, 0, 0)) := by decide +kernel
theorem xr_37_77 : X_row 37 77 = some (77, (.istore 6, 2), (0, 0, 0)) := by decide +kernel
theorem xr_37_79 : X_row 37 79 = some (79, (.lconst 0, 1), (0, 0, 0)) := by decide +kernel
theorem xr_37_80 : X_row 37 80 = some (80, (.lstore 7, 2), (0, 0, 0)) := by decide +kernel
theorem xr_37_82 : X_row 37 82 = some (82, (.iload_n 3, 1), (0, 0, 0)) := by decide +kernel
theorem xr_37_83 : X_row 37 83 = some (83, (.iconst 1, 1), (0, 0, 0)) := by decide +kernel
theorem xr_37_84 : X_row 37 84 = some (84, (.iadd, 1), (0, 0, 0)) := by decide +kernel
theorem xr_37_85 : X_row 37 85 = some (85, (.istore 9, 2), (0, 0, 0)) := by decide +kernel
theorem xr_37_87 : X_row 37 87 = some (87, (.iload 9, 2), (0, 0, 0)) := by decide +kernel
theorem xr_37_89 : X_row 37 89 = some (89, (.iload 4, 2), (0, 0, 0)) := by decide +kernel
theorem xr_37_91 : X_row 37 91 = some (91, (.if_icmp .gt 52, 3), (0, 0, 0)) := by decide +kernel
theorem xr_37_94 : X_row 37 94 = some (94, (.aload_n 0, 1), (0, 0, 0)) := by decide +kernel
theorem xr_37_95 : X_row 37 95 = some (95, (.iload_n 1, 1), (0, 0, 0)) := by decide +kernel
theorem xr_37_96 : X_row 37 96 = some (96, (.iload_n 2, 1), (0, 0, 0)) := by decide +kernel
theorem xr_37_97 : X_row 37 97 = some (97, (.iconst 1, 1), (0, 0, 0)) := by decide +kernel
theorem xr_37_98 : X_row 37 98 = some (98, (.iadd, 1), (0, 0, 0)) := by decide +kernel
theorem xr_37_99 : X_row 37 99 = some (99, (.iload 9, 2), (0, 0, 0)) := by decide +kernel
theorem xr_37_101 : X_row 37 101 = some (101, (.iload 4, 2), (0, 0, 0)) := by decide +kernel
theorem xr_37_103 : X_row 37 103 = some (103, (.invokevirtual 138, 3), (38, 8, 0)) := by decide +kernel
theorem xr_37_106 : X_row 37 106 = some (106, (.lstore 10, 2), (0, 0, 0)) := by decide +kernel
theorem xr_37_108 : X_row 37 108 = some (108, (.lload 10, 2), (0, 0, 0)) := by decide +kernel
theorem xr_37_110 : X_row 37 110 = some (110, (.lconst 0, 1), (0, 0, 0)) := by decide +kernel
theorem xr_37_111 : X_row 37 111 = some (111, (.lcmp, 1), (0, 0, 0)) := by decide +kernel
theorem xr_37_112 : X_row 37 112 = some (112, (.ifCond .eq 25, 3), (0, 0, 0)) := by decide +kernel
theorem xr_37_115 : X_row 37 115 = some (115, (.lload 7, 2), (0, 0, 0)) := by decide +kernel
theorem xr_37_117 : X_row 37 117 = some (117, (.aload_n 0, 1), (0, 0, 0)) := by decide +kernel
theorem xr_37_118 : X_row 37 118 = some (118, (.iload_n 3, 1), (0, 0, 0)) := by decide +kernel
theorem xr_37_119 : X_row 37 119 = some (119, (.iload 9, 2), (0, 0, 0)) := by decide +kernel
theorem xr_37_121 : X_row 37 121 = some (121, (.iload_n 1, 1), (0, 0, 0)) := by decide +kernel
theorem xr_37_122 : X_row 37 122 = some (122, (.iload 6, 2), (0, 0, 0)) := by decide +kernel
theorem xr_37_124 : X_row 37 124 = some (124, (.invokevirtual 144, 3), (27, 12, 0)) := by decide +kernel
theorem xr_37_127 : X_row 37 127 = some (127, (.lload 10, 2), (0, 0, 0)) := by decide +kernel
theorem xr_37_129 : X_row 37 129 = some (129, (.invokestatic 147, 3), (135, 15, 0)) := by decide +kernel
theorem xr_37_132 : X_row 37 132 = some (132, (.invokestatic 58, 3), (134, 17, 0)) := by decide +kernel
theorem xr_37_135 : X_row 37 135 = some (135, (.lstore 7, 2), (0, 0, 0)) := by decide +kernel
theorem xr_37_137 : X_row 37 137 = some (137, (.iinc 9 1, 3), (0, 0, 0)) := by decide +kernel
theorem xr_37_140 : X_row 37 140 = some (140, (.goto (-53), 3), (0, 0, 0)) := by decide +kernel
theorem xr_37_143 : X_row 37 143 = some (143, (.lload 7, 2), (0, 0, 0)) := by decide +kernel
theorem xr_37_145 : X_row 37 145 = some (145, (.lreturn, 1), (0, 0, 0)) := by decide +kernel
theorem xr_38_0 : X_row 38 0 = some (0, (.iload_n 2, 1), (0, 0, 0)) := by decide +kernel
theorem xr_38_1 : X_row 38 1 = some (1, (.aload_n 0, 1), (0, 0, 0)) := by decide +kernel
theorem xr_38_2 : X_row 38 2 = some (2, (.getfield 32, 3), (1, 0, 22)) := by decide +kernel
theorem xr_38_5 : X_row 38 5 = some (5, (.getfield 110, 3), (0, 7, 17)) := by decide +kernel
theorem xr_38_8 : X_row 38 8 = some (8, (.iload_n 1, 1), (0, 0, 0)) := by decide +kernel
theorem xr_38_9 : X_row 38 9 = some (9, (.aaload, 1), (0, 0, 0)) := by decide +kernel
theorem xr_38_10 : X_row 38 10 = some (10, (.getfield 126, 3), (8, 3, 1)) := by decide +kernel
theorem xr_38_13 : X_row 38 13 = some (13, (.if_icmp .ne 7, 3), (0, 0, 0)) := by decide +kernel
theorem xr_38_16 : X_row 38 16 = some (16, (.iconst 1, 1), (0, 0, 0)) := by decide +kernel
theorem xr_38_17 : X_row 38 17 = some (17, (.goto 4, 3), (0, 0, 0)) := by decide +kernel
theorem xr_38_20 : X_row 38 20 = some (20, (.iconst 0, 1), (0, 0, 0)) := by decide +kernel
theorem xr_38_21 : X_row 38 21 = some (21, (.istore 5, 2), (0, 0, 0)) := by decide +kernel
theorem xr_38_23 : X_row 38 23 = some (23, (.iload_n 3, 1), (0, 0, 0)) := by decide +kernel
theorem xr_38_24 : X_row 38 24 = some (24, (.iload 4, 2), (0, 0, 0)) := by decide +kernel
theorem xr_38_26 : X_row 38 26 = some (26, (.if_icmp .ne 14, 3), (0, 0, 0)) := by decide +kernel
theorem xr_38_29 : X_row 38 29 = some (29, (.iload 5, 2), (0, 0, 0)) := by decide +kernel
theorem xr_38_31 : X_row 38 31 = some (31, (.ifCond .eq 7, 3), (0, 0, 0)) := by decide +kernel
theorem xr_38_34 : X_row 38 34 = some (34, (.lconst 1, 1), (0, 0, 0)) := by decide +kernel
theorem xr_38_35 : X_row 38 35 = some (35, (.goto 4, 3), (0, 0, 0)) := by decide +kernel
theorem xr_38_38 : X_row 38 38 = some (38, (.lconst 0, 1), (0, 0, 0)) := by decide +kernel
theorem xr_38_39 : X_row 38 39 = some (39, (.lreturn, 1), (0, 0, 0)) := by decide +kernel
theorem xr_38_40 : X_row 38 40 = some (40, (.iload 5, 2), (0, 0, 0)) := by decide +kernel
theorem xr_38_42 : X_row 38 42 = some (42, (.ifCond .eq 7, 3), (0, 0, 0)) := by decide +kernel
theorem xr_38_45 : X_row 38 45 = some (45, (.lconst 0, 1), (0, 0, 0)) := by decide +kernel
theorem xr_38_46 : X_row 38 46 = some (46, (.goto 14, 3), (0, 0, 0)) := by decide +kernel
theorem xr_38_49 : X_row 38 49 = some (49, (.aload_n 0, 1), (0, 0, 0)) := by decide +kernel
theorem xr_38_50 : X_row 38 50 = some (50, (.getfield 29, 3), (1, 7, 36)) := by decide +kernel
theorem xr_38_53 : X_row 38 53 = some (53, (.iload_n 1, 1), (0, 0, 0)) := by decide +kernel
theorem xr_38_54 : X_row 38 54 = some (54, (.iload_n 2, 1), (0, 0, 0)) := by decide +kernel
theorem xr_38_55 : X_row 38 55 = some (55, (.iload_n 3, 1), (0, 0, 0)) := by decide +kernel
theorem xr_38_56 : X_row 38 56 = some (56, (.invokestatic 78, 3), (25, 10, 0)) := by decide +kernel
theorem xr_38_59 : X_row 38 59 = some (59, (.laload, 1), (0, 0, 0)) := by decide +kernel
theorem xr_38_60 : X_row 38 60 = some (60, (.lreturn, 1), (0, 0, 0)) := by decide +kernel
theorem xn_25 : X_nL 25 = 3 := by decide +kernel
theorem xf_25 : X_na 25 = 3 ∧ X_ci 25 = 1 ∧ X_rt 25 = (some .int) := by decide +kernel
theorem xn_27 : X_nL 27 = 5 := by decide +kernel
theorem xf_27 : X_na 27 = 4 ∧ X_ci 27 = 1 ∧ X_rt 27 = (some .long) := by decide +kernel
theorem xn_35 : X_nL 35 = 5 := by decide +kernel
theorem xf_35 : X_na 35 = 3 ∧ X_ci 35 = 1 ∧ X_rt 35 = none := by decide +kernel
theorem xn_36 : X_nL 36 = 6 := by decide +kernel
theorem xf_36 : X_na 36 = 3 ∧ X_ci 36 = 1 ∧ X_rt 36 = none := by decide +kernel
theorem xn_37 : X_nL 37 = 12 := by decide +kernel
theorem xf_37 : X_na 37 = 4 ∧ X_ci 37 = 1 ∧ X_rt 37 = (some .long) := by decide +kernel
theorem xn_38 : X_nL 38 = 6 := by decide +kernel
theorem xf_38 : X_na 38 = 4 ∧ X_ci 38 = 1 ∧ X_rt 38 = (some .long) := by decide +kernel
theorem c_tail (sc : X_Sc) (S : X_S) (tl : Int → Int64) (B : Nat) (rc : Int) (rn : Int → Int64) (kn : Int → Int64) (G : X_G) (tn : Int) (fl : Int) (w : Int) (e : Int) (p : Int) (j : Int) (hO511 : S.1 511 = .inr (1, [.ref B, .ref 501, .int (iI fl), .ref 512, .ref 513, .ref 514, .ref 515, .ref 516])) (hA516 : S.1 516 = .inl (.long, 7200, .inr (.inl fun k : Nat => tl (k : Int)))) (hB : B = 4 ∨ B = 250) (hb : C_bk S B rc (gk G) (gw G) rn (gl G) kn (ga G)) (hs : C_ws S B (gD G) (gW G)) (hG : X_Gok G) (hw : 0 ≤ w ∧ w < gw G) (he : 1 ≤ e ∧ e ≤ gD G w 3 0) (hpj : 0 ≤ p ∧ p ≤ j ∧ j ≤ 30) (ht : p < j → e < gD G w 3 0 → tl ((w * 8 + e) * 30 + p) = X_st (-2) (X_Ew G (X_T_ G) w e p j)) : X_T sc 38 (0, [(0, .ref 511), (1, .int (iI w)), (2, .int (iI e)), (3, .int (iI p)), (4, .int (iI j))], [], S) (fun v S' => v = some (.long (X_st (-2) (X_Ew G (X_T_ G) w e p j))) ∧ S' = S) := by
  obtain ⟨hb0, hb1, hb2, hb3, hb4, ⟨f, hb5, hf⟩, ⟨hrc, hrcb⟩, ⟨hkc, hkcb⟩, ⟨hwc, hwcb⟩⟩ := id hb
  have hgw := hG.2.2.2 w hw.1 hw.2
  have hsz := hgw.1
  refine X_QI (fun Q hQ => ?_)
  have J623 : X_T sc 38 (21, [(0, .ref 511), (1, .int (iI w)), (2, .int (iI e)), (3, .int (iI p)), (4, .int (iI j))], [.int (iI (bI (e = gD G w 3 0)))], S) Q := by
    refine T_p xr_38_21 xn_38 (pc' := 23) (ls' := [(5, .int (iI (bI (e = gD G w 3 0)))), (0, .ref 511), (1, .int (iI w)), (2, .int (iI e)), (3, .int (iI p)), (4, .int (iI j))]) (st' := []) rfl ?_
    refine T_p xr_38_23 xn_38 (pc' := 24) (ls' := [(5, .int (iI (bI (e = gD G w 3 0)))), (0, .ref 511), (1, .int (iI w)), (2, .int (iI e)), (3, .int (iI p)), (4, .int (iI j))]) (st' := [.int (iI p)]) rfl ?_
    refine T_p xr_38_24 xn_38 (pc' := 26) (ls' := [(5, .int (iI (bI (e = gD G w 3 0)))), (0, .ref 511), (1, .int (iI w)), (2, .int (iI e)), (3, .int (iI p)), (4, .int (iI j))]) (st' := [.int (iI j), .int (iI p)]) rfl ?_
    refine T_zicmp_ne xr_38_26 (t := 40) (pc' := 29) rfl rfl (fun c624 => ?_) (fun c624 => ?_)
    · skip
      have c624 : ¬ p = j := c624
      refine T_p xr_38_40 xn_38 (pc' := 42) (ls' := [(5, .int (iI (bI (e = gD G w 3 0)))), (0, .ref 511), (1, .int (iI w)), (2, .int (iI e)), (3, .int (iI p)), (4, .int (iI j))]) (st' := [.int (iI (bI (e = gD G w 3 0)))]) rfl ?_
      refine T_bif_eq xr_38_42 (t := 49) (pc' := 45) rfl rfl (fun c625 => ?_) (fun c625 => ?_)
      · skip
        have c625 : ¬ (e = gD G w 3 0) := c625
        refine T_p xr_38_49 xn_38 (pc' := 50) (ls' := [(5, .int (iI (bI (e = gD G w 3 0)))), (0, .ref 511), (1, .int (iI w)), (2, .int (iI e)), (3, .int (iI p)), (4, .int (iI j))]) (st' := [.ref 511]) rfl ?_
        refine T_get xr_38_50 hO511 rfl (v := .ref 516) rfl (pc' := 53) rfl ?_
        refine T_p xr_38_53 xn_38 (pc' := 54) (ls' := [(5, .int (iI (bI (e = gD G w 3 0)))), (0, .ref 511), (1, .int (iI w)), (2, .int (iI e)), (3, .int (iI p)), (4, .int (iI j))]) (st' := [.int (iI w), .ref 516]) rfl ?_
        refine T_p xr_38_54 xn_38 (pc' := 55) (ls' := [(5, .int (iI (bI (e = gD G w 3 0)))), (0, .ref 511), (1, .int (iI w)), (2, .int (iI e)), (3, .int (iI p)), (4, .int (iI j))]) (st' := [.int (iI e), .int (iI w), .ref 516]) rfl ?_
        refine T_p xr_38_55 xn_38 (pc' := 56) (ls' := [(5, .int (iI (bI (e = gD G w 3 0)))), (0, .ref 511), (1, .int (iI w)), (2, .int (iI e)), (3, .int (iI p)), (4, .int (iI j))]) (st' := [.int (iI p), .int (iI e), .int (iI w), .ref 516]) rfl ?_
        refine T_cs xr_38_56 (by decide) xf_25.1 xn_25 (as := [.int (iI w), .int (iI e), .int (iI p)]) (r := [.ref 516]) rfl (Nat.le_of_ble_eq_true rfl) (Nat.le_of_ble_eq_true rfl) (pc' := 59) rfl (ls' := [(0, .int (iI w)), (1, .int (iI e)), (2, .int (iI p))]) rfl ?_
        refine T_p xr_25_0 xn_25 (pc' := 1) (ls' := [(0, .int (iI w)), (1, .int (iI e)), (2, .int (iI p))]) (st' := [.int (iI w)]) rfl ?_
        refine T_p xr_25_1 xn_25 (pc' := 3) (ls' := [(0, .int (iI w)), (1, .int (iI e)), (2, .int (iI p))]) (st' := [.int (iI 8), .int (iI w)]) rfl ?_
        refine T_zimul xr_25_3 (z := w * 8) rfl (pc' := 4) rfl ?_
        refine T_p xr_25_4 xn_25 (pc' := 5) (ls' := [(0, .int (iI w)), (1, .int (iI e)), (2, .int (iI p))]) (st' := [.int (iI e), .int (iI (w * 8))]) rfl ?_
        refine T_ziadd xr_25_5 (z := (w * 8) + e) rfl (pc' := 6) rfl ?_
        refine T_p xr_25_6 xn_25 (pc' := 8) (ls' := [(0, .int (iI w)), (1, .int (iI e)), (2, .int (iI p))]) (st' := [.int (iI 30), .int (iI ((w * 8) + e))]) rfl ?_
        refine T_zimul xr_25_8 (z := ((w * 8) + e) * 30) rfl (pc' := 9) rfl ?_
        refine T_p xr_25_9 xn_25 (pc' := 10) (ls' := [(0, .int (iI w)), (1, .int (iI e)), (2, .int (iI p))]) (st' := [.int (iI p), .int (iI (((w * 8) + e) * 30))]) rfl ?_
        refine T_ziadd xr_25_10 (z := (((w * 8) + e) * 30) + p) rfl (pc' := 11) rfl ?_
        refine T_iret xr_25_11 xf_25.2.2 rfl ?_
        show X_T sc 38 (59, [(5, .int (iI (bI (e = gD G w 3 0)))), (0, .ref 511), (1, .int (iI w)), (2, .int (iI e)), (3, .int (iI p)), (4, .int (iI j))], [.int (iI ((((w * 8) + e) * 30) + p)), .ref 516], S) _
        refine T_zlald xr_38_59 hA516 (pc' := 60) rfl ?_
        refine T_lret xr_38_60 xf_38.2.2 rfl ?_
        refine hQ _ _ ?_
        exact ⟨by rw [ht (by omega) (by omega)], rfl⟩
      · skip
        have c625 : (e = gD G w 3 0) := c625
        refine T_p xr_38_45 xn_38 (pc' := 46) (ls' := [(5, .int (iI (bI (e = gD G w 3 0)))), (0, .ref 511), (1, .int (iI w)), (2, .int (iI e)), (3, .int (iI p)), (4, .int (iI j))]) (st' := [.long (iL 0)]) rfl ?_
        refine T_p xr_38_46 xn_38 (pc' := 60) (ls' := [(5, .int (iI (bI (e = gD G w 3 0)))), (0, .ref 511), (1, .int (iI w)), (2, .int (iI e)), (3, .int (iI p)), (4, .int (iI j))]) (st' := [.long (iL 0)]) rfl ?_
        refine T_lret xr_38_60 xf_38.2.2 rfl ?_
        refine hQ _ _ ?_
        exact ⟨by first | (rw [X_Ew_e (by omega), if_neg (by omega)]; rfl) | (rw [X_Ew_0 (by omega)]; rfl), rfl⟩
    · skip
      have c624 : ¬ (¬ p = j) := c624
      refine T_p xr_38_29 xn_38 (pc' := 31) (ls' := [(5, .int (iI (bI (e = gD G w 3 0)))), (0, .ref 511), (1, .int (iI w)), (2, .int (iI e)), (3, .int (iI p)), (4, .int (iI j))]) (st' := [.int (iI (bI (e = gD G w 3 0)))]) rfl ?_
      refine T_bif_eq xr_38_31 (t := 38) (pc' := 34) rfl rfl (fun c626 => ?_) (fun c626 => ?_)
      · skip
        have c626 : ¬ (e = gD G w 3 0) := c626
        refine T_p xr_38_38 xn_38 (pc' := 39) (ls' := [(5, .int (iI (bI (e = gD G w 3 0)))), (0, .ref 511), (1, .int (iI w)), (2, .int (iI e)), (3, .int (iI p)), (4, .int (iI j))]) (st' := [.long (iL 0)]) rfl ?_
        refine T_lret xr_38_39 xf_38.2.2 rfl ?_
        refine hQ _ _ ?_
        exact ⟨by first | (rw [X_Ew_e (by omega), if_neg (by omega)]; rfl) | (rw [X_Ew_0 (by omega)]; rfl), rfl⟩
      · skip
        have c626 : (e = gD G w 3 0) := c626
        refine T_p xr_38_34 xn_38 (pc' := 35) (ls' := [(5, .int (iI (bI (e = gD G w 3 0)))), (0, .ref 511), (1, .int (iI w)), (2, .int (iI e)), (3, .int (iI p)), (4, .int (iI j))]) (st' := [.long (iL 1)]) rfl ?_
        refine T_p xr_38_35 xn_38 (pc' := 39) (ls' := [(5, .int (iI (bI (e = gD G w 3 0)))), (0, .ref 511), (1, .int (iI w)), (2, .int (iI e)), (3, .int (iI p)), (4, .int (iI j))]) (st' := [.long (iL 1)]) rfl ?_
        refine T_lret xr_38_39 xf_38.2.2 rfl ?_
        refine hQ _ _ ?_
        exact ⟨by rw [X_Ew_e (by omega), if_pos (by omega)]; rfl, rfl⟩
  refine T_p xr_38_0 xn_38 (pc' := 1) (ls' := [(0, .ref 511), (1, .int (iI w)), (2, .int (iI e)), (3, .int (iI p)), (4, .int (iI j))]) (st' := [.int (iI e)]) rfl ?_
  refine T_p xr_38_1 xn_38 (pc' := 2) (ls' := [(0, .ref 511), (1, .int (iI w)), (2, .int (iI e)), (3, .int (iI p)), (4, .int (iI j))]) (st' := [.ref 511, .int (iI e)]) rfl ?_
  refine T_get xr_38_2 hO511 rfl (v := .ref B) rfl (pc' := 5) rfl ?_
  refine T_get xr_38_5 hb0 rfl (v := .ref (B + 5)) rfl (pc' := 8) rfl ?_
  refine T_p xr_38_8 xn_38 (pc' := 9) (ls' := [(0, .ref 511), (1, .int (iI w)), (2, .int (iI e)), (3, .int (iI p)), (4, .int (iI j))]) (st' := [.int (iI w), .ref (B + 5), .int (iI e)]) rfl ?_
  have hw627 := hs w (by omega) (by omega)
  obtain ⟨a628, ha629⟩ : ∃ z : Nat, z = B + 6 + 8 * (w : Int).toNat := ⟨_, rfl⟩
  rw [← ha629] at hw627
  obtain ⟨⟨_, _⟩, ⟨_, _⟩, ⟨_, _⟩, ⟨_, _⟩, ⟨_, _⟩, ⟨_, _⟩, ⟨_, _⟩, ⟨_, _⟩⟩ := id hw627.2
  refine T_zaald xr_38_9 hb5 (w := a628) (by rw [ha629]; exact hf _ (by omega)) (pc' := 10) rfl ?_
  refine T_get xr_38_10 hw627.1.1 rfl (v := .int (iI ((gD G) w 3 0))) rfl (pc' := 13) rfl ?_
  refine T_zicmp_ne xr_38_13 (t := 20) (pc' := 16) rfl rfl (fun c630 => ?_) (fun c630 => ?_)
  · skip
    have c630 : ¬ e = ((gD G) w 3 0) := c630
    refine T_p xr_38_20 xn_38 (pc' := 21) (ls' := [(0, .ref 511), (1, .int (iI w)), (2, .int (iI e)), (3, .int (iI p)), (4, .int (iI j))]) (st' := [.int (iI 0)]) rfl ?_
    refine T_ie (y := iI (bI (e = gD G w 3 0))) (by rw [bI_f (by omega)]) ?_
    exact J623
  · skip
    have c630 : ¬ (¬ e = ((gD G) w 3 0)) := c630
    refine T_p xr_38_16 xn_38 (pc' := 17) (ls' := [(0, .ref 511), (1, .int (iI w)), (2, .int (iI e)), (3, .int (iI p)), (4, .int (iI j))]) (st' := [.int (iI 1)]) rfl ?_
    refine T_p xr_38_17 xn_38 (pc' := 21) (ls' := [(0, .ref 511), (1, .int (iI w)), (2, .int (iI e)), (3, .int (iI p)), (4, .int (iI j))]) (st' := [.int (iI 1)]) rfl ?_
    refine T_ie (y := iI (bI (e = gD G w 3 0))) (by rw [bI_t (by omega)]) ?_
    exact J623
theorem c_ways (sc : X_Sc) (S : X_S) (oH : Int → Int64) (tl : Int → Int64) (B : Nat) (rc : Int) (rn : Int → Int64) (kn : Int → Int64) (G : X_G) (tn : Int) (fl : Int) (w : Int) (e : Int) (i : Int) (j : Int) (hO501 : S.1 501 = .inr (6, [.int (iI tn), .ref 502, .ref 503])) (hO511 : S.1 511 = .inr (1, [.ref B, .ref 501, .int (iI fl), .ref 512, .ref 513, .ref 514, .ref 515, .ref 516])) (hA515 : S.1 515 = .inl (.long, 55800, .inr (.inl fun k : Nat => oH (k : Int)))) (hA516 : S.1 516 = .inl (.long, 7200, .inr (.inl fun k : Nat => tl (k : Int)))) (hB : B = 4 ∨ B = 250) (hb : C_bk S B rc (gk G) (gw G) rn (gl G) kn (ga G)) (hs : C_ws S B (gD G) (gW G)) (hG : X_Gok G) (hA502 : S.1 502 = .inl (.long, 30, .inr (.inl fun k : Nat => (gt G) (k : Int)))) (hw : 0 ≤ w ∧ w < gw G) (he : 0 ≤ e ∧ e < gD G w 3 0) (hij : 0 ≤ i ∧ i < j ∧ j ≤ tn ∧ tn ≤ 30) (ht : ∀ p, i < p → p < j → X_tl G (-2) w p j tl) (hH : gW G w e = 0 → ∀ m, i < m → m ≤ j → ¬ X_Ew G (X_T_ G) w (e + 1) m j = 0 → oH ((X_ro i m * 30 + w) * 4 + gD G w 8 e) = X_st (-2) (X_Hw G (X_T_ G) w e i m)) : X_T sc 37 (0, [(0, .ref 511), (1, .int (iI w)), (2, .int (iI e)), (3, .int (iI i)), (4, .int (iI j))], [], S) (fun v S' => v = some (.long (X_st (-2) (X_Ew G (X_T_ G) w e i j))) ∧ S' = S) := by
  obtain ⟨hb0, hb1, hb2, hb3, hb4, ⟨f, hb5, hf⟩, ⟨hrc, hrcb⟩, ⟨hkc, hkcb⟩, ⟨hwc, hwcb⟩⟩ := id hb
  have hgw := hG.2.2.2 w hw.1 hw.2
  have hsz := hgw.1
  have hho := hgw.2.1
  refine X_QI (fun Q hQ => ?_)
  refine T_p xr_37_0 xn_37 (pc' := 1) (ls' := [(0, .ref 511), (1, .int (iI w)), (2, .int (iI e)), (3, .int (iI i)), (4, .int (iI j))]) (st' := [.ref 511]) rfl ?_
  refine T_get xr_37_1 hO511 rfl (v := .ref B) rfl (pc' := 4) rfl ?_
  refine T_get xr_37_4 hb0 rfl (v := .ref (B + 5)) rfl (pc' := 7) rfl ?_
  refine T_p xr_37_7 xn_37 (pc' := 8) (ls' := [(0, .ref 511), (1, .int (iI w)), (2, .int (iI e)), (3, .int (iI i)), (4, .int (iI j))]) (st' := [.int (iI w), .ref (B + 5)]) rfl ?_
  have hwaw := hs w (by omega) (by omega)
  obtain ⟨aw, haaw⟩ : ∃ z : Nat, z = B + 6 + 8 * (w : Int).toNat := ⟨_, rfl⟩
  rw [← haaw] at hwaw
  obtain ⟨⟨_, _⟩, ⟨_, _⟩, ⟨_, _⟩, ⟨_, _⟩, ⟨_, _⟩, ⟨_, _⟩, ⟨_, _⟩, ⟨_, _⟩⟩ := id hwaw.2
  refine T_zaald xr_37_8 hb5 (w := aw) (by rw [haaw]; exact hf _ (by omega)) (pc' := 9) rfl ?_
  refine T_p xr_37_9 xn_37 (pc' := 11) (ls' := [(5, .ref aw), (0, .ref 511), (1, .int (iI w)), (2, .int (iI e)), (3, .int (iI i)), (4, .int (iI j))]) (st' := []) rfl ?_
  refine T_p xr_37_11 xn_37 (pc' := 13) (ls' := [(5, .ref aw), (0, .ref 511), (1, .int (iI w)), (2, .int (iI e)), (3, .int (iI i)), (4, .int (iI j))]) (st' := [.ref aw]) rfl ?_
  refine T_p xr_37_13 xn_37 (pc' := 14) (ls' := [(5, .ref aw), (0, .ref 511), (1, .int (iI w)), (2, .int (iI e)), (3, .int (iI i)), (4, .int (iI j))]) (st' := [.int (iI e), .ref aw]) rfl ?_
  refine T_cv (S := S) (q := aw) xr_37_14 xf_100.1 xf_100.2.1 xn_100 (as := [.int (iI e)]) (r := []) rfl hwaw.1.1 (Nat.le_of_ble_eq_true rfl) (Nat.le_of_ble_eq_true rfl) (pc' := 17) rfl (ls' := [(0, .ref aw), (1, .int (iI e))]) rfl ?_
  refine T_mono (c_isHole sc S aw ((gD G) w) ((gW G) w) e ⟨hwaw.1.1, hwaw.1.2.1, hwaw.1.2.2.1, hwaw.1.2.2.2.1, hwaw.1.2.2.2.2.1, hwaw.1.2.2.2.2.2.1, hwaw.1.2.2.2.2.2.2.1, hwaw.1.2.2.2.2.2.2.2⟩ hwaw.2 (by omega)) (fun v635 S636 h634 => ?_)
  obtain ⟨h637, h638⟩ := h634
  rw [h637, h638]
  show X_T sc 37 (17, [(5, .ref aw), (0, .ref 511), (1, .int (iI w)), (2, .int (iI e)), (3, .int (iI i)), (4, .int (iI j))], [.int (iI (bI (X_hl ((gD G) w) ((gW G) w) e)))], S) _
  refine T_bif_ne xr_37_17 (t := 70) (pc' := 20) rfl rfl (fun c639 => ?_) (fun c639 => ?_)
  · skip
    have c639 : (X_hl ((gD G) w) ((gW G) w) e) := c639
    have hq0 : gW G w e = 0 := (show X_hl (gD G w) (gW G w) e by assumption).2.2
    have hh8 := hgw.hole he.1 he.2 hq0
    refine T_p xr_37_70 xn_37 (pc' := 72) (ls' := [(5, .ref aw), (0, .ref 511), (1, .int (iI w)), (2, .int (iI e)), (3, .int (iI i)), (4, .int (iI j))]) (st' := [.ref aw]) rfl ?_
    refine T_get xr_37_72 hwaw.1.1 rfl (v := .ref (aw + 2)) rfl (pc' := 75) rfl ?_
    refine T_p xr_37_75 xn_37 (pc' := 76) (ls' := [(5, .ref aw), (0, .ref 511), (1, .int (iI w)), (2, .int (iI e)), (3, .int (iI i)), (4, .int (iI j))]) (st' := [.int (iI e), .ref (aw + 2)]) rfl ?_
    refine T_ziald xr_37_76 hwaw.1.2.2.1 (pc' := 77) rfl ?_
    refine T_p xr_37_77 xn_37 (pc' := 79) (ls' := [(6, .int (iI (((gD G) w 8) e))), (5, .ref aw), (0, .ref 511), (1, .int (iI w)), (2, .int (iI e)), (3, .int (iI i)), (4, .int (iI j))]) (st' := []) rfl ?_
    refine T_p xr_37_79 xn_37 (pc' := 80) (ls' := [(6, .int (iI (((gD G) w 8) e))), (5, .ref aw), (0, .ref 511), (1, .int (iI w)), (2, .int (iI e)), (3, .int (iI i)), (4, .int (iI j))]) (st' := [.long (iL 0)]) rfl ?_
    refine T_p xr_37_80 xn_37 (pc' := 82) (ls' := [(7, .long (iL 0)), (6, .int (iI (((gD G) w 8) e))), (5, .ref aw), (0, .ref 511), (1, .int (iI w)), (2, .int (iI e)), (3, .int (iI i)), (4, .int (iI j))]) (st' := []) rfl ?_
    refine T_p xr_37_82 xn_37 (pc' := 83) (ls' := [(7, .long (iL 0)), (6, .int (iI (((gD G) w 8) e))), (5, .ref aw), (0, .ref 511), (1, .int (iI w)), (2, .int (iI e)), (3, .int (iI i)), (4, .int (iI j))]) (st' := [.int (iI i)]) rfl ?_
    refine T_p xr_37_83 xn_37 (pc' := 84) (ls' := [(7, .long (iL 0)), (6, .int (iI (((gD G) w 8) e))), (5, .ref aw), (0, .ref 511), (1, .int (iI w)), (2, .int (iI e)), (3, .int (iI i)), (4, .int (iI j))]) (st' := [.int (iI 1), .int (iI i)]) rfl ?_
    refine T_ziadd xr_37_84 (z := i + 1) rfl (pc' := 85) rfl ?_
    refine T_p xr_37_85 xn_37 (pc' := 87) (ls' := [(9, .int (iI (i + 1))), (7, .long (iL 0)), (6, .int (iI (((gD G) w 8) e))), (5, .ref aw), (0, .ref 511), (1, .int (iI w)), (2, .int (iI e)), (3, .int (iI i)), (4, .int (iI j))]) (st' := []) rfl ?_
    have L640 : ∀ (m642 : Nat) (m : Int) (su : Nat) (hm : i + 1 ≤ m ∧ m ≤ j + 1) (hsu : su = X_Su (fun q => X_Hw G (X_T_ G) w e i q * X_Ew G (X_T_ G) w (e + 1) q j) (i + 1) m) (hm643 : j + 1 - m < m642), X_T sc 37 (87, [(9, .int (iI m)), (7, .long (X_st (-2) su)), (6, .int (iI ((gD G w 8) e))), (0, .ref 511), (1, .int (iI w)), (2, .int (iI e)), (3, .int (iI i)), (4, .int (iI j))], [], S) Q := by
      intro m642
      induction m642 with
      | zero =>
        intro m su hm hsu hm643
        exact (show False by omega).elim
      | succ m642 ih641 =>
        intro m su hm hsu hm643
        refine T_p xr_37_87 xn_37 (pc' := 89) (ls' := [(9, .int (iI m)), (7, .long (X_st (-2) su)), (6, .int (iI ((gD G w 8) e))), (0, .ref 511), (1, .int (iI w)), (2, .int (iI e)), (3, .int (iI i)), (4, .int (iI j))]) (st' := [.int (iI m)]) rfl ?_
        refine T_p xr_37_89 xn_37 (pc' := 91) (ls' := [(9, .int (iI m)), (7, .long (X_st (-2) su)), (6, .int (iI ((gD G w 8) e))), (0, .ref 511), (1, .int (iI w)), (2, .int (iI e)), (3, .int (iI i)), (4, .int (iI j))]) (st' := [.int (iI j), .int (iI m)]) rfl ?_
        refine T_zicmp_gt xr_37_91 (t := 143) (pc' := 94) rfl rfl (fun c645 => ?_) (fun c645 => ?_)
        · skip
          have c645 : j < m := c645
          refine T_p xr_37_143 xn_37 (pc' := 145) (ls' := [(9, .int (iI m)), (7, .long (X_st (-2) su)), (6, .int (iI ((gD G w 8) e))), (0, .ref 511), (1, .int (iI w)), (2, .int (iI e)), (3, .int (iI i)), (4, .int (iI j))]) (st' := [.long (X_st (-2) su)]) rfl ?_
          refine T_lret xr_37_145 xf_37.2.2 rfl ?_
          refine hQ _ _ ?_
          exact ⟨by rw [X_Ew_h he.2 hq0, hsu, show m = j + 1 by omega], rfl⟩
        · skip
          have c645 : ¬ (j < m) := c645
          refine T_p xr_37_94 xn_37 (pc' := 95) (ls' := [(9, .int (iI m)), (7, .long (X_st (-2) su)), (6, .int (iI ((gD G w 8) e))), (0, .ref 511), (1, .int (iI w)), (2, .int (iI e)), (3, .int (iI i)), (4, .int (iI j))]) (st' := [.ref 511]) rfl ?_
          refine T_p xr_37_95 xn_37 (pc' := 96) (ls' := [(9, .int (iI m)), (7, .long (X_st (-2) su)), (6, .int (iI ((gD G w 8) e))), (0, .ref 511), (1, .int (iI w)), (2, .int (iI e)), (3, .int (iI i)), (4, .int (iI j))]) (st' := [.int (iI w), .ref 511]) rfl ?_
          refine T_p xr_37_96 xn_37 (pc' := 97) (ls' := [(9, .int (iI m)), (7, .long (X_st (-2) su)), (6, .int (iI ((gD G w 8) e))), (0, .ref 511), (1, .int (iI w)), (2, .int (iI e)), (3, .int (iI i)), (4, .int (iI j))]) (st' := [.int (iI e), .int (iI w), .ref 511]) rfl ?_
          refine T_p xr_37_97 xn_37 (pc' := 98) (ls' := [(9, .int (iI m)), (7, .long (X_st (-2) su)), (6, .int (iI ((gD G w 8) e))), (0, .ref 511), (1, .int (iI w)), (2, .int (iI e)), (3, .int (iI i)), (4, .int (iI j))]) (st' := [.int (iI 1), .int (iI e), .int (iI w), .ref 511]) rfl ?_
          refine T_ziadd xr_37_98 (z := e + 1) rfl (pc' := 99) rfl ?_
          refine T_p xr_37_99 xn_37 (pc' := 101) (ls' := [(9, .int (iI m)), (7, .long (X_st (-2) su)), (6, .int (iI ((gD G w 8) e))), (0, .ref 511), (1, .int (iI w)), (2, .int (iI e)), (3, .int (iI i)), (4, .int (iI j))]) (st' := [.int (iI m), .int (iI (e + 1)), .int (iI w), .ref 511]) rfl ?_
          refine T_p xr_37_101 xn_37 (pc' := 103) (ls' := [(9, .int (iI m)), (7, .long (X_st (-2) su)), (6, .int (iI ((gD G w 8) e))), (0, .ref 511), (1, .int (iI w)), (2, .int (iI e)), (3, .int (iI i)), (4, .int (iI j))]) (st' := [.int (iI j), .int (iI m), .int (iI (e + 1)), .int (iI w), .ref 511]) rfl ?_
          refine T_cv (S := S) (q := 511) xr_37_103 xf_38.1 xf_38.2.1 xn_38 (as := [.int (iI w), .int (iI (e + 1)), .int (iI m), .int (iI j)]) (r := []) rfl hO511 (Nat.le_of_ble_eq_true rfl) (Nat.le_of_ble_eq_true rfl) (pc' := 106) rfl (ls' := [(0, .ref 511), (1, .int (iI w)), (2, .int (iI (e + 1))), (3, .int (iI m)), (4, .int (iI j))]) rfl ?_
          refine T_mono (c_tail sc S tl B rc rn kn G tn fl w (e + 1) m j hO511 hA516 hB ⟨hb0, hb1, hb2, hb3, hb4, ⟨f, hb5, hf⟩, ⟨by omega, by omega⟩, ⟨by omega, by omega⟩, ⟨by omega, by omega⟩⟩ hs hG (by omega) (by omega) (by omega) (fun z1 z2 => ht _ (by omega) z1 _ (by omega) z2)) (fun v646 S647 h648 => ?_)
          rcases h648 with ⟨hv649, hf650⟩
          rw [hv649]
          rw [hf650]
          show X_T sc 37 (106, [(9, .int (iI m)), (7, .long (X_st (-2) su)), (6, .int (iI ((gD G w 8) e))), (0, .ref 511), (1, .int (iI w)), (2, .int (iI e)), (3, .int (iI i)), (4, .int (iI j))], [.long (X_st (-2) (X_Ew G (X_T_ G) w (e + 1) m j))], S) _
          refine T_p xr_37_106 xn_37 (pc' := 108) (ls' := [(10, .long (X_st (-2) (X_Ew G (X_T_ G) w (e + 1) m j))), (9, .int (iI m)), (7, .long (X_st (-2) su)), (6, .int (iI ((gD G w 8) e))), (0, .ref 511), (1, .int (iI w)), (2, .int (iI e)), (3, .int (iI i)), (4, .int (iI j))]) (st' := []) rfl ?_
          refine T_p xr_37_108 xn_37 (pc' := 110) (ls' := [(10, .long (X_st (-2) (X_Ew G (X_T_ G) w (e + 1) m j))), (9, .int (iI m)), (7, .long (X_st (-2) su)), (6, .int (iI ((gD G w 8) e))), (0, .ref 511), (1, .int (iI w)), (2, .int (iI e)), (3, .int (iI i)), (4, .int (iI j))]) (st' := [.long (X_st (-2) (X_Ew G (X_T_ G) w (e + 1) m j))]) rfl ?_
          refine T_p xr_37_110 xn_37 (pc' := 111) (ls' := [(10, .long (X_st (-2) (X_Ew G (X_T_ G) w (e + 1) m j))), (9, .int (iI m)), (7, .long (X_st (-2) su)), (6, .int (iI ((gD G w 8) e))), (0, .ref 511), (1, .int (iI w)), (2, .int (iI e)), (3, .int (iI i)), (4, .int (iI j))]) (st' := [.long (iL 0), .long (X_st (-2) (X_Ew G (X_T_ G) w (e + 1) m j))]) rfl ?_
          refine T_lc_eq xr_37_111 xr_37_112 (t := 137) (pc' := 115) rfl rfl (fun c651 => ?_) (fun c651 => ?_)
          · skip
            have c651 : (X_st (-2) (X_Ew G (X_T_ G) w (e + 1) m j)) = (iL 0) := c651
            refine T_ziinc xr_37_137 xn_37 (a := m) (z := m + 1) rfl (Nat.le_of_ble_eq_true rfl) (by omega) (ls' := [(9, .int (iI (m + 1))), (10, .long (X_st (-2) (X_Ew G (X_T_ G) w (e + 1) m j))), (7, .long (X_st (-2) su)), (6, .int (iI ((gD G w 8) e))), (0, .ref 511), (1, .int (iI w)), (2, .int (iI e)), (3, .int (iI i)), (4, .int (iI j))]) rfl (pc' := 140) rfl ?_
            refine T_p xr_37_140 xn_37 (pc' := 87) (ls' := [(9, .int (iI (m + 1))), (10, .long (X_st (-2) (X_Ew G (X_T_ G) w (e + 1) m j))), (7, .long (X_st (-2) su)), (6, .int (iI ((gD G w 8) e))), (0, .ref 511), (1, .int (iI w)), (2, .int (iI e)), (3, .int (iI i)), (4, .int (iI j))]) (st' := []) rfl ?_
            refine T_sub (ls := [(9, .int (iI (m + 1))), (7, .long (X_st (-2) su)), (6, .int (iI ((gD G w 8) e))), (0, .ref 511), (1, .int (iI w)), (2, .int (iI e)), (3, .int (iI i)), (4, .int (iI j))]) ⟨rfl, rfl, rfl, rfl, rfl, rfl, rfl, rfl, trivial⟩ rfl rfl ?_
            exact ih641 (m + 1) su  (by omega) (by rw [X_Su_s (by omega), ← hsu]; show su = su + X_Hw G (X_T_ G) w e i m * X_Ew G (X_T_ G) w (e + 1) m j; rw [show X_Ew G (X_T_ G) w (e + 1) m j = 0 from (X_st_z (m := -2) (by omega)).mp (by assumption), Nat.mul_zero]; rfl) (by omega)
          · skip
            have c651 : ¬ ((X_st (-2) (X_Ew G (X_T_ G) w (e + 1) m j)) = (iL 0)) := c651
            refine T_p xr_37_115 xn_37 (pc' := 117) (ls' := [(10, .long (X_st (-2) (X_Ew G (X_T_ G) w (e + 1) m j))), (9, .int (iI m)), (7, .long (X_st (-2) su)), (6, .int (iI ((gD G w 8) e))), (0, .ref 511), (1, .int (iI w)), (2, .int (iI e)), (3, .int (iI i)), (4, .int (iI j))]) (st' := [.long (X_st (-2) su)]) rfl ?_
            refine T_p xr_37_117 xn_37 (pc' := 118) (ls' := [(10, .long (X_st (-2) (X_Ew G (X_T_ G) w (e + 1) m j))), (9, .int (iI m)), (7, .long (X_st (-2) su)), (6, .int (iI ((gD G w 8) e))), (0, .ref 511), (1, .int (iI w)), (2, .int (iI e)), (3, .int (iI i)), (4, .int (iI j))]) (st' := [.ref 511, .long (X_st (-2) su)]) rfl ?_
            refine T_p xr_37_118 xn_37 (pc' := 119) (ls' := [(10, .long (X_st (-2) (X_Ew G (X_T_ G) w (e + 1) m j))), (9, .int (iI m)), (7, .long (X_st (-2) su)), (6, .int (iI ((gD G w 8) e))), (0, .ref 511), (1, .int (iI w)), (2, .int (iI e)), (3, .int (iI i)), (4, .int (iI j))]) (st' := [.int (iI i), .ref 511, .long (X_st (-2) su)]) rfl ?_
            refine T_p xr_37_119 xn_37 (pc' := 121) (ls' := [(10, .long (X_st (-2) (X_Ew G (X_T_ G) w (e + 1) m j))), (9, .int (iI m)), (7, .long (X_st (-2) su)), (6, .int (iI ((gD G w 8) e))), (0, .ref 511), (1, .int (iI w)), (2, .int (iI e)), (3, .int (iI i)), (4, .int (iI j))]) (st' := [.int (iI m), .int (iI i), .ref 511, .long (X_st (-2) su)]) rfl ?_
            refine T_p xr_37_121 xn_37 (pc' := 122) (ls' := [(10, .long (X_st (-2) (X_Ew G (X_T_ G) w (e + 1) m j))), (9, .int (iI m)), (7, .long (X_st (-2) su)), (6, .int (iI ((gD G w 8) e))), (0, .ref 511), (1, .int (iI w)), (2, .int (iI e)), (3, .int (iI i)), (4, .int (iI j))]) (st' := [.int (iI w), .int (iI m), .int (iI i), .ref 511, .long (X_st (-2) su)]) rfl ?_
            refine T_p xr_37_122 xn_37 (pc' := 124) (ls' := [(10, .long (X_st (-2) (X_Ew G (X_T_ G) w (e + 1) m j))), (9, .int (iI m)), (7, .long (X_st (-2) su)), (6, .int (iI ((gD G w 8) e))), (0, .ref 511), (1, .int (iI w)), (2, .int (iI e)), (3, .int (iI i)), (4, .int (iI j))]) (st' := [.int (iI ((gD G w 8) e)), .int (iI w), .int (iI m), .int (iI i), .ref 511, .long (X_st (-2) su)]) rfl ?_
            refine T_cv (S := S) (q := 511) xr_37_124 xf_27.1 xf_27.2.1 xn_27 (as := [.int (iI i), .int (iI m), .int (iI w), .int (iI ((gD G w 8) e))]) (r := [.long (X_st (-2) su)]) rfl hO511 (Nat.le_of_ble_eq_true rfl) (Nat.le_of_ble_eq_true rfl) (pc' := 127) rfl (ls' := [(0, .ref 511), (1, .int (iI i)), (2, .int (iI m)), (3, .int (iI w)), (4, .int (iI ((gD G w 8) e)))]) rfl ?_
            refine T_p xr_27_0 xn_27 (pc' := 1) (ls' := [(0, .ref 511), (1, .int (iI i)), (2, .int (iI m)), (3, .int (iI w)), (4, .int (iI ((gD G w 8) e)))]) (st' := [.ref 511]) rfl ?_
            refine T_get xr_27_1 hO511 rfl (v := .ref 515) rfl (pc' := 4) rfl ?_
            refine T_p xr_27_4 xn_27 (pc' := 5) (ls' := [(0, .ref 511), (1, .int (iI i)), (2, .int (iI m)), (3, .int (iI w)), (4, .int (iI ((gD G w 8) e)))]) (st' := [.int (iI i), .ref 515]) rfl ?_
            refine T_p xr_27_5 xn_27 (pc' := 6) (ls' := [(0, .ref 511), (1, .int (iI i)), (2, .int (iI m)), (3, .int (iI w)), (4, .int (iI ((gD G w 8) e)))]) (st' := [.int (iI m), .int (iI i), .ref 515]) rfl ?_
            refine T_cs xr_27_6 (by decide) xf_24.1 xn_24 (as := [.int (iI i), .int (iI m)]) (r := [.ref 515]) rfl (Nat.le_of_ble_eq_true rfl) (Nat.le_of_ble_eq_true rfl) (pc' := 9) rfl (ls' := [(0, .int (iI i)), (1, .int (iI m))]) rfl ?_
            refine T_mono (c_rowOf sc S i m (by omega)) (fun v652 S653 h654 => ?_)
            rcases h654 with ⟨hv655, hf656⟩
            rw [hv655]
            rw [hf656]
            have hr657 := X_ro_r (i := i) (j := m) (by omega) (by omega) (by omega)
            show X_T sc 27 (9, [(0, .ref 511), (1, .int (iI i)), (2, .int (iI m)), (3, .int (iI w)), (4, .int (iI ((gD G w 8) e)))], [.int (iI (X_ro i m)), .ref 515], S) _
            refine T_p xr_27_9 xn_27 (pc' := 11) (ls' := [(0, .ref 511), (1, .int (iI i)), (2, .int (iI m)), (3, .int (iI w)), (4, .int (iI ((gD G w 8) e)))]) (st' := [.int (iI 30), .int (iI (X_ro i m)), .ref 515]) rfl ?_
            refine T_zimul xr_27_11 (z := (X_ro i m) * 30) rfl (pc' := 12) rfl ?_
            refine T_p xr_27_12 xn_27 (pc' := 13) (ls' := [(0, .ref 511), (1, .int (iI i)), (2, .int (iI m)), (3, .int (iI w)), (4, .int (iI ((gD G w 8) e)))]) (st' := [.int (iI w), .int (iI ((X_ro i m) * 30)), .ref 515]) rfl ?_
            refine T_ziadd xr_27_13 (z := ((X_ro i m) * 30) + w) rfl (pc' := 14) rfl ?_
            refine T_p xr_27_14 xn_27 (pc' := 15) (ls' := [(0, .ref 511), (1, .int (iI i)), (2, .int (iI m)), (3, .int (iI w)), (4, .int (iI ((gD G w 8) e)))]) (st' := [.int (iI 4), .int (iI (((X_ro i m) * 30) + w)), .ref 515]) rfl ?_
            refine T_zimul xr_27_15 (z := (((X_ro i m) * 30) + w) * 4) rfl (pc' := 16) rfl ?_
            refine T_p xr_27_16 xn_27 (pc' := 18) (ls' := [(0, .ref 511), (1, .int (iI i)), (2, .int (iI m)), (3, .int (iI w)), (4, .int (iI ((gD G w 8) e)))]) (st' := [.int (iI ((gD G w 8) e)), .int (iI ((((X_ro i m) * 30) + w) * 4)), .ref 515]) rfl ?_
            refine T_ziadd xr_27_18 (z := ((((X_ro i m) * 30) + w) * 4) + ((gD G w 8) e)) rfl (pc' := 19) rfl ?_
            refine T_zlald xr_27_19 hA515 (pc' := 20) rfl ?_
            refine T_le (y := (X_st (-2) (X_Hw G (X_T_ G) w e i m))) (hH hq0 m (by omega) (by omega) (fun z => absurd ((X_st_z (m := -2) (by omega)).mpr z) (by assumption))) ?_
            refine T_lret xr_27_20 xf_27.2.2 rfl ?_
            show X_T sc 37 (127, [(10, .long (X_st (-2) (X_Ew G (X_T_ G) w (e + 1) m j))), (9, .int (iI m)), (7, .long (X_st (-2) su)), (6, .int (iI ((gD G w 8) e))), (0, .ref 511), (1, .int (iI w)), (2, .int (iI e)), (3, .int (iI i)), (4, .int (iI j))], [.long (X_st (-2) (X_Hw G (X_T_ G) w e i m)), .long (X_st (-2) su)], S) _
            refine T_p xr_37_127 xn_37 (pc' := 129) (ls' := [(10, .long (X_st (-2) (X_Ew G (X_T_ G) w (e + 1) m j))), (9, .int (iI m)), (7, .long (X_st (-2) su)), (6, .int (iI ((gD G w 8) e))), (0, .ref 511), (1, .int (iI w)), (2, .int (iI e)), (3, .int (iI i)), (4, .int (iI j))]) (st' := [.long (X_st (-2) (X_Ew G (X_T_ G) w (e + 1) m j)), .long (X_st (-2) (X_Hw G (X_T_ G) w e i m)), .long (X_st (-2) su)]) rfl ?_
            refine T_cs xr_37_129 (by decide) xf_135.1 xn_135 (as := [.long (X_st (-2) (X_Hw G (X_T_ G) w e i m)), .long (X_st (-2) (X_Ew G (X_T_ G) w (e + 1) m j))]) (r := [.long (X_st (-2) su)]) rfl (Nat.le_of_ble_eq_true rfl) (Nat.le_of_ble_eq_true rfl) (pc' := 132) rfl (ls' := [(0, .long (X_st (-2) (X_Hw G (X_T_ G) w e i m))), (2, .long (X_st (-2) (X_Ew G (X_T_ G) w (e + 1) m j)))]) rfl ?_
            refine T_mono (c_times sc S (X_Hw G (X_T_ G) w e i m) (X_Ew G (X_T_ G) w (e + 1) m j)) (fun v658 S659 h660 => ?_)
            rcases h660 with ⟨hv661, hf662⟩
            rw [hv661]
            rw [hf662]
            show X_T sc 37 (132, [(10, .long (X_st (-2) (X_Ew G (X_T_ G) w (e + 1) m j))), (9, .int (iI m)), (7, .long (X_st (-2) su)), (6, .int (iI ((gD G w 8) e))), (0, .ref 511), (1, .int (iI w)), (2, .int (iI e)), (3, .int (iI i)), (4, .int (iI j))], [.long (X_st (-2) ((X_Hw G (X_T_ G) w e i m) * (X_Ew G (X_T_ G) w (e + 1) m j))), .long (X_st (-2) su)], S) _
            refine T_cs xr_37_132 (by decide) xf_134.1 xn_134 (as := [.long (X_st (-2) su), .long (X_st (-2) ((X_Hw G (X_T_ G) w e i m) * (X_Ew G (X_T_ G) w (e + 1) m j)))]) (r := []) rfl (Nat.le_of_ble_eq_true rfl) (Nat.le_of_ble_eq_true rfl) (pc' := 135) rfl (ls' := [(0, .long (X_st (-2) su)), (2, .long (X_st (-2) ((X_Hw G (X_T_ G) w e i m) * (X_Ew G (X_T_ G) w (e + 1) m j))))]) rfl ?_
            refine T_mono (c_plus sc S su ((X_Hw G (X_T_ G) w e i m) * (X_Ew G (X_T_ G) w (e + 1) m j))) (fun v663 S664 h665 => ?_)
            rcases h665 with ⟨hv666, hf667⟩
            rw [hv666]
            rw [hf667]
            show X_T sc 37 (135, [(10, .long (X_st (-2) (X_Ew G (X_T_ G) w (e + 1) m j))), (9, .int (iI m)), (7, .long (X_st (-2) su)), (6, .int (iI ((gD G w 8) e))), (0, .ref 511), (1, .int (iI w)), (2, .int (iI e)), (3, .int (iI i)), (4, .int (iI j))], [.long (X_st (-2) (su + ((X_Hw G (X_T_ G) w e i m) * (X_Ew G (X_T_ G) w (e + 1) m j))))], S) _
            refine T_p xr_37_135 xn_37 (pc' := 137) (ls' := [(7, .long (X_st (-2) (su + ((X_Hw G (X_T_ G) w e i m) * (X_Ew G (X_T_ G) w (e + 1) m j))))), (10, .long (X_st (-2) (X_Ew G (X_T_ G) w (e + 1) m j))), (9, .int (iI m)), (6, .int (iI ((gD G w 8) e))), (0, .ref 511), (1, .int (iI w)), (2, .int (iI e)), (3, .int (iI i)), (4, .int (iI j))]) (st' := []) rfl ?_
            refine T_ziinc xr_37_137 xn_37 (a := m) (z := m + 1) rfl (Nat.le_of_ble_eq_true rfl) (by omega) (ls' := [(9, .int (iI (m + 1))), (7, .long (X_st (-2) (su + ((X_Hw G (X_T_ G) w e i m) * (X_Ew G (X_T_ G) w (e + 1) m j))))), (10, .long (X_st (-2) (X_Ew G (X_T_ G) w (e + 1) m j))), (6, .int (iI ((gD G w 8) e))), (0, .ref 511), (1, .int (iI w)), (2, .int (iI e)), (3, .int (iI i)), (4, .int (iI j))]) rfl (pc' := 140) rfl ?_
            refine T_p xr_37_140 xn_37 (pc' := 87) (ls' := [(9, .int (iI (m + 1))), (7, .long (X_st (-2) (su + ((X_Hw G (X_T_ G) w e i m) * (X_Ew G (X_T_ G) w (e + 1) m j))))), (10, .long (X_st (-2) (X_Ew G (X_T_ G) w (e + 1) m j))), (6, .int (iI ((gD G w 8) e))), (0, .ref 511), (1, .int (iI w)), (2, .int (iI e)), (3, .int (iI i)), (4, .int (iI j))]) (st' := []) rfl ?_
            refine T_sub (ls := [(9, .int (iI (m + 1))), (7, .long (X_st (-2) (su + ((X_Hw G (X_T_ G) w e i m) * (X_Ew G (X_T_ G) w (e + 1) m j))))), (6, .int (iI ((gD G w 8) e))), (0, .ref 511), (1, .int (iI w)), (2, .int (iI e)), (3, .int (iI i)), (4, .int (iI j))]) ⟨rfl, rfl, rfl, rfl, rfl, rfl, rfl, rfl, trivial⟩ rfl rfl ?_
            exact ih641 (m + 1) (su + ((X_Hw G (X_T_ G) w e i m) * (X_Ew G (X_T_ G) w (e + 1) m j)))  (by omega) (by rw [X_Su_s (by omega), ← hsu]) (by omega)
    refine T_sub (ls := [(9, .int (iI (i + 1))), (7, .long (iL 0)), (6, .int (iI (((gD G) w 8) e))), (0, .ref 511), (1, .int (iI w)), (2, .int (iI e)), (3, .int (iI i)), (4, .int (iI j))]) ⟨rfl, rfl, rfl, rfl, rfl, rfl, rfl, rfl, trivial⟩ rfl rfl ?_
    exact L640 ((j + 1) + 1).toNat (i + 1) 0  (by omega) (X_Su_e (Int.le_refl _)).symm (by omega)
  · skip
    have c639 : ¬ (X_hl ((gD G) w) ((gW G) w) e) := c639
    have J668 : X_T sc 37 (45, [(5, .ref aw), (0, .ref 511), (1, .int (iI w)), (2, .int (iI e)), (3, .int (iI i)), (4, .int (iI j))], [.int (iI (bI (gW G w e = gt G i)))], S) Q := by
      refine T_p xr_37_45 xn_37 (pc' := 47) (ls' := [(6, .int (iI (bI (gW G w e = gt G i)))), (5, .ref aw), (0, .ref 511), (1, .int (iI w)), (2, .int (iI e)), (3, .int (iI i)), (4, .int (iI j))]) (st' := []) rfl ?_
      refine T_p xr_37_47 xn_37 (pc' := 49) (ls' := [(6, .int (iI (bI (gW G w e = gt G i)))), (5, .ref aw), (0, .ref 511), (1, .int (iI w)), (2, .int (iI e)), (3, .int (iI i)), (4, .int (iI j))]) (st' := [.int (iI (bI (gW G w e = gt G i)))]) rfl ?_
      refine T_bif_eq xr_37_49 (t := 68) (pc' := 52) rfl rfl (fun c669 => ?_) (fun c669 => ?_)
      · skip
        have c669 : ¬ (gW G w e = gt G i) := c669
        refine T_p xr_37_68 xn_37 (pc' := 69) (ls' := [(6, .int (iI (bI (gW G w e = gt G i)))), (5, .ref aw), (0, .ref 511), (1, .int (iI w)), (2, .int (iI e)), (3, .int (iI i)), (4, .int (iI j))]) (st' := [.long (iL 0)]) rfl ?_
        refine T_lret xr_37_69 xf_37.2.2 rfl ?_
        refine hQ _ _ ?_
        exact ⟨by rw [X_Ew_p he.2 (fun z => absurd (show X_hl (gD G w) (gW G w) e from ⟨he.1, he.2, z⟩) (by assumption)), X_if_f (fun z => absurd z.2.symm (by assumption))]; rfl, rfl⟩
      · skip
        have c669 : (gW G w e = gt G i) := c669
        refine T_p xr_37_52 xn_37 (pc' := 53) (ls' := [(6, .int (iI (bI (gW G w e = gt G i)))), (5, .ref aw), (0, .ref 511), (1, .int (iI w)), (2, .int (iI e)), (3, .int (iI i)), (4, .int (iI j))]) (st' := [.ref 511]) rfl ?_
        refine T_p xr_37_53 xn_37 (pc' := 54) (ls' := [(6, .int (iI (bI (gW G w e = gt G i)))), (5, .ref aw), (0, .ref 511), (1, .int (iI w)), (2, .int (iI e)), (3, .int (iI i)), (4, .int (iI j))]) (st' := [.int (iI w), .ref 511]) rfl ?_
        refine T_p xr_37_54 xn_37 (pc' := 55) (ls' := [(6, .int (iI (bI (gW G w e = gt G i)))), (5, .ref aw), (0, .ref 511), (1, .int (iI w)), (2, .int (iI e)), (3, .int (iI i)), (4, .int (iI j))]) (st' := [.int (iI e), .int (iI w), .ref 511]) rfl ?_
        refine T_p xr_37_55 xn_37 (pc' := 56) (ls' := [(6, .int (iI (bI (gW G w e = gt G i)))), (5, .ref aw), (0, .ref 511), (1, .int (iI w)), (2, .int (iI e)), (3, .int (iI i)), (4, .int (iI j))]) (st' := [.int (iI 1), .int (iI e), .int (iI w), .ref 511]) rfl ?_
        refine T_ziadd xr_37_56 (z := e + 1) rfl (pc' := 57) rfl ?_
        refine T_p xr_37_57 xn_37 (pc' := 58) (ls' := [(6, .int (iI (bI (gW G w e = gt G i)))), (5, .ref aw), (0, .ref 511), (1, .int (iI w)), (2, .int (iI e)), (3, .int (iI i)), (4, .int (iI j))]) (st' := [.int (iI i), .int (iI (e + 1)), .int (iI w), .ref 511]) rfl ?_
        refine T_p xr_37_58 xn_37 (pc' := 59) (ls' := [(6, .int (iI (bI (gW G w e = gt G i)))), (5, .ref aw), (0, .ref 511), (1, .int (iI w)), (2, .int (iI e)), (3, .int (iI i)), (4, .int (iI j))]) (st' := [.int (iI 1), .int (iI i), .int (iI (e + 1)), .int (iI w), .ref 511]) rfl ?_
        refine T_ziadd xr_37_59 (z := i + 1) rfl (pc' := 60) rfl ?_
        refine T_p xr_37_60 xn_37 (pc' := 62) (ls' := [(6, .int (iI (bI (gW G w e = gt G i)))), (5, .ref aw), (0, .ref 511), (1, .int (iI w)), (2, .int (iI e)), (3, .int (iI i)), (4, .int (iI j))]) (st' := [.int (iI j), .int (iI (i + 1)), .int (iI (e + 1)), .int (iI w), .ref 511]) rfl ?_
        refine T_cv (S := S) (q := 511) xr_37_62 xf_38.1 xf_38.2.1 xn_38 (as := [.int (iI w), .int (iI (e + 1)), .int (iI (i + 1)), .int (iI j)]) (r := []) rfl hO511 (Nat.le_of_ble_eq_true rfl) (Nat.le_of_ble_eq_true rfl) (pc' := 65) rfl (ls' := [(0, .ref 511), (1, .int (iI w)), (2, .int (iI (e + 1))), (3, .int (iI (i + 1))), (4, .int (iI j))]) rfl ?_
        refine T_mono (c_tail sc S tl B rc rn kn G tn fl w (e + 1) (i + 1) j hO511 hA516 hB ⟨hb0, hb1, hb2, hb3, hb4, ⟨f, hb5, hf⟩, ⟨by omega, by omega⟩, ⟨by omega, by omega⟩, ⟨by omega, by omega⟩⟩ hs hG (by omega) (by omega) (by omega) (fun z1 z2 => ht _ (by omega) z1 _ (by omega) z2)) (fun v670 S671 h672 => ?_)
        rcases h672 with ⟨hv673, hf674⟩
        rw [hv673]
        rw [hf674]
        show X_T sc 37 (65, [(6, .int (iI (bI (gW G w e = gt G i)))), (5, .ref aw), (0, .ref 511), (1, .int (iI w)), (2, .int (iI e)), (3, .int (iI i)), (4, .int (iI j))], [.long (X_st (-2) (X_Ew G (X_T_ G) w (e + 1) (i + 1) j))], S) _
        refine T_p xr_37_65 xn_37 (pc' := 69) (ls' := [(6, .int (iI (bI (gW G w e = gt G i)))), (5, .ref aw), (0, .ref 511), (1, .int (iI w)), (2, .int (iI e)), (3, .int (iI i)), (4, .int (iI j))]) (st' := [.long (X_st (-2) (X_Ew G (X_T_ G) w (e + 1) (i + 1) j))]) rfl ?_
        refine T_lret xr_37_69 xf_37.2.2 rfl ?_
        refine hQ _ _ ?_
        exact ⟨by rw [X_Ew_p he.2 (fun z => absurd (show X_hl (gD G w) (gW G w) e from ⟨he.1, he.2, z⟩) (by assumption)), X_if_t ⟨hij.2.1, Eq.symm (by assumption)⟩], rfl⟩
    refine T_p xr_37_20 xn_37 (pc' := 22) (ls' := [(5, .ref aw), (0, .ref 511), (1, .int (iI w)), (2, .int (iI e)), (3, .int (iI i)), (4, .int (iI j))]) (st' := [.ref aw]) rfl ?_
    refine T_get xr_37_22 hwaw.1.1 rfl (v := .ref (aw + 1)) rfl (pc' := 25) rfl ?_
    refine T_p xr_37_25 xn_37 (pc' := 26) (ls' := [(5, .ref aw), (0, .ref 511), (1, .int (iI w)), (2, .int (iI e)), (3, .int (iI i)), (4, .int (iI j))]) (st' := [.int (iI e), .ref (aw + 1)]) rfl ?_
    refine T_zlald xr_37_26 hwaw.1.2.1 (pc' := 27) rfl ?_
    refine T_p xr_37_27 xn_37 (pc' := 28) (ls' := [(5, .ref aw), (0, .ref 511), (1, .int (iI w)), (2, .int (iI e)), (3, .int (iI i)), (4, .int (iI j))]) (st' := [.ref 511, .long ((gW G) w e)]) rfl ?_
    refine T_get xr_37_28 hO511 rfl (v := .ref 501) rfl (pc' := 31) rfl ?_
    refine T_get xr_37_31 hO501 rfl (v := .ref 502) rfl (pc' := 34) rfl ?_
    refine T_p xr_37_34 xn_37 (pc' := 35) (ls' := [(5, .ref aw), (0, .ref 511), (1, .int (iI w)), (2, .int (iI e)), (3, .int (iI i)), (4, .int (iI j))]) (st' := [.int (iI i), .ref 502, .long ((gW G) w e)]) rfl ?_
    refine T_zlald xr_37_35 hA502 (pc' := 36) rfl ?_
    refine T_lc_ne xr_37_36 xr_37_37 (t := 44) (pc' := 40) rfl rfl (fun c675 => ?_) (fun c675 => ?_)
    · skip
      have c675 : ¬ ((gW G) w e) = ((gt G) i) := c675
      refine T_p xr_37_44 xn_37 (pc' := 45) (ls' := [(5, .ref aw), (0, .ref 511), (1, .int (iI w)), (2, .int (iI e)), (3, .int (iI i)), (4, .int (iI j))]) (st' := [.int (iI 0)]) rfl ?_
      refine T_ie (y := iI (bI (gW G w e = gt G i))) (by rw [bI_f (by assumption)]) ?_
      exact J668
    · skip
      have c675 : ¬ (¬ ((gW G) w e) = ((gt G) i)) := c675
      refine T_p xr_37_40 xn_37 (pc' := 41) (ls' := [(5, .ref aw), (0, .ref 511), (1, .int (iI w)), (2, .int (iI e)), (3, .int (iI i)), (4, .int (iI j))]) (st' := [.int (iI 1)]) rfl ?_
      refine T_p xr_37_41 xn_37 (pc' := 45) (ls' := [(5, .ref aw), (0, .ref 511), (1, .int (iI w)), (2, .int (iI e)), (3, .int (iI i)), (4, .int (iI j))]) (st' := [.int (iI 1)]) rfl ?_
      refine T_ie (y := iI (bI (gW G w e = gt G i))) (by rw [bI_t (by first | assumption | exact Classical.not_not.mp (by assumption))]) ?_
      exact J668
theorem c_fillTails (sc : X_Sc) (S : X_S) (oH : Int → Int64) (tl : Int → Int64) (B : Nat) (rc : Int) (rn : Int → Int64) (kn : Int → Int64) (G : X_G) (tn : Int) (fl : Int) (w : Int) (p : Int) (j : Int) (hO501 : S.1 501 = .inr (6, [.int (iI tn), .ref 502, .ref 503])) (hO511 : S.1 511 = .inr (1, [.ref B, .ref 501, .int (iI fl), .ref 512, .ref 513, .ref 514, .ref 515, .ref 516])) (hA515 : S.1 515 = .inl (.long, 55800, .inr (.inl fun k : Nat => oH (k : Int)))) (hA516 : S.1 516 = .inl (.long, 7200, .inr (.inl fun k : Nat => tl (k : Int)))) (hB : B = 4 ∨ B = 250) (hb : C_bk S B rc (gk G) (gw G) rn (gl G) kn (ga G)) (hs : C_ws S B (gD G) (gW G)) (hG : X_Gok G) (hA502 : S.1 502 = .inl (.long, 30, .inr (.inl fun k : Nat => (gt G) (k : Int)))) (hw : 0 ≤ w ∧ w < gw G) (hpj : 0 ≤ p ∧ p < j ∧ j ≤ tn ∧ tn ≤ 30) (ht : ∀ q, p < q → q < j → X_tl G (-2) w q j tl) (hH : ∀ e, 0 ≤ e → e < gD G w 3 0 → gW G w e = 0 → ∀ m, p < m → m ≤ j → oH ((X_ro p m * 30 + w) * 4 + gD G w 8 e) = X_st (-2) (X_Hw G (X_T_ G) w e p m)) : X_T sc 35 (0, [(0, .ref 511), (1, .int (iI w)), (2, .int (iI p)), (3, .int (iI j))], [], S) (fun v S' => ∃ (tl1 : Int → Int64), v = none ∧ X_tl G (-2) w p j tl1 ∧ (∀ k, (∀ e, 1 ≤ e → e < gD G w 3 0 → ¬ k = (w * 8 + e) * 30 + p) → tl1 k = tl k) ∧ S'.1 516 = .inl (.long, 7200, .inr (.inl fun k : Nat => tl1 (k : Int))) ∧ X_Fr (fun q => q = 516) S S') := by
  obtain ⟨hb0, hb1, hb2, hb3, hb4, ⟨f, hb5, hf⟩, ⟨hrc, hrcb⟩, ⟨hkc, hkcb⟩, ⟨hwc, hwcb⟩⟩ := id hb
  have hgw := hG.2.2.2 w hw.1 hw.2
  have hsz := hgw.1
  refine X_QI (fun Q hQ => ?_)
  refine T_p xr_35_0 xn_35 (pc' := 1) (ls' := [(0, .ref 511), (1, .int (iI w)), (2, .int (iI p)), (3, .int (iI j))]) (st' := [.int (iI 1)]) rfl ?_
  refine T_p xr_35_1 xn_35 (pc' := 3) (ls' := [(4, .int (iI 1)), (0, .ref 511), (1, .int (iI w)), (2, .int (iI p)), (3, .int (iI j))]) (st' := []) rfl ?_
  have L676 : ∀ (m678 : Nat) (S681 : X_S) (el : Int) (tl1 : Int → Int64) (htl1 : S681.1 516 = .inl (.long, 7200, .inr (.inl fun k : Nat => tl1 (k : Int)))) (hF680 : X_Fr (fun q => q = 516) S S681) (hel : 1 ≤ el ∧ el ≤ gD G w 3 0) (hI : ∀ e, 1 ≤ e → e < el → tl1 ((w * 8 + e) * 30 + p) = X_st (-2) (X_Ew G (X_T_ G) w e p j)) (hOt : ∀ k, (∀ e, 1 ≤ e → e < gD G w 3 0 → ¬ k = (w * 8 + e) * 30 + p) → tl1 k = tl k) (hm679 : gD G w 3 0 - el < m678), X_T sc 35 (3, [(4, .int (iI el)), (0, .ref 511), (1, .int (iI w)), (2, .int (iI p)), (3, .int (iI j))], [], S681) Q := by
    intro m678
    induction m678 with
    | zero =>
      intro S681 el tl1 htl1 hF680 hel hI hOt hm679
      exact (show False by omega).elim
    | succ m678 ih677 =>
      intro S681 el tl1 htl1 hF680 hel hI hOt hm679
      refine T_p xr_35_3 xn_35 (pc' := 5) (ls' := [(4, .int (iI el)), (0, .ref 511), (1, .int (iI w)), (2, .int (iI p)), (3, .int (iI j))]) (st' := [.int (iI el)]) rfl ?_
      refine T_p xr_35_5 xn_35 (pc' := 6) (ls' := [(4, .int (iI el)), (0, .ref 511), (1, .int (iI w)), (2, .int (iI p)), (3, .int (iI j))]) (st' := [.ref 511, .int (iI el)]) rfl ?_
      have h682 := (hF680.1 511 (by first | decide | omega)).trans (hO511)
      refine T_get xr_35_6 h682 rfl (v := .ref B) rfl (pc' := 9) rfl ?_
      have h683 := (hF680.1 B (by omega)).trans (hb0)
      refine T_get xr_35_9 h683 rfl (v := .ref (B + 5)) rfl (pc' := 12) rfl ?_
      refine T_p xr_35_12 xn_35 (pc' := 13) (ls' := [(4, .int (iI el)), (0, .ref 511), (1, .int (iI w)), (2, .int (iI p)), (3, .int (iI j))]) (st' := [.int (iI w), .ref (B + 5), .int (iI el)]) rfl ?_
      have h684 := (hF680.1 (B + 5) (by omega)).trans (hb5)
      have hs685 : C_ws S681 B (gD G) (gW G) := C_ws.fr (P := fun q => 501 ≤ q ∧ q ≤ 529) hs ((X_Fr.rf).tr (X_Fr.mono ⟨hF680.1, hF680.2⟩ (fun q hq => (by omega)))) (fun k h1 h2 => by omega)
      have hw686 := hs685 w (by omega) (by omega)
      obtain ⟨a687, ha688⟩ : ∃ z : Nat, z = B + 6 + 8 * (w : Int).toNat := ⟨_, rfl⟩
      rw [← ha688] at hw686
      obtain ⟨⟨_, _⟩, ⟨_, _⟩, ⟨_, _⟩, ⟨_, _⟩, ⟨_, _⟩, ⟨_, _⟩, ⟨_, _⟩, ⟨_, _⟩⟩ := id hw686.2
      refine T_zaald xr_35_13 h684 (w := a687) (by rw [ha688]; exact hf _ (by omega)) (pc' := 14) rfl ?_
      refine T_get xr_35_14 hw686.1.1 rfl (v := .int (iI ((gD G) w 3 0))) rfl (pc' := 17) rfl ?_
      refine T_zicmp_ge xr_35_17 (t := 47) (pc' := 20) rfl rfl (fun c689 => ?_) (fun c689 => ?_)
      · skip
        have c689 : ((gD G) w 3 0) ≤ el := c689
        refine T_vret xr_35_47 xf_35.2.2 ?_
        refine hQ _ _ ?_
        exact ⟨tl1, rfl, (fun e g1 g2 => hI e g1 (by omega)), hOt, htl1, (X_Fr.rf).tr (X_Fr.mono ⟨hF680.1, hF680.2⟩ (fun q hq => (by omega)))⟩
      · skip
        have c689 : ¬ (((gD G) w 3 0) ≤ el) := c689
        refine T_p xr_35_20 xn_35 (pc' := 21) (ls' := [(4, .int (iI el)), (0, .ref 511), (1, .int (iI w)), (2, .int (iI p)), (3, .int (iI j))]) (st' := [.ref 511]) rfl ?_
        refine T_get xr_35_21 h682 rfl (v := .ref 516) rfl (pc' := 24) rfl ?_
        refine T_p xr_35_24 xn_35 (pc' := 25) (ls' := [(4, .int (iI el)), (0, .ref 511), (1, .int (iI w)), (2, .int (iI p)), (3, .int (iI j))]) (st' := [.int (iI w), .ref 516]) rfl ?_
        refine T_p xr_35_25 xn_35 (pc' := 27) (ls' := [(4, .int (iI el)), (0, .ref 511), (1, .int (iI w)), (2, .int (iI p)), (3, .int (iI j))]) (st' := [.int (iI el), .int (iI w), .ref 516]) rfl ?_
        refine T_p xr_35_27 xn_35 (pc' := 28) (ls' := [(4, .int (iI el)), (0, .ref 511), (1, .int (iI w)), (2, .int (iI p)), (3, .int (iI j))]) (st' := [.int (iI p), .int (iI el), .int (iI w), .ref 516]) rfl ?_
        refine T_cs xr_35_28 (by decide) xf_25.1 xn_25 (as := [.int (iI w), .int (iI el), .int (iI p)]) (r := [.ref 516]) rfl (Nat.le_of_ble_eq_true rfl) (Nat.le_of_ble_eq_true rfl) (pc' := 31) rfl (ls' := [(0, .int (iI w)), (1, .int (iI el)), (2, .int (iI p))]) rfl ?_
        refine T_p xr_25_0 xn_25 (pc' := 1) (ls' := [(0, .int (iI w)), (1, .int (iI el)), (2, .int (iI p))]) (st' := [.int (iI w)]) rfl ?_
        refine T_p xr_25_1 xn_25 (pc' := 3) (ls' := [(0, .int (iI w)), (1, .int (iI el)), (2, .int (iI p))]) (st' := [.int (iI 8), .int (iI w)]) rfl ?_
        refine T_zimul xr_25_3 (z := w * 8) rfl (pc' := 4) rfl ?_
        refine T_p xr_25_4 xn_25 (pc' := 5) (ls' := [(0, .int (iI w)), (1, .int (iI el)), (2, .int (iI p))]) (st' := [.int (iI el), .int (iI (w * 8))]) rfl ?_
        refine T_ziadd xr_25_5 (z := (w * 8) + el) rfl (pc' := 6) rfl ?_
        refine T_p xr_25_6 xn_25 (pc' := 8) (ls' := [(0, .int (iI w)), (1, .int (iI el)), (2, .int (iI p))]) (st' := [.int (iI 30), .int (iI ((w * 8) + el))]) rfl ?_
        refine T_zimul xr_25_8 (z := ((w * 8) + el) * 30) rfl (pc' := 9) rfl ?_
        refine T_p xr_25_9 xn_25 (pc' := 10) (ls' := [(0, .int (iI w)), (1, .int (iI el)), (2, .int (iI p))]) (st' := [.int (iI p), .int (iI (((w * 8) + el) * 30))]) rfl ?_
        refine T_ziadd xr_25_10 (z := (((w * 8) + el) * 30) + p) rfl (pc' := 11) rfl ?_
        refine T_iret xr_25_11 xf_25.2.2 rfl ?_
        show X_T sc 35 (31, [(4, .int (iI el)), (0, .ref 511), (1, .int (iI w)), (2, .int (iI p)), (3, .int (iI j))], [.int (iI ((((w * 8) + el) * 30) + p)), .ref 516], S681) _
        refine T_p xr_35_31 xn_35 (pc' := 32) (ls' := [(4, .int (iI el)), (0, .ref 511), (1, .int (iI w)), (2, .int (iI p)), (3, .int (iI j))]) (st' := [.ref 511, .int (iI ((((w * 8) + el) * 30) + p)), .ref 516]) rfl ?_
        refine T_p xr_35_32 xn_35 (pc' := 33) (ls' := [(4, .int (iI el)), (0, .ref 511), (1, .int (iI w)), (2, .int (iI p)), (3, .int (iI j))]) (st' := [.int (iI w), .ref 511, .int (iI ((((w * 8) + el) * 30) + p)), .ref 516]) rfl ?_
        refine T_p xr_35_33 xn_35 (pc' := 35) (ls' := [(4, .int (iI el)), (0, .ref 511), (1, .int (iI w)), (2, .int (iI p)), (3, .int (iI j))]) (st' := [.int (iI el), .int (iI w), .ref 511, .int (iI ((((w * 8) + el) * 30) + p)), .ref 516]) rfl ?_
        refine T_p xr_35_35 xn_35 (pc' := 36) (ls' := [(4, .int (iI el)), (0, .ref 511), (1, .int (iI w)), (2, .int (iI p)), (3, .int (iI j))]) (st' := [.int (iI p), .int (iI el), .int (iI w), .ref 511, .int (iI ((((w * 8) + el) * 30) + p)), .ref 516]) rfl ?_
        refine T_p xr_35_36 xn_35 (pc' := 37) (ls' := [(4, .int (iI el)), (0, .ref 511), (1, .int (iI w)), (2, .int (iI p)), (3, .int (iI j))]) (st' := [.int (iI j), .int (iI p), .int (iI el), .int (iI w), .ref 511, .int (iI ((((w * 8) + el) * 30) + p)), .ref 516]) rfl ?_
        refine T_cv (S := S681) (q := 511) xr_35_37 xf_37.1 xf_37.2.1 xn_37 (as := [.int (iI w), .int (iI el), .int (iI p), .int (iI j)]) (r := [.int (iI ((((w * 8) + el) * 30) + p)), .ref 516]) rfl h682 (Nat.le_of_ble_eq_true rfl) (Nat.le_of_ble_eq_true rfl) (pc' := 40) rfl (ls' := [(0, .ref 511), (1, .int (iI w)), (2, .int (iI el)), (3, .int (iI p)), (4, .int (iI j))]) rfl ?_
        have h690 := (hF680.1 515 (by first | decide | omega)).trans (hA515)
        have h691 := (hF680.1 501 (by first | decide | omega)).trans (hO501)
        have h692 := (hF680.1 (B + 1) (by omega)).trans (hb1)
        have h693 := (hF680.1 (B + 2) (by omega)).trans (hb2)
        have h694 := (hF680.1 (B + 3) (by omega)).trans (hb3)
        have h695 := (hF680.1 (B + 4) (by omega)).trans (hb4)
        have h696 := (hF680.1 502 (by first | decide | omega)).trans (hA502)
        refine T_mono (c_ways sc S681 oH tl1 B rc rn kn G tn fl w el p j h691 h682 h690 htl1 hB ⟨h683, h692, h693, h694, h695, ⟨f, h684, hf⟩, ⟨by omega, by omega⟩, ⟨by omega, by omega⟩, ⟨by omega, by omega⟩⟩ hs685 hG h696 (by omega) (by omega) (by omega) (fun q h1 h2 e g1 g2 => (hOt _ (fun e2 z1 z2 z3 => by omega)).trans (ht q h1 h2 e g1 g2)) (fun z m h1 h2 _ => hH _ (by omega) (by omega) z m h1 h2)) (fun v697 S698 h699 => ?_)
        rcases h699 with ⟨hv700, hf701⟩
        rw [hv700]
        rw [hf701]
        show X_T sc 35 (40, [(4, .int (iI el)), (0, .ref 511), (1, .int (iI w)), (2, .int (iI p)), (3, .int (iI j))], [.long (X_st (-2) (X_Ew G (X_T_ G) w el p j)), .int (iI ((((w * 8) + el) * 30) + p)), .ref 516], S681) _
        refine T_zlast xr_35_40 htl1 (pc' := 41) rfl (fun S702 h703 n704 e705 => ?_)
        refine T_ziinc xr_35_41 xn_35 (a := el) (z := el + 1) rfl (Nat.le_of_ble_eq_true rfl) (by omega) (ls' := [(4, .int (iI (el + 1))), (0, .ref 511), (1, .int (iI w)), (2, .int (iI p)), (3, .int (iI j))]) rfl (pc' := 44) rfl ?_
        refine T_p xr_35_44 xn_35 (pc' := 3) (ls' := [(4, .int (iI (el + 1))), (0, .ref 511), (1, .int (iI w)), (2, .int (iI p)), (3, .int (iI j))]) (st' := []) rfl ?_
        exact ih677 S702 (el + 1) (X_ug tl1 ((((w * 8) + el) * 30) + p) (X_st (-2) (X_Ew G (X_T_ G) w el p j))) h703 (hF680.tr ((X_Fr.rf).tr (X_Fr.of n704 e705 (by first | decide | exact ⟨Nat.le_add_right _ _, Nat.add_le_add_left (by decide) _⟩ | omega)))) (by omega) (fun e g1 g2 => by
              by_cases he : e = el
              · subst he; rw [X_ug_s]
              · rw [X_ug_n _ _ (by omega)]; exact hI e g1 (by omega)) (fun k hk => by rw [X_ug_n _ _ (hk el (by omega) (by omega))]; exact hOt k hk) (by omega)
  exact L676 ((gD G w 3 0) + 1).toNat S 1 tl hA516 ((X_Fr.rf)) (by omega) (fun e g1 g2 => absurd g2 (by omega)) (fun _ _ => rfl) (by omega)
theorem c_prepareTails (sc : X_Sc) (S : X_S) (oH : Int → Int64) (tl : Int → Int64) (B : Nat) (rc : Int) (rn : Int → Int64) (kn : Int → Int64) (G : X_G) (tn : Int) (fl : Int) (w : Int) (i : Int) (j : Int) (hO501 : S.1 501 = .inr (6, [.int (iI tn), .ref 502, .ref 503])) (hO511 : S.1 511 = .inr (1, [.ref B, .ref 501, .int (iI fl), .ref 512, .ref 513, .ref 514, .ref 515, .ref 516])) (hA515 : S.1 515 = .inl (.long, 55800, .inr (.inl fun k : Nat => oH (k : Int)))) (hA516 : S.1 516 = .inl (.long, 7200, .inr (.inl fun k : Nat => tl (k : Int)))) (hB : B = 4 ∨ B = 250) (hb : C_bk S B rc (gk G) (gw G) rn (gl G) kn (ga G)) (hs : C_ws S B (gD G) (gW G)) (hG : X_Gok G) (hA502 : S.1 502 = .inl (.long, 30, .inr (.inl fun k : Nat => (gt G) (k : Int)))) (hw : 0 ≤ w ∧ w < gw G) (hij : 0 ≤ i ∧ i < j ∧ j ≤ tn ∧ tn ≤ 30) (hH : ∀ p, i < p → p < j → ∀ e, 0 ≤ e → e < gD G w 3 0 → gW G w e = 0 → ∀ m, p < m → m ≤ j → oH ((X_ro p m * 30 + w) * 4 + gD G w 8 e) = X_st (-2) (X_Hw G (X_T_ G) w e p m)) : X_T sc 36 (0, [(0, .ref 511), (1, .int (iI w)), (2, .int (iI i)), (3, .int (iI j))], [], S) (fun v S' => ∃ (tl1 : Int → Int64), v = none ∧ (∀ p, i < p → p < j → X_tl G (-2) w p j tl1) ∧ S'.1 516 = .inl (.long, 7200, .inr (.inl fun k : Nat => tl1 (k : Int))) ∧ X_Fr (fun q => q = 516) S S') := by
  obtain ⟨hb0, hb1, hb2, hb3, hb4, ⟨f, hb5, hf⟩, ⟨hrc, hrcb⟩, ⟨hkc, hkcb⟩, ⟨hwc, hwcb⟩⟩ := id hb
  have hgw := hG.2.2.2 w hw.1 hw.2
  have hsz := hgw.1
  refine X_QI (fun Q hQ => ?_)
  refine T_p xr_36_0 xn_36 (pc' := 1) (ls' := [(0, .ref 511), (1, .int (iI w)), (2, .int (iI i)), (3, .int (iI j))]) (st' := [.int (iI j)]) rfl ?_
  refine T_p xr_36_1 xn_36 (pc' := 2) (ls' := [(0, .ref 511), (1, .int (iI w)), (2, .int (iI i)), (3, .int (iI j))]) (st' := [.int (iI 1), .int (iI j)]) rfl ?_
  refine T_zisub xr_36_2 (z := j - 1) rfl (pc' := 3) rfl ?_
  refine T_p xr_36_3 xn_36 (pc' := 5) (ls' := [(4, .int (iI (j - 1))), (0, .ref 511), (1, .int (iI w)), (2, .int (iI i)), (3, .int (iI j))]) (st' := []) rfl ?_
  have L706 : ∀ (m708 : Nat) (S711 : X_S) (p : Int) (tl1 : Int → Int64) (htl1 : S711.1 516 = .inl (.long, 7200, .inr (.inl fun k : Nat => tl1 (k : Int)))) (hF710 : X_Fr (fun q => q = 516) S S711) (hp : i ≤ p ∧ p < j) (hD1 : ∀ q, p < q → q < j → X_tl G (-2) w q j tl1) (hm709 : p - i < m708), X_T sc 36 (5, [(4, .int (iI p)), (0, .ref 511), (1, .int (iI w)), (2, .int (iI i)), (3, .int (iI j))], [], S711) Q := by
    intro m708
    induction m708 with
    | zero =>
      intro S711 p tl1 htl1 hF710 hp hD1 hm709
      exact (show False by omega).elim
    | succ m708 ih707 =>
      intro S711 p tl1 htl1 hF710 hp hD1 hm709
      refine T_p xr_36_5 xn_36 (pc' := 7) (ls' := [(4, .int (iI p)), (0, .ref 511), (1, .int (iI w)), (2, .int (iI i)), (3, .int (iI j))]) (st' := [.int (iI p)]) rfl ?_
      refine T_p xr_36_7 xn_36 (pc' := 8) (ls' := [(4, .int (iI p)), (0, .ref 511), (1, .int (iI w)), (2, .int (iI i)), (3, .int (iI j))]) (st' := [.int (iI i), .int (iI p)]) rfl ?_
      refine T_zicmp_le xr_36_8 (t := 66) (pc' := 11) rfl rfl (fun c712 => ?_) (fun c712 => ?_)
      · skip
        have c712 : p ≤ i := c712
        refine T_vret xr_36_66 xf_36.2.2 ?_
        refine hQ _ _ ?_
        exact ⟨tl1, rfl, (fun q h1 h2 => hD1 q (by omega) h2), htl1, (X_Fr.rf).tr (X_Fr.mono ⟨hF710.1, hF710.2⟩ (fun q hq => (by omega)))⟩
      · skip
        have c712 : ¬ (p ≤ i) := c712
        refine T_p xr_36_11 xn_36 (pc' := 12) (ls' := [(4, .int (iI p)), (0, .ref 511), (1, .int (iI w)), (2, .int (iI i)), (3, .int (iI j))]) (st' := [.int (iI 1)]) rfl ?_
        refine T_p xr_36_12 xn_36 (pc' := 14) (ls' := [(5, .int (iI 1)), (4, .int (iI p)), (0, .ref 511), (1, .int (iI w)), (2, .int (iI i)), (3, .int (iI j))]) (st' := []) rfl ?_
        have L713 : ∀ (m715 : Nat) (S718 : X_S) (el : Int) (tl2 : Int → Int64) (htl2 : S718.1 516 = .inl (.long, 7200, .inr (.inl fun k : Nat => tl2 (k : Int)))) (hF717 : X_Fr (fun q => q = 516) S711 S718) (hel : 1 ≤ el ∧ el ≤ gD G w 3 0) (hI : ∀ e, 1 ≤ e → e < el → tl2 ((w * 8 + e) * 30 + p) = X_st (-2) (X_Ew G (X_T_ G) w e p j)) (hD2 : ∀ q, p < q → q < j → X_tl G (-2) w q j tl2) (hm716 : gD G w 3 0 - el < m715), X_T sc 36 (14, [(5, .int (iI el)), (4, .int (iI p)), (0, .ref 511), (1, .int (iI w)), (2, .int (iI i)), (3, .int (iI j))], [], S718) Q := by
          intro m715
          induction m715 with
          | zero =>
            intro S718 el tl2 htl2 hF717 hel hI hD2 hm716
            exact (show False by omega).elim
          | succ m715 ih714 =>
            intro S718 el tl2 htl2 hF717 hel hI hD2 hm716
            refine T_p xr_36_14 xn_36 (pc' := 16) (ls' := [(5, .int (iI el)), (4, .int (iI p)), (0, .ref 511), (1, .int (iI w)), (2, .int (iI i)), (3, .int (iI j))]) (st' := [.int (iI el)]) rfl ?_
            refine T_p xr_36_16 xn_36 (pc' := 17) (ls' := [(5, .int (iI el)), (4, .int (iI p)), (0, .ref 511), (1, .int (iI w)), (2, .int (iI i)), (3, .int (iI j))]) (st' := [.ref 511, .int (iI el)]) rfl ?_
            have h719 := (hF717.1 511 (by first | decide | omega)).trans ((hF710.1 511 (by first | decide | omega)).trans (hO511))
            refine T_get xr_36_17 h719 rfl (v := .ref B) rfl (pc' := 20) rfl ?_
            have h720 := (hF717.1 B (by omega)).trans ((hF710.1 B (by omega)).trans (hb0))
            refine T_get xr_36_20 h720 rfl (v := .ref (B + 5)) rfl (pc' := 23) rfl ?_
            refine T_p xr_36_23 xn_36 (pc' := 24) (ls' := [(5, .int (iI el)), (4, .int (iI p)), (0, .ref 511), (1, .int (iI w)), (2, .int (iI i)), (3, .int (iI j))]) (st' := [.int (iI w), .ref (B + 5), .int (iI el)]) rfl ?_
            have h721 := (hF717.1 (B + 5) (by omega)).trans ((hF710.1 (B + 5) (by omega)).trans (hb5))
            have hs722 : C_ws S718 B (gD G) (gW G) := C_ws.fr (P := fun q => 501 ≤ q ∧ q ≤ 529) hs (((X_Fr.rf).tr (X_Fr.mono ⟨hF710.1, hF710.2⟩ (fun q hq => (by omega)))).tr (X_Fr.mono ⟨hF717.1, hF717.2⟩ (fun q hq => (by omega)))) (fun k h1 h2 => by omega)
            have hw723 := hs722 w (by omega) (by omega)
            obtain ⟨a724, ha725⟩ : ∃ z : Nat, z = B + 6 + 8 * (w : Int).toNat := ⟨_, rfl⟩
            rw [← ha725] at hw723
            obtain ⟨⟨_, _⟩, ⟨_, _⟩, ⟨_, _⟩, ⟨_, _⟩, ⟨_, _⟩, ⟨_, _⟩, ⟨_, _⟩, ⟨_, _⟩⟩ := id hw723.2
            refine T_zaald xr_36_24 h721 (w := a724) (by rw [ha725]; exact hf _ (by omega)) (pc' := 25) rfl ?_
            refine T_get xr_36_25 hw723.1.1 rfl (v := .int (iI ((gD G) w 3 0))) rfl (pc' := 28) rfl ?_
            refine T_zicmp_ge xr_36_28 (t := 60) (pc' := 31) rfl rfl (fun c726 => ?_) (fun c726 => ?_)
            · skip
              have c726 : ((gD G) w 3 0) ≤ el := c726
              refine T_ziinc xr_36_60 xn_36 (a := p) (z := p - 1) rfl (Nat.le_of_ble_eq_true rfl) (by omega) (ls' := [(4, .int (iI (p - 1))), (5, .int (iI el)), (0, .ref 511), (1, .int (iI w)), (2, .int (iI i)), (3, .int (iI j))]) rfl (pc' := 63) rfl ?_
              refine T_p xr_36_63 xn_36 (pc' := 5) (ls' := [(4, .int (iI (p - 1))), (5, .int (iI el)), (0, .ref 511), (1, .int (iI w)), (2, .int (iI i)), (3, .int (iI j))]) (st' := []) rfl ?_
              refine T_sub (ls := [(4, .int (iI (p - 1))), (0, .ref 511), (1, .int (iI w)), (2, .int (iI i)), (3, .int (iI j))]) ⟨rfl, rfl, rfl, rfl, rfl, trivial⟩ rfl rfl ?_
              exact ih707 S718 (p - 1) tl2 htl2 (hF710.tr ((X_Fr.rf).tr (X_Fr.mono ⟨hF717.1, hF717.2⟩ (fun q hq => (by omega))))) (by omega) (fun q h1 h2 => by
                    by_cases hq : q = p
                    · subst hq; exact fun e g1 g2 => hI e g1 (by omega)
                    · exact hD2 q (by omega) h2) (by omega)
            · skip
              have c726 : ¬ (((gD G) w 3 0) ≤ el) := c726
              refine T_p xr_36_31 xn_36 (pc' := 32) (ls' := [(5, .int (iI el)), (4, .int (iI p)), (0, .ref 511), (1, .int (iI w)), (2, .int (iI i)), (3, .int (iI j))]) (st' := [.ref 511]) rfl ?_
              refine T_get xr_36_32 h719 rfl (v := .ref 516) rfl (pc' := 35) rfl ?_
              refine T_p xr_36_35 xn_36 (pc' := 36) (ls' := [(5, .int (iI el)), (4, .int (iI p)), (0, .ref 511), (1, .int (iI w)), (2, .int (iI i)), (3, .int (iI j))]) (st' := [.int (iI w), .ref 516]) rfl ?_
              refine T_p xr_36_36 xn_36 (pc' := 38) (ls' := [(5, .int (iI el)), (4, .int (iI p)), (0, .ref 511), (1, .int (iI w)), (2, .int (iI i)), (3, .int (iI j))]) (st' := [.int (iI el), .int (iI w), .ref 516]) rfl ?_
              refine T_p xr_36_38 xn_36 (pc' := 40) (ls' := [(5, .int (iI el)), (4, .int (iI p)), (0, .ref 511), (1, .int (iI w)), (2, .int (iI i)), (3, .int (iI j))]) (st' := [.int (iI p), .int (iI el), .int (iI w), .ref 516]) rfl ?_
              refine T_cs xr_36_40 (by decide) xf_25.1 xn_25 (as := [.int (iI w), .int (iI el), .int (iI p)]) (r := [.ref 516]) rfl (Nat.le_of_ble_eq_true rfl) (Nat.le_of_ble_eq_true rfl) (pc' := 43) rfl (ls' := [(0, .int (iI w)), (1, .int (iI el)), (2, .int (iI p))]) rfl ?_
              refine T_p xr_25_0 xn_25 (pc' := 1) (ls' := [(0, .int (iI w)), (1, .int (iI el)), (2, .int (iI p))]) (st' := [.int (iI w)]) rfl ?_
              refine T_p xr_25_1 xn_25 (pc' := 3) (ls' := [(0, .int (iI w)), (1, .int (iI el)), (2, .int (iI p))]) (st' := [.int (iI 8), .int (iI w)]) rfl ?_
              refine T_zimul xr_25_3 (z := w * 8) rfl (pc' := 4) rfl ?_
              refine T_p xr_25_4 xn_25 (pc' := 5) (ls' := [(0, .int (iI w)), (1, .int (iI el)), (2, .int (iI p))]) (st' := [.int (iI el), .int (iI (w * 8))]) rfl ?_
              refine T_ziadd xr_25_5 (z := (w * 8) + el) rfl (pc' := 6) rfl ?_
              refine T_p xr_25_6 xn_25 (pc' := 8) (ls' := [(0, .int (iI w)), (1, .int (iI el)), (2, .int (iI p))]) (st' := [.int (iI 30), .int (iI ((w * 8) + el))]) rfl ?_
              refine T_zimul xr_25_8 (z := ((w * 8) + el) * 30) rfl (pc' := 9) rfl ?_
              refine T_p xr_25_9 xn_25 (pc' := 10) (ls' := [(0, .int (iI w)), (1, .int (iI el)), (2, .int (iI p))]) (st' := [.int (iI p), .int (iI (((w * 8) + el) * 30))]) rfl ?_
              refine T_ziadd xr_25_10 (z := (((w * 8) + el) * 30) + p) rfl (pc' := 11) rfl ?_
              refine T_iret xr_25_11 xf_25.2.2 rfl ?_
              show X_T sc 36 (43, [(5, .int (iI el)), (4, .int (iI p)), (0, .ref 511), (1, .int (iI w)), (2, .int (iI i)), (3, .int (iI j))], [.int (iI ((((w * 8) + el) * 30) + p)), .ref 516], S718) _
              refine T_p xr_36_43 xn_36 (pc' := 44) (ls' := [(5, .int (iI el)), (4, .int (iI p)), (0, .ref 511), (1, .int (iI w)), (2, .int (iI i)), (3, .int (iI j))]) (st' := [.ref 511, .int (iI ((((w * 8) + el) * 30) + p)), .ref 516]) rfl ?_
              refine T_p xr_36_44 xn_36 (pc' := 45) (ls' := [(5, .int (iI el)), (4, .int (iI p)), (0, .ref 511), (1, .int (iI w)), (2, .int (iI i)), (3, .int (iI j))]) (st' := [.int (iI w), .ref 511, .int (iI ((((w * 8) + el) * 30) + p)), .ref 516]) rfl ?_
              refine T_p xr_36_45 xn_36 (pc' := 47) (ls' := [(5, .int (iI el)), (4, .int (iI p)), (0, .ref 511), (1, .int (iI w)), (2, .int (iI i)), (3, .int (iI j))]) (st' := [.int (iI el), .int (iI w), .ref 511, .int (iI ((((w * 8) + el) * 30) + p)), .ref 516]) rfl ?_
              refine T_p xr_36_47 xn_36 (pc' := 49) (ls' := [(5, .int (iI el)), (4, .int (iI p)), (0, .ref 511), (1, .int (iI w)), (2, .int (iI i)), (3, .int (iI j))]) (st' := [.int (iI p), .int (iI el), .int (iI w), .ref 511, .int (iI ((((w * 8) + el) * 30) + p)), .ref 516]) rfl ?_
              refine T_p xr_36_49 xn_36 (pc' := 50) (ls' := [(5, .int (iI el)), (4, .int (iI p)), (0, .ref 511), (1, .int (iI w)), (2, .int (iI i)), (3, .int (iI j))]) (st' := [.int (iI j), .int (iI p), .int (iI el), .int (iI w), .ref 511, .int (iI ((((w * 8) + el) * 30) + p)), .ref 516]) rfl ?_
              refine T_cv (S := S718) (q := 511) xr_36_50 xf_37.1 xf_37.2.1 xn_37 (as := [.int (iI w), .int (iI el), .int (iI p), .int (iI j)]) (r := [.int (iI ((((w * 8) + el) * 30) + p)), .ref 516]) rfl h719 (Nat.le_of_ble_eq_true rfl) (Nat.le_of_ble_eq_true rfl) (pc' := 53) rfl (ls' := [(0, .ref 511), (1, .int (iI w)), (2, .int (iI el)), (3, .int (iI p)), (4, .int (iI j))]) rfl ?_
              have h727 := (hF717.1 515 (by first | decide | omega)).trans ((hF710.1 515 (by first | decide | omega)).trans (hA515))
              have h728 := (hF717.1 501 (by first | decide | omega)).trans ((hF710.1 501 (by first | decide | omega)).trans (hO501))
              have h729 := (hF717.1 (B + 1) (by omega)).trans ((hF710.1 (B + 1) (by omega)).trans (hb1))
              have h730 := (hF717.1 (B + 2) (by omega)).trans ((hF710.1 (B + 2) (by omega)).trans (hb2))
              have h731 := (hF717.1 (B + 3) (by omega)).trans ((hF710.1 (B + 3) (by omega)).trans (hb3))
              have h732 := (hF717.1 (B + 4) (by omega)).trans ((hF710.1 (B + 4) (by omega)).trans (hb4))
              have h733 := (hF717.1 502 (by first | decide | omega)).trans ((hF710.1 502 (by first | decide | omega)).trans (hA502))
              refine T_mono (c_ways sc S718 oH tl2 B rc rn kn G tn fl w el p j h728 h719 h727 htl2 hB ⟨h720, h729, h730, h731, h732, ⟨f, h721, hf⟩, ⟨by omega, by omega⟩, ⟨by omega, by omega⟩, ⟨by omega, by omega⟩⟩ hs722 hG h733 (by omega) (by omega) (by omega) hD2 (fun z m h1 h2 _ => hH p (by omega) (by omega) _ (by omega) (by omega) z m h1 h2)) (fun v734 S735 h736 => ?_)
              rcases h736 with ⟨hv737, hf738⟩
              rw [hv737]
              rw [hf738]
              show X_T sc 36 (53, [(5, .int (iI el)), (4, .int (iI p)), (0, .ref 511), (1, .int (iI w)), (2, .int (iI i)), (3, .int (iI j))], [.long (X_st (-2) (X_Ew G (X_T_ G) w el p j)), .int (iI ((((w * 8) + el) * 30) + p)), .ref 516], S718) _
              refine T_zlast xr_36_53 htl2 (pc' := 54) rfl (fun S739 h740 n741 e742 => ?_)
              refine T_ziinc xr_36_54 xn_36 (a := el) (z := el + 1) rfl (Nat.le_of_ble_eq_true rfl) (by omega) (ls' := [(5, .int (iI (el + 1))), (4, .int (iI p)), (0, .ref 511), (1, .int (iI w)), (2, .int (iI i)), (3, .int (iI j))]) rfl (pc' := 57) rfl ?_
              refine T_p xr_36_57 xn_36 (pc' := 14) (ls' := [(5, .int (iI (el + 1))), (4, .int (iI p)), (0, .ref 511), (1, .int (iI w)), (2, .int (iI i)), (3, .int (iI j))]) (st' := []) rfl ?_
              exact ih714 S739 (el + 1) (X_ug tl2 ((((w * 8) + el) * 30) + p) (X_st (-2) (X_Ew G (X_T_ G) w el p j))) h740 (hF717.tr ((X_Fr.rf).tr (X_Fr.of n741 e742 (by first | decide | exact ⟨Nat.le_add_right _ _, Nat.add_le_add_left (by decide) _⟩ | omega)))) (by omega) (fun e g1 g2 => by
                    by_cases he : e = el
                    · subst he; rw [X_ug_s]
                    · rw [X_ug_n _ _ (by omega)]; exact hI e g1 (by omega)) (fun q h1 h2 e g1 g2 => by rw [X_ug_n _ _ (by omega)]; exact hD2 q h1 h2 e g1 g2) (by omega)
        exact L713 ((gD G w 3 0) + 1).toNat S711 1 tl1 htl1 ((X_Fr.rf)) (by omega) (fun e g1 g2 => absurd g2 (by omega)) hD1 (by omega)
  exact L706 (j + 1).toNat S (j - 1) tl hA516 ((X_Fr.rf)) (by omega) (fun q h1 h2 => absurd h2 (by omega)) (by omega)
end
section
theorem xr_33_0 : X_row 33 0 = some (0, (.iload_n 1, 1), (0, 0, 0)) := by decide +kernel
theorem xr_33_1 : X_row 33 1 = some (1, (.iload_n 2, 1), (0, 0, 0)) := by decide +kernel
theorem xr_33_2 : X_row 33 2 = some (2, (.invokestatic 40, 3), (24, 2, 0)) := by decide +kernel
theorem xr_33_5 : X_row 33 5 = some (5, (.istore_n 3, 1), (0, 0, 0)) := by decide +kernel
theorem xr_33_6 : X_row 33 6 = some (6, (.iconst 0, 1), (0, 0, 0)) := by decide +kernel
theorem xr_33_7 : X_row 33 7 = some (7, (.istore 4, 2), (0, 0, 0)) := by decide +kernel
theorem xr_33_9 : X_row 33 9 = some (9, (.iload 4, 2), (0, 0, 0)) := by decide +kernel
theorem xr_33_11 : X_row 33 11 = some (11, (.aload_n 0, 1), (0, 0, 0)) := by decide +kernel
theorem xr_33_12 : X_row 33 12 = some (12, (.getfield 32, 3), (1, 0, 22)) := by decide +kernel
theorem xr_33_15 : X_row 33 15 = some (15, (.getfield 48, 3), (0, 1, 13)) := by decide +kernel
theorem xr_33_18 : X_row 33 18 = some (18, (.if_icmp .ge 22, 3), (0, 0, 0)) := by decide +kernel
theorem xr_33_21 : X_row 33 21 = some (21, (.aload_n 0, 1), (0, 0, 0)) := by decide +kernel
theorem xr_33_22 : X_row 33 22 = some (22, (.getfield 15, 3), (1, 3, 28)) := by decide +kernel
theorem xr_33_25 : X_row 33 25 = some (25, (.iload_n 3, 1), (0, 0, 0)) := by decide +kernel
theorem xr_33_26 : X_row 33 26 = some (26, (.bipush 11, 2), (0, 0, 0)) := by decide +kernel
theorem xr_33_28 : X_row 33 28 = some (28, (.imul, 1), (0, 0, 0)) := by decide +kernel
theorem xr_33_29 : X_row 33 29 = some (29, (.iload 4, 2), (0, 0, 0)) := by decide +kernel
theorem xr_33_31 : X_row 33 31 = some (31, (.iadd, 1), (0, 0, 0)) := by decide +kernel
theorem xr_33_32 : X_row 33 32 = some (32, (.lconst 0, 1), (0, 0, 0)) := by decide +kernel
theorem xr_33_33 : X_row 33 33 = some (33, (.lastore, 1), (0, 0, 0)) := by decide +kernel
theorem xr_33_34 : X_row 33 34 = some (34, (.iinc 4 1, 3), (0, 0, 0)) := by decide +kernel
theorem xr_33_37 : X_row 33 37 = some (37, (.goto (-28), 3), (0, 0, 0)) := by decide +kernel
theorem xr_33_40 : X_row 33 40 = some (40, (.iload_n 2, 1), (0, 0, 0)) := by decide +kernel
theorem xr_33_41 : X_row 33 41 = some (41, (.iload_n 1, 1), (0, 0, 0)) := by decide +kernel
theorem xr_33_42 : X_row 33 42 = some (42, (.iconst 1, 1), (0, 0, 0)) := by decide +kernel
theorem xr_33_43 : X_row 33 43 = some (43, (.iadd, 1), (0, 0, 0)) := by decide +kernel
theorem xr_33_44 : X_row 33 44 = some (44, (.if_icmp .ne 35, 3), (0, 0, 0)) := by decide +kernel
theorem xr_33_47 : X_row 33 47 = some (47, (.aload_n 0, 1), (0, 0, 0)) := by decide +kernel
theorem xr_33_48 : X_row 33 48 = some (48, (.getfield 36, 3), (1, 1, 24)) := by decide +kernel
theorem xr_33_51 : X_row 33 51 = some (51, (.iload_n 1, 1), (0, 0, 0)) := by decide +kernel
theorem xr_33_52 : X_row 33 52 = some (52, (.invokevirtual 95, 3), (88, 20, 0)) := by decide +kernel
theorem xr_33_55 : X_row 33 55 = some (55, (.ifCond .eq 112, 3), (0, 0, 0)) := by decide +kernel
theorem xr_33_58 : X_row 33 58 = some (58, (.aload_n 0, 1), (0, 0, 0)) := by decide +kernel
theorem xr_33_59 : X_row 33 59 = some (59, (.getfield 15, 3), (1, 3, 28)) := by decide +kernel
theorem xr_33_62 : X_row 33 62 = some (62, (.iload_n 3, 1), (0, 0, 0)) := by decide +kernel
theorem xr_33_63 : X_row 33 63 = some (63, (.bipush 11, 2), (0, 0, 0)) := by decide +kernel
theorem xr_33_65 : X_row 33 65 = some (65, (.imul, 1), (0, 0, 0)) := by decide +kernel
theorem xr_33_66 : X_row 33 66 = some (66, (.aload_n 0, 1), (0, 0, 0)) := by decide +kernel
theorem xr_33_67 : X_row 33 67 = some (67, (.getfield 32, 3), (1, 0, 22)) := by decide +kernel
theorem xr_33_70 : X_row 33 70 = some (70, (.invokevirtual 99, 3), (13, 22, 0)) := by decide +kernel
theorem xr_33_73 : X_row 33 73 = some (73, (.iadd, 1), (0, 0, 0)) := by decide +kernel
theorem xr_33_74 : X_row 33 74 = some (74, (.lconst 1, 1), (0, 0, 0)) := by decide +kernel
theorem xr_33_75 : X_row 33 75 = some (75, (.lastore, 1), (0, 0, 0)) := by decide +kernel
theorem xr_33_76 : X_row 33 76 = some (76, (.goto 91, 3), (0, 0, 0)) := by decide +kernel
theorem xr_33_79 : X_row 33 79 = some (79, (.aload_n 0, 1), (0, 0, 0)) := by decide +kernel
theorem xr_33_80 : X_row 33 80 = some (80, (.getfield 36, 3), (1, 1, 24)) := by decide +kernel
theorem xr_33_83 : X_row 33 83 = some (83, (.iload_n 1, 1), (0, 0, 0)) := by decide +kernel
theorem xr_33_84 : X_row 33 84 = some (84, (.iload_n 2, 1), (0, 0, 0)) := by decide +kernel
theorem xr_33_85 : X_row 33 85 = some (85, (.invokevirtual 103, 3), (90, 24, 0)) := by decide +kernel
theorem xr_33_88 : X_row 33 88 = some (88, (.ifCond .eq 79, 3), (0, 0, 0)) := by decide +kernel
theorem xr_33_91 : X_row 33 91 = some (91, (.iload_n 1, 1), (0, 0, 0)) := by decide +kernel
theorem xr_33_92 : X_row 33 92 = some (92, (.iconst 1, 1), (0, 0, 0)) := by decide +kernel
theorem xr_33_93 : X_row 33 93 = some (93, (.iadd, 1), (0, 0, 0)) := by decide +kernel
theorem xr_33_94 : X_row 33 94 = some (94, (.iload_n 2, 1), (0, 0, 0)) := by decide +kernel
theorem xr_33_95 : X_row 33 95 = some (95, (.iconst 1, 1), (0, 0, 0)) := by decide +kernel
theorem xr_33_96 : X_row 33 96 = some (96, (.isub, 1), (0, 0, 0)) := by decide +kernel
theorem xr_33_97 : X_row 33 97 = some (97, (.invokestatic 40, 3), (24, 2, 0)) := by decide +kernel
theorem xr_33_100 : X_row 33 100 = some (100, (.istore 4, 2), (0, 0, 0)) := by decide +kernel
theorem xr_33_102 : X_row 33 102 = some (102, (.iconst 0, 1), (0, 0, 0)) := by decide +kernel
theorem xr_33_103 : X_row 33 103 = some (103, (.istore 5, 2), (0, 0, 0)) := by decide +kernel
theorem xr_33_105 : X_row 33 105 = some (105, (.iload 5, 2), (0, 0, 0)) := by decide +kernel
theorem xr_33_107 : X_row 33 107 = some (107, (.aload_n 0, 1), (0, 0, 0)) := by decide +kernel
theorem xr_33_108 : X_row 33 108 = some (108, (.getfield 32, 3), (1, 0, 22)) := by decide +kernel
theorem xr_33_111 : X_row 33 111 = some (111, (.getfield 48, 3), (0, 1, 13)) := by decide +kernel
theorem xr_33_114 : X_row 33 114 = some (114, (.if_icmp .ge 53, 3), (0, 0, 0)) := by decide +kernel
theorem xr_33_117 : X_row 33 117 = some (117, (.iconst 1, 1), (0, 0, 0)) := by decide +kernel
theorem xr_33_118 : X_row 33 118 = some (118, (.iload 5, 2), (0, 0, 0)) := by decide +kernel
theorem xr_33_120 : X_row 33 120 = some (120, (.ishl, 1), (0, 0, 0)) := by decide +kernel
theorem xr_33_121 : X_row 33 121 = some (121, (.istore 6, 2), (0, 0, 0)) := by decide +kernel
theorem xr_33_123 : X_row 33 123 = some (123, (.aload_n 0, 1), (0, 0, 0)) := by decide +kernel
theorem xr_33_124 : X_row 33 124 = some (124, (.getfield 15, 3), (1, 3, 28)) := by decide +kernel
theorem xr_33_127 : X_row 33 127 = some (127, (.iload_n 3, 1), (0, 0, 0)) := by decide +kernel
theorem xr_33_128 : X_row 33 128 = some (128, (.bipush 11, 2), (0, 0, 0)) := by decide +kernel
theorem xr_33_130 : X_row 33 130 = some (130, (.imul, 1), (0, 0, 0)) := by decide +kernel
theorem xr_33_131 : X_row 33 131 = some (131, (.iload 5, 2), (0, 0, 0)) := by decide +kernel
theorem xr_33_133 : X_row 33 133 = some (133, (.iadd, 1), (0, 0, 0)) := by decide +kernel
theorem xr_33_134 : X_row 33 134 = some (134, (.aload_n 0, 1), (0, 0, 0)) := by decide +kernel
theorem xr_33_135 : X_row 33 135 = some (135, (.iload 4, 2), (0, 0, 0)) := by decide +kernel
theorem xr_33_137 : X_row 33 137 = some (137, (.iload 6, 2), (0, 0, 0)) := by decide +kernel
theorem xr_33_139 : X_row 33 139 = some (139, (.invokevirtual 44, 3), (29, 26, 0)) := by decide +kernel
theorem xr_33_142 : X_row 33 142 = some (142, (.aload_n 0, 1), (0, 0, 0)) := by decide +kernel
theorem xr_33_143 : X_row 33 143 = some (143, (.iload 4, 2), (0, 0, 0)) := by decide +kernel
theorem xr_33_145 : X_row 33 145 = some (145, (.aload_n 0, 1), (0, 0, 0)) := by decide +kernel
theorem xr_33_146 : X_row 33 146 = some (146, (.getfield 32, 3), (1, 0, 22)) := by decide +kernel
theorem xr_33_149 : X_row 33 149 = some (149, (.iload 6, 2), (0, 0, 0)) := by decide +kernel
theorem xr_33_151 : X_row 33 151 = some (151, (.invokevirtual 106, 3), (15, 30, 0)) := by decide +kernel
theorem xr_33_154 : X_row 33 154 = some (154, (.invokevirtual 85, 3), (30, 32, 0)) := by decide +kernel
theorem xr_33_157 : X_row 33 157 = some (157, (.invokestatic 58, 3), (134, 17, 0)) := by decide +kernel
theorem xr_33_160 : X_row 33 160 = some (160, (.lastore, 1), (0, 0, 0)) := by decide +kernel
theorem xr_33_161 : X_row 33 161 = some (161, (.iinc 5 1, 3), (0, 0, 0)) := by decide +kernel
theorem xr_33_164 : X_row 33 164 = some (164, (.goto (-59), 3), (0, 0, 0)) := by decide +kernel
theorem xr_33_167 : X_row 33 167 = some (167, (.return_, 1), (0, 0, 0)) := by decide +kernel
theorem xr_34_0 : X_row 34 0 = some (0, (.aload_n 0, 1), (0, 0, 0)) := by decide +kernel
theorem xr_34_1 : X_row 34 1 = some (1, (.getfield 32, 3), (1, 0, 22)) := by decide +kernel
theorem xr_34_4 : X_row 34 4 = some (4, (.getfield 110, 3), (0, 7, 17)) := by decide +kernel
theorem xr_34_7 : X_row 34 7 = some (7, (.iload_n 2, 1), (0, 0, 0)) := by decide +kernel
theorem xr_34_8 : X_row 34 8 = some (8, (.aaload, 1), (0, 0, 0)) := by decide +kernel
theorem xr_34_9 : X_row 34 9 = some (9, (.astore_n 3, 1), (0, 0, 0)) := by decide +kernel
theorem xr_34_10 : X_row 34 10 = some (10, (.iconst 0, 1), (0, 0, 0)) := by decide +kernel
theorem xr_34_11 : X_row 34 11 = some (11, (.istore 4, 2), (0, 0, 0)) := by decide +kernel
theorem xr_34_13 : X_row 34 13 = some (13, (.iload 4, 2), (0, 0, 0)) := by decide +kernel
theorem xr_34_15 : X_row 34 15 = some (15, (.aload_n 3, 1), (0, 0, 0)) := by decide +kernel
theorem xr_34_16 : X_row 34 16 = some (16, (.getfield 114, 3), (8, 4, 3)) := by decide +kernel
theorem xr_34_19 : X_row 34 19 = some (19, (.if_icmp .ge 70, 3), (0, 0, 0)) := by decide +kernel
theorem xr_34_22 : X_row 34 22 = some (22, (.lconst 0, 1), (0, 0, 0)) := by decide +kernel
theorem xr_34_23 : X_row 34 23 = some (23, (.lstore 5, 2), (0, 0, 0)) := by decide +kernel
theorem xr_34_25 : X_row 34 25 = some (25, (.aload_n 0, 1), (0, 0, 0)) := by decide +kernel
theorem xr_34_26 : X_row 34 26 = some (26, (.getfield 22, 3), (1, 5, 32)) := by decide +kernel
theorem xr_34_29 : X_row 34 29 = some (29, (.iload_n 1, 1), (0, 0, 0)) := by decide +kernel
theorem xr_34_30 : X_row 34 30 = some (30, (.laload, 1), (0, 0, 0)) := by decide +kernel
theorem xr_34_31 : X_row 34 31 = some (31, (.lconst 0, 1), (0, 0, 0)) := by decide +kernel
theorem xr_34_32 : X_row 34 32 = some (32, (.lcmp, 1), (0, 0, 0)) := by decide +kernel
theorem xr_34_33 : X_row 34 33 = some (33, (.ifCond .eq 32, 3), (0, 0, 0)) := by decide +kernel
theorem xr_34_36 : X_row 34 36 = some (36, (.aload_n 0, 1), (0, 0, 0)) := by decide +kernel
theorem xr_34_37 : X_row 34 37 = some (37, (.iload_n 1, 1), (0, 0, 0)) := by decide +kernel
theorem xr_34_38 : X_row 34 38 = some (38, (.aload_n 3, 1), (0, 0, 0)) := by decide +kernel
theorem xr_34_39 : X_row 34 39 = some (39, (.getfield 119, 3), (8, 12, 11)) := by decide +kernel
theorem xr_34_42 : X_row 34 42 = some (42, (.iload 4, 2), (0, 0, 0)) := by decide +kernel
theorem xr_34_44 : X_row 34 44 = some (44, (.iaload, 1), (0, 0, 0)) := by decide +kernel
theorem xr_34_45 : X_row 34 45 = some (45, (.invokevirtual 44, 3), (29, 26, 0)) := by decide +kernel
theorem xr_34_48 : X_row 34 48 = some (48, (.aload_n 0, 1), (0, 0, 0)) := by decide +kernel
theorem xr_34_49 : X_row 34 49 = some (49, (.iload_n 1, 1), (0, 0, 0)) := by decide +kernel
theorem xr_34_50 : X_row 34 50 = some (50, (.aload_n 3, 1), (0, 0, 0)) := by decide +kernel
theorem xr_34_51 : X_row 34 51 = some (51, (.getfield 123, 3), (8, 11, 9)) := by decide +kernel
theorem xr_34_54 : X_row 34 54 = some (54, (.iload 4, 2), (0, 0, 0)) := by decide +kernel
theorem xr_34_56 : X_row 34 56 = some (56, (.iaload, 1), (0, 0, 0)) := by decide +kernel
theorem xr_34_57 : X_row 34 57 = some (57, (.invokevirtual 85, 3), (30, 32, 0)) := by decide +kernel
theorem xr_34_60 : X_row 34 60 = some (60, (.invokestatic 58, 3), (134, 17, 0)) := by decide +kernel
theorem xr_34_63 : X_row 34 63 = some (63, (.lstore 5, 2), (0, 0, 0)) := by decide +kernel
theorem xr_34_65 : X_row 34 65 = some (65, (.aload_n 0, 1), (0, 0, 0)) := by decide +kernel
theorem xr_34_66 : X_row 34 66 = some (66, (.getfield 26, 3), (1, 6, 34)) := by decide +kernel
theorem xr_34_69 : X_row 34 69 = some (69, (.iload_n 1, 1), (0, 0, 0)) := by decide +kernel
theorem xr_34_70 : X_row 34 70 = some (70, (.bipush 30, 2), (0, 0, 0)) := by decide +kernel
theorem xr_34_72 : X_row 34 72 = some (72, (.imul, 1), (0, 0, 0)) := by decide +kernel
theorem xr_34_73 : X_row 34 73 = some (73, (.iload_n 2, 1), (0, 0, 0)) := by decide +kernel
theorem xr_34_74 : X_row 34 74 = some (74, (.iadd, 1), (0, 0, 0)) := by decide +kernel
theorem xr_34_75 : X_row 34 75 = some (75, (.iconst 4, 1), (0, 0, 0)) := by decide +kernel
theorem xr_34_76 : X_row 34 76 = some (76, (.imul, 1), (0, 0, 0)) := by decide +kernel
theorem xr_34_77 : X_row 34 77 = some (77, (.iload 4, 2), (0, 0, 0)) := by decide +kernel
theorem xr_34_79 : X_row 34 79 = some (79, (.iadd, 1), (0, 0, 0)) := by decide +kernel
theorem xr_34_80 : X_row 34 80 = some (80, (.lload 5, 2), (0, 0, 0)) := by decide +kernel
theorem xr_34_82 : X_row 34 82 = some (82, (.lastore, 1), (0, 0, 0)) := by decide +kernel
theorem xr_34_83 : X_row 34 83 = some (83, (.iinc 4 1, 3), (0, 0, 0)) := by decide +kernel
theorem xr_34_86 : X_row 34 86 = some (86, (.goto (-73), 3), (0, 0, 0)) := by decide +kernel
theorem xr_34_89 : X_row 34 89 = some (89, (.return_, 1), (0, 0, 0)) := by decide +kernel
theorem xn_33 : X_nL 33 = 7 := by decide +kernel
theorem xf_33 : X_na 33 = 2 ∧ X_ci 33 = 1 ∧ X_rt 33 = none := by decide +kernel
theorem xn_34 : X_nL 34 = 7 := by decide +kernel
theorem xf_34 : X_na 34 = 2 ∧ X_ci 34 = 1 ∧ X_rt 34 = none := by decide +kernel
theorem c_fillHoles (sc : X_Sc) (S : X_S) (oK : Int → Int64) (oW : Int → Int64) (oA : Int → Int64) (oH : Int → Int64) (B : Nat) (rc : Int) (rn : Int → Int64) (kn : Int → Int64) (G : X_G) (tn : Int) (fl : Int) (i : Int) (j : Int) (w : Int) (hO511 : S.1 511 = .inr (1, [.ref B, .ref 501, .int (iI fl), .ref 512, .ref 513, .ref 514, .ref 515, .ref 516])) (hA512 : S.1 512 = .inl (.long, 5115, .inr (.inl fun k : Nat => oK (k : Int)))) (hA513 : S.1 513 = .inl (.long, 13950, .inr (.inl fun k : Nat => oW (k : Int)))) (hA514 : S.1 514 = .inl (.long, 465, .inr (.inl fun k : Nat => oA (k : Int)))) (hA515 : S.1 515 = .inl (.long, 55800, .inr (.inl fun k : Nat => oH (k : Int)))) (hB : B = 4 ∨ B = 250) (hb : C_bk S B rc (gk G) (gw G) rn (gl G) kn (ga G)) (hs : C_ws S B (gD G) (gW G)) (hG : X_Gok G) (hw : 0 ≤ w ∧ w < gw G) (hij : 0 ≤ i ∧ i < j ∧ j ≤ 30) (hK : ∀ k, 0 ≤ k → k < gk G → oK (X_ro i j * 11 + k) = X_st (-2) (X_nm G k i j + (X_T_ G).2 k i j)) (hW : ∀ w, 0 ≤ w → w < gw G → oW (X_ro i j * 30 + w) = X_st (-2) ((X_T_ G).1 w i j)) (hA : oA (X_ro i j) = X_st (-2) (X_all G i j)) : X_T sc 34 (0, [(0, .ref 511), (1, .int (iI (X_ro i j))), (2, .int (iI w))], [], S) (fun v S' => ∃ (oH1 : Int → Int64), v = none ∧ (∀ e, 0 ≤ e → e < gD G w 3 0 → gW G w e = 0 → oH1 ((X_ro i j * 30 + w) * 4 + gD G w 8 e) = X_st (-2) (X_Hw G (X_T_ G) w e i j)) ∧ (∀ q, ¬ ((X_ro i j * 30 + w) * 4 ≤ q ∧ q < (X_ro i j * 30 + w) * 4 + 4) → oH1 q = oH q) ∧ S'.1 515 = .inl (.long, 55800, .inr (.inl fun k : Nat => oH1 (k : Int))) ∧ X_Fr (fun q => q = 515) S S') := by
  obtain ⟨hb0, hb1, hb2, hb3, hb4, ⟨f, hb5, hf⟩, ⟨hrc, hrcb⟩, ⟨hkc, hkcb⟩, ⟨hwc, hwcb⟩⟩ := id hb
  have hgw := hG.2.2.2 w hw.1 hw.2
  have hsz := hgw.1
  have hho := hgw.2.1
  have hro := X_ro_r hij.1 hij.2.1 hij.2.2
  refine X_QI (fun Q hQ => ?_)
  refine T_p xr_34_0 xn_34 (pc' := 1) (ls' := [(0, .ref 511), (1, .int (iI (X_ro i j))), (2, .int (iI w))]) (st' := [.ref 511]) rfl ?_
  refine T_get xr_34_1 hO511 rfl (v := .ref B) rfl (pc' := 4) rfl ?_
  refine T_get xr_34_4 hb0 rfl (v := .ref (B + 5)) rfl (pc' := 7) rfl ?_
  refine T_p xr_34_7 xn_34 (pc' := 8) (ls' := [(0, .ref 511), (1, .int (iI (X_ro i j))), (2, .int (iI w))]) (st' := [.int (iI w), .ref (B + 5)]) rfl ?_
  have hwaw := hs w (by omega) (by omega)
  obtain ⟨aw, haaw⟩ : ∃ z : Nat, z = B + 6 + 8 * (w : Int).toNat := ⟨_, rfl⟩
  rw [← haaw] at hwaw
  obtain ⟨⟨_, _⟩, ⟨_, _⟩, ⟨_, _⟩, ⟨_, _⟩, ⟨_, _⟩, ⟨_, _⟩, ⟨_, _⟩, ⟨_, _⟩⟩ := id hwaw.2
  refine T_zaald xr_34_8 hb5 (w := aw) (by rw [haaw]; exact hf _ (by omega)) (pc' := 9) rfl ?_
  refine T_p xr_34_9 xn_34 (pc' := 10) (ls' := [(3, .ref aw), (0, .ref 511), (1, .int (iI (X_ro i j))), (2, .int (iI w))]) (st' := []) rfl ?_
  refine T_p xr_34_10 xn_34 (pc' := 11) (ls' := [(3, .ref aw), (0, .ref 511), (1, .int (iI (X_ro i j))), (2, .int (iI w))]) (st' := [.int (iI 0)]) rfl ?_
  refine T_p xr_34_11 xn_34 (pc' := 13) (ls' := [(4, .int (iI 0)), (3, .ref aw), (0, .ref 511), (1, .int (iI (X_ro i j))), (2, .int (iI w))]) (st' := []) rfl ?_
  have L746 : ∀ (m748 : Nat) (S751 : X_S) (h : Int) (oH1 : Int → Int64) (hoH1 : S751.1 515 = .inl (.long, 55800, .inr (.inl fun k : Nat => oH1 (k : Int)))) (hF750 : X_Fr (fun q => q = 515) S S751) (hh : 0 ≤ h ∧ h ≤ gD G w 4 0) (hI : ∀ e, 0 ≤ e → e < gD G w 3 0 → gW G w e = 0 → gD G w 8 e < h → oH1 ((X_ro i j * 30 + w) * 4 + gD G w 8 e) = X_st (-2) (X_Hw G (X_T_ G) w e i j)) (hOo : ∀ q, ¬ ((X_ro i j * 30 + w) * 4 ≤ q ∧ q < (X_ro i j * 30 + w) * 4 + 4) → oH1 q = oH q) (hm749 : gD G w 4 0 - h < m748), X_T sc 34 (13, [(4, .int (iI h)), (3, .ref aw), (0, .ref 511), (1, .int (iI (X_ro i j))), (2, .int (iI w))], [], S751) Q := by
    intro m748
    induction m748 with
    | zero =>
      intro S751 h oH1 hoH1 hF750 hh hI hOo hm749
      exact (show False by omega).elim
    | succ m748 ih747 =>
      intro S751 h oH1 hoH1 hF750 hh hI hOo hm749
      refine T_p xr_34_13 xn_34 (pc' := 15) (ls' := [(4, .int (iI h)), (3, .ref aw), (0, .ref 511), (1, .int (iI (X_ro i j))), (2, .int (iI w))]) (st' := [.int (iI h)]) rfl ?_
      refine T_p xr_34_15 xn_34 (pc' := 16) (ls' := [(4, .int (iI h)), (3, .ref aw), (0, .ref 511), (1, .int (iI (X_ro i j))), (2, .int (iI w))]) (st' := [.ref aw, .int (iI h)]) rfl ?_
      have h752 := (hF750.1 aw (by omega)).trans (hwaw.1.1)
      refine T_get xr_34_16 h752 rfl (v := .int (iI ((gD G) w 4 0))) rfl (pc' := 19) rfl ?_
      refine T_zicmp_ge xr_34_19 (t := 89) (pc' := 22) rfl rfl (fun c753 => ?_) (fun c753 => ?_)
      · skip
        have c753 : ((gD G) w 4 0) ≤ h := c753
        refine T_vret xr_34_89 xf_34.2.2 ?_
        refine hQ _ _ ?_
        exact ⟨oH1, rfl, (fun e g1 g2 g3 => hI e g1 g2 g3 (by have := hgw.hole g1 g2 g3; omega)), hOo, hoH1, (X_Fr.rf).tr (X_Fr.mono ⟨hF750.1, hF750.2⟩ (fun q hq => (by omega)))⟩
      · skip
        have c753 : ¬ (((gD G) w 4 0) ≤ h) := c753
        obtain ⟨e, he1, he2, he3, he4⟩ := hgw.ex (h := h) (by omega) (by omega)
        refine T_p xr_34_22 xn_34 (pc' := 23) (ls' := [(4, .int (iI h)), (3, .ref aw), (0, .ref 511), (1, .int (iI (X_ro i j))), (2, .int (iI w))]) (st' := [.long (iL 0)]) rfl ?_
        refine T_p xr_34_23 xn_34 (pc' := 25) (ls' := [(5, .long (iL 0)), (4, .int (iI h)), (3, .ref aw), (0, .ref 511), (1, .int (iI (X_ro i j))), (2, .int (iI w))]) (st' := []) rfl ?_
        refine T_p xr_34_25 xn_34 (pc' := 26) (ls' := [(5, .long (iL 0)), (4, .int (iI h)), (3, .ref aw), (0, .ref 511), (1, .int (iI (X_ro i j))), (2, .int (iI w))]) (st' := [.ref 511]) rfl ?_
        have h754 := (hF750.1 511 (by first | decide | omega)).trans (hO511)
        refine T_get xr_34_26 h754 rfl (v := .ref 514) rfl (pc' := 29) rfl ?_
        refine T_p xr_34_29 xn_34 (pc' := 30) (ls' := [(5, .long (iL 0)), (4, .int (iI h)), (3, .ref aw), (0, .ref 511), (1, .int (iI (X_ro i j))), (2, .int (iI w))]) (st' := [.int (iI (X_ro i j)), .ref 514]) rfl ?_
        have h755 := (hF750.1 514 (by first | decide | omega)).trans (hA514)
        refine T_zlald xr_34_30 h755 (pc' := 31) rfl ?_
        refine T_le (y := (X_st (-2) (X_all G i j))) hA ?_
        refine T_p xr_34_31 xn_34 (pc' := 32) (ls' := [(5, .long (iL 0)), (4, .int (iI h)), (3, .ref aw), (0, .ref 511), (1, .int (iI (X_ro i j))), (2, .int (iI w))]) (st' := [.long (iL 0), .long (X_st (-2) (X_all G i j))]) rfl ?_
        refine T_lc_eq xr_34_32 xr_34_33 (t := 65) (pc' := 36) rfl rfl (fun c756 => ?_) (fun c756 => ?_)
        · skip
          have c756 : (X_st (-2) (X_all G i j)) = (iL 0) := c756
          refine T_p xr_34_65 xn_34 (pc' := 66) (ls' := [(5, .long (iL 0)), (4, .int (iI h)), (3, .ref aw), (0, .ref 511), (1, .int (iI (X_ro i j))), (2, .int (iI w))]) (st' := [.ref 511]) rfl ?_
          refine T_get xr_34_66 h754 rfl (v := .ref 515) rfl (pc' := 69) rfl ?_
          refine T_p xr_34_69 xn_34 (pc' := 70) (ls' := [(5, .long (iL 0)), (4, .int (iI h)), (3, .ref aw), (0, .ref 511), (1, .int (iI (X_ro i j))), (2, .int (iI w))]) (st' := [.int (iI (X_ro i j)), .ref 515]) rfl ?_
          refine T_p xr_34_70 xn_34 (pc' := 72) (ls' := [(5, .long (iL 0)), (4, .int (iI h)), (3, .ref aw), (0, .ref 511), (1, .int (iI (X_ro i j))), (2, .int (iI w))]) (st' := [.int (iI 30), .int (iI (X_ro i j)), .ref 515]) rfl ?_
          refine T_zimul xr_34_72 (z := (X_ro i j) * 30) rfl (pc' := 73) rfl ?_
          refine T_p xr_34_73 xn_34 (pc' := 74) (ls' := [(5, .long (iL 0)), (4, .int (iI h)), (3, .ref aw), (0, .ref 511), (1, .int (iI (X_ro i j))), (2, .int (iI w))]) (st' := [.int (iI w), .int (iI ((X_ro i j) * 30)), .ref 515]) rfl ?_
          refine T_ziadd xr_34_74 (z := ((X_ro i j) * 30) + w) rfl (pc' := 75) rfl ?_
          refine T_p xr_34_75 xn_34 (pc' := 76) (ls' := [(5, .long (iL 0)), (4, .int (iI h)), (3, .ref aw), (0, .ref 511), (1, .int (iI (X_ro i j))), (2, .int (iI w))]) (st' := [.int (iI 4), .int (iI (((X_ro i j) * 30) + w)), .ref 515]) rfl ?_
          refine T_zimul xr_34_76 (z := (((X_ro i j) * 30) + w) * 4) rfl (pc' := 77) rfl ?_
          refine T_p xr_34_77 xn_34 (pc' := 79) (ls' := [(5, .long (iL 0)), (4, .int (iI h)), (3, .ref aw), (0, .ref 511), (1, .int (iI (X_ro i j))), (2, .int (iI w))]) (st' := [.int (iI h), .int (iI ((((X_ro i j) * 30) + w) * 4)), .ref 515]) rfl ?_
          refine T_ziadd xr_34_79 (z := ((((X_ro i j) * 30) + w) * 4) + h) rfl (pc' := 80) rfl ?_
          refine T_p xr_34_80 xn_34 (pc' := 82) (ls' := [(5, .long (iL 0)), (4, .int (iI h)), (3, .ref aw), (0, .ref 511), (1, .int (iI (X_ro i j))), (2, .int (iI w))]) (st' := [.long (iL 0), .int (iI (((((X_ro i j) * 30) + w) * 4) + h)), .ref 515]) rfl ?_
          refine T_le (y := (X_st (-2) (X_Hw G (X_T_ G) w e i j))) (by rw [show X_Hw G (X_T_ G) w e i j = 0 from X_Hc_0 hG ((X_st_z (m := -2) (by omega)).mp (by assumption))]; rfl) ?_
          refine T_zlast xr_34_82 hoH1 (pc' := 83) rfl (fun S757 h758 n759 e760 => ?_)
          refine T_ziinc xr_34_83 xn_34 (a := h) (z := h + 1) rfl (Nat.le_of_ble_eq_true rfl) (by omega) (ls' := [(4, .int (iI (h + 1))), (5, .long (iL 0)), (3, .ref aw), (0, .ref 511), (1, .int (iI (X_ro i j))), (2, .int (iI w))]) rfl (pc' := 86) rfl ?_
          refine T_p xr_34_86 xn_34 (pc' := 13) (ls' := [(4, .int (iI (h + 1))), (5, .long (iL 0)), (3, .ref aw), (0, .ref 511), (1, .int (iI (X_ro i j))), (2, .int (iI w))]) (st' := []) rfl ?_
          refine T_sub (ls := [(4, .int (iI (h + 1))), (3, .ref aw), (0, .ref 511), (1, .int (iI (X_ro i j))), (2, .int (iI w))]) ⟨rfl, rfl, rfl, rfl, rfl, trivial⟩ rfl rfl ?_
          exact ih747 S757 (h + 1) (X_ug oH1 (((((X_ro i j) * 30) + w) * 4) + h) (X_st (-2) (X_Hw G (X_T_ G) w e i j))) h758 (hF750.tr ((X_Fr.rf).tr (X_Fr.of n759 e760 (by first | decide | exact ⟨Nat.le_add_right _ _, Nat.add_le_add_left (by decide) _⟩ | omega)))) (by omega) (fun e2 g1 g2 g3 g4 => by
                by_cases hh : gD G w 8 e2 = h
                · have ee : e2 = e := hgw.inj g1 g2 g3 he1 he2 he3 (by omega)
                  subst ee
                  rw [hh, X_ug_s]
                · rw [X_ug_n _ _ (by omega)]; exact hI e2 g1 g2 g3 (by omega)) (fun q hq => by rw [X_ug_n _ _ (by omega)]; exact hOo q hq) (by omega)
        · skip
          have c756 : ¬ ((X_st (-2) (X_all G i j)) = (iL 0)) := c756
          refine T_p xr_34_36 xn_34 (pc' := 37) (ls' := [(5, .long (iL 0)), (4, .int (iI h)), (3, .ref aw), (0, .ref 511), (1, .int (iI (X_ro i j))), (2, .int (iI w))]) (st' := [.ref 511]) rfl ?_
          refine T_p xr_34_37 xn_34 (pc' := 38) (ls' := [(5, .long (iL 0)), (4, .int (iI h)), (3, .ref aw), (0, .ref 511), (1, .int (iI (X_ro i j))), (2, .int (iI w))]) (st' := [.int (iI (X_ro i j)), .ref 511]) rfl ?_
          refine T_p xr_34_38 xn_34 (pc' := 39) (ls' := [(5, .long (iL 0)), (4, .int (iI h)), (3, .ref aw), (0, .ref 511), (1, .int (iI (X_ro i j))), (2, .int (iI w))]) (st' := [.ref aw, .int (iI (X_ro i j)), .ref 511]) rfl ?_
          refine T_get xr_34_39 h752 rfl (v := .ref (aw + 5)) rfl (pc' := 42) rfl ?_
          refine T_p xr_34_42 xn_34 (pc' := 44) (ls' := [(5, .long (iL 0)), (4, .int (iI h)), (3, .ref aw), (0, .ref 511), (1, .int (iI (X_ro i j))), (2, .int (iI w))]) (st' := [.int (iI h), .ref (aw + 5), .int (iI (X_ro i j)), .ref 511]) rfl ?_
          have h761 := (hF750.1 (aw + 5) (by omega)).trans (hwaw.1.2.2.2.2.2.1)
          refine T_ziald xr_34_44 h761 (pc' := 45) rfl ?_
          refine T_cv (S := S751) (q := 511) xr_34_45 xf_29.1 xf_29.2.1 xn_29 (as := [.int (iI (X_ro i j)), .int (iI (((gD G) w 11) h))]) (r := []) rfl h754 (Nat.le_of_ble_eq_true rfl) (Nat.le_of_ble_eq_true rfl) (pc' := 48) rfl (ls' := [(0, .ref 511), (1, .int (iI (X_ro i j))), (2, .int (iI (((gD G) w 11) h)))]) rfl ?_
          have h762 := (hF750.1 512 (by first | decide | omega)).trans (hA512)
          have h763 := (hF750.1 B (by omega)).trans (hb0)
          have h764 := (hF750.1 (B + 1) (by omega)).trans (hb1)
          have h765 := (hF750.1 (B + 2) (by omega)).trans (hb2)
          have h766 := (hF750.1 (B + 3) (by omega)).trans (hb3)
          have h767 := (hF750.1 (B + 4) (by omega)).trans (hb4)
          have h768 := (hF750.1 (B + 5) (by omega)).trans (hb5)
          have hs769 : C_ws S751 B (gD G) (gW G) := C_ws.fr (P := fun q => 501 ≤ q ∧ q ≤ 529) hs ((X_Fr.rf).tr (X_Fr.mono ⟨hF750.1, hF750.2⟩ (fun q hq => (by omega)))) (fun k h1 h2 => by omega)
          refine T_mono (c_sumK sc S751 oK B rc rn kn G tn fl (X_ro i j) (((gD G) w 11) h) (fun z => X_nm G z i j + (X_T_ G).2 z i j) h754 h762 hB ⟨h763, h764, h765, h766, h767, ⟨f, h768, hf⟩, ⟨by omega, by omega⟩, ⟨by omega, by omega⟩, ⟨by omega, by omega⟩⟩ hs769 hG (by omega) hK) (fun v770 S771 h772 => ?_)
          rcases h772 with ⟨hv773, hf774⟩
          rw [hv773]
          rw [hf774]
          show X_T sc 34 (48, [(5, .long (iL 0)), (4, .int (iI h)), (3, .ref aw), (0, .ref 511), (1, .int (iI (X_ro i j))), (2, .int (iI w))], [.long (X_st (-2) (X_Su (fun k => X_if (X_bt (((gD G) w 11) h) k) ((fun z => X_nm G z i j + (X_T_ G).2 z i j) k)) 0 (gk G)))], S751) _
          refine T_p xr_34_48 xn_34 (pc' := 49) (ls' := [(5, .long (iL 0)), (4, .int (iI h)), (3, .ref aw), (0, .ref 511), (1, .int (iI (X_ro i j))), (2, .int (iI w))]) (st' := [.ref 511, .long (X_st (-2) (X_Su (fun k => X_if (X_bt (((gD G) w 11) h) k) ((fun z => X_nm G z i j + (X_T_ G).2 z i j) k)) 0 (gk G)))]) rfl ?_
          refine T_p xr_34_49 xn_34 (pc' := 50) (ls' := [(5, .long (iL 0)), (4, .int (iI h)), (3, .ref aw), (0, .ref 511), (1, .int (iI (X_ro i j))), (2, .int (iI w))]) (st' := [.int (iI (X_ro i j)), .ref 511, .long (X_st (-2) (X_Su (fun k => X_if (X_bt (((gD G) w 11) h) k) ((fun z => X_nm G z i j + (X_T_ G).2 z i j) k)) 0 (gk G)))]) rfl ?_
          refine T_p xr_34_50 xn_34 (pc' := 51) (ls' := [(5, .long (iL 0)), (4, .int (iI h)), (3, .ref aw), (0, .ref 511), (1, .int (iI (X_ro i j))), (2, .int (iI w))]) (st' := [.ref aw, .int (iI (X_ro i j)), .ref 511, .long (X_st (-2) (X_Su (fun k => X_if (X_bt (((gD G) w 11) h) k) ((fun z => X_nm G z i j + (X_T_ G).2 z i j) k)) 0 (gk G)))]) rfl ?_
          refine T_get xr_34_51 h752 rfl (v := .ref (aw + 4)) rfl (pc' := 54) rfl ?_
          refine T_p xr_34_54 xn_34 (pc' := 56) (ls' := [(5, .long (iL 0)), (4, .int (iI h)), (3, .ref aw), (0, .ref 511), (1, .int (iI (X_ro i j))), (2, .int (iI w))]) (st' := [.int (iI h), .ref (aw + 4), .int (iI (X_ro i j)), .ref 511, .long (X_st (-2) (X_Su (fun k => X_if (X_bt (((gD G) w 11) h) k) ((fun z => X_nm G z i j + (X_T_ G).2 z i j) k)) 0 (gk G)))]) rfl ?_
          have h775 := (hF750.1 (aw + 4) (by omega)).trans (hwaw.1.2.2.2.2.1)
          refine T_ziald xr_34_56 h775 (pc' := 57) rfl ?_
          refine T_cv (S := S751) (q := 511) xr_34_57 xf_30.1 xf_30.2.1 xn_30 (as := [.int (iI (X_ro i j)), .int (iI (((gD G) w 10) h))]) (r := [.long (X_st (-2) (X_Su (fun k => X_if (X_bt (((gD G) w 11) h) k) ((fun z => X_nm G z i j + (X_T_ G).2 z i j) k)) 0 (gk G)))]) rfl h754 (Nat.le_of_ble_eq_true rfl) (Nat.le_of_ble_eq_true rfl) (pc' := 60) rfl (ls' := [(0, .ref 511), (1, .int (iI (X_ro i j))), (2, .int (iI (((gD G) w 10) h)))]) rfl ?_
          have h776 := (hF750.1 513 (by first | decide | omega)).trans (hA513)
          refine T_mono (c_sumW sc S751 oW B rc rn kn G tn fl (X_ro i j) (((gD G) w 10) h) (fun v => (X_T_ G).1 v i j) h754 h776 hB ⟨h763, h764, h765, h766, h767, ⟨f, h768, hf⟩, ⟨by omega, by omega⟩, ⟨by omega, by omega⟩, ⟨by omega, by omega⟩⟩ hs769 hG (by omega) hW) (fun v777 S778 h779 => ?_)
          rcases h779 with ⟨hv780, hf781⟩
          rw [hv780]
          rw [hf781]
          show X_T sc 34 (60, [(5, .long (iL 0)), (4, .int (iI h)), (3, .ref aw), (0, .ref 511), (1, .int (iI (X_ro i j))), (2, .int (iI w))], [.long (X_st (-2) (X_Su (fun k => X_if (X_bt (((gD G) w 10) h) k) ((fun v => (X_T_ G).1 v i j) k)) 0 (gw G))), .long (X_st (-2) (X_Su (fun k => X_if (X_bt (((gD G) w 11) h) k) ((fun z => X_nm G z i j + (X_T_ G).2 z i j) k)) 0 (gk G)))], S751) _
          refine T_cs xr_34_60 (by decide) xf_134.1 xn_134 (as := [.long (X_st (-2) (X_Su (fun k => X_if (X_bt (((gD G) w 11) h) k) ((fun z => X_nm G z i j + (X_T_ G).2 z i j) k)) 0 (gk G))), .long (X_st (-2) (X_Su (fun k => X_if (X_bt (((gD G) w 10) h) k) ((fun v => (X_T_ G).1 v i j) k)) 0 (gw G)))]) (r := []) rfl (Nat.le_of_ble_eq_true rfl) (Nat.le_of_ble_eq_true rfl) (pc' := 63) rfl (ls' := [(0, .long (X_st (-2) (X_Su (fun k => X_if (X_bt (((gD G) w 11) h) k) ((fun z => X_nm G z i j + (X_T_ G).2 z i j) k)) 0 (gk G)))), (2, .long (X_st (-2) (X_Su (fun k => X_if (X_bt (((gD G) w 10) h) k) ((fun v => (X_T_ G).1 v i j) k)) 0 (gw G))))]) rfl ?_
          refine T_mono (c_plus sc S751 (X_Su (fun k => X_if (X_bt (((gD G) w 11) h) k) ((fun z => X_nm G z i j + (X_T_ G).2 z i j) k)) 0 (gk G)) (X_Su (fun k => X_if (X_bt (((gD G) w 10) h) k) ((fun v => (X_T_ G).1 v i j) k)) 0 (gw G))) (fun v782 S783 h784 => ?_)
          rcases h784 with ⟨hv785, hf786⟩
          rw [hv785]
          rw [hf786]
          show X_T sc 34 (63, [(5, .long (iL 0)), (4, .int (iI h)), (3, .ref aw), (0, .ref 511), (1, .int (iI (X_ro i j))), (2, .int (iI w))], [.long (X_st (-2) ((X_Su (fun k => X_if (X_bt (((gD G) w 11) h) k) ((fun z => X_nm G z i j + (X_T_ G).2 z i j) k)) 0 (gk G)) + (X_Su (fun k => X_if (X_bt (((gD G) w 10) h) k) ((fun v => (X_T_ G).1 v i j) k)) 0 (gw G))))], S751) _
          refine T_p xr_34_63 xn_34 (pc' := 65) (ls' := [(5, .long (X_st (-2) ((X_Su (fun k => X_if (X_bt (((gD G) w 11) h) k) ((fun z => X_nm G z i j + (X_T_ G).2 z i j) k)) 0 (gk G)) + (X_Su (fun k => X_if (X_bt (((gD G) w 10) h) k) ((fun v => (X_T_ G).1 v i j) k)) 0 (gw G))))), (4, .int (iI h)), (3, .ref aw), (0, .ref 511), (1, .int (iI (X_ro i j))), (2, .int (iI w))]) (st' := []) rfl ?_
          refine T_p xr_34_65 xn_34 (pc' := 66) (ls' := [(5, .long (X_st (-2) ((X_Su (fun k => X_if (X_bt (((gD G) w 11) h) k) ((fun z => X_nm G z i j + (X_T_ G).2 z i j) k)) 0 (gk G)) + (X_Su (fun k => X_if (X_bt (((gD G) w 10) h) k) ((fun v => (X_T_ G).1 v i j) k)) 0 (gw G))))), (4, .int (iI h)), (3, .ref aw), (0, .ref 511), (1, .int (iI (X_ro i j))), (2, .int (iI w))]) (st' := [.ref 511]) rfl ?_
          refine T_get xr_34_66 h754 rfl (v := .ref 515) rfl (pc' := 69) rfl ?_
          refine T_p xr_34_69 xn_34 (pc' := 70) (ls' := [(5, .long (X_st (-2) ((X_Su (fun k => X_if (X_bt (((gD G) w 11) h) k) ((fun z => X_nm G z i j + (X_T_ G).2 z i j) k)) 0 (gk G)) + (X_Su (fun k => X_if (X_bt (((gD G) w 10) h) k) ((fun v => (X_T_ G).1 v i j) k)) 0 (gw G))))), (4, .int (iI h)), (3, .ref aw), (0, .ref 511), (1, .int (iI (X_ro i j))), (2, .int (iI w))]) (st' := [.int (iI (X_ro i j)), .ref 515]) rfl ?_
          refine T_p xr_34_70 xn_34 (pc' := 72) (ls' := [(5, .long (X_st (-2) ((X_Su (fun k => X_if (X_bt (((gD G) w 11) h) k) ((fun z => X_nm G z i j + (X_T_ G).2 z i j) k)) 0 (gk G)) + (X_Su (fun k => X_if (X_bt (((gD G) w 10) h) k) ((fun v => (X_T_ G).1 v i j) k)) 0 (gw G))))), (4, .int (iI h)), (3, .ref aw), (0, .ref 511), (1, .int (iI (X_ro i j))), (2, .int (iI w))]) (st' := [.int (iI 30), .int (iI (X_ro i j)), .ref 515]) rfl ?_
          refine T_zimul xr_34_72 (z := (X_ro i j) * 30) rfl (pc' := 73) rfl ?_
          refine T_p xr_34_73 xn_34 (pc' := 74) (ls' := [(5, .long (X_st (-2) ((X_Su (fun k => X_if (X_bt (((gD G) w 11) h) k) ((fun z => X_nm G z i j + (X_T_ G).2 z i j) k)) 0 (gk G)) + (X_Su (fun k => X_if (X_bt (((gD G) w 10) h) k) ((fun v => (X_T_ G).1 v i j) k)) 0 (gw G))))), (4, .int (iI h)), (3, .ref aw), (0, .ref 511), (1, .int (iI (X_ro i j))), (2, .int (iI w))]) (st' := [.int (iI w), .int (iI ((X_ro i j) * 30)), .ref 515]) rfl ?_
          refine T_ziadd xr_34_74 (z := ((X_ro i j) * 30) + w) rfl (pc' := 75) rfl ?_
          refine T_p xr_34_75 xn_34 (pc' := 76) (ls' := [(5, .long (X_st (-2) ((X_Su (fun k => X_if (X_bt (((gD G) w 11) h) k) ((fun z => X_nm G z i j + (X_T_ G).2 z i j) k)) 0 (gk G)) + (X_Su (fun k => X_if (X_bt (((gD G) w 10) h) k) ((fun v => (X_T_ G).1 v i j) k)) 0 (gw G))))), (4, .int (iI h)), (3, .ref aw), (0, .ref 511), (1, .int (iI (X_ro i j))), (2, .int (iI w))]) (st' := [.int (iI 4), .int (iI (((X_ro i j) * 30) + w)), .ref 515]) rfl ?_
          refine T_zimul xr_34_76 (z := (((X_ro i j) * 30) + w) * 4) rfl (pc' := 77) rfl ?_
          refine T_p xr_34_77 xn_34 (pc' := 79) (ls' := [(5, .long (X_st (-2) ((X_Su (fun k => X_if (X_bt (((gD G) w 11) h) k) ((fun z => X_nm G z i j + (X_T_ G).2 z i j) k)) 0 (gk G)) + (X_Su (fun k => X_if (X_bt (((gD G) w 10) h) k) ((fun v => (X_T_ G).1 v i j) k)) 0 (gw G))))), (4, .int (iI h)), (3, .ref aw), (0, .ref 511), (1, .int (iI (X_ro i j))), (2, .int (iI w))]) (st' := [.int (iI h), .int (iI ((((X_ro i j) * 30) + w) * 4)), .ref 515]) rfl ?_
          refine T_ziadd xr_34_79 (z := ((((X_ro i j) * 30) + w) * 4) + h) rfl (pc' := 80) rfl ?_
          refine T_p xr_34_80 xn_34 (pc' := 82) (ls' := [(5, .long (X_st (-2) ((X_Su (fun k => X_if (X_bt (((gD G) w 11) h) k) ((fun z => X_nm G z i j + (X_T_ G).2 z i j) k)) 0 (gk G)) + (X_Su (fun k => X_if (X_bt (((gD G) w 10) h) k) ((fun v => (X_T_ G).1 v i j) k)) 0 (gw G))))), (4, .int (iI h)), (3, .ref aw), (0, .ref 511), (1, .int (iI (X_ro i j))), (2, .int (iI w))]) (st' := [.long (X_st (-2) ((X_Su (fun k => X_if (X_bt (((gD G) w 11) h) k) ((fun z => X_nm G z i j + (X_T_ G).2 z i j) k)) 0 (gk G)) + (X_Su (fun k => X_if (X_bt (((gD G) w 10) h) k) ((fun v => (X_T_ G).1 v i j) k)) 0 (gw G)))), .int (iI (((((X_ro i j) * 30) + w) * 4) + h)), .ref 515]) rfl ?_
          refine T_le (y := (X_st (-2) (X_Hw G (X_T_ G) w e i j))) (by rw [X_Hw_b hG hw.1 hw.2 he1 he2 he3, he4]) ?_
          refine T_zlast xr_34_82 hoH1 (pc' := 83) rfl (fun S787 h788 n789 e790 => ?_)
          refine T_ziinc xr_34_83 xn_34 (a := h) (z := h + 1) rfl (Nat.le_of_ble_eq_true rfl) (by omega) (ls' := [(4, .int (iI (h + 1))), (5, .long (X_st (-2) ((X_Su (fun k => X_if (X_bt (((gD G) w 11) h) k) ((fun z => X_nm G z i j + (X_T_ G).2 z i j) k)) 0 (gk G)) + (X_Su (fun k => X_if (X_bt (((gD G) w 10) h) k) ((fun v => (X_T_ G).1 v i j) k)) 0 (gw G))))), (3, .ref aw), (0, .ref 511), (1, .int (iI (X_ro i j))), (2, .int (iI w))]) rfl (pc' := 86) rfl ?_
          refine T_p xr_34_86 xn_34 (pc' := 13) (ls' := [(4, .int (iI (h + 1))), (5, .long (X_st (-2) ((X_Su (fun k => X_if (X_bt (((gD G) w 11) h) k) ((fun z => X_nm G z i j + (X_T_ G).2 z i j) k)) 0 (gk G)) + (X_Su (fun k => X_if (X_bt (((gD G) w 10) h) k) ((fun v => (X_T_ G).1 v i j) k)) 0 (gw G))))), (3, .ref aw), (0, .ref 511), (1, .int (iI (X_ro i j))), (2, .int (iI w))]) (st' := []) rfl ?_
          refine T_sub (ls := [(4, .int (iI (h + 1))), (3, .ref aw), (0, .ref 511), (1, .int (iI (X_ro i j))), (2, .int (iI w))]) ⟨rfl, rfl, rfl, rfl, rfl, trivial⟩ rfl rfl ?_
          exact ih747 S787 (h + 1) (X_ug oH1 (((((X_ro i j) * 30) + w) * 4) + h) (X_st (-2) (X_Hw G (X_T_ G) w e i j))) h788 (hF750.tr ((X_Fr.rf).tr (X_Fr.of n789 e790 (by first | decide | exact ⟨Nat.le_add_right _ _, Nat.add_le_add_left (by decide) _⟩ | omega)))) (by omega) (fun e2 g1 g2 g3 g4 => by
                by_cases hh : gD G w 8 e2 = h
                · have ee : e2 = e := hgw.inj g1 g2 g3 he1 he2 he3 (by omega)
                  subst ee
                  rw [hh, X_ug_s]
                · rw [X_ug_n _ _ (by omega)]; exact hI e2 g1 g2 g3 (by omega)) (fun q hq => by rw [X_ug_n _ _ (by omega)]; exact hOo q hq) (by omega)
  exact L746 ((gD G w 4 0) + 1).toNat S 0 oH hA515 ((X_Fr.rf)) (by omega) (fun e g1 g2 g3 g4 => absurd g4 (by have := hgw.hole g1 g2 g3; omega)) (fun _ _ => rfl) (by omega)
theorem c_fillKinds (sc : X_Sc) (S : X_S) (oK : Int → Int64) (oW : Int → Int64) (B : Nat) (rc : Int) (rn : Int → Int64) (kn : Int → Int64) (G : X_G) (tn : Int) (fl : Int) (i : Int) (j : Int) (hO501 : S.1 501 = .inr (6, [.int (iI tn), .ref 502, .ref 503])) (hO511 : S.1 511 = .inr (1, [.ref B, .ref 501, .int (iI fl), .ref 512, .ref 513, .ref 514, .ref 515, .ref 516])) (hA512 : S.1 512 = .inl (.long, 5115, .inr (.inl fun k : Nat => oK (k : Int)))) (hA513 : S.1 513 = .inl (.long, 13950, .inr (.inl fun k : Nat => oW (k : Int)))) (hB : B = 4 ∨ B = 250) (hb : C_bk S B rc (gk G) (gw G) rn (gl G) kn (ga G)) (hs : C_ws S B (gD G) (gW G)) (hG : X_Gok G) (hA502 : S.1 502 = .inl (.long, 30, .inr (.inl fun k : Nat => (gt G) (k : Int)))) (hij : 0 ≤ i ∧ i < j ∧ j ≤ tn ∧ tn ≤ 30) (hR : X_brk G i j → (∀ k, 0 ≤ k → k < gk G → oK (X_ro (i + 1) (j - 1) * 11 + k) = X_st (-2) (X_nm G k (i + 1) (j - 1) + (X_T_ G).2 k (i + 1) (j - 1))) ∧ (∀ w, 0 ≤ w → w < gw G → oW (X_ro (i + 1) (j - 1) * 30 + w) = X_st (-2) ((X_T_ G).1 w (i + 1) (j - 1)))) : X_T sc 33 (0, [(0, .ref 511), (1, .int (iI i)), (2, .int (iI j))], [], S) (fun v S' => ∃ (oK1 : Int → Int64), v = none ∧ (∀ k, 0 ≤ k → k < gk G → oK1 (X_ro i j * 11 + k) = X_st (-2) (X_nm G k i j + (X_T_ G).2 k i j)) ∧ (∀ q, ¬ (X_ro i j * 11 ≤ q ∧ q < X_ro i j * 11 + 11) → oK1 q = oK q) ∧ S'.1 512 = .inl (.long, 5115, .inr (.inl fun k : Nat => oK1 (k : Int))) ∧ X_Fr (fun q => q = 512) S S') := by
  obtain ⟨hb0, hb1, hb2, hb3, hb4, ⟨f, hb5, hf⟩, ⟨hrc, hrcb⟩, ⟨hkc, hkcb⟩, ⟨hwc, hwcb⟩⟩ := id hb
  have hkr := hG.2.1
  have hro := X_ro_r hij.1 hij.2.1 (show j ≤ 30 by omega)
  refine X_QI (fun Q hQ => ?_)
  refine T_p xr_33_0 xn_33 (pc' := 1) (ls' := [(0, .ref 511), (1, .int (iI i)), (2, .int (iI j))]) (st' := [.int (iI i)]) rfl ?_
  refine T_p xr_33_1 xn_33 (pc' := 2) (ls' := [(0, .ref 511), (1, .int (iI i)), (2, .int (iI j))]) (st' := [.int (iI j), .int (iI i)]) rfl ?_
  refine T_cs xr_33_2 (by decide) xf_24.1 xn_24 (as := [.int (iI i), .int (iI j)]) (r := []) rfl (Nat.le_of_ble_eq_true rfl) (Nat.le_of_ble_eq_true rfl) (pc' := 5) rfl (ls' := [(0, .int (iI i)), (1, .int (iI j))]) rfl ?_
  refine T_mono (c_rowOf sc S i j (by omega)) (fun v791 S792 h793 => ?_)
  rcases h793 with ⟨hv794, hf795⟩
  rw [hv794]
  rw [hf795]
  have hr796 := X_ro_r (i := i) (j := j) (by omega) (by omega) (by omega)
  show X_T sc 33 (5, [(0, .ref 511), (1, .int (iI i)), (2, .int (iI j))], [.int (iI (X_ro i j))], S) _
  refine T_p xr_33_5 xn_33 (pc' := 6) (ls' := [(3, .int (iI (X_ro i j))), (0, .ref 511), (1, .int (iI i)), (2, .int (iI j))]) (st' := []) rfl ?_
  refine T_p xr_33_6 xn_33 (pc' := 7) (ls' := [(3, .int (iI (X_ro i j))), (0, .ref 511), (1, .int (iI i)), (2, .int (iI j))]) (st' := [.int (iI 0)]) rfl ?_
  refine T_p xr_33_7 xn_33 (pc' := 9) (ls' := [(4, .int (iI 0)), (3, .int (iI (X_ro i j))), (0, .ref 511), (1, .int (iI i)), (2, .int (iI j))]) (st' := []) rfl ?_
  have L797 : ∀ (m799 : Nat) (S802 : X_S) (k : Int) (oK1 : Int → Int64) (hoK1 : S802.1 512 = .inl (.long, 5115, .inr (.inl fun k : Nat => oK1 (k : Int)))) (hF801 : X_Fr (fun q => q = 512) S S802) (hk : 0 ≤ k ∧ k ≤ gk G) (hz : ∀ z, 0 ≤ z → z < k → oK1 (X_ro i j * 11 + z) = iL 0) (hOk : ∀ q, ¬ (X_ro i j * 11 ≤ q ∧ q < X_ro i j * 11 + 11) → oK1 q = oK q) (hm800 : gk G - k < m799), X_T sc 33 (9, [(4, .int (iI k)), (3, .int (iI (X_ro i j))), (0, .ref 511), (1, .int (iI i)), (2, .int (iI j))], [], S802) Q := by
    intro m799
    induction m799 with
    | zero =>
      intro S802 k oK1 hoK1 hF801 hk hz hOk hm800
      exact (show False by omega).elim
    | succ m799 ih798 =>
      intro S802 k oK1 hoK1 hF801 hk hz hOk hm800
      refine T_p xr_33_9 xn_33 (pc' := 11) (ls' := [(4, .int (iI k)), (3, .int (iI (X_ro i j))), (0, .ref 511), (1, .int (iI i)), (2, .int (iI j))]) (st' := [.int (iI k)]) rfl ?_
      refine T_p xr_33_11 xn_33 (pc' := 12) (ls' := [(4, .int (iI k)), (3, .int (iI (X_ro i j))), (0, .ref 511), (1, .int (iI i)), (2, .int (iI j))]) (st' := [.ref 511, .int (iI k)]) rfl ?_
      have h803 := (hF801.1 511 (by first | decide | omega)).trans (hO511)
      refine T_get xr_33_12 h803 rfl (v := .ref B) rfl (pc' := 15) rfl ?_
      have h804 := (hF801.1 B (by omega)).trans (hb0)
      refine T_get xr_33_15 h804 rfl (v := .int (iI (gk G))) rfl (pc' := 18) rfl ?_
      refine T_zicmp_ge xr_33_18 (t := 40) (pc' := 21) rfl rfl (fun c805 => ?_) (fun c805 => ?_)
      · skip
        have c805 : (gk G) ≤ k := c805
        refine T_p xr_33_40 xn_33 (pc' := 41) (ls' := [(4, .int (iI k)), (3, .int (iI (X_ro i j))), (0, .ref 511), (1, .int (iI i)), (2, .int (iI j))]) (st' := [.int (iI j)]) rfl ?_
        refine T_p xr_33_41 xn_33 (pc' := 42) (ls' := [(4, .int (iI k)), (3, .int (iI (X_ro i j))), (0, .ref 511), (1, .int (iI i)), (2, .int (iI j))]) (st' := [.int (iI i), .int (iI j)]) rfl ?_
        refine T_p xr_33_42 xn_33 (pc' := 43) (ls' := [(4, .int (iI k)), (3, .int (iI (X_ro i j))), (0, .ref 511), (1, .int (iI i)), (2, .int (iI j))]) (st' := [.int (iI 1), .int (iI i), .int (iI j)]) rfl ?_
        refine T_ziadd xr_33_43 (z := i + 1) rfl (pc' := 44) rfl ?_
        refine T_zicmp_ne xr_33_44 (t := 79) (pc' := 47) rfl rfl (fun c806 => ?_) (fun c806 => ?_)
        · skip
          have c806 : ¬ j = (i + 1) := c806
          refine T_p xr_33_79 xn_33 (pc' := 80) (ls' := [(4, .int (iI k)), (3, .int (iI (X_ro i j))), (0, .ref 511), (1, .int (iI i)), (2, .int (iI j))]) (st' := [.ref 511]) rfl ?_
          refine T_get xr_33_80 h803 rfl (v := .ref 501) rfl (pc' := 83) rfl ?_
          refine T_p xr_33_83 xn_33 (pc' := 84) (ls' := [(4, .int (iI k)), (3, .int (iI (X_ro i j))), (0, .ref 511), (1, .int (iI i)), (2, .int (iI j))]) (st' := [.int (iI i), .ref 501]) rfl ?_
          refine T_p xr_33_84 xn_33 (pc' := 85) (ls' := [(4, .int (iI k)), (3, .int (iI (X_ro i j))), (0, .ref 511), (1, .int (iI i)), (2, .int (iI j))]) (st' := [.int (iI j), .int (iI i), .ref 501]) rfl ?_
          have h807 := (hF801.1 501 (by first | decide | omega)).trans (hO501)
          refine T_cv (S := S802) (q := 501) xr_33_85 xf_90.1 xf_90.2.1 xn_90 (as := [.int (iI i), .int (iI j)]) (r := []) rfl h807 (Nat.le_of_ble_eq_true rfl) (Nat.le_of_ble_eq_true rfl) (pc' := 88) rfl (ls' := [(0, .ref 501), (1, .int (iI i)), (2, .int (iI j))]) rfl ?_
          have h808 := (hF801.1 502 (by first | decide | omega)).trans (hA502)
          refine T_mono (c_isBracketed sc S802 tn G i j h807 h808 (by omega)) (fun v809 S810 h811 => ?_)
          rcases h811 with ⟨hv812, hf813⟩
          rw [hv812]
          rw [hf813]
          show X_T sc 33 (88, [(4, .int (iI k)), (3, .int (iI (X_ro i j))), (0, .ref 511), (1, .int (iI i)), (2, .int (iI j))], [.int (iI (bI (X_brk G i j)))], S802) _
          refine T_bif_eq xr_33_88 (t := 167) (pc' := 91) rfl rfl (fun c814 => ?_) (fun c814 => ?_)
          · skip
            have c814 : ¬ (X_brk G i j) := c814
            refine T_vret xr_33_167 xf_33.2.2 ?_
            refine hQ _ _ ?_
            exact ⟨oK1, rfl, (fun k h1 h2 => by
                  first
                    | (rw [(X_nmB (k := k) hij.2.1 (by omega)).1 (by omega), X_if_f (fun z => absurd z.1 (by assumption))]; exact hz k h1 (by omega))
                    | (rw [(X_nmB (k := k) hij.2.1 (by omega)).2 (by omega), X_if_f (by assumption)]; exact hz k h1 (by omega))), hOk, hoK1, (X_Fr.rf).tr (X_Fr.mono ⟨hF801.1, hF801.2⟩ (fun q hq => (by omega)))⟩
          · skip
            have c814 : (X_brk G i j) := c814
            have hbk : X_brk G i j := by assumption
            obtain ⟨hRK, hRW⟩ := hR hbk
            have hbk3 := hbk.1
            have hro2 := X_ro_r (i := i + 1) (j := j - 1) (by omega) (by omega) (by omega)
            have hne := X_ro_ne (i := i + 1) (j := j - 1) (i' := i) (j' := j) (by omega) (by omega) (by omega)
            refine T_p xr_33_91 xn_33 (pc' := 92) (ls' := [(4, .int (iI k)), (3, .int (iI (X_ro i j))), (0, .ref 511), (1, .int (iI i)), (2, .int (iI j))]) (st' := [.int (iI i)]) rfl ?_
            refine T_p xr_33_92 xn_33 (pc' := 93) (ls' := [(4, .int (iI k)), (3, .int (iI (X_ro i j))), (0, .ref 511), (1, .int (iI i)), (2, .int (iI j))]) (st' := [.int (iI 1), .int (iI i)]) rfl ?_
            refine T_ziadd xr_33_93 (z := i + 1) rfl (pc' := 94) rfl ?_
            refine T_p xr_33_94 xn_33 (pc' := 95) (ls' := [(4, .int (iI k)), (3, .int (iI (X_ro i j))), (0, .ref 511), (1, .int (iI i)), (2, .int (iI j))]) (st' := [.int (iI j), .int (iI (i + 1))]) rfl ?_
            refine T_p xr_33_95 xn_33 (pc' := 96) (ls' := [(4, .int (iI k)), (3, .int (iI (X_ro i j))), (0, .ref 511), (1, .int (iI i)), (2, .int (iI j))]) (st' := [.int (iI 1), .int (iI j), .int (iI (i + 1))]) rfl ?_
            refine T_zisub xr_33_96 (z := j - 1) rfl (pc' := 97) rfl ?_
            refine T_cs xr_33_97 (by decide) xf_24.1 xn_24 (as := [.int (iI (i + 1)), .int (iI (j - 1))]) (r := []) rfl (Nat.le_of_ble_eq_true rfl) (Nat.le_of_ble_eq_true rfl) (pc' := 100) rfl (ls' := [(0, .int (iI (i + 1))), (1, .int (iI (j - 1)))]) rfl ?_
            refine T_mono (c_rowOf sc S802 (i + 1) (j - 1) (by omega)) (fun v815 S816 h817 => ?_)
            rcases h817 with ⟨hv818, hf819⟩
            rw [hv818]
            rw [hf819]
            have hr820 := X_ro_r (i := (i + 1)) (j := (j - 1)) (by omega) (by omega) (by omega)
            show X_T sc 33 (100, [(4, .int (iI k)), (3, .int (iI (X_ro i j))), (0, .ref 511), (1, .int (iI i)), (2, .int (iI j))], [.int (iI (X_ro (i + 1) (j - 1)))], S802) _
            refine T_p xr_33_100 xn_33 (pc' := 102) (ls' := [(4, .int (iI (X_ro (i + 1) (j - 1)))), (3, .int (iI (X_ro i j))), (0, .ref 511), (1, .int (iI i)), (2, .int (iI j))]) (st' := []) rfl ?_
            refine T_p xr_33_102 xn_33 (pc' := 103) (ls' := [(4, .int (iI (X_ro (i + 1) (j - 1)))), (3, .int (iI (X_ro i j))), (0, .ref 511), (1, .int (iI i)), (2, .int (iI j))]) (st' := [.int (iI 0)]) rfl ?_
            refine T_p xr_33_103 xn_33 (pc' := 105) (ls' := [(5, .int (iI 0)), (4, .int (iI (X_ro (i + 1) (j - 1)))), (3, .int (iI (X_ro i j))), (0, .ref 511), (1, .int (iI i)), (2, .int (iI j))]) (st' := []) rfl ?_
            have L821 : ∀ (m823 : Nat) (S826 : X_S) (kd : Int) (oK2 : Int → Int64) (hoK2 : S826.1 512 = .inl (.long, 5115, .inr (.inl fun k : Nat => oK2 (k : Int)))) (hF825 : X_Fr (fun q => q = 512) S802 S826) (hkd : 0 ≤ kd ∧ kd ≤ gk G) (hI : ∀ z, 0 ≤ z → z < kd → oK2 (X_ro i j * 11 + z) = X_st (-2) (X_Kd G (X_T_ G) z (i + 1) (j - 1))) (hOk2 : ∀ q, ¬ (X_ro i j * 11 ≤ q ∧ q < X_ro i j * 11 + 11) → oK2 q = oK q) (hm824 : gk G - kd < m823), X_T sc 33 (105, [(5, .int (iI kd)), (4, .int (iI (X_ro (i + 1) (j - 1)))), (3, .int (iI (X_ro i j))), (0, .ref 511), (1, .int (iI i)), (2, .int (iI j))], [], S826) Q := by
              intro m823
              induction m823 with
              | zero =>
                intro S826 kd oK2 hoK2 hF825 hkd hI hOk2 hm824
                exact (show False by omega).elim
              | succ m823 ih822 =>
                intro S826 kd oK2 hoK2 hF825 hkd hI hOk2 hm824
                refine T_p xr_33_105 xn_33 (pc' := 107) (ls' := [(5, .int (iI kd)), (4, .int (iI (X_ro (i + 1) (j - 1)))), (3, .int (iI (X_ro i j))), (0, .ref 511), (1, .int (iI i)), (2, .int (iI j))]) (st' := [.int (iI kd)]) rfl ?_
                refine T_p xr_33_107 xn_33 (pc' := 108) (ls' := [(5, .int (iI kd)), (4, .int (iI (X_ro (i + 1) (j - 1)))), (3, .int (iI (X_ro i j))), (0, .ref 511), (1, .int (iI i)), (2, .int (iI j))]) (st' := [.ref 511, .int (iI kd)]) rfl ?_
                have h827 := (hF825.1 511 (by first | decide | omega)).trans (h803)
                refine T_get xr_33_108 h827 rfl (v := .ref B) rfl (pc' := 111) rfl ?_
                have h828 := (hF825.1 B (by omega)).trans (h804)
                refine T_get xr_33_111 h828 rfl (v := .int (iI (gk G))) rfl (pc' := 114) rfl ?_
                refine T_zicmp_ge xr_33_114 (t := 167) (pc' := 117) rfl rfl (fun c829 => ?_) (fun c829 => ?_)
                · skip
                  have c829 : (gk G) ≤ kd := c829
                  refine T_vret xr_33_167 xf_33.2.2 ?_
                  refine hQ _ _ ?_
                  exact ⟨oK2, rfl, (fun k h1 h2 => by rw [(X_nmB (k := k) hij.2.1 (by omega)).2 (by omega), X_if_t hbk]; exact hI k h1 (by omega)), hOk2, hoK2, ((X_Fr.rf).tr (X_Fr.mono ⟨hF801.1, hF801.2⟩ (fun q hq => (by omega)))).tr (X_Fr.mono ⟨hF825.1, hF825.2⟩ (fun q hq => (by omega)))⟩
                · skip
                  have c829 : ¬ ((gk G) ≤ kd) := c829
                  have hkk : kd < gk G := by omega
                  refine T_p xr_33_117 xn_33 (pc' := 118) (ls' := [(5, .int (iI kd)), (4, .int (iI (X_ro (i + 1) (j - 1)))), (3, .int (iI (X_ro i j))), (0, .ref 511), (1, .int (iI i)), (2, .int (iI j))]) (st' := [.int (iI 1)]) rfl ?_
                  refine T_p xr_33_118 xn_33 (pc' := 120) (ls' := [(5, .int (iI kd)), (4, .int (iI (X_ro (i + 1) (j - 1)))), (3, .int (iI (X_ro i j))), (0, .ref 511), (1, .int (iI i)), (2, .int (iI j))]) (st' := [.int (iI kd), .int (iI 1)]) rfl ?_
                  refine T_zop xr_33_120 (pc' := 121) rfl (z := (iI 1 <<< (iI kd &&& 31)).toInt) (iI_of _) ?_
                  refine T_ie (y := iI (X_bS kd)) (by rfl) ?_
                  refine T_p xr_33_121 xn_33 (pc' := 123) (ls' := [(6, .int (iI (X_bS kd))), (5, .int (iI kd)), (4, .int (iI (X_ro (i + 1) (j - 1)))), (3, .int (iI (X_ro i j))), (0, .ref 511), (1, .int (iI i)), (2, .int (iI j))]) (st' := []) rfl ?_
                  refine T_p xr_33_123 xn_33 (pc' := 124) (ls' := [(6, .int (iI (X_bS kd))), (5, .int (iI kd)), (4, .int (iI (X_ro (i + 1) (j - 1)))), (3, .int (iI (X_ro i j))), (0, .ref 511), (1, .int (iI i)), (2, .int (iI j))]) (st' := [.ref 511]) rfl ?_
                  refine T_get xr_33_124 h827 rfl (v := .ref 512) rfl (pc' := 127) rfl ?_
                  refine T_p xr_33_127 xn_33 (pc' := 128) (ls' := [(6, .int (iI (X_bS kd))), (5, .int (iI kd)), (4, .int (iI (X_ro (i + 1) (j - 1)))), (3, .int (iI (X_ro i j))), (0, .ref 511), (1, .int (iI i)), (2, .int (iI j))]) (st' := [.int (iI (X_ro i j)), .ref 512]) rfl ?_
                  refine T_p xr_33_128 xn_33 (pc' := 130) (ls' := [(6, .int (iI (X_bS kd))), (5, .int (iI kd)), (4, .int (iI (X_ro (i + 1) (j - 1)))), (3, .int (iI (X_ro i j))), (0, .ref 511), (1, .int (iI i)), (2, .int (iI j))]) (st' := [.int (iI 11), .int (iI (X_ro i j)), .ref 512]) rfl ?_
                  refine T_zimul xr_33_130 (z := (X_ro i j) * 11) rfl (pc' := 131) rfl ?_
                  refine T_p xr_33_131 xn_33 (pc' := 133) (ls' := [(6, .int (iI (X_bS kd))), (5, .int (iI kd)), (4, .int (iI (X_ro (i + 1) (j - 1)))), (3, .int (iI (X_ro i j))), (0, .ref 511), (1, .int (iI i)), (2, .int (iI j))]) (st' := [.int (iI kd), .int (iI ((X_ro i j) * 11)), .ref 512]) rfl ?_
                  refine T_ziadd xr_33_133 (z := ((X_ro i j) * 11) + kd) rfl (pc' := 134) rfl ?_
                  refine T_p xr_33_134 xn_33 (pc' := 135) (ls' := [(6, .int (iI (X_bS kd))), (5, .int (iI kd)), (4, .int (iI (X_ro (i + 1) (j - 1)))), (3, .int (iI (X_ro i j))), (0, .ref 511), (1, .int (iI i)), (2, .int (iI j))]) (st' := [.ref 511, .int (iI (((X_ro i j) * 11) + kd)), .ref 512]) rfl ?_
                  refine T_p xr_33_135 xn_33 (pc' := 137) (ls' := [(6, .int (iI (X_bS kd))), (5, .int (iI kd)), (4, .int (iI (X_ro (i + 1) (j - 1)))), (3, .int (iI (X_ro i j))), (0, .ref 511), (1, .int (iI i)), (2, .int (iI j))]) (st' := [.int (iI (X_ro (i + 1) (j - 1))), .ref 511, .int (iI (((X_ro i j) * 11) + kd)), .ref 512]) rfl ?_
                  refine T_p xr_33_137 xn_33 (pc' := 139) (ls' := [(6, .int (iI (X_bS kd))), (5, .int (iI kd)), (4, .int (iI (X_ro (i + 1) (j - 1)))), (3, .int (iI (X_ro i j))), (0, .ref 511), (1, .int (iI i)), (2, .int (iI j))]) (st' := [.int (iI (X_bS kd)), .int (iI (X_ro (i + 1) (j - 1))), .ref 511, .int (iI (((X_ro i j) * 11) + kd)), .ref 512]) rfl ?_
                  refine T_cv (S := S826) (q := 511) xr_33_139 xf_29.1 xf_29.2.1 xn_29 (as := [.int (iI (X_ro (i + 1) (j - 1))), .int (iI (X_bS kd))]) (r := [.int (iI (((X_ro i j) * 11) + kd)), .ref 512]) rfl h827 (Nat.le_of_ble_eq_true rfl) (Nat.le_of_ble_eq_true rfl) (pc' := 142) rfl (ls' := [(0, .ref 511), (1, .int (iI (X_ro (i + 1) (j - 1)))), (2, .int (iI (X_bS kd)))]) rfl ?_
                  have h830 := (hF825.1 (B + 1) (by omega)).trans ((hF801.1 (B + 1) (by omega)).trans (hb1))
                  have h831 := (hF825.1 (B + 2) (by omega)).trans ((hF801.1 (B + 2) (by omega)).trans (hb2))
                  have h832 := (hF825.1 (B + 3) (by omega)).trans ((hF801.1 (B + 3) (by omega)).trans (hb3))
                  have h833 := (hF825.1 (B + 4) (by omega)).trans ((hF801.1 (B + 4) (by omega)).trans (hb4))
                  have h834 := (hF825.1 (B + 5) (by omega)).trans ((hF801.1 (B + 5) (by omega)).trans (hb5))
                  have hs835 : C_ws S826 B (gD G) (gW G) := C_ws.fr (P := fun q => 501 ≤ q ∧ q ≤ 529) hs (((X_Fr.rf).tr (X_Fr.mono ⟨hF801.1, hF801.2⟩ (fun q hq => (by omega)))).tr (X_Fr.mono ⟨hF825.1, hF825.2⟩ (fun q hq => (by omega)))) (fun k h1 h2 => by omega)
                  refine T_mono (c_sumK sc S826 oK2 B rc rn kn G tn fl (X_ro (i + 1) (j - 1)) (X_bS kd) (fun z => X_nm G z (i + 1) (j - 1) + (X_T_ G).2 z (i + 1) (j - 1)) h827 hoK2 hB ⟨h828, h830, h831, h832, h833, ⟨f, h834, hf⟩, ⟨by omega, by omega⟩, ⟨by omega, by omega⟩, ⟨by omega, by omega⟩⟩ hs835 hG (by omega) (fun z h1 h2 => (hOk2 _ (by omega)).trans (hRK z h1 h2))) (fun v836 S837 h838 => ?_)
                  rcases h838 with ⟨hv839, hf840⟩
                  rw [hv839]
                  rw [hf840]
                  show X_T sc 33 (142, [(6, .int (iI (X_bS kd))), (5, .int (iI kd)), (4, .int (iI (X_ro (i + 1) (j - 1)))), (3, .int (iI (X_ro i j))), (0, .ref 511), (1, .int (iI i)), (2, .int (iI j))], [.long (X_st (-2) (X_Su (fun k => X_if (X_bt (X_bS kd) k) ((fun z => X_nm G z (i + 1) (j - 1) + (X_T_ G).2 z (i + 1) (j - 1)) k)) 0 (gk G))), .int (iI (((X_ro i j) * 11) + kd)), .ref 512], S826) _
                  refine T_p xr_33_142 xn_33 (pc' := 143) (ls' := [(6, .int (iI (X_bS kd))), (5, .int (iI kd)), (4, .int (iI (X_ro (i + 1) (j - 1)))), (3, .int (iI (X_ro i j))), (0, .ref 511), (1, .int (iI i)), (2, .int (iI j))]) (st' := [.ref 511, .long (X_st (-2) (X_Su (fun k => X_if (X_bt (X_bS kd) k) ((fun z => X_nm G z (i + 1) (j - 1) + (X_T_ G).2 z (i + 1) (j - 1)) k)) 0 (gk G))), .int (iI (((X_ro i j) * 11) + kd)), .ref 512]) rfl ?_
                  refine T_p xr_33_143 xn_33 (pc' := 145) (ls' := [(6, .int (iI (X_bS kd))), (5, .int (iI kd)), (4, .int (iI (X_ro (i + 1) (j - 1)))), (3, .int (iI (X_ro i j))), (0, .ref 511), (1, .int (iI i)), (2, .int (iI j))]) (st' := [.int (iI (X_ro (i + 1) (j - 1))), .ref 511, .long (X_st (-2) (X_Su (fun k => X_if (X_bt (X_bS kd) k) ((fun z => X_nm G z (i + 1) (j - 1) + (X_T_ G).2 z (i + 1) (j - 1)) k)) 0 (gk G))), .int (iI (((X_ro i j) * 11) + kd)), .ref 512]) rfl ?_
                  refine T_p xr_33_145 xn_33 (pc' := 146) (ls' := [(6, .int (iI (X_bS kd))), (5, .int (iI kd)), (4, .int (iI (X_ro (i + 1) (j - 1)))), (3, .int (iI (X_ro i j))), (0, .ref 511), (1, .int (iI i)), (2, .int (iI j))]) (st' := [.ref 511, .int (iI (X_ro (i + 1) (j - 1))), .ref 511, .long (X_st (-2) (X_Su (fun k => X_if (X_bt (X_bS kd) k) ((fun z => X_nm G z (i + 1) (j - 1) + (X_T_ G).2 z (i + 1) (j - 1)) k)) 0 (gk G))), .int (iI (((X_ro i j) * 11) + kd)), .ref 512]) rfl ?_
                  refine T_get xr_33_146 h827 rfl (v := .ref B) rfl (pc' := 149) rfl ?_
                  refine T_p xr_33_149 xn_33 (pc' := 151) (ls' := [(6, .int (iI (X_bS kd))), (5, .int (iI kd)), (4, .int (iI (X_ro (i + 1) (j - 1)))), (3, .int (iI (X_ro i j))), (0, .ref 511), (1, .int (iI i)), (2, .int (iI j))]) (st' := [.int (iI (X_bS kd)), .ref B, .int (iI (X_ro (i + 1) (j - 1))), .ref 511, .long (X_st (-2) (X_Su (fun k => X_if (X_bt (X_bS kd) k) ((fun z => X_nm G z (i + 1) (j - 1) + (X_T_ G).2 z (i + 1) (j - 1)) k)) 0 (gk G))), .int (iI (((X_ro i j) * 11) + kd)), .ref 512]) rfl ?_
                  refine T_cv (S := S826) (q := B) xr_33_151 xf_15.1 xf_15.2.1 xn_15 (as := [.int (iI (X_bS kd))]) (r := [.int (iI (X_ro (i + 1) (j - 1))), .ref 511, .long (X_st (-2) (X_Su (fun k => X_if (X_bt (X_bS kd) k) ((fun z => X_nm G z (i + 1) (j - 1) + (X_T_ G).2 z (i + 1) (j - 1)) k)) 0 (gk G))), .int (iI (((X_ro i j) * 11) + kd)), .ref 512]) rfl h828 (Nat.le_of_ble_eq_true rfl) (Nat.le_of_ble_eq_true rfl) (pc' := 154) rfl (ls' := [(0, .ref B), (1, .int (iI (X_bS kd)))]) rfl ?_
                  refine T_mono (c_wordsOfKinds sc S826 B rc (gk G) (gw G) rn (gl G) kn (ga G) (gD G) (gW G) (X_bS kd) ⟨h828, h830, h831, h832, h833, ⟨f, h834, hf⟩, ⟨by omega, by omega⟩, ⟨by omega, by omega⟩, ⟨by omega, by omega⟩⟩ hs835) (fun v841 S842 h843 => ?_)
                  obtain ⟨r844, h845, hx846, h847⟩ := h843
                  rw [h845, h847]
                  show X_T sc 33 (154, [(6, .int (iI (X_bS kd))), (5, .int (iI kd)), (4, .int (iI (X_ro (i + 1) (j - 1)))), (3, .int (iI (X_ro i j))), (0, .ref 511), (1, .int (iI i)), (2, .int (iI j))], [.int (iI r844), .int (iI (X_ro (i + 1) (j - 1))), .ref 511, .long (X_st (-2) (X_Su (fun k => X_if (X_bt (X_bS kd) k) ((fun z => X_nm G z (i + 1) (j - 1) + (X_T_ G).2 z (i + 1) (j - 1)) k)) 0 (gk G))), .int (iI (((X_ro i j) * 11) + kd)), .ref 512], S826) _
                  refine T_cv (S := S826) (q := 511) xr_33_154 xf_30.1 xf_30.2.1 xn_30 (as := [.int (iI (X_ro (i + 1) (j - 1))), .int (iI r844)]) (r := [.long (X_st (-2) (X_Su (fun k => X_if (X_bt (X_bS kd) k) ((fun z => X_nm G z (i + 1) (j - 1) + (X_T_ G).2 z (i + 1) (j - 1)) k)) 0 (gk G))), .int (iI (((X_ro i j) * 11) + kd)), .ref 512]) rfl h827 (Nat.le_of_ble_eq_true rfl) (Nat.le_of_ble_eq_true rfl) (pc' := 157) rfl (ls' := [(0, .ref 511), (1, .int (iI (X_ro (i + 1) (j - 1)))), (2, .int (iI r844))]) rfl ?_
                  have h848 := (hF825.1 513 (by first | decide | omega)).trans ((hF801.1 513 (by first | decide | omega)).trans (hA513))
                  refine T_mono (c_sumW sc S826 oW B rc rn kn G tn fl (X_ro (i + 1) (j - 1)) r844 (fun v => (X_T_ G).1 v (i + 1) (j - 1)) h827 h848 hB ⟨h828, h830, h831, h832, h833, ⟨f, h834, hf⟩, ⟨by omega, by omega⟩, ⟨by omega, by omega⟩, ⟨by omega, by omega⟩⟩ hs835 hG (by omega) hRW) (fun v849 S850 h851 => ?_)
                  rcases h851 with ⟨hv852, hf853⟩
                  rw [hv852]
                  rw [hf853]
                  show X_T sc 33 (157, [(6, .int (iI (X_bS kd))), (5, .int (iI kd)), (4, .int (iI (X_ro (i + 1) (j - 1)))), (3, .int (iI (X_ro i j))), (0, .ref 511), (1, .int (iI i)), (2, .int (iI j))], [.long (X_st (-2) (X_Su (fun k => X_if (X_bt r844 k) ((fun v => (X_T_ G).1 v (i + 1) (j - 1)) k)) 0 (gw G))), .long (X_st (-2) (X_Su (fun k => X_if (X_bt (X_bS kd) k) ((fun z => X_nm G z (i + 1) (j - 1) + (X_T_ G).2 z (i + 1) (j - 1)) k)) 0 (gk G))), .int (iI (((X_ro i j) * 11) + kd)), .ref 512], S826) _
                  refine T_cs xr_33_157 (by decide) xf_134.1 xn_134 (as := [.long (X_st (-2) (X_Su (fun k => X_if (X_bt (X_bS kd) k) ((fun z => X_nm G z (i + 1) (j - 1) + (X_T_ G).2 z (i + 1) (j - 1)) k)) 0 (gk G))), .long (X_st (-2) (X_Su (fun k => X_if (X_bt r844 k) ((fun v => (X_T_ G).1 v (i + 1) (j - 1)) k)) 0 (gw G)))]) (r := [.int (iI (((X_ro i j) * 11) + kd)), .ref 512]) rfl (Nat.le_of_ble_eq_true rfl) (Nat.le_of_ble_eq_true rfl) (pc' := 160) rfl (ls' := [(0, .long (X_st (-2) (X_Su (fun k => X_if (X_bt (X_bS kd) k) ((fun z => X_nm G z (i + 1) (j - 1) + (X_T_ G).2 z (i + 1) (j - 1)) k)) 0 (gk G)))), (2, .long (X_st (-2) (X_Su (fun k => X_if (X_bt r844 k) ((fun v => (X_T_ G).1 v (i + 1) (j - 1)) k)) 0 (gw G))))]) rfl ?_
                  refine T_mono (c_plus sc S826 (X_Su (fun k => X_if (X_bt (X_bS kd) k) ((fun z => X_nm G z (i + 1) (j - 1) + (X_T_ G).2 z (i + 1) (j - 1)) k)) 0 (gk G)) (X_Su (fun k => X_if (X_bt r844 k) ((fun v => (X_T_ G).1 v (i + 1) (j - 1)) k)) 0 (gw G))) (fun v854 S855 h856 => ?_)
                  rcases h856 with ⟨hv857, hf858⟩
                  rw [hv857]
                  rw [hf858]
                  show X_T sc 33 (160, [(6, .int (iI (X_bS kd))), (5, .int (iI kd)), (4, .int (iI (X_ro (i + 1) (j - 1)))), (3, .int (iI (X_ro i j))), (0, .ref 511), (1, .int (iI i)), (2, .int (iI j))], [.long (X_st (-2) ((X_Su (fun k => X_if (X_bt (X_bS kd) k) ((fun z => X_nm G z (i + 1) (j - 1) + (X_T_ G).2 z (i + 1) (j - 1)) k)) 0 (gk G)) + (X_Su (fun k => X_if (X_bt r844 k) ((fun v => (X_T_ G).1 v (i + 1) (j - 1)) k)) 0 (gw G)))), .int (iI (((X_ro i j) * 11) + kd)), .ref 512], S826) _
                  refine T_le (y := (X_st (-2) (X_Kd G (X_T_ G) kd (i + 1) (j - 1)))) (by rw [← X_Kd_b hG hkd.1 hkk hx846]) ?_
                  refine T_zlast xr_33_160 hoK2 (pc' := 161) rfl (fun S859 h860 n861 e862 => ?_)
                  refine T_ziinc xr_33_161 xn_33 (a := kd) (z := kd + 1) rfl (Nat.le_of_ble_eq_true rfl) (by omega) (ls' := [(5, .int (iI (kd + 1))), (6, .int (iI (X_bS kd))), (4, .int (iI (X_ro (i + 1) (j - 1)))), (3, .int (iI (X_ro i j))), (0, .ref 511), (1, .int (iI i)), (2, .int (iI j))]) rfl (pc' := 164) rfl ?_
                  refine T_p xr_33_164 xn_33 (pc' := 105) (ls' := [(5, .int (iI (kd + 1))), (6, .int (iI (X_bS kd))), (4, .int (iI (X_ro (i + 1) (j - 1)))), (3, .int (iI (X_ro i j))), (0, .ref 511), (1, .int (iI i)), (2, .int (iI j))]) (st' := []) rfl ?_
                  refine T_sub (ls := [(5, .int (iI (kd + 1))), (4, .int (iI (X_ro (i + 1) (j - 1)))), (3, .int (iI (X_ro i j))), (0, .ref 511), (1, .int (iI i)), (2, .int (iI j))]) ⟨rfl, rfl, rfl, rfl, rfl, rfl, trivial⟩ rfl rfl ?_
                  exact ih822 S859 (kd + 1) (X_ug oK2 (((X_ro i j) * 11) + kd) (X_st (-2) (X_Kd G (X_T_ G) kd (i + 1) (j - 1)))) h860 (hF825.tr ((X_Fr.rf).tr (X_Fr.of n861 e862 (by first | decide | exact ⟨Nat.le_add_right _ _, Nat.add_le_add_left (by decide) _⟩ | omega)))) (by omega) (fun z h1 h2 => by
                        by_cases hz1 : z = kd
                        · subst hz1; rw [X_ug_s]
                        · rw [X_ug_n _ _ (by omega)]; exact hI z h1 (by omega)) (fun q hq => by rw [X_ug_n _ _ (by omega)]; exact hOk2 q hq) (by omega)
            exact L821 ((gk G) + 1).toNat S802 0 oK1 hoK1 ((X_Fr.rf)) (by omega) (fun z h1 h2 => absurd h2 (by omega)) hOk (by omega)
        · skip
          have c806 : ¬ (¬ j = (i + 1)) := c806
          refine T_p xr_33_47 xn_33 (pc' := 48) (ls' := [(4, .int (iI k)), (3, .int (iI (X_ro i j))), (0, .ref 511), (1, .int (iI i)), (2, .int (iI j))]) (st' := [.ref 511]) rfl ?_
          refine T_get xr_33_48 h803 rfl (v := .ref 501) rfl (pc' := 51) rfl ?_
          refine T_p xr_33_51 xn_33 (pc' := 52) (ls' := [(4, .int (iI k)), (3, .int (iI (X_ro i j))), (0, .ref 511), (1, .int (iI i)), (2, .int (iI j))]) (st' := [.int (iI i), .ref 501]) rfl ?_
          have h863 := (hF801.1 501 (by first | decide | omega)).trans (hO501)
          refine T_cv (S := S802) (q := 501) xr_33_52 xf_88.1 xf_88.2.1 xn_88 (as := [.int (iI i)]) (r := []) rfl h863 (Nat.le_of_ble_eq_true rfl) (Nat.le_of_ble_eq_true rfl) (pc' := 55) rfl (ls' := [(0, .ref 501), (1, .int (iI i))]) rfl ?_
          have h864 := (hF801.1 502 (by first | decide | omega)).trans (hA502)
          refine T_mono (c_sIsNumber sc S802 tn G i h863 h864 (by omega)) (fun v865 S866 h867 => ?_)
          rcases h867 with ⟨hv868, hf869⟩
          rw [hv868]
          rw [hf869]
          show X_T sc 33 (55, [(4, .int (iI k)), (3, .int (iI (X_ro i j))), (0, .ref 511), (1, .int (iI i)), (2, .int (iI j))], [.int (iI (bI (0 ≤ X_nv (gt G i))))], S802) _
          refine T_bif_eq xr_33_55 (t := 167) (pc' := 58) rfl rfl (fun c870 => ?_) (fun c870 => ?_)
          · skip
            have c870 : ¬ (0 ≤ X_nv (gt G i)) := c870
            refine T_vret xr_33_167 xf_33.2.2 ?_
            refine hQ _ _ ?_
            exact ⟨oK1, rfl, (fun k h1 h2 => by
                  first
                    | (rw [(X_nmB (k := k) hij.2.1 (by omega)).1 (by omega), X_if_f (fun z => absurd z.1 (by assumption))]; exact hz k h1 (by omega))
                    | (rw [(X_nmB (k := k) hij.2.1 (by omega)).2 (by omega), X_if_f (by assumption)]; exact hz k h1 (by omega))), hOk, hoK1, (X_Fr.rf).tr (X_Fr.mono ⟨hF801.1, hF801.2⟩ (fun q hq => (by omega)))⟩
          · skip
            have c870 : (0 ≤ X_nv (gt G i)) := c870
            refine T_p xr_33_58 xn_33 (pc' := 59) (ls' := [(4, .int (iI k)), (3, .int (iI (X_ro i j))), (0, .ref 511), (1, .int (iI i)), (2, .int (iI j))]) (st' := [.ref 511]) rfl ?_
            refine T_get xr_33_59 h803 rfl (v := .ref 512) rfl (pc' := 62) rfl ?_
            refine T_p xr_33_62 xn_33 (pc' := 63) (ls' := [(4, .int (iI k)), (3, .int (iI (X_ro i j))), (0, .ref 511), (1, .int (iI i)), (2, .int (iI j))]) (st' := [.int (iI (X_ro i j)), .ref 512]) rfl ?_
            refine T_p xr_33_63 xn_33 (pc' := 65) (ls' := [(4, .int (iI k)), (3, .int (iI (X_ro i j))), (0, .ref 511), (1, .int (iI i)), (2, .int (iI j))]) (st' := [.int (iI 11), .int (iI (X_ro i j)), .ref 512]) rfl ?_
            refine T_zimul xr_33_65 (z := (X_ro i j) * 11) rfl (pc' := 66) rfl ?_
            refine T_p xr_33_66 xn_33 (pc' := 67) (ls' := [(4, .int (iI k)), (3, .int (iI (X_ro i j))), (0, .ref 511), (1, .int (iI i)), (2, .int (iI j))]) (st' := [.ref 511, .int (iI ((X_ro i j) * 11)), .ref 512]) rfl ?_
            refine T_get xr_33_67 h803 rfl (v := .ref B) rfl (pc' := 70) rfl ?_
            refine T_cv (S := S802) (q := B) xr_33_70 xf_13.1 xf_13.2.1 xn_13 (as := []) (r := [.int (iI ((X_ro i j) * 11)), .ref 512]) rfl h804 (Nat.le_of_ble_eq_true rfl) (Nat.le_of_ble_eq_true rfl) (pc' := 73) rfl (ls' := [(0, .ref B)]) rfl ?_
            have h871 := (hF801.1 (B + 1) (by omega)).trans (hb1)
            have h872 := (hF801.1 (B + 2) (by omega)).trans (hb2)
            have h873 := (hF801.1 (B + 3) (by omega)).trans (hb3)
            have h874 := (hF801.1 (B + 4) (by omega)).trans (hb4)
            have h875 := (hF801.1 (B + 5) (by omega)).trans (hb5)
            refine T_mono (c_numberKind sc S802 B rc (gk G) (gw G) rn (gl G) kn (ga G) ⟨h804, h871, h872, h873, h874, ⟨f, h875, hf⟩, ⟨by omega, by omega⟩, ⟨by omega, by omega⟩, ⟨by omega, by omega⟩⟩) (fun v877 S878 h876 => ?_)
            obtain ⟨h879, h880⟩ := h876
            rw [h879, h880]
            show X_T sc 33 (73, [(4, .int (iI k)), (3, .int (iI (X_ro i j))), (0, .ref 511), (1, .int (iI i)), (2, .int (iI j))], [.int (iI (bI (1 < (gk G)))), .int (iI ((X_ro i j) * 11)), .ref 512], S802) _
            have hbr := bI_r (1 < gk G)
            refine T_ziadd xr_33_73 (z := ((X_ro i j) * 11) + (bI (1 < (gk G)))) rfl (pc' := 74) rfl ?_
            refine T_p xr_33_74 xn_33 (pc' := 75) (ls' := [(4, .int (iI k)), (3, .int (iI (X_ro i j))), (0, .ref 511), (1, .int (iI i)), (2, .int (iI j))]) (st' := [.long (iL 1), .int (iI (((X_ro i j) * 11) + (bI (1 < (gk G))))), .ref 512]) rfl ?_
            refine T_zlast xr_33_75 hoK1 (pc' := 76) rfl (fun S881 h882 n883 e884 => ?_)
            refine T_p xr_33_76 xn_33 (pc' := 167) (ls' := [(4, .int (iI k)), (3, .int (iI (X_ro i j))), (0, .ref 511), (1, .int (iI i)), (2, .int (iI j))]) (st' := []) rfl ?_
            refine T_vret xr_33_167 xf_33.2.2 ?_
            refine hQ _ _ ?_
            exact ⟨(X_ug oK1 (((X_ro i j) * 11) + (bI (1 < (gk G)))) (iL 1)), rfl, (fun k h1 h2 => by
                  rw [(X_nmB (k := k) hij.2.1 (by omega)).1 (by omega)]
                  by_cases hk : k = bI (1 < gk G)
                  · rw [X_if_t ⟨by assumption, hk⟩, hk, X_ug_s]; rfl
                  · rw [X_if_f (fun z => hk z.2), X_ug_n _ _ (by omega)]; exact hz k h1 (by omega)), (fun q hq => by rw [X_ug_n _ _ (by omega)]; exact hOk q hq), h882, ((X_Fr.rf).tr (X_Fr.mono ⟨hF801.1, hF801.2⟩ (fun q hq => (by omega)))).tr (X_Fr.of n883 e884 (by first | decide | exact ⟨Nat.le_add_right _ _, Nat.add_le_add_left (by decide) _⟩ | omega))⟩
      · skip
        have c805 : ¬ ((gk G) ≤ k) := c805
        refine T_p xr_33_21 xn_33 (pc' := 22) (ls' := [(4, .int (iI k)), (3, .int (iI (X_ro i j))), (0, .ref 511), (1, .int (iI i)), (2, .int (iI j))]) (st' := [.ref 511]) rfl ?_
        refine T_get xr_33_22 h803 rfl (v := .ref 512) rfl (pc' := 25) rfl ?_
        refine T_p xr_33_25 xn_33 (pc' := 26) (ls' := [(4, .int (iI k)), (3, .int (iI (X_ro i j))), (0, .ref 511), (1, .int (iI i)), (2, .int (iI j))]) (st' := [.int (iI (X_ro i j)), .ref 512]) rfl ?_
        refine T_p xr_33_26 xn_33 (pc' := 28) (ls' := [(4, .int (iI k)), (3, .int (iI (X_ro i j))), (0, .ref 511), (1, .int (iI i)), (2, .int (iI j))]) (st' := [.int (iI 11), .int (iI (X_ro i j)), .ref 512]) rfl ?_
        refine T_zimul xr_33_28 (z := (X_ro i j) * 11) rfl (pc' := 29) rfl ?_
        refine T_p xr_33_29 xn_33 (pc' := 31) (ls' := [(4, .int (iI k)), (3, .int (iI (X_ro i j))), (0, .ref 511), (1, .int (iI i)), (2, .int (iI j))]) (st' := [.int (iI k), .int (iI ((X_ro i j) * 11)), .ref 512]) rfl ?_
        refine T_ziadd xr_33_31 (z := ((X_ro i j) * 11) + k) rfl (pc' := 32) rfl ?_
        refine T_p xr_33_32 xn_33 (pc' := 33) (ls' := [(4, .int (iI k)), (3, .int (iI (X_ro i j))), (0, .ref 511), (1, .int (iI i)), (2, .int (iI j))]) (st' := [.long (iL 0), .int (iI (((X_ro i j) * 11) + k)), .ref 512]) rfl ?_
        refine T_zlast xr_33_33 hoK1 (pc' := 34) rfl (fun S885 h886 n887 e888 => ?_)
        refine T_ziinc xr_33_34 xn_33 (a := k) (z := k + 1) rfl (Nat.le_of_ble_eq_true rfl) (by omega) (ls' := [(4, .int (iI (k + 1))), (3, .int (iI (X_ro i j))), (0, .ref 511), (1, .int (iI i)), (2, .int (iI j))]) rfl (pc' := 37) rfl ?_
        refine T_p xr_33_37 xn_33 (pc' := 9) (ls' := [(4, .int (iI (k + 1))), (3, .int (iI (X_ro i j))), (0, .ref 511), (1, .int (iI i)), (2, .int (iI j))]) (st' := []) rfl ?_
        exact ih798 S885 (k + 1) (X_ug oK1 (((X_ro i j) * 11) + k) (iL 0)) h886 (hF801.tr ((X_Fr.rf).tr (X_Fr.of n887 e888 (by first | decide | exact ⟨Nat.le_add_right _ _, Nat.add_le_add_left (by decide) _⟩ | omega)))) (by omega) (fun z h1 h2 => by
              by_cases hz1 : z = k
              · subst hz1; rw [X_ug_s]
              · rw [X_ug_n _ _ (by omega)]; exact hz z h1 (by omega)) (fun q hq => by rw [X_ug_n _ _ (by omega)]; exact hOk q hq) (by omega)
  exact L797 ((gk G) + 1).toNat S 0 oK hA512 ((X_Fr.rf)) (by omega) (fun z h1 h2 => absurd h2 (by omega)) (fun _ _ => rfl) (by omega)
end
section
theorem xr_31_0 : X_row 31 0 = some (0, (.aload_n 0, 1), (0, 0, 0)) := by decide +kernel
theorem xr_31_1 : X_row 31 1 = some (1, (.getfield 9, 3), (1, 2, 26)) := by decide +kernel
theorem xr_31_4 : X_row 31 4 = some (4, (.ifCond .eq 4, 3), (0, 0, 0)) := by decide +kernel
theorem xr_31_7 : X_row 31 7 = some (7, (.return_, 1), (0, 0, 0)) := by decide +kernel
theorem xr_31_8 : X_row 31 8 = some (8, (.aload_n 0, 1), (0, 0, 0)) := by decide +kernel
theorem xr_31_9 : X_row 31 9 = some (9, (.iconst 1, 1), (0, 0, 0)) := by decide +kernel
theorem xr_31_10 : X_row 31 10 = some (10, (.putfield 9, 3), (1, 2, 26)) := by decide +kernel
theorem xr_31_13 : X_row 31 13 = some (13, (.iconst 1, 1), (0, 0, 0)) := by decide +kernel
theorem xr_31_14 : X_row 31 14 = some (14, (.istore_n 1, 1), (0, 0, 0)) := by decide +kernel
theorem xr_31_15 : X_row 31 15 = some (15, (.iload_n 1, 1), (0, 0, 0)) := by decide +kernel
theorem xr_31_16 : X_row 31 16 = some (16, (.aload_n 0, 1), (0, 0, 0)) := by decide +kernel
theorem xr_31_17 : X_row 31 17 = some (17, (.getfield 36, 3), (1, 1, 24)) := by decide +kernel
theorem xr_31_20 : X_row 31 20 = some (20, (.getfield 65, 3), (6, 0, 19)) := by decide +kernel
theorem xr_31_23 : X_row 31 23 = some (23, (.if_icmp .gt 29, 3), (0, 0, 0)) := by decide +kernel
theorem xr_31_26 : X_row 31 26 = some (26, (.iload_n 1, 1), (0, 0, 0)) := by decide +kernel
theorem xr_31_27 : X_row 31 27 = some (27, (.iconst 1, 1), (0, 0, 0)) := by decide +kernel
theorem xr_31_28 : X_row 31 28 = some (28, (.isub, 1), (0, 0, 0)) := by decide +kernel
theorem xr_31_29 : X_row 31 29 = some (29, (.istore_n 2, 1), (0, 0, 0)) := by decide +kernel
theorem xr_31_30 : X_row 31 30 = some (30, (.iload_n 2, 1), (0, 0, 0)) := by decide +kernel
theorem xr_31_31 : X_row 31 31 = some (31, (.ifCond .lt 15, 3), (0, 0, 0)) := by decide +kernel
theorem xr_31_34 : X_row 31 34 = some (34, (.aload_n 0, 1), (0, 0, 0)) := by decide +kernel
theorem xr_31_35 : X_row 31 35 = some (35, (.iload_n 2, 1), (0, 0, 0)) := by decide +kernel
theorem xr_31_36 : X_row 31 36 = some (36, (.iload_n 1, 1), (0, 0, 0)) := by decide +kernel
theorem xr_31_37 : X_row 31 37 = some (37, (.invokevirtual 70, 3), (32, 0, 0)) := by decide +kernel
theorem xr_31_40 : X_row 31 40 = some (40, (.iinc 2 (-1), 3), (0, 0, 0)) := by decide +kernel
theorem xr_31_43 : X_row 31 43 = some (43, (.goto (-13), 3), (0, 0, 0)) := by decide +kernel
theorem xr_31_46 : X_row 31 46 = some (46, (.iinc 1 1, 3), (0, 0, 0)) := by decide +kernel
theorem xr_31_49 : X_row 31 49 = some (49, (.goto (-34), 3), (0, 0, 0)) := by decide +kernel
theorem xr_31_52 : X_row 31 52 = some (52, (.return_, 1), (0, 0, 0)) := by decide +kernel
theorem xr_32_0 : X_row 32 0 = some (0, (.iload_n 1, 1), (0, 0, 0)) := by decide +kernel
theorem xr_32_1 : X_row 32 1 = some (1, (.iload_n 2, 1), (0, 0, 0)) := by decide +kernel
theorem xr_32_2 : X_row 32 2 = some (2, (.invokestatic 40, 3), (24, 2, 0)) := by decide +kernel
theorem xr_32_5 : X_row 32 5 = some (5, (.istore_n 3, 1), (0, 0, 0)) := by decide +kernel
theorem xr_32_6 : X_row 32 6 = some (6, (.iconst 0, 1), (0, 0, 0)) := by decide +kernel
theorem xr_32_7 : X_row 32 7 = some (7, (.istore 4, 2), (0, 0, 0)) := by decide +kernel
theorem xr_32_9 : X_row 32 9 = some (9, (.iload 4, 2), (0, 0, 0)) := by decide +kernel
theorem xr_32_11 : X_row 32 11 = some (11, (.aload_n 0, 1), (0, 0, 0)) := by decide +kernel
theorem xr_32_12 : X_row 32 12 = some (12, (.getfield 32, 3), (1, 0, 22)) := by decide +kernel
theorem xr_32_15 : X_row 32 15 = some (15, (.getfield 62, 3), (0, 2, 15)) := by decide +kernel
theorem xr_32_18 : X_row 32 18 = some (18, (.if_icmp .ge 48, 3), (0, 0, 0)) := by decide +kernel
theorem xr_32_21 : X_row 32 21 = some (21, (.aload_n 0, 1), (0, 0, 0)) := by decide +kernel
theorem xr_32_22 : X_row 32 22 = some (22, (.iload 4, 2), (0, 0, 0)) := by decide +kernel
theorem xr_32_24 : X_row 32 24 = some (24, (.iconst 0, 1), (0, 0, 0)) := by decide +kernel
theorem xr_32_25 : X_row 32 25 = some (25, (.iload_n 1, 1), (0, 0, 0)) := by decide +kernel
theorem xr_32_26 : X_row 32 26 = some (26, (.iload_n 2, 1), (0, 0, 0)) := by decide +kernel
theorem xr_32_27 : X_row 32 27 = some (27, (.invokevirtual 74, 3), (37, 4, 0)) := by decide +kernel
theorem xr_32_30 : X_row 32 30 = some (30, (.lstore 5, 2), (0, 0, 0)) := by decide +kernel
theorem xr_32_32 : X_row 32 32 = some (32, (.aload_n 0, 1), (0, 0, 0)) := by decide +kernel
theorem xr_32_33 : X_row 32 33 = some (33, (.getfield 29, 3), (1, 7, 36)) := by decide +kernel
theorem xr_32_36 : X_row 32 36 = some (36, (.iload 4, 2), (0, 0, 0)) := by decide +kernel
theorem xr_32_38 : X_row 32 38 = some (38, (.iconst 0, 1), (0, 0, 0)) := by decide +kernel
theorem xr_32_39 : X_row 32 39 = some (39, (.iload_n 1, 1), (0, 0, 0)) := by decide +kernel
theorem xr_32_40 : X_row 32 40 = some (40, (.invokestatic 78, 3), (25, 10, 0)) := by decide +kernel
theorem xr_32_43 : X_row 32 43 = some (43, (.lload 5, 2), (0, 0, 0)) := by decide +kernel
theorem xr_32_45 : X_row 32 45 = some (45, (.lastore, 1), (0, 0, 0)) := by decide +kernel
theorem xr_32_46 : X_row 32 46 = some (46, (.aload_n 0, 1), (0, 0, 0)) := by decide +kernel
theorem xr_32_47 : X_row 32 47 = some (47, (.getfield 19, 3), (1, 4, 30)) := by decide +kernel
theorem xr_32_50 : X_row 32 50 = some (50, (.iload_n 3, 1), (0, 0, 0)) := by decide +kernel
theorem xr_32_51 : X_row 32 51 = some (51, (.bipush 30, 2), (0, 0, 0)) := by decide +kernel
theorem xr_32_53 : X_row 32 53 = some (53, (.imul, 1), (0, 0, 0)) := by decide +kernel
theorem xr_32_54 : X_row 32 54 = some (54, (.iload 4, 2), (0, 0, 0)) := by decide +kernel
theorem xr_32_56 : X_row 32 56 = some (56, (.iadd, 1), (0, 0, 0)) := by decide +kernel
theorem xr_32_57 : X_row 32 57 = some (57, (.lload 5, 2), (0, 0, 0)) := by decide +kernel
theorem xr_32_59 : X_row 32 59 = some (59, (.lastore, 1), (0, 0, 0)) := by decide +kernel
theorem xr_32_60 : X_row 32 60 = some (60, (.iinc 4 1, 3), (0, 0, 0)) := by decide +kernel
theorem xr_32_63 : X_row 32 63 = some (63, (.goto (-54), 3), (0, 0, 0)) := by decide +kernel
theorem xr_32_66 : X_row 32 66 = some (66, (.aload_n 0, 1), (0, 0, 0)) := by decide +kernel
theorem xr_32_67 : X_row 32 67 = some (67, (.iload_n 1, 1), (0, 0, 0)) := by decide +kernel
theorem xr_32_68 : X_row 32 68 = some (68, (.iload_n 2, 1), (0, 0, 0)) := by decide +kernel
theorem xr_32_69 : X_row 32 69 = some (69, (.invokevirtual 82, 3), (33, 18, 0)) := by decide +kernel
theorem xr_32_72 : X_row 32 72 = some (72, (.aload_n 0, 1), (0, 0, 0)) := by decide +kernel
theorem xr_32_73 : X_row 32 73 = some (73, (.getfield 22, 3), (1, 5, 32)) := by decide +kernel
theorem xr_32_76 : X_row 32 76 = some (76, (.iload_n 3, 1), (0, 0, 0)) := by decide +kernel
theorem xr_32_77 : X_row 32 77 = some (77, (.aload_n 0, 1), (0, 0, 0)) := by decide +kernel
theorem xr_32_78 : X_row 32 78 = some (78, (.iload_n 3, 1), (0, 0, 0)) := by decide +kernel
theorem xr_32_79 : X_row 32 79 = some (79, (.iconst (-1), 1), (0, 0, 0)) := by decide +kernel
theorem xr_32_80 : X_row 32 80 = some (80, (.invokevirtual 44, 3), (29, 26, 0)) := by decide +kernel
theorem xr_32_83 : X_row 32 83 = some (83, (.aload_n 0, 1), (0, 0, 0)) := by decide +kernel
theorem xr_32_84 : X_row 32 84 = some (84, (.iload_n 3, 1), (0, 0, 0)) := by decide +kernel
theorem xr_32_85 : X_row 32 85 = some (85, (.iconst (-1), 1), (0, 0, 0)) := by decide +kernel
theorem xr_32_86 : X_row 32 86 = some (86, (.invokevirtual 85, 3), (30, 32, 0)) := by decide +kernel
theorem xr_32_89 : X_row 32 89 = some (89, (.invokestatic 58, 3), (134, 17, 0)) := by decide +kernel
theorem xr_32_92 : X_row 32 92 = some (92, (.lastore, 1), (0, 0, 0)) := by decide +kernel
theorem xr_32_93 : X_row 32 93 = some (93, (.iconst 0, 1), (0, 0, 0)) := by decide +kernel
theorem xr_32_94 : X_row 32 94 = some (94, (.istore 4, 2), (0, 0, 0)) := by decide +kernel
theorem xr_32_96 : X_row 32 96 = some (96, (.iload 4, 2), (0, 0, 0)) := by decide +kernel
theorem xr_32_98 : X_row 32 98 = some (98, (.aload_n 0, 1), (0, 0, 0)) := by decide +kernel
theorem xr_32_99 : X_row 32 99 = some (99, (.getfield 32, 3), (1, 0, 22)) := by decide +kernel
theorem xr_32_102 : X_row 32 102 = some (102, (.getfield 62, 3), (0, 2, 15)) := by decide +kernel
theorem xr_32_105 : X_row 32 105 = some (105, (.if_icmp .ge 24, 3), (0, 0, 0)) := by decide +kernel
theorem xr_32_108 : X_row 32 108 = some (108, (.aload_n 0, 1), (0, 0, 0)) := by decide +kernel
theorem xr_32_109 : X_row 32 109 = some (109, (.iload_n 3, 1), (0, 0, 0)) := by decide +kernel
theorem xr_32_110 : X_row 32 110 = some (110, (.iload 4, 2), (0, 0, 0)) := by decide +kernel
theorem xr_32_112 : X_row 32 112 = some (112, (.invokevirtual 88, 3), (34, 34, 0)) := by decide +kernel
theorem xr_32_115 : X_row 32 115 = some (115, (.aload_n 0, 1), (0, 0, 0)) := by decide +kernel
theorem xr_32_116 : X_row 32 116 = some (116, (.iload 4, 2), (0, 0, 0)) := by decide +kernel
theorem xr_32_118 : X_row 32 118 = some (118, (.iload_n 1, 1), (0, 0, 0)) := by decide +kernel
theorem xr_32_119 : X_row 32 119 = some (119, (.iload_n 2, 1), (0, 0, 0)) := by decide +kernel
theorem xr_32_120 : X_row 32 120 = some (120, (.invokevirtual 91, 3), (35, 36, 0)) := by decide +kernel
theorem xr_32_123 : X_row 32 123 = some (123, (.iinc 4 1, 3), (0, 0, 0)) := by decide +kernel
theorem xr_32_126 : X_row 32 126 = some (126, (.goto (-30), 3), (0, 0, 0)) := by decide +kernel
theorem xr_32_129 : X_row 32 129 = some (129, (.return_, 1), (0, 0, 0)) := by decide +kernel
theorem xn_31 : X_nL 31 = 3 := by decide +kernel
theorem xf_31 : X_na 31 = 0 ∧ X_ci 31 = 1 ∧ X_rt 31 = none := by decide +kernel
theorem xn_32 : X_nL 32 = 7 := by decide +kernel
theorem xf_32 : X_na 32 = 2 ∧ X_ci 32 = 1 ∧ X_rt 32 = none := by decide +kernel
set_option maxHeartbeats 1600000 in
theorem c_fillStretch (sc : X_Sc) (S : X_S) (oK : Int → Int64) (oW : Int → Int64) (oA : Int → Int64) (oH : Int → Int64) (tl : Int → Int64) (B : Nat) (rc : Int) (rn : Int → Int64) (kn : Int → Int64) (G : X_G) (tn : Int) (fl : Int) (i : Int) (j : Int) (hO501 : S.1 501 = .inr (6, [.int (iI tn), .ref 502, .ref 503])) (hO511 : S.1 511 = .inr (1, [.ref B, .ref 501, .int (iI fl), .ref 512, .ref 513, .ref 514, .ref 515, .ref 516])) (hA512 : S.1 512 = .inl (.long, 5115, .inr (.inl fun k : Nat => oK (k : Int)))) (hA513 : S.1 513 = .inl (.long, 13950, .inr (.inl fun k : Nat => oW (k : Int)))) (hA514 : S.1 514 = .inl (.long, 465, .inr (.inl fun k : Nat => oA (k : Int)))) (hA515 : S.1 515 = .inl (.long, 55800, .inr (.inl fun k : Nat => oH (k : Int)))) (hA516 : S.1 516 = .inl (.long, 7200, .inr (.inl fun k : Nat => tl (k : Int)))) (hB : B = 4 ∨ B = 250) (hb : C_bk S B rc (gk G) (gw G) rn (gl G) kn (ga G)) (hs : C_ws S B (gD G) (gW G)) (hG : X_Gok G) (hA502 : S.1 502 = .inl (.long, 30, .inr (.inl fun k : Nat => (gt G) (k : Int)))) (hij : 0 ≤ i ∧ i < j ∧ j ≤ tn ∧ tn ≤ 30) (hC : ∀ i2 j2, 0 ≤ i2 → i2 < j2 → j2 ≤ j → (j2 = j → i < i2) → X_rw G (-2) i2 j2 oK oW oA oH) (ht : ∀ w, 0 ≤ w → w < gw G → ∀ q, i < q → q < j → X_tl G (-2) w q j tl) : X_T sc 32 (0, [(0, .ref 511), (1, .int (iI i)), (2, .int (iI j))], [], S) (fun v S' => ∃ (oK1 : Int → Int64) (oW1 : Int → Int64) (oA1 : Int → Int64) (oH1 : Int → Int64) (tl1 : Int → Int64), v = none ∧ X_rw G (-2) i j oK1 oW1 oA1 oH1 ∧ (∀ w, 0 ≤ w → w < gw G → ∀ q, i ≤ q → q < j → X_tl G (-2) w q j tl1) ∧ (∀ q, ¬ (X_ro i j * 11 ≤ q ∧ q < X_ro i j * 11 + 11) → oK1 q = oK q) ∧ (∀ q, ¬ (X_ro i j * 30 ≤ q ∧ q < X_ro i j * 30 + 30) → oW1 q = oW q) ∧ (∀ q, ¬ q = X_ro i j → oA1 q = oA q) ∧ (∀ q, ¬ (X_ro i j * 120 ≤ q ∧ q < X_ro i j * 120 + 120) → oH1 q = oH q) ∧ S'.1 512 = .inl (.long, 5115, .inr (.inl fun k : Nat => oK1 (k : Int))) ∧ S'.1 513 = .inl (.long, 13950, .inr (.inl fun k : Nat => oW1 (k : Int))) ∧ S'.1 514 = .inl (.long, 465, .inr (.inl fun k : Nat => oA1 (k : Int))) ∧ S'.1 515 = .inl (.long, 55800, .inr (.inl fun k : Nat => oH1 (k : Int))) ∧ S'.1 516 = .inl (.long, 7200, .inr (.inl fun k : Nat => tl1 (k : Int))) ∧ (X_Fr (fun q => q = 512 ∨ q = 513 ∨ q = 514 ∨ q = 515 ∨ q = 516) S S')) := by
  obtain ⟨hb0, hb1, hb2, hb3, hb4, ⟨f, hb5, hf⟩, ⟨hrc, hrcb⟩, ⟨hkc, hkcb⟩, ⟨hwc, hwcb⟩⟩ := id hb
  have hro := X_ro_r hij.1 hij.2.1 (show j ≤ 30 by omega)
  refine X_QI (fun Q hQ => ?_)
  refine T_p xr_32_0 xn_32 (pc' := 1) (ls' := [(0, .ref 511), (1, .int (iI i)), (2, .int (iI j))]) (st' := [.int (iI i)]) rfl ?_
  refine T_p xr_32_1 xn_32 (pc' := 2) (ls' := [(0, .ref 511), (1, .int (iI i)), (2, .int (iI j))]) (st' := [.int (iI j), .int (iI i)]) rfl ?_
  refine T_cs xr_32_2 (by decide) xf_24.1 xn_24 (as := [.int (iI i), .int (iI j)]) (r := []) rfl (Nat.le_of_ble_eq_true rfl) (Nat.le_of_ble_eq_true rfl) (pc' := 5) rfl (ls' := [(0, .int (iI i)), (1, .int (iI j))]) rfl ?_
  refine T_mono (c_rowOf sc S i j (by omega)) (fun v889 S890 h891 => ?_)
  rcases h891 with ⟨hv892, hf893⟩
  rw [hv892]
  rw [hf893]
  have hr894 := X_ro_r (i := i) (j := j) (by omega) (by omega) (by omega)
  show X_T sc 32 (5, [(0, .ref 511), (1, .int (iI i)), (2, .int (iI j))], [.int (iI (X_ro i j))], S) _
  refine T_p xr_32_5 xn_32 (pc' := 6) (ls' := [(3, .int (iI (X_ro i j))), (0, .ref 511), (1, .int (iI i)), (2, .int (iI j))]) (st' := []) rfl ?_
  refine T_p xr_32_6 xn_32 (pc' := 7) (ls' := [(3, .int (iI (X_ro i j))), (0, .ref 511), (1, .int (iI i)), (2, .int (iI j))]) (st' := [.int (iI 0)]) rfl ?_
  refine T_p xr_32_7 xn_32 (pc' := 9) (ls' := [(4, .int (iI 0)), (3, .int (iI (X_ro i j))), (0, .ref 511), (1, .int (iI i)), (2, .int (iI j))]) (st' := []) rfl ?_
  have L895 : ∀ (m897 : Nat) (S900 : X_S) (w : Int) (tl1 : Int → Int64) (oW1 : Int → Int64) (htl1 : S900.1 516 = .inl (.long, 7200, .inr (.inl fun k : Nat => tl1 (k : Int)))) (hoW1 : S900.1 513 = .inl (.long, 13950, .inr (.inl fun k : Nat => oW1 (k : Int)))) (hF899 : X_Fr (fun q => q = 516 ∨ q = 513) S S900) (hw : 0 ≤ w ∧ w ≤ gw G) (hT1 : ∀ w, 0 ≤ w → w < gw G → ∀ q, i < q → q < j → X_tl G (-2) w q j tl1) (hW1 : ∀ v, 0 ≤ v → v < w → oW1 (X_ro i j * 30 + v) = X_st (-2) ((X_T_ G).1 v i j)) (hOW : ∀ q, ¬ (X_ro i j * 30 ≤ q ∧ q < X_ro i j * 30 + 30) → oW1 q = oW q) (hm898 : gw G - w < m897), X_T sc 32 (9, [(4, .int (iI w)), (3, .int (iI (X_ro i j))), (0, .ref 511), (1, .int (iI i)), (2, .int (iI j))], [], S900) Q := by
    intro m897
    induction m897 with
    | zero =>
      intro S900 w tl1 oW1 htl1 hoW1 hF899 hw hT1 hW1 hOW hm898
      exact (show False by omega).elim
    | succ m897 ih896 =>
      intro S900 w tl1 oW1 htl1 hoW1 hF899 hw hT1 hW1 hOW hm898
      refine T_p xr_32_9 xn_32 (pc' := 11) (ls' := [(4, .int (iI w)), (3, .int (iI (X_ro i j))), (0, .ref 511), (1, .int (iI i)), (2, .int (iI j))]) (st' := [.int (iI w)]) rfl ?_
      refine T_p xr_32_11 xn_32 (pc' := 12) (ls' := [(4, .int (iI w)), (3, .int (iI (X_ro i j))), (0, .ref 511), (1, .int (iI i)), (2, .int (iI j))]) (st' := [.ref 511, .int (iI w)]) rfl ?_
      have h901 := (hF899.1 511 (by first | decide | omega)).trans (hO511)
      refine T_get xr_32_12 h901 rfl (v := .ref B) rfl (pc' := 15) rfl ?_
      have h902 := (hF899.1 B (by omega)).trans (hb0)
      refine T_get xr_32_15 h902 rfl (v := .int (iI (gw G))) rfl (pc' := 18) rfl ?_
      refine T_zicmp_ge xr_32_18 (t := 66) (pc' := 21) rfl rfl (fun c903 => ?_) (fun c903 => ?_)
      · skip
        have c903 : (gw G) ≤ w := c903
        refine T_p xr_32_66 xn_32 (pc' := 67) (ls' := [(4, .int (iI w)), (3, .int (iI (X_ro i j))), (0, .ref 511), (1, .int (iI i)), (2, .int (iI j))]) (st' := [.ref 511]) rfl ?_
        refine T_p xr_32_67 xn_32 (pc' := 68) (ls' := [(4, .int (iI w)), (3, .int (iI (X_ro i j))), (0, .ref 511), (1, .int (iI i)), (2, .int (iI j))]) (st' := [.int (iI i), .ref 511]) rfl ?_
        refine T_p xr_32_68 xn_32 (pc' := 69) (ls' := [(4, .int (iI w)), (3, .int (iI (X_ro i j))), (0, .ref 511), (1, .int (iI i)), (2, .int (iI j))]) (st' := [.int (iI j), .int (iI i), .ref 511]) rfl ?_
        refine T_cv (S := S900) (q := 511) xr_32_69 xf_33.1 xf_33.2.1 xn_33 (as := [.int (iI i), .int (iI j)]) (r := []) rfl h901 (Nat.le_of_ble_eq_true rfl) (Nat.le_of_ble_eq_true rfl) (pc' := 72) rfl (ls' := [(0, .ref 511), (1, .int (iI i)), (2, .int (iI j))]) rfl ?_
        have h904 := (hF899.1 512 (by first | decide | omega)).trans (hA512)
        have h905 := (hF899.1 501 (by first | decide | omega)).trans (hO501)
        have h906 := (hF899.1 (B + 1) (by omega)).trans (hb1)
        have h907 := (hF899.1 (B + 2) (by omega)).trans (hb2)
        have h908 := (hF899.1 (B + 3) (by omega)).trans (hb3)
        have h909 := (hF899.1 (B + 4) (by omega)).trans (hb4)
        have h910 := (hF899.1 (B + 5) (by omega)).trans (hb5)
        have hs911 : C_ws S900 B (gD G) (gW G) := C_ws.fr (P := fun q => 501 ≤ q ∧ q ≤ 529) hs ((X_Fr.rf).tr (X_Fr.mono ⟨hF899.1, hF899.2⟩ (fun q hq => (by omega)))) (fun k h1 h2 => by omega)
        have h912 := (hF899.1 502 (by first | decide | omega)).trans (hA502)
        refine T_mono (c_fillKinds sc S900 oK oW1 B rc rn kn G tn fl i j h905 h901 h904 hoW1 hB ⟨h902, h906, h907, h908, h909, ⟨f, h910, hf⟩, ⟨by omega, by omega⟩, ⟨by omega, by omega⟩, ⟨by omega, by omega⟩⟩ hs911 hG h912 (by omega) (fun hb => by
                have hb1 := hb.1
                have hc := hC (i + 1) (j - 1) (by omega) (by omega) (by omega) (fun e => absurd e (by omega))
                have hne := X_ro_ne (i := i + 1) (j := j - 1) (i' := i) (j' := j) (by omega) (by omega) (by omega)
                have c1 := hG.1
                exact ⟨hc.1, fun v h1 h2 => (hOW _ (by omega)).trans (hc.2.1 v h1 h2)⟩)) (fun v913 S914 h915 => ?_)
        rcases h915 with ⟨oK916, hv917, hp918, hp919, ha920, hf921⟩
        rw [hv917]
        show X_T sc 32 (72, [(4, .int (iI w)), (3, .int (iI (X_ro i j))), (0, .ref 511), (1, .int (iI i)), (2, .int (iI j))], [], S914) _
        refine T_p xr_32_72 xn_32 (pc' := 73) (ls' := [(4, .int (iI w)), (3, .int (iI (X_ro i j))), (0, .ref 511), (1, .int (iI i)), (2, .int (iI j))]) (st' := [.ref 511]) rfl ?_
        have h922 := (hf921.1 511 (by first | decide | omega)).trans (h901)
        refine T_get xr_32_73 h922 rfl (v := .ref 514) rfl (pc' := 76) rfl ?_
        refine T_p xr_32_76 xn_32 (pc' := 77) (ls' := [(4, .int (iI w)), (3, .int (iI (X_ro i j))), (0, .ref 511), (1, .int (iI i)), (2, .int (iI j))]) (st' := [.int (iI (X_ro i j)), .ref 514]) rfl ?_
        refine T_p xr_32_77 xn_32 (pc' := 78) (ls' := [(4, .int (iI w)), (3, .int (iI (X_ro i j))), (0, .ref 511), (1, .int (iI i)), (2, .int (iI j))]) (st' := [.ref 511, .int (iI (X_ro i j)), .ref 514]) rfl ?_
        refine T_p xr_32_78 xn_32 (pc' := 79) (ls' := [(4, .int (iI w)), (3, .int (iI (X_ro i j))), (0, .ref 511), (1, .int (iI i)), (2, .int (iI j))]) (st' := [.int (iI (X_ro i j)), .ref 511, .int (iI (X_ro i j)), .ref 514]) rfl ?_
        refine T_p xr_32_79 xn_32 (pc' := 80) (ls' := [(4, .int (iI w)), (3, .int (iI (X_ro i j))), (0, .ref 511), (1, .int (iI i)), (2, .int (iI j))]) (st' := [.int (iI (-1)), .int (iI (X_ro i j)), .ref 511, .int (iI (X_ro i j)), .ref 514]) rfl ?_
        refine T_cv (S := S914) (q := 511) xr_32_80 xf_29.1 xf_29.2.1 xn_29 (as := [.int (iI (X_ro i j)), .int (iI (-1))]) (r := [.int (iI (X_ro i j)), .ref 514]) rfl h922 (Nat.le_of_ble_eq_true rfl) (Nat.le_of_ble_eq_true rfl) (pc' := 83) rfl (ls' := [(0, .ref 511), (1, .int (iI (X_ro i j))), (2, .int (iI (-1)))]) rfl ?_
        have h923 := (hf921.1 B (by omega)).trans (h902)
        have h924 := (hf921.1 (B + 1) (by omega)).trans (h906)
        have h925 := (hf921.1 (B + 2) (by omega)).trans (h907)
        have h926 := (hf921.1 (B + 3) (by omega)).trans (h908)
        have h927 := (hf921.1 (B + 4) (by omega)).trans (h909)
        have h928 := (hf921.1 (B + 5) (by omega)).trans (h910)
        have hs929 : C_ws S914 B (gD G) (gW G) := C_ws.fr (P := fun q => 501 ≤ q ∧ q ≤ 529) hs911 ((X_Fr.rf).tr (X_Fr.mono ⟨hf921.1, hf921.2⟩ (fun q hq => (by omega)))) (fun k h1 h2 => by omega)
        refine T_mono (c_sumK sc S914 oK916 B rc rn kn G tn fl (X_ro i j) (-1) (fun z => X_nm G z i j + (X_T_ G).2 z i j) h922 ha920 hB ⟨h923, h924, h925, h926, h927, ⟨f, h928, hf⟩, ⟨by omega, by omega⟩, ⟨by omega, by omega⟩, ⟨by omega, by omega⟩⟩ hs929 hG (by omega) hp918) (fun v930 S931 h932 => ?_)
        rcases h932 with ⟨hv933, hf934⟩
        rw [hv933]
        rw [hf934]
        show X_T sc 32 (83, [(4, .int (iI w)), (3, .int (iI (X_ro i j))), (0, .ref 511), (1, .int (iI i)), (2, .int (iI j))], [.long (X_st (-2) (X_Su (fun k => X_if (X_bt (-1) k) ((fun z => X_nm G z i j + (X_T_ G).2 z i j) k)) 0 (gk G))), .int (iI (X_ro i j)), .ref 514], S914) _
        refine T_p xr_32_83 xn_32 (pc' := 84) (ls' := [(4, .int (iI w)), (3, .int (iI (X_ro i j))), (0, .ref 511), (1, .int (iI i)), (2, .int (iI j))]) (st' := [.ref 511, .long (X_st (-2) (X_Su (fun k => X_if (X_bt (-1) k) ((fun z => X_nm G z i j + (X_T_ G).2 z i j) k)) 0 (gk G))), .int (iI (X_ro i j)), .ref 514]) rfl ?_
        refine T_p xr_32_84 xn_32 (pc' := 85) (ls' := [(4, .int (iI w)), (3, .int (iI (X_ro i j))), (0, .ref 511), (1, .int (iI i)), (2, .int (iI j))]) (st' := [.int (iI (X_ro i j)), .ref 511, .long (X_st (-2) (X_Su (fun k => X_if (X_bt (-1) k) ((fun z => X_nm G z i j + (X_T_ G).2 z i j) k)) 0 (gk G))), .int (iI (X_ro i j)), .ref 514]) rfl ?_
        refine T_p xr_32_85 xn_32 (pc' := 86) (ls' := [(4, .int (iI w)), (3, .int (iI (X_ro i j))), (0, .ref 511), (1, .int (iI i)), (2, .int (iI j))]) (st' := [.int (iI (-1)), .int (iI (X_ro i j)), .ref 511, .long (X_st (-2) (X_Su (fun k => X_if (X_bt (-1) k) ((fun z => X_nm G z i j + (X_T_ G).2 z i j) k)) 0 (gk G))), .int (iI (X_ro i j)), .ref 514]) rfl ?_
        refine T_cv (S := S914) (q := 511) xr_32_86 xf_30.1 xf_30.2.1 xn_30 (as := [.int (iI (X_ro i j)), .int (iI (-1))]) (r := [.long (X_st (-2) (X_Su (fun k => X_if (X_bt (-1) k) ((fun z => X_nm G z i j + (X_T_ G).2 z i j) k)) 0 (gk G))), .int (iI (X_ro i j)), .ref 514]) rfl h922 (Nat.le_of_ble_eq_true rfl) (Nat.le_of_ble_eq_true rfl) (pc' := 89) rfl (ls' := [(0, .ref 511), (1, .int (iI (X_ro i j))), (2, .int (iI (-1)))]) rfl ?_
        have h935 := (hf921.1 513 (by first | decide | omega)).trans (hoW1)
        refine T_mono (c_sumW sc S914 oW1 B rc rn kn G tn fl (X_ro i j) (-1) (fun v => (X_T_ G).1 v i j) h922 h935 hB ⟨h923, h924, h925, h926, h927, ⟨f, h928, hf⟩, ⟨by omega, by omega⟩, ⟨by omega, by omega⟩, ⟨by omega, by omega⟩⟩ hs929 hG (by omega) (fun v h1 h2 => hW1 v h1 (by omega))) (fun v936 S937 h938 => ?_)
        rcases h938 with ⟨hv939, hf940⟩
        rw [hv939]
        rw [hf940]
        show X_T sc 32 (89, [(4, .int (iI w)), (3, .int (iI (X_ro i j))), (0, .ref 511), (1, .int (iI i)), (2, .int (iI j))], [.long (X_st (-2) (X_Su (fun k => X_if (X_bt (-1) k) ((fun v => (X_T_ G).1 v i j) k)) 0 (gw G))), .long (X_st (-2) (X_Su (fun k => X_if (X_bt (-1) k) ((fun z => X_nm G z i j + (X_T_ G).2 z i j) k)) 0 (gk G))), .int (iI (X_ro i j)), .ref 514], S914) _
        refine T_cs xr_32_89 (by decide) xf_134.1 xn_134 (as := [.long (X_st (-2) (X_Su (fun k => X_if (X_bt (-1) k) ((fun z => X_nm G z i j + (X_T_ G).2 z i j) k)) 0 (gk G))), .long (X_st (-2) (X_Su (fun k => X_if (X_bt (-1) k) ((fun v => (X_T_ G).1 v i j) k)) 0 (gw G)))]) (r := [.int (iI (X_ro i j)), .ref 514]) rfl (Nat.le_of_ble_eq_true rfl) (Nat.le_of_ble_eq_true rfl) (pc' := 92) rfl (ls' := [(0, .long (X_st (-2) (X_Su (fun k => X_if (X_bt (-1) k) ((fun z => X_nm G z i j + (X_T_ G).2 z i j) k)) 0 (gk G)))), (2, .long (X_st (-2) (X_Su (fun k => X_if (X_bt (-1) k) ((fun v => (X_T_ G).1 v i j) k)) 0 (gw G))))]) rfl ?_
        refine T_mono (c_plus sc S914 (X_Su (fun k => X_if (X_bt (-1) k) ((fun z => X_nm G z i j + (X_T_ G).2 z i j) k)) 0 (gk G)) (X_Su (fun k => X_if (X_bt (-1) k) ((fun v => (X_T_ G).1 v i j) k)) 0 (gw G))) (fun v941 S942 h943 => ?_)
        rcases h943 with ⟨hv944, hf945⟩
        rw [hv944]
        rw [hf945]
        show X_T sc 32 (92, [(4, .int (iI w)), (3, .int (iI (X_ro i j))), (0, .ref 511), (1, .int (iI i)), (2, .int (iI j))], [.long (X_st (-2) ((X_Su (fun k => X_if (X_bt (-1) k) ((fun z => X_nm G z i j + (X_T_ G).2 z i j) k)) 0 (gk G)) + (X_Su (fun k => X_if (X_bt (-1) k) ((fun v => (X_T_ G).1 v i j) k)) 0 (gw G)))), .int (iI (X_ro i j)), .ref 514], S914) _
        refine T_le (y := (X_st (-2) (X_all G i j))) (by rw [← X_all_m hG]) ?_
        have h946 := (hf921.1 514 (by first | decide | omega)).trans ((hF899.1 514 (by first | decide | omega)).trans (hA514))
        refine T_zlast xr_32_92 h946 (pc' := 93) rfl (fun S947 h948 n949 e950 => ?_)
        refine T_p xr_32_93 xn_32 (pc' := 94) (ls' := [(4, .int (iI w)), (3, .int (iI (X_ro i j))), (0, .ref 511), (1, .int (iI i)), (2, .int (iI j))]) (st' := [.int (iI 0)]) rfl ?_
        refine T_p xr_32_94 xn_32 (pc' := 96) (ls' := [(4, .int (iI 0)), (3, .int (iI (X_ro i j))), (0, .ref 511), (1, .int (iI i)), (2, .int (iI j))]) (st' := []) rfl ?_
        have h956 := (n949 515 (by decide)).trans ((hf921.1 515 (by first | decide | omega)).trans ((hF899.1 515 (by first | decide | omega)).trans (hA515)))
        have h957 := (n949 516 (by decide)).trans ((hf921.1 516 (by first | decide | omega)).trans (htl1))
        have L951 : ∀ (m953 : Nat) (S958 : X_S) (w2 : Int) (oH1 : Int → Int64) (tl2 : Int → Int64) (hoH1 : S958.1 515 = .inl (.long, 55800, .inr (.inl fun k : Nat => oH1 (k : Int)))) (htl2 : S958.1 516 = .inl (.long, 7200, .inr (.inl fun k : Nat => tl2 (k : Int)))) (hF955 : X_Fr (fun q => q = 515 ∨ q = 516) S947 S958) (hw2 : 0 ≤ w2 ∧ w2 ≤ gw G) (hH1 : ∀ w, 0 ≤ w → w < w2 → ∀ e, 0 ≤ e → e < gD G w 3 0 → gW G w e = 0 → oH1 ((X_ro i j * 30 + w) * 4 + gD G w 8 e) = X_st (-2) (X_Hw G (X_T_ G) w e i j)) (hOH : ∀ q, ¬ (X_ro i j * 120 ≤ q ∧ q < X_ro i j * 120 + 120) → oH1 q = oH q) (hT2 : ∀ w, 0 ≤ w → w < gw G → ∀ q, i < q → q < j → X_tl G (-2) w q j tl2) (hT3 : ∀ w, 0 ≤ w → w < w2 → X_tl G (-2) w i j tl2) (hm954 : gw G - w2 < m953), X_T sc 32 (96, [(4, .int (iI w2)), (3, .int (iI (X_ro i j))), (0, .ref 511), (1, .int (iI i)), (2, .int (iI j))], [], S958) Q := by
          intro m953
          induction m953 with
          | zero =>
            intro S958 w2 oH1 tl2 hoH1 htl2 hF955 hw2 hH1 hOH hT2 hT3 hm954
            exact (show False by omega).elim
          | succ m953 ih952 =>
            intro S958 w2 oH1 tl2 hoH1 htl2 hF955 hw2 hH1 hOH hT2 hT3 hm954
            refine T_p xr_32_96 xn_32 (pc' := 98) (ls' := [(4, .int (iI w2)), (3, .int (iI (X_ro i j))), (0, .ref 511), (1, .int (iI i)), (2, .int (iI j))]) (st' := [.int (iI w2)]) rfl ?_
            refine T_p xr_32_98 xn_32 (pc' := 99) (ls' := [(4, .int (iI w2)), (3, .int (iI (X_ro i j))), (0, .ref 511), (1, .int (iI i)), (2, .int (iI j))]) (st' := [.ref 511, .int (iI w2)]) rfl ?_
            have h959 := (hF955.1 511 (by first | decide | omega)).trans ((n949 511 (by decide)).trans (h922))
            refine T_get xr_32_99 h959 rfl (v := .ref B) rfl (pc' := 102) rfl ?_
            have h960 := (hF955.1 B (by omega)).trans ((n949 B (by omega)).trans (h923))
            refine T_get xr_32_102 h960 rfl (v := .int (iI (gw G))) rfl (pc' := 105) rfl ?_
            refine T_zicmp_ge xr_32_105 (t := 129) (pc' := 108) rfl rfl (fun c961 => ?_) (fun c961 => ?_)
            · skip
              have c961 : (gw G) ≤ w2 := c961
              refine T_vret xr_32_129 xf_32.2.2 ?_
              refine hQ _ _ ?_
              have h962 := (hF955.1 512 (by first | decide | omega)).trans ((n949 512 (by decide)).trans (ha920))
              have h963 := (hF955.1 513 (by first | decide | omega)).trans ((n949 513 (by decide)).trans (h935))
              have h964 := (hF955.1 514 (by first | decide | omega)).trans (h948)
              exact ⟨oK916, oW1, (X_ug oA (X_ro i j) (X_st (-2) (X_all G i j))), oH1, tl2, rfl, ⟨hp918, fun v h1 h2 => hW1 v h1 (by omega), X_ug_s _ _ _, fun v h1 h2 => hH1 v h1 (by omega)⟩, (fun v h1 h2 q h3 h4 => by
                    by_cases hq : q = i
                    · subst hq; exact hT3 v h1 (by omega)
                    · exact hT2 v h1 h2 q (by omega) h4), hp919, hOW, (fun q hq => X_ug_n _ _ hq), hOH, h962, h963, h964, hoH1, htl2, ((((X_Fr.rf).tr (X_Fr.mono ⟨hF899.1, hF899.2⟩ (fun q hq => (by omega)))).tr (X_Fr.mono ⟨hf921.1, hf921.2⟩ (fun q hq => (by omega)))).tr (X_Fr.of n949 e950 (by first | decide | exact ⟨Nat.le_add_right _ _, Nat.add_le_add_left (by decide) _⟩ | omega))).tr (X_Fr.mono ⟨hF955.1, hF955.2⟩ (fun q hq => (by omega)))⟩
            · skip
              have c961 : ¬ ((gw G) ≤ w2) := c961
              refine T_p xr_32_108 xn_32 (pc' := 109) (ls' := [(4, .int (iI w2)), (3, .int (iI (X_ro i j))), (0, .ref 511), (1, .int (iI i)), (2, .int (iI j))]) (st' := [.ref 511]) rfl ?_
              refine T_p xr_32_109 xn_32 (pc' := 110) (ls' := [(4, .int (iI w2)), (3, .int (iI (X_ro i j))), (0, .ref 511), (1, .int (iI i)), (2, .int (iI j))]) (st' := [.int (iI (X_ro i j)), .ref 511]) rfl ?_
              refine T_p xr_32_110 xn_32 (pc' := 112) (ls' := [(4, .int (iI w2)), (3, .int (iI (X_ro i j))), (0, .ref 511), (1, .int (iI i)), (2, .int (iI j))]) (st' := [.int (iI w2), .int (iI (X_ro i j)), .ref 511]) rfl ?_
              refine T_cv (S := S958) (q := 511) xr_32_112 xf_34.1 xf_34.2.1 xn_34 (as := [.int (iI (X_ro i j)), .int (iI w2)]) (r := []) rfl h959 (Nat.le_of_ble_eq_true rfl) (Nat.le_of_ble_eq_true rfl) (pc' := 115) rfl (ls' := [(0, .ref 511), (1, .int (iI (X_ro i j))), (2, .int (iI w2))]) rfl ?_
              have h965 := (hF955.1 512 (by first | decide | omega)).trans ((n949 512 (by decide)).trans (ha920))
              have h966 := (hF955.1 513 (by first | decide | omega)).trans ((n949 513 (by decide)).trans (h935))
              have h967 := (hF955.1 514 (by first | decide | omega)).trans (h948)
              have h968 := (hF955.1 (B + 1) (by omega)).trans ((n949 (B + 1) (by first | exact (fun h => absurd (Nat.add_left_cancel h) (by decide)) | omega)).trans (h924))
              have h969 := (hF955.1 (B + 2) (by omega)).trans ((n949 (B + 2) (by first | exact (fun h => absurd (Nat.add_left_cancel h) (by decide)) | omega)).trans (h925))
              have h970 := (hF955.1 (B + 3) (by omega)).trans ((n949 (B + 3) (by first | exact (fun h => absurd (Nat.add_left_cancel h) (by decide)) | omega)).trans (h926))
              have h971 := (hF955.1 (B + 4) (by omega)).trans ((n949 (B + 4) (by first | exact (fun h => absurd (Nat.add_left_cancel h) (by decide)) | omega)).trans (h927))
              have h972 := (hF955.1 (B + 5) (by omega)).trans ((n949 (B + 5) (by first | exact (fun h => absurd (Nat.add_left_cancel h) (by decide)) | omega)).trans (h928))
              have hs973 : C_ws S958 B (gD G) (gW G) := C_ws.fr (P := fun q => 501 ≤ q ∧ q ≤ 529) hs929 (((X_Fr.rf).tr (X_Fr.of n949 e950 (by first | decide | exact ⟨Nat.le_add_right _ _, Nat.add_le_add_left (by decide) _⟩ | omega))).tr (X_Fr.mono ⟨hF955.1, hF955.2⟩ (fun q hq => (by omega)))) (fun k h1 h2 => by omega)
              refine T_mono (c_fillHoles sc S958 oK916 oW1 (X_ug oA (X_ro i j) (X_st (-2) (X_all G i j))) oH1 B rc rn kn G tn fl i j w2 h959 h965 h966 h967 hoH1 hB ⟨h960, h968, h969, h970, h971, ⟨f, h972, hf⟩, ⟨by omega, by omega⟩, ⟨by omega, by omega⟩, ⟨by omega, by omega⟩⟩ hs973 hG (by omega) (by omega) hp918 (fun v h1 h2 => hW1 v h1 (by omega)) (X_ug_s _ _ _)) (fun v974 S975 h976 => ?_)
              rcases h976 with ⟨oH977, hv978, hp979, hp980, ha981, hf982⟩
              rw [hv978]
              show X_T sc 32 (115, [(4, .int (iI w2)), (3, .int (iI (X_ro i j))), (0, .ref 511), (1, .int (iI i)), (2, .int (iI j))], [], S975) _
              refine T_p xr_32_115 xn_32 (pc' := 116) (ls' := [(4, .int (iI w2)), (3, .int (iI (X_ro i j))), (0, .ref 511), (1, .int (iI i)), (2, .int (iI j))]) (st' := [.ref 511]) rfl ?_
              refine T_p xr_32_116 xn_32 (pc' := 118) (ls' := [(4, .int (iI w2)), (3, .int (iI (X_ro i j))), (0, .ref 511), (1, .int (iI i)), (2, .int (iI j))]) (st' := [.int (iI w2), .ref 511]) rfl ?_
              refine T_p xr_32_118 xn_32 (pc' := 119) (ls' := [(4, .int (iI w2)), (3, .int (iI (X_ro i j))), (0, .ref 511), (1, .int (iI i)), (2, .int (iI j))]) (st' := [.int (iI i), .int (iI w2), .ref 511]) rfl ?_
              refine T_p xr_32_119 xn_32 (pc' := 120) (ls' := [(4, .int (iI w2)), (3, .int (iI (X_ro i j))), (0, .ref 511), (1, .int (iI i)), (2, .int (iI j))]) (st' := [.int (iI j), .int (iI i), .int (iI w2), .ref 511]) rfl ?_
              have h983 := (hf982.1 511 (by first | decide | omega)).trans (h959)
              refine T_cv (S := S975) (q := 511) xr_32_120 xf_35.1 xf_35.2.1 xn_35 (as := [.int (iI w2), .int (iI i), .int (iI j)]) (r := []) rfl h983 (Nat.le_of_ble_eq_true rfl) (Nat.le_of_ble_eq_true rfl) (pc' := 123) rfl (ls' := [(0, .ref 511), (1, .int (iI w2)), (2, .int (iI i)), (3, .int (iI j))]) rfl ?_
              have h984 := (hf982.1 516 (by first | decide | omega)).trans (htl2)
              have h985 := (hf982.1 501 (by first | decide | omega)).trans ((hF955.1 501 (by first | decide | omega)).trans ((n949 501 (by decide)).trans ((hf921.1 501 (by first | decide | omega)).trans (h905))))
              have h986 := (hf982.1 B (by omega)).trans (h960)
              have h987 := (hf982.1 (B + 1) (by omega)).trans (h968)
              have h988 := (hf982.1 (B + 2) (by omega)).trans (h969)
              have h989 := (hf982.1 (B + 3) (by omega)).trans (h970)
              have h990 := (hf982.1 (B + 4) (by omega)).trans (h971)
              have h991 := (hf982.1 (B + 5) (by omega)).trans (h972)
              have hs992 : C_ws S975 B (gD G) (gW G) := C_ws.fr (P := fun q => 501 ≤ q ∧ q ≤ 529) hs973 ((X_Fr.rf).tr (X_Fr.mono ⟨hf982.1, hf982.2⟩ (fun q hq => (by omega)))) (fun k h1 h2 => by omega)
              have h993 := (hf982.1 502 (by first | decide | omega)).trans ((hF955.1 502 (by first | decide | omega)).trans ((n949 502 (by decide)).trans ((hf921.1 502 (by first | decide | omega)).trans (h912))))
              refine T_mono (c_fillTails sc S975 oH977 tl2 B rc rn kn G tn fl w2 i j h985 h983 ha981 h984 hB ⟨h986, h987, h988, h989, h990, ⟨f, h991, hf⟩, ⟨by omega, by omega⟩, ⟨by omega, by omega⟩, ⟨by omega, by omega⟩⟩ hs992 hG h993 (by omega) (by omega) (fun q h1 h2 => hT2 w2 (by omega) (by omega) q h1 h2) (fun e g1 g2 g3 m h1 h2 => by
                      have hs := (hG.2.2.2 w2 (by omega) (by omega)).2.1
                      have hh := (hG.2.2.2 w2 (by omega) (by omega)).hole g1 g2 g3
                      by_cases hm : m = j
                      · subst hm; exact hp979 e g1 g2 g3
                      · have hne := X_ro_ne (i := i) (j := m) (i' := i) (j' := j) (by omega) (by omega) (by omega)
                        exact (hp980 _ (by omega)).trans ((hOH _ (by omega)).trans ((hC i m (by omega) h1 h2 (fun z => absurd z hm)).2.2.2 w2 (by omega) (by omega) e g1 g2 g3)))) (fun v994 S995 h996 => ?_)
              rcases h996 with ⟨tl997, hv998, hp999, hp1000, ha1001, hf1002⟩
              rw [hv998]
              show X_T sc 32 (123, [(4, .int (iI w2)), (3, .int (iI (X_ro i j))), (0, .ref 511), (1, .int (iI i)), (2, .int (iI j))], [], S995) _
              refine T_ziinc xr_32_123 xn_32 (a := w2) (z := w2 + 1) rfl (Nat.le_of_ble_eq_true rfl) (by omega) (ls' := [(4, .int (iI (w2 + 1))), (3, .int (iI (X_ro i j))), (0, .ref 511), (1, .int (iI i)), (2, .int (iI j))]) rfl (pc' := 126) rfl ?_
              refine T_p xr_32_126 xn_32 (pc' := 96) (ls' := [(4, .int (iI (w2 + 1))), (3, .int (iI (X_ro i j))), (0, .ref 511), (1, .int (iI i)), (2, .int (iI j))]) (st' := []) rfl ?_
              have h1003 := (hf1002.1 515 (by first | decide | omega)).trans (ha981)
              exact ih952 S995 (w2 + 1) oH977 tl997 h1003 ha1001 (hF955.tr (((X_Fr.rf).tr (X_Fr.mono ⟨hf982.1, hf982.2⟩ (fun q hq => (by omega)))).tr (X_Fr.mono ⟨hf1002.1, hf1002.2⟩ (fun q hq => (by omega))))) (by omega) (fun v h1 h2 e g1 g2 g3 => by
                    have hs := (hG.2.2.2 v h1 (by omega)).2.1
                    have hh := (hG.2.2.2 v h1 (by omega)).hole g1 g2 g3
                    by_cases hv : v = w2
                    · subst hv; exact hp979 e g1 g2 g3
                    · exact (hp980 _ (by omega)).trans (hH1 v h1 (by omega) e g1 g2 g3)) (fun q hq => (hp980 q (by omega)).trans (hOH q hq)) (fun v h1 h2 q h3 h4 e g1 g2 => by
                    have hs := (hG.2.2.2 v h1 h2).1
                    have hs2 := (hG.2.2.2 w2 (by omega) (by omega)).1
                    exact (hp1000 _ (fun e2 z1 z2 z3 => by omega)).trans (hT2 v h1 h2 q h3 h4 e g1 g2)) (fun v h1 h2 => by
                    by_cases hv : v = w2
                    · subst hv; exact hp999
                    · intro e g1 g2
                      have hs := (hG.2.2.2 v h1 (by omega)).1
                      have hs2 := (hG.2.2.2 w2 (by omega) (by omega)).1
                      exact (hp1000 _ (fun e2 z1 z2 z3 => by omega)).trans (hT3 v h1 (by omega) e g1 g2)) (by omega)
        exact L951 ((gw G) + 1).toNat S947 0 oH tl1 h956 h957 ((X_Fr.rf)) (by omega) (fun v h1 h2 => absurd h2 (by omega)) (fun _ _ => rfl) hT1 (fun v h1 h2 => absurd h2 (by omega)) (by omega)
      · skip
        have c903 : ¬ ((gw G) ≤ w) := c903
        refine T_p xr_32_21 xn_32 (pc' := 22) (ls' := [(4, .int (iI w)), (3, .int (iI (X_ro i j))), (0, .ref 511), (1, .int (iI i)), (2, .int (iI j))]) (st' := [.ref 511]) rfl ?_
        refine T_p xr_32_22 xn_32 (pc' := 24) (ls' := [(4, .int (iI w)), (3, .int (iI (X_ro i j))), (0, .ref 511), (1, .int (iI i)), (2, .int (iI j))]) (st' := [.int (iI w), .ref 511]) rfl ?_
        refine T_p xr_32_24 xn_32 (pc' := 25) (ls' := [(4, .int (iI w)), (3, .int (iI (X_ro i j))), (0, .ref 511), (1, .int (iI i)), (2, .int (iI j))]) (st' := [.int (iI 0), .int (iI w), .ref 511]) rfl ?_
        refine T_p xr_32_25 xn_32 (pc' := 26) (ls' := [(4, .int (iI w)), (3, .int (iI (X_ro i j))), (0, .ref 511), (1, .int (iI i)), (2, .int (iI j))]) (st' := [.int (iI i), .int (iI 0), .int (iI w), .ref 511]) rfl ?_
        refine T_p xr_32_26 xn_32 (pc' := 27) (ls' := [(4, .int (iI w)), (3, .int (iI (X_ro i j))), (0, .ref 511), (1, .int (iI i)), (2, .int (iI j))]) (st' := [.int (iI j), .int (iI i), .int (iI 0), .int (iI w), .ref 511]) rfl ?_
        have hs1 := (hG.2.2.2 w (by omega) (by omega)).1
        refine T_cv (S := S900) (q := 511) xr_32_27 xf_37.1 xf_37.2.1 xn_37 (as := [.int (iI w), .int (iI 0), .int (iI i), .int (iI j)]) (r := []) rfl h901 (Nat.le_of_ble_eq_true rfl) (Nat.le_of_ble_eq_true rfl) (pc' := 30) rfl (ls' := [(0, .ref 511), (1, .int (iI w)), (2, .int (iI 0)), (3, .int (iI i)), (4, .int (iI j))]) rfl ?_
        have h1004 := (hF899.1 515 (by first | decide | omega)).trans (hA515)
        have h1005 := (hF899.1 501 (by first | decide | omega)).trans (hO501)
        have h1006 := (hF899.1 (B + 1) (by omega)).trans (hb1)
        have h1007 := (hF899.1 (B + 2) (by omega)).trans (hb2)
        have h1008 := (hF899.1 (B + 3) (by omega)).trans (hb3)
        have h1009 := (hF899.1 (B + 4) (by omega)).trans (hb4)
        have h1010 := (hF899.1 (B + 5) (by omega)).trans (hb5)
        have hs1011 : C_ws S900 B (gD G) (gW G) := C_ws.fr (P := fun q => 501 ≤ q ∧ q ≤ 529) hs ((X_Fr.rf).tr (X_Fr.mono ⟨hF899.1, hF899.2⟩ (fun q hq => (by omega)))) (fun k h1 h2 => by omega)
        have h1012 := (hF899.1 502 (by first | decide | omega)).trans (hA502)
        refine T_mono (c_ways sc S900 oH tl1 B rc rn kn G tn fl w 0 i j h1005 h901 h1004 htl1 hB ⟨h902, h1006, h1007, h1008, h1009, ⟨f, h1010, hf⟩, ⟨by omega, by omega⟩, ⟨by omega, by omega⟩, ⟨by omega, by omega⟩⟩ hs1011 hG h1012 (by omega) (by omega) (by omega) (fun q h1 h2 => hT1 w (by omega) (by omega) q h1 h2) (fun z m h1 h2 h3 => by
                have hm : ¬ m = j := fun e => h3 (by
                  subst e
                  exact X_El_jj (hG.2.2.2 w (by omega) (by omega)).2.2.1 z)
                exact (hC i m (by omega) h1 h2 (fun e => absurd e hm)).2.2.2 w (by omega) (by omega) 0 (by omega) (by have := (hG.2.2.2 w (by omega) (by omega)).1; omega) z)) (fun v1013 S1014 h1015 => ?_)
        rcases h1015 with ⟨hv1016, hf1017⟩
        rw [hv1016]
        rw [hf1017]
        show X_T sc 32 (30, [(4, .int (iI w)), (3, .int (iI (X_ro i j))), (0, .ref 511), (1, .int (iI i)), (2, .int (iI j))], [.long (X_st (-2) (X_Ew G (X_T_ G) w 0 i j))], S900) _
        refine T_le (y := (X_st (-2) ((X_T_ G).1 w i j))) (by rw [X_T_W (hG.2.2.2 w (by omega) (by omega)).2.2.1 hij.2.1 (by omega)]) ?_
        refine T_p xr_32_30 xn_32 (pc' := 32) (ls' := [(5, .long (X_st (-2) ((X_T_ G).1 w i j))), (4, .int (iI w)), (3, .int (iI (X_ro i j))), (0, .ref 511), (1, .int (iI i)), (2, .int (iI j))]) (st' := []) rfl ?_
        refine T_p xr_32_32 xn_32 (pc' := 33) (ls' := [(5, .long (X_st (-2) ((X_T_ G).1 w i j))), (4, .int (iI w)), (3, .int (iI (X_ro i j))), (0, .ref 511), (1, .int (iI i)), (2, .int (iI j))]) (st' := [.ref 511]) rfl ?_
        refine T_get xr_32_33 h901 rfl (v := .ref 516) rfl (pc' := 36) rfl ?_
        refine T_p xr_32_36 xn_32 (pc' := 38) (ls' := [(5, .long (X_st (-2) ((X_T_ G).1 w i j))), (4, .int (iI w)), (3, .int (iI (X_ro i j))), (0, .ref 511), (1, .int (iI i)), (2, .int (iI j))]) (st' := [.int (iI w), .ref 516]) rfl ?_
        refine T_p xr_32_38 xn_32 (pc' := 39) (ls' := [(5, .long (X_st (-2) ((X_T_ G).1 w i j))), (4, .int (iI w)), (3, .int (iI (X_ro i j))), (0, .ref 511), (1, .int (iI i)), (2, .int (iI j))]) (st' := [.int (iI 0), .int (iI w), .ref 516]) rfl ?_
        refine T_p xr_32_39 xn_32 (pc' := 40) (ls' := [(5, .long (X_st (-2) ((X_T_ G).1 w i j))), (4, .int (iI w)), (3, .int (iI (X_ro i j))), (0, .ref 511), (1, .int (iI i)), (2, .int (iI j))]) (st' := [.int (iI i), .int (iI 0), .int (iI w), .ref 516]) rfl ?_
        refine T_cs xr_32_40 (by decide) xf_25.1 xn_25 (as := [.int (iI w), .int (iI 0), .int (iI i)]) (r := [.ref 516]) rfl (Nat.le_of_ble_eq_true rfl) (Nat.le_of_ble_eq_true rfl) (pc' := 43) rfl (ls' := [(0, .int (iI w)), (1, .int (iI 0)), (2, .int (iI i))]) rfl ?_
        refine T_p xr_25_0 xn_25 (pc' := 1) (ls' := [(0, .int (iI w)), (1, .int (iI 0)), (2, .int (iI i))]) (st' := [.int (iI w)]) rfl ?_
        refine T_p xr_25_1 xn_25 (pc' := 3) (ls' := [(0, .int (iI w)), (1, .int (iI 0)), (2, .int (iI i))]) (st' := [.int (iI 8), .int (iI w)]) rfl ?_
        refine T_zimul xr_25_3 (z := w * 8) rfl (pc' := 4) rfl ?_
        refine T_p xr_25_4 xn_25 (pc' := 5) (ls' := [(0, .int (iI w)), (1, .int (iI 0)), (2, .int (iI i))]) (st' := [.int (iI 0), .int (iI (w * 8))]) rfl ?_
        refine T_ziadd xr_25_5 (z := (w * 8) + 0) rfl (pc' := 6) rfl ?_
        refine T_p xr_25_6 xn_25 (pc' := 8) (ls' := [(0, .int (iI w)), (1, .int (iI 0)), (2, .int (iI i))]) (st' := [.int (iI 30), .int (iI ((w * 8) + 0))]) rfl ?_
        refine T_zimul xr_25_8 (z := ((w * 8) + 0) * 30) rfl (pc' := 9) rfl ?_
        refine T_p xr_25_9 xn_25 (pc' := 10) (ls' := [(0, .int (iI w)), (1, .int (iI 0)), (2, .int (iI i))]) (st' := [.int (iI i), .int (iI (((w * 8) + 0) * 30))]) rfl ?_
        refine T_ziadd xr_25_10 (z := (((w * 8) + 0) * 30) + i) rfl (pc' := 11) rfl ?_
        refine T_iret xr_25_11 xf_25.2.2 rfl ?_
        show X_T sc 32 (43, [(5, .long (X_st (-2) ((X_T_ G).1 w i j))), (4, .int (iI w)), (3, .int (iI (X_ro i j))), (0, .ref 511), (1, .int (iI i)), (2, .int (iI j))], [.int (iI ((((w * 8) + 0) * 30) + i)), .ref 516], S900) _
        refine T_p xr_32_43 xn_32 (pc' := 45) (ls' := [(5, .long (X_st (-2) ((X_T_ G).1 w i j))), (4, .int (iI w)), (3, .int (iI (X_ro i j))), (0, .ref 511), (1, .int (iI i)), (2, .int (iI j))]) (st' := [.long (X_st (-2) ((X_T_ G).1 w i j)), .int (iI ((((w * 8) + 0) * 30) + i)), .ref 516]) rfl ?_
        refine T_zlast xr_32_45 htl1 (pc' := 46) rfl (fun S1018 h1019 n1020 e1021 => ?_)
        refine T_p xr_32_46 xn_32 (pc' := 47) (ls' := [(5, .long (X_st (-2) ((X_T_ G).1 w i j))), (4, .int (iI w)), (3, .int (iI (X_ro i j))), (0, .ref 511), (1, .int (iI i)), (2, .int (iI j))]) (st' := [.ref 511]) rfl ?_
        have h1022 := (n1020 511 (by decide)).trans (h901)
        refine T_get xr_32_47 h1022 rfl (v := .ref 513) rfl (pc' := 50) rfl ?_
        refine T_p xr_32_50 xn_32 (pc' := 51) (ls' := [(5, .long (X_st (-2) ((X_T_ G).1 w i j))), (4, .int (iI w)), (3, .int (iI (X_ro i j))), (0, .ref 511), (1, .int (iI i)), (2, .int (iI j))]) (st' := [.int (iI (X_ro i j)), .ref 513]) rfl ?_
        refine T_p xr_32_51 xn_32 (pc' := 53) (ls' := [(5, .long (X_st (-2) ((X_T_ G).1 w i j))), (4, .int (iI w)), (3, .int (iI (X_ro i j))), (0, .ref 511), (1, .int (iI i)), (2, .int (iI j))]) (st' := [.int (iI 30), .int (iI (X_ro i j)), .ref 513]) rfl ?_
        refine T_zimul xr_32_53 (z := (X_ro i j) * 30) rfl (pc' := 54) rfl ?_
        refine T_p xr_32_54 xn_32 (pc' := 56) (ls' := [(5, .long (X_st (-2) ((X_T_ G).1 w i j))), (4, .int (iI w)), (3, .int (iI (X_ro i j))), (0, .ref 511), (1, .int (iI i)), (2, .int (iI j))]) (st' := [.int (iI w), .int (iI ((X_ro i j) * 30)), .ref 513]) rfl ?_
        refine T_ziadd xr_32_56 (z := ((X_ro i j) * 30) + w) rfl (pc' := 57) rfl ?_
        refine T_p xr_32_57 xn_32 (pc' := 59) (ls' := [(5, .long (X_st (-2) ((X_T_ G).1 w i j))), (4, .int (iI w)), (3, .int (iI (X_ro i j))), (0, .ref 511), (1, .int (iI i)), (2, .int (iI j))]) (st' := [.long (X_st (-2) ((X_T_ G).1 w i j)), .int (iI (((X_ro i j) * 30) + w)), .ref 513]) rfl ?_
        have h1023 := (n1020 513 (by decide)).trans (hoW1)
        refine T_zlast xr_32_59 h1023 (pc' := 60) rfl (fun S1024 h1025 n1026 e1027 => ?_)
        refine T_ziinc xr_32_60 xn_32 (a := w) (z := w + 1) rfl (Nat.le_of_ble_eq_true rfl) (by omega) (ls' := [(4, .int (iI (w + 1))), (5, .long (X_st (-2) ((X_T_ G).1 w i j))), (3, .int (iI (X_ro i j))), (0, .ref 511), (1, .int (iI i)), (2, .int (iI j))]) rfl (pc' := 63) rfl ?_
        refine T_p xr_32_63 xn_32 (pc' := 9) (ls' := [(4, .int (iI (w + 1))), (5, .long (X_st (-2) ((X_T_ G).1 w i j))), (3, .int (iI (X_ro i j))), (0, .ref 511), (1, .int (iI i)), (2, .int (iI j))]) (st' := []) rfl ?_
        have h1028 := (n1026 516 (by decide)).trans (h1019)
        refine T_sub (ls := [(4, .int (iI (w + 1))), (3, .int (iI (X_ro i j))), (0, .ref 511), (1, .int (iI i)), (2, .int (iI j))]) ⟨rfl, rfl, rfl, rfl, rfl, trivial⟩ rfl rfl ?_
        exact ih896 S1024 (w + 1) (X_ug tl1 ((((w * 8) + 0) * 30) + i) (X_st (-2) ((X_T_ G).1 w i j))) (X_ug oW1 (((X_ro i j) * 30) + w) (X_st (-2) ((X_T_ G).1 w i j))) h1028 h1025 (hF899.tr (((X_Fr.rf).tr (X_Fr.of n1020 e1021 (by first | decide | exact ⟨Nat.le_add_right _ _, Nat.add_le_add_left (by decide) _⟩ | omega))).tr (X_Fr.of n1026 e1027 (by first | decide | exact ⟨Nat.le_add_right _ _, Nat.add_le_add_left (by decide) _⟩ | omega)))) (by omega) (fun v h1 h2 q h3 h4 e g1 g2 => by
              have hs := (hG.2.2.2 v h1 h2).1
              rw [X_ug_n _ _ (by omega)]; exact hT1 v h1 h2 q h3 h4 e g1 g2) (fun v h1 h2 => by
              by_cases hv : v = w
              · subst hv; rw [X_ug_s]
              · rw [X_ug_n _ _ (by omega)]; exact hW1 v h1 (by omega)) (fun q hq => by rw [X_ug_n _ _ (by omega)]; exact hOW q hq) (by omega)
  exact L895 ((gw G) + 1).toNat S 0 tl oW hA516 hA513 ((X_Fr.rf)) (by omega) ht (fun v h1 h2 => absurd h2 (by omega)) (fun _ _ => rfl) (by omega)
theorem c_fill (sc : X_Sc) (S : X_S) (oK : Int → Int64) (oW : Int → Int64) (oA : Int → Int64) (oH : Int → Int64) (tl : Int → Int64) (B : Nat) (rc : Int) (rn : Int → Int64) (kn : Int → Int64) (G : X_G) (tn : Int) (fl : Int) (hO501 : S.1 501 = .inr (6, [.int (iI tn), .ref 502, .ref 503])) (hO511 : S.1 511 = .inr (1, [.ref B, .ref 501, .int (iI fl), .ref 512, .ref 513, .ref 514, .ref 515, .ref 516])) (hA512 : S.1 512 = .inl (.long, 5115, .inr (.inl fun k : Nat => oK (k : Int)))) (hA513 : S.1 513 = .inl (.long, 13950, .inr (.inl fun k : Nat => oW (k : Int)))) (hA514 : S.1 514 = .inl (.long, 465, .inr (.inl fun k : Nat => oA (k : Int)))) (hA515 : S.1 515 = .inl (.long, 55800, .inr (.inl fun k : Nat => oH (k : Int)))) (hA516 : S.1 516 = .inl (.long, 7200, .inr (.inl fun k : Nat => tl (k : Int)))) (hB : B = 4 ∨ B = 250) (hb : C_bk S B rc (gk G) (gw G) rn (gl G) kn (ga G)) (hs : C_ws S B (gD G) (gW G)) (hG : X_Gok G) (hA502 : S.1 502 = .inl (.long, 30, .inr (.inl fun k : Nat => (gt G) (k : Int)))) (htn : 0 ≤ tn ∧ tn ≤ 30) (hfl : 0 ≤ fl ∧ fl ≤ 1) (hC : fl = 1 → X_cht G (-2) tn oK oW oA oH) : X_T sc 31 (0, [(0, .ref 511)], [], S) (fun v S' => ∃ (oK1 : Int → Int64) (oW1 : Int → Int64) (oA1 : Int → Int64) (oH1 : Int → Int64) (tl1 : Int → Int64), v = none ∧ X_cht G (-2) tn oK1 oW1 oA1 oH1 ∧ S'.1 511 = .inr (1, [.ref B, .ref 501, .int (iI 1), .ref 512, .ref 513, .ref 514, .ref 515, .ref 516]) ∧ S'.1 512 = .inl (.long, 5115, .inr (.inl fun k : Nat => oK1 (k : Int))) ∧ S'.1 513 = .inl (.long, 13950, .inr (.inl fun k : Nat => oW1 (k : Int))) ∧ S'.1 514 = .inl (.long, 465, .inr (.inl fun k : Nat => oA1 (k : Int))) ∧ S'.1 515 = .inl (.long, 55800, .inr (.inl fun k : Nat => oH1 (k : Int))) ∧ S'.1 516 = .inl (.long, 7200, .inr (.inl fun k : Nat => tl1 (k : Int))) ∧ (X_Fr (fun q => q = 512 ∨ q = 513 ∨ q = 514 ∨ q = 515 ∨ q = 516 ∨ q = 511) S S')) := by
  obtain ⟨hb0, hb1, hb2, hb3, hb4, ⟨f, hb5, hf⟩, ⟨hrc, hrcb⟩, ⟨hkc, hkcb⟩, ⟨hwc, hwcb⟩⟩ := id hb
  refine X_QI (fun Q hQ => ?_)
  refine T_p xr_31_0 xn_31 (pc' := 1) (ls' := [(0, .ref 511)]) (st' := [.ref 511]) rfl ?_
  refine T_get xr_31_1 hO511 rfl (v := .int (iI fl)) rfl (pc' := 4) rfl ?_
  refine T_zif_eq xr_31_4 (t := 8) (pc' := 7) rfl rfl (fun c1029 => ?_) (fun c1029 => ?_)
  · skip
    have c1029 : fl = 0 := c1029
    refine T_p xr_31_8 xn_31 (pc' := 9) (ls' := [(0, .ref 511)]) (st' := [.ref 511]) rfl ?_
    refine T_p xr_31_9 xn_31 (pc' := 10) (ls' := [(0, .ref 511)]) (st' := [.int (iI 1), .ref 511]) rfl ?_
    refine T_put xr_31_10 hO511 rfl (Nat.le_of_ble_eq_true rfl) rfl (fs' := [.ref B, .ref 501, .int (iI 1), .ref 512, .ref 513, .ref 514, .ref 515, .ref 516]) rfl (pc' := 13) rfl (fun S1030 h1031 n1032 e1033 => ?_)
    refine T_p xr_31_13 xn_31 (pc' := 14) (ls' := [(0, .ref 511)]) (st' := [.int (iI 1)]) rfl ?_
    refine T_p xr_31_14 xn_31 (pc' := 15) (ls' := [(1, .int (iI 1)), (0, .ref 511)]) (st' := []) rfl ?_
    have h1039 := (n1032 512 (by decide)).trans (hA512)
    have h1040 := (n1032 513 (by decide)).trans (hA513)
    have h1041 := (n1032 514 (by decide)).trans (hA514)
    have h1042 := (n1032 515 (by decide)).trans (hA515)
    have h1043 := (n1032 516 (by decide)).trans (hA516)
    have L1034 : ∀ (m1036 : Nat) (S1044 : X_S) (j : Int) (oK1 : Int → Int64) (oW1 : Int → Int64) (oA1 : Int → Int64) (oH1 : Int → Int64) (tl1 : Int → Int64) (hoK1 : S1044.1 512 = .inl (.long, 5115, .inr (.inl fun k : Nat => oK1 (k : Int)))) (hoW1 : S1044.1 513 = .inl (.long, 13950, .inr (.inl fun k : Nat => oW1 (k : Int)))) (hoA1 : S1044.1 514 = .inl (.long, 465, .inr (.inl fun k : Nat => oA1 (k : Int)))) (hoH1 : S1044.1 515 = .inl (.long, 55800, .inr (.inl fun k : Nat => oH1 (k : Int)))) (htl1 : S1044.1 516 = .inl (.long, 7200, .inr (.inl fun k : Nat => tl1 (k : Int)))) (hF1038 : X_Fr (fun q => 512 ≤ q ∧ q ≤ 516) S1030 S1044) (hj : 1 ≤ j ∧ j ≤ tn + 1) (hCo : ∀ i2 j2, 0 ≤ i2 → i2 < j2 → j2 < j → X_rw G (-2) i2 j2 oK1 oW1 oA1 oH1) (hm1037 : tn + 1 - j < m1036), X_T sc 31 (15, [(1, .int (iI j)), (0, .ref 511)], [], S1044) Q := by
      intro m1036
      induction m1036 with
      | zero =>
        intro S1044 j oK1 oW1 oA1 oH1 tl1 hoK1 hoW1 hoA1 hoH1 htl1 hF1038 hj hCo hm1037
        exact (show False by omega).elim
      | succ m1036 ih1035 =>
        intro S1044 j oK1 oW1 oA1 oH1 tl1 hoK1 hoW1 hoA1 hoH1 htl1 hF1038 hj hCo hm1037
        refine T_p xr_31_15 xn_31 (pc' := 16) (ls' := [(1, .int (iI j)), (0, .ref 511)]) (st' := [.int (iI j)]) rfl ?_
        refine T_p xr_31_16 xn_31 (pc' := 17) (ls' := [(1, .int (iI j)), (0, .ref 511)]) (st' := [.ref 511, .int (iI j)]) rfl ?_
        have h1045 := (hF1038.1 511 (by first | decide | omega)).trans (h1031)
        refine T_get xr_31_17 h1045 rfl (v := .ref 501) rfl (pc' := 20) rfl ?_
        have h1046 := (hF1038.1 501 (by first | decide | omega)).trans ((n1032 501 (by decide)).trans (hO501))
        refine T_get xr_31_20 h1046 rfl (v := .int (iI tn)) rfl (pc' := 23) rfl ?_
        refine T_zicmp_gt xr_31_23 (t := 52) (pc' := 26) rfl rfl (fun c1047 => ?_) (fun c1047 => ?_)
        · skip
          have c1047 : tn < j := c1047
          refine T_vret xr_31_52 xf_31.2.2 ?_
          refine hQ _ _ ?_
          exact ⟨oK1, oW1, oA1, oH1, tl1, rfl, (fun i j h1 h2 h3 => hCo i j h1 h2 (by omega)), h1045, hoK1, hoW1, hoA1, hoH1, htl1, ((X_Fr.rf).tr (X_Fr.of n1032 e1033 (by first | decide | exact ⟨Nat.le_add_right _ _, Nat.add_le_add_left (by decide) _⟩ | omega))).tr (X_Fr.mono ⟨hF1038.1, hF1038.2⟩ (fun q hq => (by omega)))⟩
        · skip
          have c1047 : ¬ (tn < j) := c1047
          refine T_p xr_31_26 xn_31 (pc' := 27) (ls' := [(1, .int (iI j)), (0, .ref 511)]) (st' := [.int (iI j)]) rfl ?_
          refine T_p xr_31_27 xn_31 (pc' := 28) (ls' := [(1, .int (iI j)), (0, .ref 511)]) (st' := [.int (iI 1), .int (iI j)]) rfl ?_
          refine T_zisub xr_31_28 (z := j - 1) rfl (pc' := 29) rfl ?_
          refine T_p xr_31_29 xn_31 (pc' := 30) (ls' := [(2, .int (iI (j - 1))), (1, .int (iI j)), (0, .ref 511)]) (st' := []) rfl ?_
          have L1048 : ∀ (m1050 : Nat) (S1053 : X_S) (i : Int) (oK2 : Int → Int64) (oW2 : Int → Int64) (oA2 : Int → Int64) (oH2 : Int → Int64) (tl2 : Int → Int64) (hoK1b : S1053.1 512 = .inl (.long, 5115, .inr (.inl fun k : Nat => oK2 (k : Int)))) (hoW1b : S1053.1 513 = .inl (.long, 13950, .inr (.inl fun k : Nat => oW2 (k : Int)))) (hoA1b : S1053.1 514 = .inl (.long, 465, .inr (.inl fun k : Nat => oA2 (k : Int)))) (hoH1b : S1053.1 515 = .inl (.long, 55800, .inr (.inl fun k : Nat => oH2 (k : Int)))) (htl1b : S1053.1 516 = .inl (.long, 7200, .inr (.inl fun k : Nat => tl2 (k : Int)))) (hF1052 : X_Fr (fun q => 512 ≤ q ∧ q ≤ 516) S1044 S1053) (hi : -1 ≤ i ∧ i < j) (hCi : ∀ i2 j2, 0 ≤ i2 → i2 < j2 → j2 ≤ j → (j2 = j → i < i2) → X_rw G (-2) i2 j2 oK2 oW2 oA2 oH2) (hTi : ∀ w, 0 ≤ w → w < gw G → ∀ q, i < q → q < j → X_tl G (-2) w q j tl2) (hm1051 : i + 1 < m1050), X_T sc 31 (30, [(2, .int (iI i)), (1, .int (iI j)), (0, .ref 511)], [], S1053) Q := by
            intro m1050
            induction m1050 with
            | zero =>
              intro S1053 i oK2 oW2 oA2 oH2 tl2 hoK1b hoW1b hoA1b hoH1b htl1b hF1052 hi hCi hTi hm1051
              exact (show False by omega).elim
            | succ m1050 ih1049 =>
              intro S1053 i oK2 oW2 oA2 oH2 tl2 hoK1b hoW1b hoA1b hoH1b htl1b hF1052 hi hCi hTi hm1051
              refine T_p xr_31_30 xn_31 (pc' := 31) (ls' := [(2, .int (iI i)), (1, .int (iI j)), (0, .ref 511)]) (st' := [.int (iI i)]) rfl ?_
              refine T_zif_lt xr_31_31 (t := 46) (pc' := 34) rfl rfl (fun c1054 => ?_) (fun c1054 => ?_)
              · skip
                have c1054 : i < 0 := c1054
                refine T_ziinc xr_31_46 xn_31 (a := j) (z := j + 1) rfl (Nat.le_of_ble_eq_true rfl) (by omega) (ls' := [(1, .int (iI (j + 1))), (2, .int (iI i)), (0, .ref 511)]) rfl (pc' := 49) rfl ?_
                refine T_p xr_31_49 xn_31 (pc' := 15) (ls' := [(1, .int (iI (j + 1))), (2, .int (iI i)), (0, .ref 511)]) (st' := []) rfl ?_
                refine T_sub (ls := [(1, .int (iI (j + 1))), (0, .ref 511)]) ⟨rfl, rfl, trivial⟩ rfl rfl ?_
                exact ih1035 S1053 (j + 1) oK2 oW2 oA2 oH2 tl2 hoK1b hoW1b hoA1b hoH1b htl1b (hF1038.tr ((X_Fr.rf).tr (X_Fr.mono ⟨hF1052.1, hF1052.2⟩ (fun q hq => (by omega))))) (by omega) (fun i2 j2 h1 h2 h3 => hCi i2 j2 h1 h2 (by omega) (by omega)) (by omega)
              · skip
                have c1054 : ¬ (i < 0) := c1054
                refine T_p xr_31_34 xn_31 (pc' := 35) (ls' := [(2, .int (iI i)), (1, .int (iI j)), (0, .ref 511)]) (st' := [.ref 511]) rfl ?_
                refine T_p xr_31_35 xn_31 (pc' := 36) (ls' := [(2, .int (iI i)), (1, .int (iI j)), (0, .ref 511)]) (st' := [.int (iI i), .ref 511]) rfl ?_
                refine T_p xr_31_36 xn_31 (pc' := 37) (ls' := [(2, .int (iI i)), (1, .int (iI j)), (0, .ref 511)]) (st' := [.int (iI j), .int (iI i), .ref 511]) rfl ?_
                have h1055 := (hF1052.1 511 (by first | decide | omega)).trans (h1045)
                refine T_cv (S := S1053) (q := 511) xr_31_37 xf_32.1 xf_32.2.1 xn_32 (as := [.int (iI i), .int (iI j)]) (r := []) rfl h1055 (Nat.le_of_ble_eq_true rfl) (Nat.le_of_ble_eq_true rfl) (pc' := 40) rfl (ls' := [(0, .ref 511), (1, .int (iI i)), (2, .int (iI j))]) rfl ?_
                have h1056 := (hF1052.1 501 (by first | decide | omega)).trans (h1046)
                have h1057 := (hF1052.1 B (by omega)).trans ((hF1038.1 B (by omega)).trans ((n1032 B (by omega)).trans (hb0)))
                have h1058 := (hF1052.1 (B + 1) (by omega)).trans ((hF1038.1 (B + 1) (by omega)).trans ((n1032 (B + 1) (by first | exact (fun h => absurd (Nat.add_left_cancel h) (by decide)) | omega)).trans (hb1)))
                have h1059 := (hF1052.1 (B + 2) (by omega)).trans ((hF1038.1 (B + 2) (by omega)).trans ((n1032 (B + 2) (by first | exact (fun h => absurd (Nat.add_left_cancel h) (by decide)) | omega)).trans (hb2)))
                have h1060 := (hF1052.1 (B + 3) (by omega)).trans ((hF1038.1 (B + 3) (by omega)).trans ((n1032 (B + 3) (by first | exact (fun h => absurd (Nat.add_left_cancel h) (by decide)) | omega)).trans (hb3)))
                have h1061 := (hF1052.1 (B + 4) (by omega)).trans ((hF1038.1 (B + 4) (by omega)).trans ((n1032 (B + 4) (by first | exact (fun h => absurd (Nat.add_left_cancel h) (by decide)) | omega)).trans (hb4)))
                have h1062 := (hF1052.1 (B + 5) (by omega)).trans ((hF1038.1 (B + 5) (by omega)).trans ((n1032 (B + 5) (by first | exact (fun h => absurd (Nat.add_left_cancel h) (by decide)) | omega)).trans (hb5)))
                have hs1063 : C_ws S1053 B (gD G) (gW G) := C_ws.fr (P := fun q => 501 ≤ q ∧ q ≤ 529) hs ((((X_Fr.rf).tr (X_Fr.of n1032 e1033 (by first | decide | exact ⟨Nat.le_add_right _ _, Nat.add_le_add_left (by decide) _⟩ | omega))).tr (X_Fr.mono ⟨hF1038.1, hF1038.2⟩ (fun q hq => (by omega)))).tr (X_Fr.mono ⟨hF1052.1, hF1052.2⟩ (fun q hq => (by omega)))) (fun k h1 h2 => by omega)
                have h1064 := (hF1052.1 502 (by first | decide | omega)).trans ((hF1038.1 502 (by first | decide | omega)).trans ((n1032 502 (by decide)).trans (hA502)))
                refine T_mono (c_fillStretch sc S1053 oK2 oW2 oA2 oH2 tl2 B rc rn kn G tn 1 i j h1056 h1055 hoK1b hoW1b hoA1b hoH1b htl1b hB ⟨h1057, h1058, h1059, h1060, h1061, ⟨f, h1062, hf⟩, ⟨by omega, by omega⟩, ⟨by omega, by omega⟩, ⟨by omega, by omega⟩⟩ hs1063 hG h1064 (by omega) hCi hTi) (fun v1065 S1066 h1067 => ?_)
                rcases h1067 with ⟨oK1068, oW1069, oA1070, oH1071, tl1072, hv1073, hp1074, hp1075, hp1076, hp1077, hp1078, hp1079, ha1080, ha1081, ha1082, ha1083, ha1084, hf1085⟩
                rw [hv1073]
                show X_T sc 31 (40, [(2, .int (iI i)), (1, .int (iI j)), (0, .ref 511)], [], S1066) _
                refine T_ziinc xr_31_40 xn_31 (a := i) (z := i - 1) rfl (Nat.le_of_ble_eq_true rfl) (by omega) (ls' := [(2, .int (iI (i - 1))), (1, .int (iI j)), (0, .ref 511)]) rfl (pc' := 43) rfl ?_
                refine T_p xr_31_43 xn_31 (pc' := 30) (ls' := [(2, .int (iI (i - 1))), (1, .int (iI j)), (0, .ref 511)]) (st' := []) rfl ?_
                exact ih1049 S1066 (i - 1) oK1068 oW1069 oA1070 oH1071 tl1072 ha1080 ha1081 ha1082 ha1083 ha1084 (hF1052.tr ((X_Fr.rf).tr (X_Fr.mono ⟨hf1085.1, hf1085.2⟩ (fun q hq => (by omega))))) (by omega) (fun i2 j2 h1 h2 h3 h4 => by
                      by_cases he : i2 = i ∧ j2 = j
                      · obtain ⟨e1, e2⟩ := he
                        subst e1; subst e2; exact hp1074
                      · exact X_rw.fr hG (X_ro_ne (by omega) (by omega) he) (hCi i2 j2 h1 h2 h3 (by omega)) hp1076 hp1077 hp1078 hp1079) (fun v h1 h2 q h3 h4 => hp1075 v h1 h2 q (by omega) h4) (by omega)
          exact L1048 (j + 1).toNat S1044 (j - 1) oK1 oW1 oA1 oH1 tl1 hoK1 hoW1 hoA1 hoH1 htl1 ((X_Fr.rf)) (by omega) (fun i2 j2 h1 h2 h3 h4 => hCo i2 j2 h1 h2 (by omega)) (fun v h1 h2 q h3 h4 => absurd h4 (by omega)) (by omega)
    exact L1034 (tn + 1).toNat S1030 1 oK oW oA oH tl h1039 h1040 h1041 h1042 h1043 ((X_Fr.rf)) (by omega) (fun i2 j2 h1 h2 h3 => absurd h3 (by omega)) (by omega)
  · skip
    have c1029 : ¬ (fl = 0) := c1029
    obtain rfl : fl = 1 := by omega
    refine T_vret xr_31_7 xf_31.2.2 ?_
    refine hQ _ _ ?_
    exact ⟨oK, oW, oA, oH, tl, rfl, (hC rfl), hO511, hA512, hA513, hA514, hA515, hA516, X_Fr.rf⟩
end
section
theorem xr_26_0 : X_row 26 0 = some (0, (.aload_n 0, 1), (0, 0, 0)) := by decide +kernel
theorem xr_26_1 : X_row 26 1 = some (1, (.getfield 19, 3), (1, 4, 30)) := by decide +kernel
theorem xr_26_4 : X_row 26 4 = some (4, (.iload_n 1, 1), (0, 0, 0)) := by decide +kernel
theorem xr_26_5 : X_row 26 5 = some (5, (.iload_n 2, 1), (0, 0, 0)) := by decide +kernel
theorem xr_26_6 : X_row 26 6 = some (6, (.invokestatic 40, 3), (24, 2, 0)) := by decide +kernel
theorem xr_26_9 : X_row 26 9 = some (9, (.bipush 30, 2), (0, 0, 0)) := by decide +kernel
theorem xr_26_11 : X_row 26 11 = some (11, (.imul, 1), (0, 0, 0)) := by decide +kernel
theorem xr_26_12 : X_row 26 12 = some (12, (.iload_n 3, 1), (0, 0, 0)) := by decide +kernel
theorem xr_26_13 : X_row 26 13 = some (13, (.iadd, 1), (0, 0, 0)) := by decide +kernel
theorem xr_26_14 : X_row 26 14 = some (14, (.laload, 1), (0, 0, 0)) := by decide +kernel
theorem xr_26_15 : X_row 26 15 = some (15, (.lreturn, 1), (0, 0, 0)) := by decide +kernel
theorem xr_28_0 : X_row 28 0 = some (0, (.aload_n 0, 1), (0, 0, 0)) := by decide +kernel
theorem xr_28_1 : X_row 28 1 = some (1, (.iload_n 1, 1), (0, 0, 0)) := by decide +kernel
theorem xr_28_2 : X_row 28 2 = some (2, (.iload_n 2, 1), (0, 0, 0)) := by decide +kernel
theorem xr_28_3 : X_row 28 3 = some (3, (.invokestatic 40, 3), (24, 2, 0)) := by decide +kernel
theorem xr_28_6 : X_row 28 6 = some (6, (.iload_n 3, 1), (0, 0, 0)) := by decide +kernel
theorem xr_28_7 : X_row 28 7 = some (7, (.invokevirtual 44, 3), (29, 26, 0)) := by decide +kernel
theorem xr_28_10 : X_row 28 10 = some (10, (.lreturn, 1), (0, 0, 0)) := by decide +kernel
theorem xr_44_0 : X_row 44 0 = some (0, (.aload_n 0, 1), (0, 0, 0)) := by decide +kernel
theorem xr_44_1 : X_row 44 1 = some (1, (.getfield 15, 3), (2, 4, 26)) := by decide +kernel
theorem xr_44_4 : X_row 44 4 = some (4, (.iload_n 1, 1), (0, 0, 0)) := by decide +kernel
theorem xr_44_5 : X_row 44 5 = some (5, (.iaload, 1), (0, 0, 0)) := by decide +kernel
theorem xr_44_6 : X_row 44 6 = some (6, (.istore_n 2, 1), (0, 0, 0)) := by decide +kernel
theorem xr_44_7 : X_row 44 7 = some (7, (.aload_n 0, 1), (0, 0, 0)) := by decide +kernel
theorem xr_44_8 : X_row 44 8 = some (8, (.getfield 19, 3), (2, 5, 28)) := by decide +kernel
theorem xr_44_11 : X_row 44 11 = some (11, (.iload_n 1, 1), (0, 0, 0)) := by decide +kernel
theorem xr_44_12 : X_row 44 12 = some (12, (.iaload, 1), (0, 0, 0)) := by decide +kernel
theorem xr_44_13 : X_row 44 13 = some (13, (.istore_n 3, 1), (0, 0, 0)) := by decide +kernel
theorem xr_44_14 : X_row 44 14 = some (14, (.aload_n 0, 1), (0, 0, 0)) := by decide +kernel
theorem xr_44_15 : X_row 44 15 = some (15, (.getfield 44, 3), (2, 0, 18)) := by decide +kernel
theorem xr_44_18 : X_row 44 18 = some (18, (.iload_n 2, 1), (0, 0, 0)) := by decide +kernel
theorem xr_44_19 : X_row 44 19 = some (19, (.iload_n 3, 1), (0, 0, 0)) := by decide +kernel
theorem xr_44_20 : X_row 44 20 = some (20, (.aload_n 0, 1), (0, 0, 0)) := by decide +kernel
theorem xr_44_21 : X_row 44 21 = some (21, (.getfield 31, 3), (2, 9, 36)) := by decide +kernel
theorem xr_44_24 : X_row 44 24 = some (24, (.iload_n 1, 1), (0, 0, 0)) := by decide +kernel
theorem xr_44_25 : X_row 44 25 = some (25, (.iaload, 1), (0, 0, 0)) := by decide +kernel
theorem xr_44_26 : X_row 44 26 = some (26, (.invokevirtual 107, 3), (28, 10, 0)) := by decide +kernel
theorem xr_44_29 : X_row 44 29 = some (29, (.lstore 4, 2), (0, 0, 0)) := by decide +kernel
theorem xr_44_31 : X_row 44 31 = some (31, (.iconst (-1), 1), (0, 0, 0)) := by decide +kernel
theorem xr_44_32 : X_row 44 32 = some (32, (.istore 6, 2), (0, 0, 0)) := by decide +kernel
theorem xr_44_34 : X_row 44 34 = some (34, (.iconst 0, 1), (0, 0, 0)) := by decide +kernel
theorem xr_44_35 : X_row 44 35 = some (35, (.istore 7, 2), (0, 0, 0)) := by decide +kernel
theorem xr_44_37 : X_row 44 37 = some (37, (.iload 7, 2), (0, 0, 0)) := by decide +kernel
theorem xr_44_39 : X_row 44 39 = some (39, (.aload_n 0, 1), (0, 0, 0)) := by decide +kernel
theorem xr_44_40 : X_row 44 40 = some (40, (.getfield 44, 3), (2, 0, 18)) := by decide +kernel
theorem xr_44_43 : X_row 44 43 = some (43, (.getfield 98, 3), (1, 0, 17)) := by decide +kernel
theorem xr_44_46 : X_row 44 46 = some (46, (.getfield 111, 3), (0, 2, 11)) := by decide +kernel
theorem xr_44_49 : X_row 44 49 = some (49, (.if_icmp .ge 72, 3), (0, 0, 0)) := by decide +kernel
theorem xr_44_52 : X_row 44 52 = some (52, (.lload 4, 2), (0, 0, 0)) := by decide +kernel
theorem xr_44_54 : X_row 44 54 = some (54, (.ldc2_w 114, 3), (18446744073709551614, 946, 0)) := by decide +kernel
theorem xr_44_57 : X_row 44 57 = some (57, (.lcmp, 1), (0, 0, 0)) := by decide +kernel
theorem xr_44_58 : X_row 44 58 = some (58, (.ifCond .eq 63, 3), (0, 0, 0)) := by decide +kernel
theorem xr_44_61 : X_row 44 61 = some (61, (.aload_n 0, 1), (0, 0, 0)) := by decide +kernel
theorem xr_44_62 : X_row 44 62 = some (62, (.getfield 34, 3), (2, 10, 38)) := by decide +kernel
theorem xr_44_65 : X_row 44 65 = some (65, (.iload_n 1, 1), (0, 0, 0)) := by decide +kernel
theorem xr_44_66 : X_row 44 66 = some (66, (.laload, 1), (0, 0, 0)) := by decide +kernel
theorem xr_44_67 : X_row 44 67 = some (67, (.lload 4, 2), (0, 0, 0)) := by decide +kernel
theorem xr_44_69 : X_row 44 69 = some (69, (.lcmp, 1), (0, 0, 0)) := by decide +kernel
theorem xr_44_70 : X_row 44 70 = some (70, (.ifCond .lt 51, 3), (0, 0, 0)) := by decide +kernel
theorem xr_44_73 : X_row 44 73 = some (73, (.aload_n 0, 1), (0, 0, 0)) := by decide +kernel
theorem xr_44_74 : X_row 44 74 = some (74, (.getfield 28, 3), (2, 8, 34)) := by decide +kernel
theorem xr_44_77 : X_row 44 77 = some (77, (.iload_n 1, 1), (0, 0, 0)) := by decide +kernel
theorem xr_44_78 : X_row 44 78 = some (78, (.iaload, 1), (0, 0, 0)) := by decide +kernel
theorem xr_44_79 : X_row 44 79 = some (79, (.iload 7, 2), (0, 0, 0)) := by decide +kernel
theorem xr_44_81 : X_row 44 81 = some (81, (.invokestatic 116, 3), (131, 13, 0)) := by decide +kernel
theorem xr_44_84 : X_row 44 84 = some (84, (.ifCond .eq 31, 3), (0, 0, 0)) := by decide +kernel
theorem xr_44_87 : X_row 44 87 = some (87, (.aload_n 0, 1), (0, 0, 0)) := by decide +kernel
theorem xr_44_88 : X_row 44 88 = some (88, (.getfield 34, 3), (2, 10, 38)) := by decide +kernel
theorem xr_44_91 : X_row 44 91 = some (91, (.iload_n 1, 1), (0, 0, 0)) := by decide +kernel
theorem xr_44_92 : X_row 44 92 = some (92, (.dup2, 1), (0, 0, 0)) := by decide +kernel
theorem xr_44_93 : X_row 44 93 = some (93, (.laload, 1), (0, 0, 0)) := by decide +kernel
theorem xr_44_94 : X_row 44 94 = some (94, (.lload 4, 2), (0, 0, 0)) := by decide +kernel
theorem xr_44_96 : X_row 44 96 = some (96, (.lsub, 1), (0, 0, 0)) := by decide +kernel
theorem xr_44_97 : X_row 44 97 = some (97, (.lastore, 1), (0, 0, 0)) := by decide +kernel
theorem xr_44_98 : X_row 44 98 = some (98, (.aload_n 0, 1), (0, 0, 0)) := by decide +kernel
theorem xr_44_99 : X_row 44 99 = some (99, (.getfield 44, 3), (2, 0, 18)) := by decide +kernel
theorem xr_44_102 : X_row 44 102 = some (102, (.iload_n 2, 1), (0, 0, 0)) := by decide +kernel
theorem xr_44_103 : X_row 44 103 = some (103, (.iload_n 3, 1), (0, 0, 0)) := by decide +kernel
theorem xr_44_104 : X_row 44 104 = some (104, (.iload 7, 2), (0, 0, 0)) := by decide +kernel
theorem xr_44_106 : X_row 44 106 = some (106, (.invokevirtual 120, 3), (26, 14, 0)) := by decide +kernel
theorem xr_44_109 : X_row 44 109 = some (109, (.lstore 4, 2), (0, 0, 0)) := by decide +kernel
theorem xr_44_111 : X_row 44 111 = some (111, (.iload 7, 2), (0, 0, 0)) := by decide +kernel
theorem xr_44_113 : X_row 44 113 = some (113, (.istore 6, 2), (0, 0, 0)) := by decide +kernel
theorem xr_44_115 : X_row 44 115 = some (115, (.iinc 7 1, 3), (0, 0, 0)) := by decide +kernel
theorem xr_44_118 : X_row 44 118 = some (118, (.goto (-81), 3), (0, 0, 0)) := by decide +kernel
theorem xr_44_121 : X_row 44 121 = some (121, (.iload 6, 2), (0, 0, 0)) := by decide +kernel
theorem xr_44_123 : X_row 44 123 = some (123, (.ireturn, 1), (0, 0, 0)) := by decide +kernel
theorem xn_26 : X_nL 26 = 4 := by decide +kernel
theorem xf_26 : X_na 26 = 3 ∧ X_ci 26 = 1 ∧ X_rt 26 = (some .long) := by decide +kernel
theorem xn_28 : X_nL 28 = 4 := by decide +kernel
theorem xf_28 : X_na 28 = 3 ∧ X_ci 28 = 1 ∧ X_rt 28 = (some .long) := by decide +kernel
theorem xn_44 : X_nL 44 = 8 := by decide +kernel
theorem xf_44 : X_na 44 = 1 ∧ X_ci 44 = 2 ∧ X_rt 44 = (some .int) := by decide +kernel
set_option maxHeartbeats 1600000 in
theorem c_chooseWord (sc : X_Sc) (S : X_S) (oK : Int → Int64) (oW : Int → Int64) (oA : Int → Int64) (oH : Int → Int64) (fF : Int → Int) (fE : Int → Int) (fW : Int → Int) (fK : Int → Int) (fN : Int → Int64) (B : Nat) (rc : Int) (rn : Int → Int64) (kn : Int → Int64) (G : X_G) (tn : Int) (fl : Int) (wt : Int) (t : Int) (i : Int) (j : Int) (u : Int) (o : Int) (en : Int) (k : Nat) (hO511 : S.1 511 = .inr (1, [.ref B, .ref 501, .int (iI fl), .ref 512, .ref 513, .ref 514, .ref 515, .ref 516])) (hO517 : S.1 517 = .inr (2, [.ref 511, .ref 501, .ref 504, .int (iI wt), .ref 518, .ref 519, .ref 520, .ref 521, .ref 522, .ref 523, .ref 524, .ref 525, .ref 526])) (hA512 : S.1 512 = .inl (.long, 5115, .inr (.inl fun k : Nat => oK (k : Int)))) (hA513 : S.1 513 = .inl (.long, 13950, .inr (.inl fun k : Nat => oW (k : Int)))) (hA514 : S.1 514 = .inl (.long, 465, .inr (.inl fun k : Nat => oA (k : Int)))) (hA515 : S.1 515 = .inl (.long, 55800, .inr (.inl fun k : Nat => oH (k : Int)))) (hA518 : S.1 518 = .inl (.int, 30, .inl fun k : Nat => iI (fF (k : Int)))) (hA519 : S.1 519 = .inl (.int, 30, .inl fun k : Nat => iI (fE (k : Int)))) (hA522 : S.1 522 = .inl (.int, 30, .inl fun k : Nat => iI (fW (k : Int)))) (hA523 : S.1 523 = .inl (.int, 30, .inl fun k : Nat => iI (fK (k : Int)))) (hA524 : S.1 524 = .inl (.long, 30, .inr (.inl fun k : Nat => fN (k : Int)))) (hB : B = 4 ∨ B = 250) (hb : C_bk S B rc (gk G) (gw G) rn (gl G) kn (ga G)) (hs : C_ws S B (gD G) (gW G)) (hG : X_Gok G) (ht : 0 ≤ t ∧ t < 30) (hij : 0 ≤ i ∧ i < j ∧ j ≤ 30) (hfi : fF t = i) (hfe : fE t = j) (hwb : ∀ v, 0 ≤ v → v < gw G → (X_bt (fW t) v ↔ (X_bt (ga G (gD G v 2 0)) u ∧ X_lt G o en v))) (hkb : ∀ z, 0 ≤ z → z < gk G → (X_bt (fK t) z ↔ X_bt (ga G z) u)) (hfn : fN t = iL (k : Int)) (hk : k < X_Hc G (X_T_ G) u o en i j) (hkm : k ≤ 9223372036854775807) (hrw : X_rw G (-2) i j oK oW oA oH) : X_T sc 44 (0, [(0, .ref 517), (1, .int (iI t))], [], S) (fun v S' => (∃ (fN1 : Int → Int64), v = some (.int (iI (-1))) ∧ k < X_Hq G (X_T_ G) u i j ∧ (∀ q, fN1 q = fN q) ∧ S'.1 524 = .inl (.long, 30, .inr (.inl fun k : Nat => fN1 (k : Int))) ∧ X_Fr (fun q => q = 524) S S') ∨ (∃ (v1 : Int) (k2 : Nat) (fN1 : Int → Int64), v = some (.int (iI v1)) ∧ ¬ k < X_Hq G (X_T_ G) u i j ∧ (0 ≤ v1 ∧ v1 < gw G) ∧ X_fd (X_cF G u o en i j) (gw G).toNat 0 (k - X_Hq G (X_T_ G) u i j) = (v1, k2) ∧ k2 < (X_T_ G).1 v1 i j ∧ k2 ≤ k ∧ fN1 t = iL (k2 : Int) ∧ (∀ q, ¬ q = t → fN1 q = fN q) ∧ S'.1 524 = .inl (.long, 30, .inr (.inl fun k : Nat => fN1 (k : Int))) ∧ X_Fr (fun q => q = 524) S S')) := by
  obtain ⟨hb0, hb1, hb2, hb3, hb4, ⟨f, hb5, hf⟩, ⟨hrc, hrcb⟩, ⟨hkc, hkcb⟩, ⟨hwc, hwcb⟩⟩ := id hb
  have hkP : k < X_Hq G (X_T_ G) u i j + X_Su (X_cF G u o en i j) 0 (gw G) := hk
  have hc1 := hG.1
  refine X_QI (fun Q hQ => ?_)
  refine T_p xr_44_0 xn_44 (pc' := 1) (ls' := [(0, .ref 517), (1, .int (iI t))]) (st' := [.ref 517]) rfl ?_
  refine T_get xr_44_1 hO517 rfl (v := .ref 518) rfl (pc' := 4) rfl ?_
  refine T_p xr_44_4 xn_44 (pc' := 5) (ls' := [(0, .ref 517), (1, .int (iI t))]) (st' := [.int (iI t), .ref 518]) rfl ?_
  refine T_ziald xr_44_5 hA518 (pc' := 6) rfl ?_
  refine T_ie (y := iI i) (by rw [hfi]) ?_
  refine T_p xr_44_6 xn_44 (pc' := 7) (ls' := [(2, .int (iI i)), (0, .ref 517), (1, .int (iI t))]) (st' := []) rfl ?_
  refine T_p xr_44_7 xn_44 (pc' := 8) (ls' := [(2, .int (iI i)), (0, .ref 517), (1, .int (iI t))]) (st' := [.ref 517]) rfl ?_
  refine T_get xr_44_8 hO517 rfl (v := .ref 519) rfl (pc' := 11) rfl ?_
  refine T_p xr_44_11 xn_44 (pc' := 12) (ls' := [(2, .int (iI i)), (0, .ref 517), (1, .int (iI t))]) (st' := [.int (iI t), .ref 519]) rfl ?_
  refine T_ziald xr_44_12 hA519 (pc' := 13) rfl ?_
  refine T_ie (y := iI j) (by rw [hfe]) ?_
  refine T_p xr_44_13 xn_44 (pc' := 14) (ls' := [(3, .int (iI j)), (2, .int (iI i)), (0, .ref 517), (1, .int (iI t))]) (st' := []) rfl ?_
  refine T_p xr_44_14 xn_44 (pc' := 15) (ls' := [(3, .int (iI j)), (2, .int (iI i)), (0, .ref 517), (1, .int (iI t))]) (st' := [.ref 517]) rfl ?_
  refine T_get xr_44_15 hO517 rfl (v := .ref 511) rfl (pc' := 18) rfl ?_
  refine T_p xr_44_18 xn_44 (pc' := 19) (ls' := [(3, .int (iI j)), (2, .int (iI i)), (0, .ref 517), (1, .int (iI t))]) (st' := [.int (iI i), .ref 511]) rfl ?_
  refine T_p xr_44_19 xn_44 (pc' := 20) (ls' := [(3, .int (iI j)), (2, .int (iI i)), (0, .ref 517), (1, .int (iI t))]) (st' := [.int (iI j), .int (iI i), .ref 511]) rfl ?_
  refine T_p xr_44_20 xn_44 (pc' := 21) (ls' := [(3, .int (iI j)), (2, .int (iI i)), (0, .ref 517), (1, .int (iI t))]) (st' := [.ref 517, .int (iI j), .int (iI i), .ref 511]) rfl ?_
  refine T_get xr_44_21 hO517 rfl (v := .ref 523) rfl (pc' := 24) rfl ?_
  refine T_p xr_44_24 xn_44 (pc' := 25) (ls' := [(3, .int (iI j)), (2, .int (iI i)), (0, .ref 517), (1, .int (iI t))]) (st' := [.int (iI t), .ref 523, .int (iI j), .int (iI i), .ref 511]) rfl ?_
  refine T_ziald xr_44_25 hA523 (pc' := 26) rfl ?_
  refine T_cv (S := S) (q := 511) xr_44_26 xf_28.1 xf_28.2.1 xn_28 (as := [.int (iI i), .int (iI j), .int (iI (fK t))]) (r := []) rfl hO511 (Nat.le_of_ble_eq_true rfl) (Nat.le_of_ble_eq_true rfl) (pc' := 29) rfl (ls' := [(0, .ref 511), (1, .int (iI i)), (2, .int (iI j)), (3, .int (iI (fK t)))]) rfl ?_
  refine T_p xr_28_0 xn_28 (pc' := 1) (ls' := [(0, .ref 511), (1, .int (iI i)), (2, .int (iI j)), (3, .int (iI (fK t)))]) (st' := [.ref 511]) rfl ?_
  refine T_p xr_28_1 xn_28 (pc' := 2) (ls' := [(0, .ref 511), (1, .int (iI i)), (2, .int (iI j)), (3, .int (iI (fK t)))]) (st' := [.int (iI i), .ref 511]) rfl ?_
  refine T_p xr_28_2 xn_28 (pc' := 3) (ls' := [(0, .ref 511), (1, .int (iI i)), (2, .int (iI j)), (3, .int (iI (fK t)))]) (st' := [.int (iI j), .int (iI i), .ref 511]) rfl ?_
  refine T_cs xr_28_3 (by decide) xf_24.1 xn_24 (as := [.int (iI i), .int (iI j)]) (r := [.ref 511]) rfl (Nat.le_of_ble_eq_true rfl) (Nat.le_of_ble_eq_true rfl) (pc' := 6) rfl (ls' := [(0, .int (iI i)), (1, .int (iI j))]) rfl ?_
  refine T_mono (c_rowOf sc S i j (by omega)) (fun v1086 S1087 h1088 => ?_)
  rcases h1088 with ⟨hv1089, hf1090⟩
  rw [hv1089]
  rw [hf1090]
  have hr1091 := X_ro_r (i := i) (j := j) (by omega) (by omega) (by omega)
  show X_T sc 28 (6, [(0, .ref 511), (1, .int (iI i)), (2, .int (iI j)), (3, .int (iI (fK t)))], [.int (iI (X_ro i j)), .ref 511], S) _
  refine T_p xr_28_6 xn_28 (pc' := 7) (ls' := [(0, .ref 511), (1, .int (iI i)), (2, .int (iI j)), (3, .int (iI (fK t)))]) (st' := [.int (iI (fK t)), .int (iI (X_ro i j)), .ref 511]) rfl ?_
  refine T_cv (S := S) (q := 511) xr_28_7 xf_29.1 xf_29.2.1 xn_29 (as := [.int (iI (X_ro i j)), .int (iI (fK t))]) (r := []) rfl hO511 (Nat.le_of_ble_eq_true rfl) (Nat.le_of_ble_eq_true rfl) (pc' := 10) rfl (ls' := [(0, .ref 511), (1, .int (iI (X_ro i j))), (2, .int (iI (fK t)))]) rfl ?_
  refine T_mono (c_sumK sc S oK B rc rn kn G tn fl (X_ro i j) (fK t) (fun z => X_nm G z i j + (X_T_ G).2 z i j) hO511 hA512 hB ⟨hb0, hb1, hb2, hb3, hb4, ⟨f, hb5, hf⟩, ⟨by omega, by omega⟩, ⟨by omega, by omega⟩, ⟨by omega, by omega⟩⟩ hs hG (by omega) hrw.1) (fun v1092 S1093 h1094 => ?_)
  rcases h1094 with ⟨hv1095, hf1096⟩
  rw [hv1095]
  rw [hf1096]
  show X_T sc 28 (10, [(0, .ref 511), (1, .int (iI i)), (2, .int (iI j)), (3, .int (iI (fK t)))], [.long (X_st (-2) (X_Su (fun k => X_if (X_bt (fK t) k) ((fun z => X_nm G z i j + (X_T_ G).2 z i j) k)) 0 (gk G)))], S) _
  refine T_lret xr_28_10 xf_28.2.2 rfl ?_
  show X_T sc 44 (29, [(3, .int (iI j)), (2, .int (iI i)), (0, .ref 517), (1, .int (iI t))], [.long (X_st (-2) (X_Su (fun k => X_if (X_bt (fK t) k) ((fun z => X_nm G z i j + (X_T_ G).2 z i j) k)) 0 (gk G)))], S) _
  refine T_le (y := (X_st (-2) (X_Hq G (X_T_ G) u i j))) (by
        refine congrArg (X_st (-2)) ?_
        exact X_Su_c (fun z h1 h2 => X_if_c (hkb z h1 h2) (fun _ => rfl))) ?_
  refine T_p xr_44_29 xn_44 (pc' := 31) (ls' := [(4, .long (X_st (-2) (X_Hq G (X_T_ G) u i j))), (3, .int (iI j)), (2, .int (iI i)), (0, .ref 517), (1, .int (iI t))]) (st' := []) rfl ?_
  refine T_p xr_44_31 xn_44 (pc' := 32) (ls' := [(4, .long (X_st (-2) (X_Hq G (X_T_ G) u i j))), (3, .int (iI j)), (2, .int (iI i)), (0, .ref 517), (1, .int (iI t))]) (st' := [.int (iI (-1))]) rfl ?_
  refine T_p xr_44_32 xn_44 (pc' := 34) (ls' := [(6, .int (iI (-1))), (4, .long (X_st (-2) (X_Hq G (X_T_ G) u i j))), (3, .int (iI j)), (2, .int (iI i)), (0, .ref 517), (1, .int (iI t))]) (st' := []) rfl ?_
  refine T_p xr_44_34 xn_44 (pc' := 35) (ls' := [(6, .int (iI (-1))), (4, .long (X_st (-2) (X_Hq G (X_T_ G) u i j))), (3, .int (iI j)), (2, .int (iI i)), (0, .ref 517), (1, .int (iI t))]) (st' := [.int (iI 0)]) rfl ?_
  refine T_p xr_44_35 xn_44 (pc' := 37) (ls' := [(7, .int (iI 0)), (6, .int (iI (-1))), (4, .long (X_st (-2) (X_Hq G (X_T_ G) u i j))), (3, .int (iI j)), (2, .int (iI i)), (0, .ref 517), (1, .int (iI t))]) (st' := []) rfl ?_
  have L1097 : ∀ (m1099 : Nat) (S1102 : X_S) (w : Int) (c : Int) (R : Nat) (K : Nat) (fN1 : Int → Int64) (hfN1 : S1102.1 524 = .inl (.long, 30, .inr (.inl fun k : Nat => fN1 (k : Int)))) (hF1101 : X_Fr (fun q => q = 524) S S1102) (hw : 0 ≤ w ∧ w ≤ gw G ∧ -1 ≤ c ∧ c < 30) (hKm : K ≤ 9223372036854775807) (hN : fN1 t = iL (K : Int) ∧ ∀ q, ¬ q = t → fN1 q = fN q) (hinv : (k - K + R = X_Hq G (X_T_ G) u i j + X_Su (X_cF G u o en i j) 0 w ∧ K ≤ k ∧ ((c = -1 ∧ K = k ∧ R = X_Hq G (X_T_ G) u i j) ∨ (0 ≤ c ∧ c < w ∧ (X_bt (ga G (gD G c 2 0)) u ∧ X_lt G o en c) ∧ R = (X_T_ G).1 c i j ∧ k = X_Hq G (X_T_ G) u i j + X_Su (X_cF G u o en i j) 0 c + K)))) (hm1100 : gw G - w < m1099), X_T sc 44 (37, [(7, .int (iI w)), (6, .int (iI c)), (4, .long (X_st (-2) R)), (2, .int (iI i)), (3, .int (iI j)), (0, .ref 517), (1, .int (iI t))], [], S1102) Q := by
    intro m1099
    induction m1099 with
    | zero =>
      intro S1102 w c R K fN1 hfN1 hF1101 hw hKm hN hinv hm1100
      exact (show False by omega).elim
    | succ m1099 ih1098 =>
      intro S1102 w c R K fN1 hfN1 hF1101 hw hKm hN hinv hm1100
      refine T_p xr_44_37 xn_44 (pc' := 39) (ls' := [(7, .int (iI w)), (6, .int (iI c)), (4, .long (X_st (-2) R)), (2, .int (iI i)), (3, .int (iI j)), (0, .ref 517), (1, .int (iI t))]) (st' := [.int (iI w)]) rfl ?_
      refine T_p xr_44_39 xn_44 (pc' := 40) (ls' := [(7, .int (iI w)), (6, .int (iI c)), (4, .long (X_st (-2) R)), (2, .int (iI i)), (3, .int (iI j)), (0, .ref 517), (1, .int (iI t))]) (st' := [.ref 517, .int (iI w)]) rfl ?_
      have h1103 := (hF1101.1 517 (by first | decide | omega)).trans (hO517)
      refine T_get xr_44_40 h1103 rfl (v := .ref 511) rfl (pc' := 43) rfl ?_
      have h1104 := (hF1101.1 511 (by first | decide | omega)).trans (hO511)
      refine T_get xr_44_43 h1104 rfl (v := .ref B) rfl (pc' := 46) rfl ?_
      have h1105 := (hF1101.1 B (by omega)).trans (hb0)
      refine T_get xr_44_46 h1105 rfl (v := .int (iI (gw G))) rfl (pc' := 49) rfl ?_
      refine T_zicmp_ge xr_44_49 (t := 121) (pc' := 52) rfl rfl (fun c1106 => ?_) (fun c1106 => ?_)
      · skip
        have c1106 : (gw G) ≤ w := c1106
        refine T_p xr_44_121 xn_44 (pc' := 123) (ls' := [(7, .int (iI w)), (6, .int (iI c)), (4, .long (X_st (-2) R)), (2, .int (iI i)), (3, .int (iI j)), (0, .ref 517), (1, .int (iI t))]) (st' := [.int (iI c)]) rfl ?_
        refine T_iret xr_44_123 xf_44.2.2 rfl ?_
        refine hQ _ _ ?_
        have hKR1107 : K < R := by
          first
            | exact (X_st_lt (m := -2) (by omega) hKm).mp (Or.inl (by first | assumption | exact Classical.not_not.mp (by assumption)))
            | exact (X_st_lt (m := -2) (by omega) hKm).mp (Or.inr (by first | assumption | exact Int64.not_le.mp (by assumption) | exact Classical.not_not.mp (by assumption)))
            | (rw [show w = gw G by omega] at hinv; omega)
        obtain ⟨a1, a2, ⟨b1, b2, b3⟩ | ⟨b1, b2, b3, b4, b5⟩⟩ := hinv
        · refine Or.inl ⟨fN1, by rw [b1], by omega, fun q => ?_, hfN1, (X_Fr.rf).tr (X_Fr.mono ⟨hF1101.1, hF1101.2⟩ (fun q hq => (by omega)))⟩
          by_cases hq : q = t
          · rw [hq, hN.1, b2, hfn]
          · exact hN.2 q hq
        · exact Or.inr ⟨c, K, fN1, rfl, by omega, by omega, X_ch_u hG (by omega) b3 b5 (by omega), by omega, by omega, hN.1, hN.2, hfN1, (X_Fr.rf).tr (X_Fr.mono ⟨hF1101.1, hF1101.2⟩ (fun q hq => (by omega)))⟩
      · skip
        have c1106 : ¬ ((gw G) ≤ w) := c1106
        refine T_p xr_44_52 xn_44 (pc' := 54) (ls' := [(7, .int (iI w)), (6, .int (iI c)), (4, .long (X_st (-2) R)), (2, .int (iI i)), (3, .int (iI j)), (0, .ref 517), (1, .int (iI t))]) (st' := [.long (X_st (-2) R)]) rfl ?_
        refine T_p xr_44_54 xn_44 (pc' := 57) (ls' := [(7, .int (iI w)), (6, .int (iI c)), (4, .long (X_st (-2) R)), (2, .int (iI i)), (3, .int (iI j)), (0, .ref 517), (1, .int (iI t))]) (st' := [.long (iL (-2)), .long (X_st (-2) R)]) rfl ?_
        refine T_lc_eq xr_44_57 xr_44_58 (t := 121) (pc' := 61) rfl rfl (fun c1108 => ?_) (fun c1108 => ?_)
        · skip
          have c1108 : (X_st (-2) R) = (iL (-2)) := c1108
          refine T_p xr_44_121 xn_44 (pc' := 123) (ls' := [(7, .int (iI w)), (6, .int (iI c)), (4, .long (X_st (-2) R)), (2, .int (iI i)), (3, .int (iI j)), (0, .ref 517), (1, .int (iI t))]) (st' := [.int (iI c)]) rfl ?_
          refine T_iret xr_44_123 xf_44.2.2 rfl ?_
          refine hQ _ _ ?_
          have hKR1109 : K < R := by
            first
              | exact (X_st_lt (m := -2) (by omega) hKm).mp (Or.inl (by first | assumption | exact Classical.not_not.mp (by assumption)))
              | exact (X_st_lt (m := -2) (by omega) hKm).mp (Or.inr (by first | assumption | exact Int64.not_le.mp (by assumption) | exact Classical.not_not.mp (by assumption)))
              | (rw [show w = gw G by omega] at hinv; omega)
          obtain ⟨a1, a2, ⟨b1, b2, b3⟩ | ⟨b1, b2, b3, b4, b5⟩⟩ := hinv
          · refine Or.inl ⟨fN1, by rw [b1], by omega, fun q => ?_, hfN1, (X_Fr.rf).tr (X_Fr.mono ⟨hF1101.1, hF1101.2⟩ (fun q hq => (by omega)))⟩
            by_cases hq : q = t
            · rw [hq, hN.1, b2, hfn]
            · exact hN.2 q hq
          · exact Or.inr ⟨c, K, fN1, rfl, by omega, by omega, X_ch_u hG (by omega) b3 b5 (by omega), by omega, by omega, hN.1, hN.2, hfN1, (X_Fr.rf).tr (X_Fr.mono ⟨hF1101.1, hF1101.2⟩ (fun q hq => (by omega)))⟩
        · skip
          have c1108 : ¬ ((X_st (-2) R) = (iL (-2))) := c1108
          refine T_p xr_44_61 xn_44 (pc' := 62) (ls' := [(7, .int (iI w)), (6, .int (iI c)), (4, .long (X_st (-2) R)), (2, .int (iI i)), (3, .int (iI j)), (0, .ref 517), (1, .int (iI t))]) (st' := [.ref 517]) rfl ?_
          refine T_get xr_44_62 h1103 rfl (v := .ref 524) rfl (pc' := 65) rfl ?_
          refine T_p xr_44_65 xn_44 (pc' := 66) (ls' := [(7, .int (iI w)), (6, .int (iI c)), (4, .long (X_st (-2) R)), (2, .int (iI i)), (3, .int (iI j)), (0, .ref 517), (1, .int (iI t))]) (st' := [.int (iI t), .ref 524]) rfl ?_
          refine T_zlald xr_44_66 hfN1 (pc' := 67) rfl ?_
          refine T_le (y := (iL (K : Int))) hN.1 ?_
          refine T_p xr_44_67 xn_44 (pc' := 69) (ls' := [(7, .int (iI w)), (6, .int (iI c)), (4, .long (X_st (-2) R)), (2, .int (iI i)), (3, .int (iI j)), (0, .ref 517), (1, .int (iI t))]) (st' := [.long (X_st (-2) R), .long (iL (K : Int))]) rfl ?_
          refine T_lc_lt xr_44_69 xr_44_70 (t := 121) (pc' := 73) rfl rfl (fun c1110 => ?_) (fun c1110 => ?_)
          · skip
            have c1110 : (iL (K : Int)) < (X_st (-2) R) := c1110
            refine T_p xr_44_121 xn_44 (pc' := 123) (ls' := [(7, .int (iI w)), (6, .int (iI c)), (4, .long (X_st (-2) R)), (2, .int (iI i)), (3, .int (iI j)), (0, .ref 517), (1, .int (iI t))]) (st' := [.int (iI c)]) rfl ?_
            refine T_iret xr_44_123 xf_44.2.2 rfl ?_
            refine hQ _ _ ?_
            have hKR1111 : K < R := by
              first
                | exact (X_st_lt (m := -2) (by omega) hKm).mp (Or.inl (by first | assumption | exact Classical.not_not.mp (by assumption)))
                | exact (X_st_lt (m := -2) (by omega) hKm).mp (Or.inr (by first | assumption | exact Int64.not_le.mp (by assumption) | exact Classical.not_not.mp (by assumption)))
                | (rw [show w = gw G by omega] at hinv; omega)
            obtain ⟨a1, a2, ⟨b1, b2, b3⟩ | ⟨b1, b2, b3, b4, b5⟩⟩ := hinv
            · refine Or.inl ⟨fN1, by rw [b1], by omega, fun q => ?_, hfN1, (X_Fr.rf).tr (X_Fr.mono ⟨hF1101.1, hF1101.2⟩ (fun q hq => (by omega)))⟩
              by_cases hq : q = t
              · rw [hq, hN.1, b2, hfn]
              · exact hN.2 q hq
            · exact Or.inr ⟨c, K, fN1, rfl, by omega, by omega, X_ch_u hG (by omega) b3 b5 (by omega), by omega, by omega, hN.1, hN.2, hfN1, (X_Fr.rf).tr (X_Fr.mono ⟨hF1101.1, hF1101.2⟩ (fun q hq => (by omega)))⟩
          · skip
            have c1110 : ¬ ((iL (K : Int)) < (X_st (-2) R)) := c1110
            refine T_p xr_44_73 xn_44 (pc' := 74) (ls' := [(7, .int (iI w)), (6, .int (iI c)), (4, .long (X_st (-2) R)), (2, .int (iI i)), (3, .int (iI j)), (0, .ref 517), (1, .int (iI t))]) (st' := [.ref 517]) rfl ?_
            refine T_get xr_44_74 h1103 rfl (v := .ref 522) rfl (pc' := 77) rfl ?_
            refine T_p xr_44_77 xn_44 (pc' := 78) (ls' := [(7, .int (iI w)), (6, .int (iI c)), (4, .long (X_st (-2) R)), (2, .int (iI i)), (3, .int (iI j)), (0, .ref 517), (1, .int (iI t))]) (st' := [.int (iI t), .ref 522]) rfl ?_
            have h1112 := (hF1101.1 522 (by first | decide | omega)).trans (hA522)
            refine T_ziald xr_44_78 h1112 (pc' := 79) rfl ?_
            refine T_p xr_44_79 xn_44 (pc' := 81) (ls' := [(7, .int (iI w)), (6, .int (iI c)), (4, .long (X_st (-2) R)), (2, .int (iI i)), (3, .int (iI j)), (0, .ref 517), (1, .int (iI t))]) (st' := [.int (iI w), .int (iI (fW t))]) rfl ?_
            refine T_cs xr_44_81 (by decide) xf_131.1 xn_131 (as := [.int (iI (fW t)), .int (iI w)]) (r := []) rfl (Nat.le_of_ble_eq_true rfl) (Nat.le_of_ble_eq_true rfl) (pc' := 84) rfl (ls' := [(0, .int (iI (fW t))), (1, .int (iI w))]) rfl ?_
            refine T_mono (c_hasBit sc S1102 (fW t) w) (fun v1114 S1115 h1113 => ?_)
            obtain ⟨h1116, h1117⟩ := h1113
            rw [h1116, h1117]
            show X_T sc 44 (84, [(7, .int (iI w)), (6, .int (iI c)), (4, .long (X_st (-2) R)), (2, .int (iI i)), (3, .int (iI j)), (0, .ref 517), (1, .int (iI t))], [.int (iI (bI (X_bt (fW t) w)))], S1102) _
            refine T_bif_eq xr_44_84 (t := 115) (pc' := 87) rfl rfl (fun c1118 => ?_) (fun c1118 => ?_)
            · skip
              have c1118 : ¬ (X_bt (fW t) w) := c1118
              refine T_ziinc xr_44_115 xn_44 (a := w) (z := w + 1) rfl (Nat.le_of_ble_eq_true rfl) (by omega) (ls' := [(7, .int (iI (w + 1))), (6, .int (iI c)), (4, .long (X_st (-2) R)), (2, .int (iI i)), (3, .int (iI j)), (0, .ref 517), (1, .int (iI t))]) rfl (pc' := 118) rfl ?_
              refine T_p xr_44_118 xn_44 (pc' := 37) (ls' := [(7, .int (iI (w + 1))), (6, .int (iI c)), (4, .long (X_st (-2) R)), (2, .int (iI i)), (3, .int (iI j)), (0, .ref 517), (1, .int (iI t))]) (st' := []) rfl ?_
              exact ih1098 S1102 (w + 1) c R K fN1 hfN1 (hF1101.tr (X_Fr.rf)) (by omega) (by omega) hN (by
                    obtain ⟨a1, a2, a3⟩ := hinv
                    have hno : ¬ (X_bt (ga G (gD G w 2 0)) u ∧ X_lt G o en w) := fun z => absurd ((hwb w (by omega) (by omega)).mpr z) (by assumption)
                    have es : X_Su (X_cF G u o en i j) 0 (w + 1) = X_Su (X_cF G u o en i j) 0 w := by rw [X_Su_s (by omega), show X_cF G u o en i j w = 0 from X_if_f hno]; rfl
                    rw [es]
                    exact ⟨a1, a2, by rcases a3 with a3 | ⟨b1, b2, b3⟩; exact Or.inl a3; exact Or.inr ⟨b1, by omega, b3⟩⟩) (by omega)
            · skip
              have c1118 : (X_bt (fW t) w) := c1118
              refine T_p xr_44_87 xn_44 (pc' := 88) (ls' := [(7, .int (iI w)), (6, .int (iI c)), (4, .long (X_st (-2) R)), (2, .int (iI i)), (3, .int (iI j)), (0, .ref 517), (1, .int (iI t))]) (st' := [.ref 517]) rfl ?_
              refine T_get xr_44_88 h1103 rfl (v := .ref 524) rfl (pc' := 91) rfl ?_
              refine T_p xr_44_91 xn_44 (pc' := 92) (ls' := [(7, .int (iI w)), (6, .int (iI c)), (4, .long (X_st (-2) R)), (2, .int (iI i)), (3, .int (iI j)), (0, .ref 517), (1, .int (iI t))]) (st' := [.int (iI t), .ref 524]) rfl ?_
              refine T_p xr_44_92 xn_44 (pc' := 93) (ls' := [(7, .int (iI w)), (6, .int (iI c)), (4, .long (X_st (-2) R)), (2, .int (iI i)), (3, .int (iI j)), (0, .ref 517), (1, .int (iI t))]) (st' := [.int (iI t), .ref 524, .int (iI t), .ref 524]) rfl ?_
              refine T_zlald xr_44_93 hfN1 (pc' := 94) rfl ?_
              refine T_le (y := (iL (K : Int))) hN.1 ?_
              refine T_p xr_44_94 xn_44 (pc' := 96) (ls' := [(7, .int (iI w)), (6, .int (iI c)), (4, .long (X_st (-2) R)), (2, .int (iI i)), (3, .int (iI j)), (0, .ref 517), (1, .int (iI t))]) (st' := [.long (X_st (-2) R), .long (iL (K : Int)), .int (iI t), .ref 524]) rfl ?_
              refine T_p xr_44_96 xn_44 (pc' := 97) (ls' := [(7, .int (iI w)), (6, .int (iI c)), (4, .long (X_st (-2) R)), (2, .int (iI i)), (3, .int (iI j)), (0, .ref 517), (1, .int (iI t))]) (st' := [.long ((iL (K : Int)) - (X_st (-2) R)), .int (iI t), .ref 524]) rfl ?_
              have hRK : R ≤ K ∧ X_st (-2) R = iL (R : Int) := by
                have h1 : ¬ (X_st (-2) R = iL (-2) ∨ iL (K : Int) < X_st (-2) R) := by
                  rintro (h | h)
                  · exact absurd h (by assumption)
                  · first | exact absurd h (by assumption) | exact absurd h (Int64.not_lt.mpr (Classical.not_not.mp (by assumption))) | exact absurd h (Int64.not_lt.mpr (by assumption))
                rw [X_st_lt (by omega) hKm] at h1
                exact ⟨by omega, X_st_lo (by omega)⟩
              refine T_le (y := (iL ((K - R : Nat) : Int))) (by rw [hRK.2]; exact iL_sub hRK.1) ?_
              refine T_zlast xr_44_97 hfN1 (pc' := 98) rfl (fun S1119 h1120 n1121 e1122 => ?_)
              refine T_p xr_44_98 xn_44 (pc' := 99) (ls' := [(7, .int (iI w)), (6, .int (iI c)), (4, .long (X_st (-2) R)), (2, .int (iI i)), (3, .int (iI j)), (0, .ref 517), (1, .int (iI t))]) (st' := [.ref 517]) rfl ?_
              have h1123 := (n1121 517 (by decide)).trans (h1103)
              refine T_get xr_44_99 h1123 rfl (v := .ref 511) rfl (pc' := 102) rfl ?_
              refine T_p xr_44_102 xn_44 (pc' := 103) (ls' := [(7, .int (iI w)), (6, .int (iI c)), (4, .long (X_st (-2) R)), (2, .int (iI i)), (3, .int (iI j)), (0, .ref 517), (1, .int (iI t))]) (st' := [.int (iI i), .ref 511]) rfl ?_
              refine T_p xr_44_103 xn_44 (pc' := 104) (ls' := [(7, .int (iI w)), (6, .int (iI c)), (4, .long (X_st (-2) R)), (2, .int (iI i)), (3, .int (iI j)), (0, .ref 517), (1, .int (iI t))]) (st' := [.int (iI j), .int (iI i), .ref 511]) rfl ?_
              refine T_p xr_44_104 xn_44 (pc' := 106) (ls' := [(7, .int (iI w)), (6, .int (iI c)), (4, .long (X_st (-2) R)), (2, .int (iI i)), (3, .int (iI j)), (0, .ref 517), (1, .int (iI t))]) (st' := [.int (iI w), .int (iI j), .int (iI i), .ref 511]) rfl ?_
              have h1124 := (n1121 511 (by decide)).trans (h1104)
              refine T_cv (S := S1119) (q := 511) xr_44_106 xf_26.1 xf_26.2.1 xn_26 (as := [.int (iI i), .int (iI j), .int (iI w)]) (r := []) rfl h1124 (Nat.le_of_ble_eq_true rfl) (Nat.le_of_ble_eq_true rfl) (pc' := 109) rfl (ls' := [(0, .ref 511), (1, .int (iI i)), (2, .int (iI j)), (3, .int (iI w))]) rfl ?_
              refine T_p xr_26_0 xn_26 (pc' := 1) (ls' := [(0, .ref 511), (1, .int (iI i)), (2, .int (iI j)), (3, .int (iI w))]) (st' := [.ref 511]) rfl ?_
              refine T_get xr_26_1 h1124 rfl (v := .ref 513) rfl (pc' := 4) rfl ?_
              refine T_p xr_26_4 xn_26 (pc' := 5) (ls' := [(0, .ref 511), (1, .int (iI i)), (2, .int (iI j)), (3, .int (iI w))]) (st' := [.int (iI i), .ref 513]) rfl ?_
              refine T_p xr_26_5 xn_26 (pc' := 6) (ls' := [(0, .ref 511), (1, .int (iI i)), (2, .int (iI j)), (3, .int (iI w))]) (st' := [.int (iI j), .int (iI i), .ref 513]) rfl ?_
              refine T_cs xr_26_6 (by decide) xf_24.1 xn_24 (as := [.int (iI i), .int (iI j)]) (r := [.ref 513]) rfl (Nat.le_of_ble_eq_true rfl) (Nat.le_of_ble_eq_true rfl) (pc' := 9) rfl (ls' := [(0, .int (iI i)), (1, .int (iI j))]) rfl ?_
              refine T_mono (c_rowOf sc S1119 i j (by omega)) (fun v1125 S1126 h1127 => ?_)
              rcases h1127 with ⟨hv1128, hf1129⟩
              rw [hv1128]
              rw [hf1129]
              have hr1130 := X_ro_r (i := i) (j := j) (by omega) (by omega) (by omega)
              show X_T sc 26 (9, [(0, .ref 511), (1, .int (iI i)), (2, .int (iI j)), (3, .int (iI w))], [.int (iI (X_ro i j)), .ref 513], S1119) _
              refine T_p xr_26_9 xn_26 (pc' := 11) (ls' := [(0, .ref 511), (1, .int (iI i)), (2, .int (iI j)), (3, .int (iI w))]) (st' := [.int (iI 30), .int (iI (X_ro i j)), .ref 513]) rfl ?_
              refine T_zimul xr_26_11 (z := (X_ro i j) * 30) rfl (pc' := 12) rfl ?_
              refine T_p xr_26_12 xn_26 (pc' := 13) (ls' := [(0, .ref 511), (1, .int (iI i)), (2, .int (iI j)), (3, .int (iI w))]) (st' := [.int (iI w), .int (iI ((X_ro i j) * 30)), .ref 513]) rfl ?_
              refine T_ziadd xr_26_13 (z := ((X_ro i j) * 30) + w) rfl (pc' := 14) rfl ?_
              have h1131 := (n1121 513 (by decide)).trans ((hF1101.1 513 (by first | decide | omega)).trans (hA513))
              refine T_zlald xr_26_14 h1131 (pc' := 15) rfl ?_
              refine T_le (y := (X_st (-2) ((X_T_ G).1 w i j))) (hrw.2.1 w (by omega) (by omega)) ?_
              refine T_lret xr_26_15 xf_26.2.2 rfl ?_
              show X_T sc 44 (109, [(7, .int (iI w)), (6, .int (iI c)), (4, .long (X_st (-2) R)), (2, .int (iI i)), (3, .int (iI j)), (0, .ref 517), (1, .int (iI t))], [.long (X_st (-2) ((X_T_ G).1 w i j))], S1119) _
              refine T_p xr_44_109 xn_44 (pc' := 111) (ls' := [(4, .long (X_st (-2) ((X_T_ G).1 w i j))), (7, .int (iI w)), (6, .int (iI c)), (2, .int (iI i)), (3, .int (iI j)), (0, .ref 517), (1, .int (iI t))]) (st' := []) rfl ?_
              refine T_p xr_44_111 xn_44 (pc' := 113) (ls' := [(4, .long (X_st (-2) ((X_T_ G).1 w i j))), (7, .int (iI w)), (6, .int (iI c)), (2, .int (iI i)), (3, .int (iI j)), (0, .ref 517), (1, .int (iI t))]) (st' := [.int (iI w)]) rfl ?_
              refine T_p xr_44_113 xn_44 (pc' := 115) (ls' := [(6, .int (iI w)), (4, .long (X_st (-2) ((X_T_ G).1 w i j))), (7, .int (iI w)), (2, .int (iI i)), (3, .int (iI j)), (0, .ref 517), (1, .int (iI t))]) (st' := []) rfl ?_
              refine T_ziinc xr_44_115 xn_44 (a := w) (z := w + 1) rfl (Nat.le_of_ble_eq_true rfl) (by omega) (ls' := [(7, .int (iI (w + 1))), (6, .int (iI w)), (4, .long (X_st (-2) ((X_T_ G).1 w i j))), (2, .int (iI i)), (3, .int (iI j)), (0, .ref 517), (1, .int (iI t))]) rfl (pc' := 118) rfl ?_
              refine T_p xr_44_118 xn_44 (pc' := 37) (ls' := [(7, .int (iI (w + 1))), (6, .int (iI w)), (4, .long (X_st (-2) ((X_T_ G).1 w i j))), (2, .int (iI i)), (3, .int (iI j)), (0, .ref 517), (1, .int (iI t))]) (st' := []) rfl ?_
              exact ih1098 S1119 (w + 1) w ((X_T_ G).1 w i j) (K - R) (X_ug fN1 t (iL ((K - R : Nat) : Int))) h1120 (hF1101.tr ((X_Fr.rf).tr (X_Fr.of n1121 e1122 (by first | decide | exact ⟨Nat.le_add_right _ _, Nat.add_le_add_left (by decide) _⟩ | omega)))) (by omega) (by omega) ⟨X_ug_s _ _ _, fun q hq => (X_ug_n _ _ hq).trans (hN.2 q hq)⟩ (by
                    obtain ⟨a1, a2, a3⟩ := hinv
                    have hok := (hwb w (by omega) (by omega)).mp (by assumption)
                    have es : X_Su (X_cF G u o en i j) 0 (w + 1) = X_Su (X_cF G u o en i j) 0 w + (X_T_ G).1 w i j := by rw [X_Su_s (by omega)]; congr 1; exact X_if_t hok
                    refine ⟨by omega, by omega, Or.inr ⟨by omega, by omega, hok, rfl, by omega⟩⟩) (by omega)
  refine T_sub (ls := [(7, .int (iI 0)), (6, .int (iI (-1))), (4, .long (X_st (-2) (X_Hq G (X_T_ G) u i j))), (2, .int (iI i)), (3, .int (iI j)), (0, .ref 517), (1, .int (iI t))]) ⟨rfl, rfl, rfl, rfl, rfl, rfl, rfl, trivial⟩ rfl rfl ?_
  exact L1097 ((gw G) + 1).toNat S 0 (-1) (X_Hq G (X_T_ G) u i j) k fN hA524 ((X_Fr.rf)) (by omega) hkm ⟨hfn, fun _ _ => rfl⟩ ⟨by rw [X_Su_e (Int.le_refl 0)]; omega, Nat.le_refl _, Or.inl ⟨rfl, rfl, rfl⟩⟩ (by omega)
end
section
theorem xr_45_0 : X_row 45 0 = some (0, (.aload_n 0, 1), (0, 0, 0)) := by decide +kernel
theorem xr_45_1 : X_row 45 1 = some (1, (.getfield 44, 3), (2, 0, 18)) := by decide +kernel
theorem xr_45_4 : X_row 45 4 = some (4, (.getfield 98, 3), (1, 0, 17)) := by decide +kernel
theorem xr_45_7 : X_row 45 7 = some (7, (.getfield 123, 3), (0, 7, 13)) := by decide +kernel
theorem xr_45_10 : X_row 45 10 = some (10, (.iload_n 1, 1), (0, 0, 0)) := by decide +kernel
theorem xr_45_11 : X_row 45 11 = some (11, (.aaload, 1), (0, 0, 0)) := by decide +kernel
theorem xr_45_12 : X_row 45 12 = some (12, (.astore 6, 2), (0, 0, 0)) := by decide +kernel
theorem xr_45_14 : X_row 45 14 = some (14, (.lload 4, 2), (0, 0, 0)) := by decide +kernel
theorem xr_45_16 : X_row 45 16 = some (16, (.lstore 7, 2), (0, 0, 0)) := by decide +kernel
theorem xr_45_18 : X_row 45 18 = some (18, (.lconst 1, 1), (0, 0, 0)) := by decide +kernel
theorem xr_45_19 : X_row 45 19 = some (19, (.lstore 9, 2), (0, 0, 0)) := by decide +kernel
theorem xr_45_21 : X_row 45 21 = some (21, (.iload_n 2, 1), (0, 0, 0)) := by decide +kernel
theorem xr_45_22 : X_row 45 22 = some (22, (.istore 11, 2), (0, 0, 0)) := by decide +kernel
theorem xr_45_24 : X_row 45 24 = some (24, (.iconst 0, 1), (0, 0, 0)) := by decide +kernel
theorem xr_45_25 : X_row 45 25 = some (25, (.istore 12, 2), (0, 0, 0)) := by decide +kernel
theorem xr_45_27 : X_row 45 27 = some (27, (.iload 12, 2), (0, 0, 0)) := by decide +kernel
theorem xr_45_29 : X_row 45 29 = some (29, (.aload 6, 2), (0, 0, 0)) := by decide +kernel
theorem xr_45_31 : X_row 45 31 = some (31, (.getfield 126, 3), (8, 3, 1)) := by decide +kernel
theorem xr_45_34 : X_row 45 34 = some (34, (.if_icmp .ge 154, 3), (0, 0, 0)) := by decide +kernel
theorem xr_45_37 : X_row 45 37 = some (37, (.aload 6, 2), (0, 0, 0)) := by decide +kernel
theorem xr_45_39 : X_row 45 39 = some (39, (.iload 12, 2), (0, 0, 0)) := by decide +kernel
theorem xr_45_41 : X_row 45 41 = some (41, (.invokevirtual 131, 3), (100, 22, 0)) := by decide +kernel
theorem xr_45_44 : X_row 45 44 = some (44, (.ifCond .ne 9, 3), (0, 0, 0)) := by decide +kernel
theorem xr_45_47 : X_row 45 47 = some (47, (.iinc 11 1, 3), (0, 0, 0)) := by decide +kernel
theorem xr_45_50 : X_row 45 50 = some (50, (.goto 132, 3), (0, 0, 0)) := by decide +kernel
theorem xr_45_53 : X_row 45 53 = some (53, (.aload 6, 2), (0, 0, 0)) := by decide +kernel
theorem xr_45_55 : X_row 45 55 = some (55, (.getfield 135, 3), (8, 9, 5)) := by decide +kernel
theorem xr_45_58 : X_row 45 58 = some (58, (.iload 12, 2), (0, 0, 0)) := by decide +kernel
theorem xr_45_60 : X_row 45 60 = some (60, (.iaload, 1), (0, 0, 0)) := by decide +kernel
theorem xr_45_61 : X_row 45 61 = some (61, (.istore 13, 2), (0, 0, 0)) := by decide +kernel
theorem xr_45_63 : X_row 45 63 = some (63, (.iload 11, 2), (0, 0, 0)) := by decide +kernel
theorem xr_45_65 : X_row 45 65 = some (65, (.iconst 1, 1), (0, 0, 0)) := by decide +kernel
theorem xr_45_66 : X_row 45 66 = some (66, (.iadd, 1), (0, 0, 0)) := by decide +kernel
theorem xr_45_67 : X_row 45 67 = some (67, (.istore 14, 2), (0, 0, 0)) := by decide +kernel
theorem xr_45_69 : X_row 45 69 = some (69, (.iload 14, 2), (0, 0, 0)) := by decide +kernel
theorem xr_45_71 : X_row 45 71 = some (71, (.iload_n 3, 1), (0, 0, 0)) := by decide +kernel
theorem xr_45_72 : X_row 45 72 = some (72, (.if_icmp .gt 101, 3), (0, 0, 0)) := by decide +kernel
theorem xr_45_75 : X_row 45 75 = some (75, (.lload 9, 2), (0, 0, 0)) := by decide +kernel
theorem xr_45_77 : X_row 45 77 = some (77, (.aload_n 0, 1), (0, 0, 0)) := by decide +kernel
theorem xr_45_78 : X_row 45 78 = some (78, (.getfield 44, 3), (2, 0, 18)) := by decide +kernel
theorem xr_45_81 : X_row 45 81 = some (81, (.iload 11, 2), (0, 0, 0)) := by decide +kernel
theorem xr_45_83 : X_row 45 83 = some (83, (.iload 14, 2), (0, 0, 0)) := by decide +kernel
theorem xr_45_85 : X_row 45 85 = some (85, (.iload_n 1, 1), (0, 0, 0)) := by decide +kernel
theorem xr_45_86 : X_row 45 86 = some (86, (.iload 13, 2), (0, 0, 0)) := by decide +kernel
theorem xr_45_88 : X_row 45 88 = some (88, (.invokevirtual 138, 3), (27, 24, 0)) := by decide +kernel
theorem xr_45_91 : X_row 45 91 = some (91, (.invokestatic 142, 3), (135, 27, 0)) := by decide +kernel
theorem xr_45_94 : X_row 45 94 = some (94, (.lstore 15, 2), (0, 0, 0)) := by decide +kernel
theorem xr_45_96 : X_row 45 96 = some (96, (.lload 15, 2), (0, 0, 0)) := by decide +kernel
theorem xr_45_98 : X_row 45 98 = some (98, (.aload_n 0, 1), (0, 0, 0)) := by decide +kernel
theorem xr_45_99 : X_row 45 99 = some (99, (.getfield 44, 3), (2, 0, 18)) := by decide +kernel
theorem xr_45_102 : X_row 45 102 = some (102, (.iload_n 1, 1), (0, 0, 0)) := by decide +kernel
theorem xr_45_103 : X_row 45 103 = some (103, (.iload 12, 2), (0, 0, 0)) := by decide +kernel
theorem xr_45_105 : X_row 45 105 = some (105, (.iconst 1, 1), (0, 0, 0)) := by decide +kernel
theorem xr_45_106 : X_row 45 106 = some (106, (.iadd, 1), (0, 0, 0)) := by decide +kernel
theorem xr_45_107 : X_row 45 107 = some (107, (.iload 14, 2), (0, 0, 0)) := by decide +kernel
theorem xr_45_109 : X_row 45 109 = some (109, (.iload_n 3, 1), (0, 0, 0)) := by decide +kernel
theorem xr_45_110 : X_row 45 110 = some (110, (.invokevirtual 146, 3), (38, 28, 0)) := by decide +kernel
theorem xr_45_113 : X_row 45 113 = some (113, (.invokestatic 142, 3), (135, 27, 0)) := by decide +kernel
theorem xr_45_116 : X_row 45 116 = some (116, (.lstore 17, 2), (0, 0, 0)) := by decide +kernel
theorem xr_45_118 : X_row 45 118 = some (118, (.lload 17, 2), (0, 0, 0)) := by decide +kernel
theorem xr_45_120 : X_row 45 120 = some (120, (.ldc2_w 114, 3), (18446744073709551614, 946, 0)) := by decide +kernel
theorem xr_45_123 : X_row 45 123 = some (123, (.lcmp, 1), (0, 0, 0)) := by decide +kernel
theorem xr_45_124 : X_row 45 124 = some (124, (.ifCond .eq 11, 3), (0, 0, 0)) := by decide +kernel
theorem xr_45_127 : X_row 45 127 = some (127, (.lload 7, 2), (0, 0, 0)) := by decide +kernel
theorem xr_45_129 : X_row 45 129 = some (129, (.lload 17, 2), (0, 0, 0)) := by decide +kernel
theorem xr_45_131 : X_row 45 131 = some (131, (.lcmp, 1), (0, 0, 0)) := by decide +kernel
theorem xr_45_132 : X_row 45 132 = some (132, (.ifCond .ge 28, 3), (0, 0, 0)) := by decide +kernel
theorem xr_45_135 : X_row 45 135 = some (135, (.aload_n 0, 1), (0, 0, 0)) := by decide +kernel
theorem xr_45_136 : X_row 45 136 = some (136, (.getfield 38, 3), (2, 11, 40)) := by decide +kernel
theorem xr_45_139 : X_row 45 139 = some (139, (.iload 13, 2), (0, 0, 0)) := by decide +kernel
theorem xr_45_141 : X_row 45 141 = some (141, (.iload 11, 2), (0, 0, 0)) := by decide +kernel
theorem xr_45_143 : X_row 45 143 = some (143, (.iastore, 1), (0, 0, 0)) := by decide +kernel
theorem xr_45_144 : X_row 45 144 = some (144, (.aload_n 0, 1), (0, 0, 0)) := by decide +kernel
theorem xr_45_145 : X_row 45 145 = some (145, (.getfield 41, 3), (2, 12, 42)) := by decide +kernel
theorem xr_45_148 : X_row 45 148 = some (148, (.iload 13, 2), (0, 0, 0)) := by decide +kernel
theorem xr_45_150 : X_row 45 150 = some (150, (.iload 14, 2), (0, 0, 0)) := by decide +kernel
theorem xr_45_152 : X_row 45 152 = some (152, (.iastore, 1), (0, 0, 0)) := by decide +kernel
theorem xr_45_153 : X_row 45 153 = some (153, (.lload 15, 2), (0, 0, 0)) := by decide +kernel
theorem xr_45_155 : X_row 45 155 = some (155, (.lstore 9, 2), (0, 0, 0)) := by decide +kernel
theorem xr_45_157 : X_row 45 157 = some (157, (.goto 16, 3), (0, 0, 0)) := by decide +kernel
theorem xr_45_160 : X_row 45 160 = some (160, (.lload 7, 2), (0, 0, 0)) := by decide +kernel
theorem xr_45_162 : X_row 45 162 = some (162, (.lload 17, 2), (0, 0, 0)) := by decide +kernel
theorem xr_45_164 : X_row 45 164 = some (164, (.lsub, 1), (0, 0, 0)) := by decide +kernel
theorem xr_45_165 : X_row 45 165 = some (165, (.lstore 7, 2), (0, 0, 0)) := by decide +kernel
theorem xr_45_167 : X_row 45 167 = some (167, (.iinc 14 1, 3), (0, 0, 0)) := by decide +kernel
theorem xr_45_170 : X_row 45 170 = some (170, (.goto (-101), 3), (0, 0, 0)) := by decide +kernel
theorem xr_45_173 : X_row 45 173 = some (173, (.aload_n 0, 1), (0, 0, 0)) := by decide +kernel
theorem xr_45_174 : X_row 45 174 = some (174, (.getfield 41, 3), (2, 12, 42)) := by decide +kernel
theorem xr_45_177 : X_row 45 177 = some (177, (.iload 13, 2), (0, 0, 0)) := by decide +kernel
theorem xr_45_179 : X_row 45 179 = some (179, (.iaload, 1), (0, 0, 0)) := by decide +kernel
theorem xr_45_180 : X_row 45 180 = some (180, (.istore 11, 2), (0, 0, 0)) := by decide +kernel
theorem xr_45_182 : X_row 45 182 = some (182, (.iinc 12 1, 3), (0, 0, 0)) := by decide +kernel
theorem xr_45_185 : X_row 45 185 = some (185, (.goto (-158), 3), (0, 0, 0)) := by decide +kernel
theorem xr_45_188 : X_row 45 188 = some (188, (.lload 7, 2), (0, 0, 0)) := by decide +kernel
theorem xr_45_190 : X_row 45 190 = some (190, (.lreturn, 1), (0, 0, 0)) := by decide +kernel
theorem xn_45 : X_nL 45 = 19 := by decide +kernel
theorem xf_45 : X_na 45 = 4 ∧ X_ci 45 = 2 ∧ X_rt 45 = (some .long) := by decide +kernel
set_option maxHeartbeats 1600000 in
theorem c_splitWord (sc : X_Sc) (S : X_S) (oK : Int → Int64) (oW : Int → Int64) (oA : Int → Int64) (oH : Int → Int64) (tl : Int → Int64) (hF : Int → Int) (hE : Int → Int) (B : Nat) (rc : Int) (rn : Int → Int64) (kn : Int → Int64) (G : X_G) (tn : Int) (fl : Int) (wt : Int) (w : Int) (i : Int) (j : Int) (k2 : Nat) (hO511 : S.1 511 = .inr (1, [.ref B, .ref 501, .int (iI fl), .ref 512, .ref 513, .ref 514, .ref 515, .ref 516])) (hO517 : S.1 517 = .inr (2, [.ref 511, .ref 501, .ref 504, .int (iI wt), .ref 518, .ref 519, .ref 520, .ref 521, .ref 522, .ref 523, .ref 524, .ref 525, .ref 526])) (hA512 : S.1 512 = .inl (.long, 5115, .inr (.inl fun k : Nat => oK (k : Int)))) (hA513 : S.1 513 = .inl (.long, 13950, .inr (.inl fun k : Nat => oW (k : Int)))) (hA514 : S.1 514 = .inl (.long, 465, .inr (.inl fun k : Nat => oA (k : Int)))) (hA515 : S.1 515 = .inl (.long, 55800, .inr (.inl fun k : Nat => oH (k : Int)))) (hA516 : S.1 516 = .inl (.long, 7200, .inr (.inl fun k : Nat => tl (k : Int)))) (hA525 : S.1 525 = .inl (.int, 4, .inl fun k : Nat => iI (hF (k : Int)))) (hA526 : S.1 526 = .inl (.int, 4, .inl fun k : Nat => iI (hE (k : Int)))) (hB : B = 4 ∨ B = 250) (hb : C_bk S B rc (gk G) (gw G) rn (gl G) kn (ga G)) (hs : C_ws S B (gD G) (gW G)) (hG : X_Gok G) (hw : 0 ≤ w ∧ w < gw G) (hij : 0 ≤ i ∧ i < j ∧ j ≤ tn ∧ tn ≤ 30) (hk2 : k2 < (X_T_ G).1 w i j) (hkm : k2 ≤ 9223372036854775807) (hcht : X_cht G (-2) tn oK oW oA oH) (ht : ∀ p, i < p → p < j → X_tl G (-2) w p j tl) : X_T sc 45 (0, [(0, .ref 517), (1, .int (iI w)), (2, .int (iI i)), (3, .int (iI j)), (4, .long (iL (k2 : Int)))], [], S) (fun v S' => ∃ (l1 : Nat) (HF : Int → Int) (HE : Int → Int) (hF1 : Int → Int) (hE1 : Int → Int), v = some (.long (iL (l1 : Int))) ∧ X_spl G w j (gD G w 3 0).toNat 0 i k2 1 (fun _ => 0) (fun _ => 0) = (l1, HF, HE) ∧ ((∀ h, 0 ≤ h → h < gD G w 4 0 → hF1 h = HF h ∧ hE1 h = HE h)) ∧ l1 ≤ 9223372036854775807 ∧ S'.1 525 = .inl (.int, 4, .inl fun k : Nat => iI (hF1 (k : Int))) ∧ S'.1 526 = .inl (.int, 4, .inl fun k : Nat => iI (hE1 (k : Int))) ∧ (X_Fr (fun q => q = 525 ∨ q = 526) S S')) := by
  obtain ⟨hb0, hb1, hb2, hb3, hb4, ⟨f, hb5, hf⟩, ⟨hrc, hrcb⟩, ⟨hkc, hkcb⟩, ⟨hwc, hwcb⟩⟩ := id hb
  have hgw := hG.2.2.2 w hw.1 hw.2
  have hsz := hgw.1
  have hho := hgw.2.1
  have hE0 : k2 < 1 * X_Ew G (X_T_ G) w 0 i j := by rw [Nat.one_mul, ← X_T_W hgw.2.2.1 hij.2.1 (by omega)]; exact hk2
  have h4n := hgw.2.2.2.2.2.2.1
  refine X_QI (fun Q hQ => ?_)
  refine T_p xr_45_0 xn_45 (pc' := 1) (ls' := [(0, .ref 517), (1, .int (iI w)), (2, .int (iI i)), (3, .int (iI j)), (4, .long (iL (k2 : Int)))]) (st' := [.ref 517]) rfl ?_
  refine T_get xr_45_1 hO517 rfl (v := .ref 511) rfl (pc' := 4) rfl ?_
  refine T_get xr_45_4 hO511 rfl (v := .ref B) rfl (pc' := 7) rfl ?_
  refine T_get xr_45_7 hb0 rfl (v := .ref (B + 5)) rfl (pc' := 10) rfl ?_
  refine T_p xr_45_10 xn_45 (pc' := 11) (ls' := [(0, .ref 517), (1, .int (iI w)), (2, .int (iI i)), (3, .int (iI j)), (4, .long (iL (k2 : Int)))]) (st' := [.int (iI w), .ref (B + 5)]) rfl ?_
  have hwaw := hs w (by omega) (by omega)
  obtain ⟨aw, haaw⟩ : ∃ z : Nat, z = B + 6 + 8 * (w : Int).toNat := ⟨_, rfl⟩
  rw [← haaw] at hwaw
  obtain ⟨⟨_, _⟩, ⟨_, _⟩, ⟨_, _⟩, ⟨_, _⟩, ⟨_, _⟩, ⟨_, _⟩, ⟨_, _⟩, ⟨_, _⟩⟩ := id hwaw.2
  refine T_zaald xr_45_11 hb5 (w := aw) (by rw [haaw]; exact hf _ (by omega)) (pc' := 12) rfl ?_
  refine T_p xr_45_12 xn_45 (pc' := 14) (ls' := [(6, .ref aw), (0, .ref 517), (1, .int (iI w)), (2, .int (iI i)), (3, .int (iI j)), (4, .long (iL (k2 : Int)))]) (st' := []) rfl ?_
  refine T_p xr_45_14 xn_45 (pc' := 16) (ls' := [(6, .ref aw), (0, .ref 517), (1, .int (iI w)), (2, .int (iI i)), (3, .int (iI j)), (4, .long (iL (k2 : Int)))]) (st' := [.long (iL (k2 : Int))]) rfl ?_
  refine T_p xr_45_16 xn_45 (pc' := 18) (ls' := [(7, .long (iL (k2 : Int))), (6, .ref aw), (0, .ref 517), (1, .int (iI w)), (2, .int (iI i)), (3, .int (iI j)), (4, .long (iL (k2 : Int)))]) (st' := []) rfl ?_
  refine T_p xr_45_18 xn_45 (pc' := 19) (ls' := [(7, .long (iL (k2 : Int))), (6, .ref aw), (0, .ref 517), (1, .int (iI w)), (2, .int (iI i)), (3, .int (iI j)), (4, .long (iL (k2 : Int)))]) (st' := [.long (iL 1)]) rfl ?_
  refine T_p xr_45_19 xn_45 (pc' := 21) (ls' := [(9, .long (iL 1)), (7, .long (iL (k2 : Int))), (6, .ref aw), (0, .ref 517), (1, .int (iI w)), (2, .int (iI i)), (3, .int (iI j)), (4, .long (iL (k2 : Int)))]) (st' := []) rfl ?_
  refine T_p xr_45_21 xn_45 (pc' := 22) (ls' := [(9, .long (iL 1)), (7, .long (iL (k2 : Int))), (6, .ref aw), (0, .ref 517), (1, .int (iI w)), (2, .int (iI i)), (3, .int (iI j)), (4, .long (iL (k2 : Int)))]) (st' := [.int (iI i)]) rfl ?_
  refine T_p xr_45_22 xn_45 (pc' := 24) (ls' := [(11, .int (iI i)), (9, .long (iL 1)), (7, .long (iL (k2 : Int))), (6, .ref aw), (0, .ref 517), (1, .int (iI w)), (2, .int (iI i)), (3, .int (iI j)), (4, .long (iL (k2 : Int)))]) (st' := []) rfl ?_
  refine T_p xr_45_24 xn_45 (pc' := 25) (ls' := [(11, .int (iI i)), (9, .long (iL 1)), (7, .long (iL (k2 : Int))), (6, .ref aw), (0, .ref 517), (1, .int (iI w)), (2, .int (iI i)), (3, .int (iI j)), (4, .long (iL (k2 : Int)))]) (st' := [.int (iI 0)]) rfl ?_
  refine T_p xr_45_25 xn_45 (pc' := 27) (ls' := [(12, .int (iI 0)), (11, .int (iI i)), (9, .long (iL 1)), (7, .long (iL (k2 : Int))), (6, .ref aw), (0, .ref 517), (1, .int (iI w)), (2, .int (iI i)), (3, .int (iI j)), (4, .long (iL (k2 : Int)))]) (st' := []) rfl ?_
  have L1135 : ∀ (m1137 : Nat) (S1140 : X_S) (e : Int) (pl : Int) (l : Nat) (b : Nat) (HF : Int → Int) (HE : Int → Int) (hF1 : Int → Int) (hE1 : Int → Int) (hhF1 : S1140.1 525 = .inl (.int, 4, .inl fun k : Nat => iI (hF1 (k : Int)))) (hhE1 : S1140.1 526 = .inl (.int, 4, .inl fun k : Nat => iI (hE1 (k : Int)))) (hF1139 : X_Fr (fun q => q = 525 ∨ q = 526) S S1140) (he : 0 ≤ e ∧ e ≤ gD G w 3 0 ∧ i + e ≤ pl ∧ pl ≤ j) (hl : l < b * X_Ew G (X_T_ G) w e pl j) (hlm : l ≤ 9223372036854775807) (hX : X_spl G w j ((gD G w 3 0 - e).toNat) e pl l b HF HE = X_spl G w j (gD G w 3 0).toNat 0 i k2 1 (fun _ => 0) (fun _ => 0)) (hA : ∀ h, 0 ≤ h → h < X_hn (gW G w) e → hF1 h = HF h ∧ hE1 h = HE h) (hm1138 : gD G w 3 0 - e < m1137), X_T sc 45 (27, [(12, .int (iI e)), (11, .int (iI pl)), (9, .long (X_st (-2) b)), (7, .long (iL (l : Int))), (6, .ref aw), (0, .ref 517), (1, .int (iI w)), (2, .int (iI i)), (3, .int (iI j))], [], S1140) Q := by
    intro m1137
    induction m1137 with
    | zero =>
      intro S1140 e pl l b HF HE hF1 hE1 hhF1 hhE1 hF1139 he hl hlm hX hA hm1138
      exact (show False by omega).elim
    | succ m1137 ih1136 =>
      intro S1140 e pl l b HF HE hF1 hE1 hhF1 hhE1 hF1139 he hl hlm hX hA hm1138
      refine T_p xr_45_27 xn_45 (pc' := 29) (ls' := [(12, .int (iI e)), (11, .int (iI pl)), (9, .long (X_st (-2) b)), (7, .long (iL (l : Int))), (6, .ref aw), (0, .ref 517), (1, .int (iI w)), (2, .int (iI i)), (3, .int (iI j))]) (st' := [.int (iI e)]) rfl ?_
      refine T_p xr_45_29 xn_45 (pc' := 31) (ls' := [(12, .int (iI e)), (11, .int (iI pl)), (9, .long (X_st (-2) b)), (7, .long (iL (l : Int))), (6, .ref aw), (0, .ref 517), (1, .int (iI w)), (2, .int (iI i)), (3, .int (iI j))]) (st' := [.ref aw, .int (iI e)]) rfl ?_
      have h1141 := (hF1139.1 aw (by omega)).trans (hwaw.1.1)
      refine T_get xr_45_31 h1141 rfl (v := .int (iI ((gD G) w 3 0))) rfl (pc' := 34) rfl ?_
      refine T_zicmp_ge xr_45_34 (t := 188) (pc' := 37) rfl rfl (fun c1142 => ?_) (fun c1142 => ?_)
      · skip
        have c1142 : ((gD G) w 3 0) ≤ e := c1142
        refine T_p xr_45_188 xn_45 (pc' := 190) (ls' := [(12, .int (iI e)), (11, .int (iI pl)), (9, .long (X_st (-2) b)), (7, .long (iL (l : Int))), (6, .ref aw), (0, .ref 517), (1, .int (iI w)), (2, .int (iI i)), (3, .int (iI j))]) (st' := [.long (iL (l : Int))]) rfl ?_
        refine T_lret xr_45_190 xf_45.2.2 rfl ?_
        refine hQ _ _ ?_
        have e1 : e = gD G w 3 0 := by omega
        rw [e1, show (gD G w 3 0 - gD G w 3 0).toNat = 0 by omega] at hX
        exact ⟨l, HF, HE, hF1, hE1, rfl, hX.symm, fun h h1 h2 => hA h h1 (by rw [e1, ← h4n]; exact h2), hlm, hhF1, hhE1, (X_Fr.rf).tr (X_Fr.mono ⟨hF1139.1, hF1139.2⟩ (fun q hq => (by omega)))⟩
      · skip
        have c1142 : ¬ (((gD G) w 3 0) ≤ e) := c1142
        refine T_p xr_45_37 xn_45 (pc' := 39) (ls' := [(12, .int (iI e)), (11, .int (iI pl)), (9, .long (X_st (-2) b)), (7, .long (iL (l : Int))), (6, .ref aw), (0, .ref 517), (1, .int (iI w)), (2, .int (iI i)), (3, .int (iI j))]) (st' := [.ref aw]) rfl ?_
        refine T_p xr_45_39 xn_45 (pc' := 41) (ls' := [(12, .int (iI e)), (11, .int (iI pl)), (9, .long (X_st (-2) b)), (7, .long (iL (l : Int))), (6, .ref aw), (0, .ref 517), (1, .int (iI w)), (2, .int (iI i)), (3, .int (iI j))]) (st' := [.int (iI e), .ref aw]) rfl ?_
        refine T_cv (S := S1140) (q := aw) xr_45_41 xf_100.1 xf_100.2.1 xn_100 (as := [.int (iI e)]) (r := []) rfl h1141 (Nat.le_of_ble_eq_true rfl) (Nat.le_of_ble_eq_true rfl) (pc' := 44) rfl (ls' := [(0, .ref aw), (1, .int (iI e))]) rfl ?_
        have h1143 := (hF1139.1 (aw + 1) (by omega)).trans (hwaw.1.2.1)
        have h1144 := (hF1139.1 (aw + 2) (by omega)).trans (hwaw.1.2.2.1)
        have h1145 := (hF1139.1 (aw + 3) (by omega)).trans (hwaw.1.2.2.2.1)
        have h1146 := (hF1139.1 (aw + 4) (by omega)).trans (hwaw.1.2.2.2.2.1)
        have h1147 := (hF1139.1 (aw + 5) (by omega)).trans (hwaw.1.2.2.2.2.2.1)
        have h1148 := (hF1139.1 (aw + 6) (by omega)).trans (hwaw.1.2.2.2.2.2.2.1)
        have h1149 := (hF1139.1 (aw + 7) (by omega)).trans (hwaw.1.2.2.2.2.2.2.2)
        refine T_mono (c_isHole sc S1140 aw ((gD G) w) ((gW G) w) e ⟨h1141, h1143, h1144, h1145, h1146, h1147, h1148, h1149⟩ hwaw.2 (by omega)) (fun v1151 S1152 h1150 => ?_)
        obtain ⟨h1153, h1154⟩ := h1150
        rw [h1153, h1154]
        show X_T sc 45 (44, [(12, .int (iI e)), (11, .int (iI pl)), (9, .long (X_st (-2) b)), (7, .long (iL (l : Int))), (6, .ref aw), (0, .ref 517), (1, .int (iI w)), (2, .int (iI i)), (3, .int (iI j))], [.int (iI (bI (X_hl ((gD G) w) ((gW G) w) e)))], S1140) _
        refine T_bif_ne xr_45_44 (t := 53) (pc' := 47) rfl rfl (fun c1155 => ?_) (fun c1155 => ?_)
        · skip
          have c1155 : (X_hl ((gD G) w) ((gW G) w) e) := c1155
          have hq0 : gW G w e = 0 := (show X_hl (gD G w) (gW G w) e by assumption).2.2
          have hh8 := hgw.hole (show 0 ≤ e by omega) (show e < gD G w 3 0 by omega) hq0
          have hX0 := hX
          rw [show (gD G w 3 0 - e).toNat = (gD G w 3 0 - (e + 1)).toNat + 1 by omega] at hX0
          have hs1 := X_hn_s (q := gW G w) (e := e) (show 0 ≤ e by omega)
          rw [if_pos hq0] at hs1
          have h8e := hgw.2.2.2.2.2.2.2.1 e (by omega) (by omega) hq0
          refine T_p xr_45_53 xn_45 (pc' := 55) (ls' := [(12, .int (iI e)), (11, .int (iI pl)), (9, .long (X_st (-2) b)), (7, .long (iL (l : Int))), (6, .ref aw), (0, .ref 517), (1, .int (iI w)), (2, .int (iI i)), (3, .int (iI j))]) (st' := [.ref aw]) rfl ?_
          refine T_get xr_45_55 h1141 rfl (v := .ref (aw + 2)) rfl (pc' := 58) rfl ?_
          refine T_p xr_45_58 xn_45 (pc' := 60) (ls' := [(12, .int (iI e)), (11, .int (iI pl)), (9, .long (X_st (-2) b)), (7, .long (iL (l : Int))), (6, .ref aw), (0, .ref 517), (1, .int (iI w)), (2, .int (iI i)), (3, .int (iI j))]) (st' := [.int (iI e), .ref (aw + 2)]) rfl ?_
          refine T_ziald xr_45_60 h1144 (pc' := 61) rfl ?_
          refine T_p xr_45_61 xn_45 (pc' := 63) (ls' := [(13, .int (iI (((gD G) w 8) e))), (12, .int (iI e)), (11, .int (iI pl)), (9, .long (X_st (-2) b)), (7, .long (iL (l : Int))), (6, .ref aw), (0, .ref 517), (1, .int (iI w)), (2, .int (iI i)), (3, .int (iI j))]) (st' := []) rfl ?_
          refine T_p xr_45_63 xn_45 (pc' := 65) (ls' := [(13, .int (iI (((gD G) w 8) e))), (12, .int (iI e)), (11, .int (iI pl)), (9, .long (X_st (-2) b)), (7, .long (iL (l : Int))), (6, .ref aw), (0, .ref 517), (1, .int (iI w)), (2, .int (iI i)), (3, .int (iI j))]) (st' := [.int (iI pl)]) rfl ?_
          refine T_p xr_45_65 xn_45 (pc' := 66) (ls' := [(13, .int (iI (((gD G) w 8) e))), (12, .int (iI e)), (11, .int (iI pl)), (9, .long (X_st (-2) b)), (7, .long (iL (l : Int))), (6, .ref aw), (0, .ref 517), (1, .int (iI w)), (2, .int (iI i)), (3, .int (iI j))]) (st' := [.int (iI 1), .int (iI pl)]) rfl ?_
          refine T_ziadd xr_45_66 (z := pl + 1) rfl (pc' := 67) rfl ?_
          refine T_p xr_45_67 xn_45 (pc' := 69) (ls' := [(14, .int (iI (pl + 1))), (13, .int (iI (((gD G) w 8) e))), (12, .int (iI e)), (11, .int (iI pl)), (9, .long (X_st (-2) b)), (7, .long (iL (l : Int))), (6, .ref aw), (0, .ref 517), (1, .int (iI w)), (2, .int (iI i)), (3, .int (iI j))]) (st' := []) rfl ?_
          have L1156 : ∀ (m1158 : Nat) (m : Int) (l2 : Nat) (hm : pl + 1 ≤ m ∧ m ≤ j + 1) (hl2m : l2 ≤ 9223372036854775807) (hl2 : l = X_Su (X_sF G w e pl j b) (pl + 1) m + l2) (hm1159 : j + 1 - m < m1158), X_T sc 45 (69, [(14, .int (iI m)), (13, .int (iI ((gD G w 8) e))), (12, .int (iI e)), (11, .int (iI pl)), (9, .long (X_st (-2) b)), (7, .long (iL (l2 : Int))), (6, .ref aw), (0, .ref 517), (1, .int (iI w)), (2, .int (iI i)), (3, .int (iI j))], [], S1140) Q := by
            intro m1158
            induction m1158 with
            | zero =>
              intro m l2 hm hl2m hl2 hm1159
              exact (show False by omega).elim
            | succ m1158 ih1157 =>
              intro m l2 hm hl2m hl2 hm1159
              refine T_p xr_45_69 xn_45 (pc' := 71) (ls' := [(14, .int (iI m)), (13, .int (iI ((gD G w 8) e))), (12, .int (iI e)), (11, .int (iI pl)), (9, .long (X_st (-2) b)), (7, .long (iL (l2 : Int))), (6, .ref aw), (0, .ref 517), (1, .int (iI w)), (2, .int (iI i)), (3, .int (iI j))]) (st' := [.int (iI m)]) rfl ?_
              refine T_p xr_45_71 xn_45 (pc' := 72) (ls' := [(14, .int (iI m)), (13, .int (iI ((gD G w 8) e))), (12, .int (iI e)), (11, .int (iI pl)), (9, .long (X_st (-2) b)), (7, .long (iL (l2 : Int))), (6, .ref aw), (0, .ref 517), (1, .int (iI w)), (2, .int (iI i)), (3, .int (iI j))]) (st' := [.int (iI j), .int (iI m)]) rfl ?_
              refine T_zicmp_gt xr_45_72 (t := 173) (pc' := 75) rfl rfl (fun c1161 => ?_) (fun c1161 => ?_)
              · skip
                have c1161 : j < m := c1161
                exact (by
                  rw [← X_sF_e (show e < gD G w 3 0 by omega) hq0, show j + 1 = m by omega] at hl
                  omega : False).elim
              · skip
                have c1161 : ¬ (j < m) := c1161
                refine T_p xr_45_75 xn_45 (pc' := 77) (ls' := [(14, .int (iI m)), (13, .int (iI ((gD G w 8) e))), (12, .int (iI e)), (11, .int (iI pl)), (9, .long (X_st (-2) b)), (7, .long (iL (l2 : Int))), (6, .ref aw), (0, .ref 517), (1, .int (iI w)), (2, .int (iI i)), (3, .int (iI j))]) (st' := [.long (X_st (-2) b)]) rfl ?_
                refine T_p xr_45_77 xn_45 (pc' := 78) (ls' := [(14, .int (iI m)), (13, .int (iI ((gD G w 8) e))), (12, .int (iI e)), (11, .int (iI pl)), (9, .long (X_st (-2) b)), (7, .long (iL (l2 : Int))), (6, .ref aw), (0, .ref 517), (1, .int (iI w)), (2, .int (iI i)), (3, .int (iI j))]) (st' := [.ref 517, .long (X_st (-2) b)]) rfl ?_
                have h1162 := (hF1139.1 517 (by first | decide | omega)).trans (hO517)
                refine T_get xr_45_78 h1162 rfl (v := .ref 511) rfl (pc' := 81) rfl ?_
                refine T_p xr_45_81 xn_45 (pc' := 83) (ls' := [(14, .int (iI m)), (13, .int (iI ((gD G w 8) e))), (12, .int (iI e)), (11, .int (iI pl)), (9, .long (X_st (-2) b)), (7, .long (iL (l2 : Int))), (6, .ref aw), (0, .ref 517), (1, .int (iI w)), (2, .int (iI i)), (3, .int (iI j))]) (st' := [.int (iI pl), .ref 511, .long (X_st (-2) b)]) rfl ?_
                refine T_p xr_45_83 xn_45 (pc' := 85) (ls' := [(14, .int (iI m)), (13, .int (iI ((gD G w 8) e))), (12, .int (iI e)), (11, .int (iI pl)), (9, .long (X_st (-2) b)), (7, .long (iL (l2 : Int))), (6, .ref aw), (0, .ref 517), (1, .int (iI w)), (2, .int (iI i)), (3, .int (iI j))]) (st' := [.int (iI m), .int (iI pl), .ref 511, .long (X_st (-2) b)]) rfl ?_
                refine T_p xr_45_85 xn_45 (pc' := 86) (ls' := [(14, .int (iI m)), (13, .int (iI ((gD G w 8) e))), (12, .int (iI e)), (11, .int (iI pl)), (9, .long (X_st (-2) b)), (7, .long (iL (l2 : Int))), (6, .ref aw), (0, .ref 517), (1, .int (iI w)), (2, .int (iI i)), (3, .int (iI j))]) (st' := [.int (iI w), .int (iI m), .int (iI pl), .ref 511, .long (X_st (-2) b)]) rfl ?_
                refine T_p xr_45_86 xn_45 (pc' := 88) (ls' := [(14, .int (iI m)), (13, .int (iI ((gD G w 8) e))), (12, .int (iI e)), (11, .int (iI pl)), (9, .long (X_st (-2) b)), (7, .long (iL (l2 : Int))), (6, .ref aw), (0, .ref 517), (1, .int (iI w)), (2, .int (iI i)), (3, .int (iI j))]) (st' := [.int (iI ((gD G w 8) e)), .int (iI w), .int (iI m), .int (iI pl), .ref 511, .long (X_st (-2) b)]) rfl ?_
                have h1163 := (hF1139.1 511 (by first | decide | omega)).trans (hO511)
                refine T_cv (S := S1140) (q := 511) xr_45_88 xf_27.1 xf_27.2.1 xn_27 (as := [.int (iI pl), .int (iI m), .int (iI w), .int (iI ((gD G w 8) e))]) (r := [.long (X_st (-2) b)]) rfl h1163 (Nat.le_of_ble_eq_true rfl) (Nat.le_of_ble_eq_true rfl) (pc' := 91) rfl (ls' := [(0, .ref 511), (1, .int (iI pl)), (2, .int (iI m)), (3, .int (iI w)), (4, .int (iI ((gD G w 8) e)))]) rfl ?_
                refine T_p xr_27_0 xn_27 (pc' := 1) (ls' := [(0, .ref 511), (1, .int (iI pl)), (2, .int (iI m)), (3, .int (iI w)), (4, .int (iI ((gD G w 8) e)))]) (st' := [.ref 511]) rfl ?_
                refine T_get xr_27_1 h1163 rfl (v := .ref 515) rfl (pc' := 4) rfl ?_
                refine T_p xr_27_4 xn_27 (pc' := 5) (ls' := [(0, .ref 511), (1, .int (iI pl)), (2, .int (iI m)), (3, .int (iI w)), (4, .int (iI ((gD G w 8) e)))]) (st' := [.int (iI pl), .ref 515]) rfl ?_
                refine T_p xr_27_5 xn_27 (pc' := 6) (ls' := [(0, .ref 511), (1, .int (iI pl)), (2, .int (iI m)), (3, .int (iI w)), (4, .int (iI ((gD G w 8) e)))]) (st' := [.int (iI m), .int (iI pl), .ref 515]) rfl ?_
                refine T_cs xr_27_6 (by decide) xf_24.1 xn_24 (as := [.int (iI pl), .int (iI m)]) (r := [.ref 515]) rfl (Nat.le_of_ble_eq_true rfl) (Nat.le_of_ble_eq_true rfl) (pc' := 9) rfl (ls' := [(0, .int (iI pl)), (1, .int (iI m))]) rfl ?_
                refine T_mono (c_rowOf sc S1140 pl m (by omega)) (fun v1164 S1165 h1166 => ?_)
                rcases h1166 with ⟨hv1167, hf1168⟩
                rw [hv1167]
                rw [hf1168]
                have hr1169 := X_ro_r (i := pl) (j := m) (by omega) (by omega) (by omega)
                show X_T sc 27 (9, [(0, .ref 511), (1, .int (iI pl)), (2, .int (iI m)), (3, .int (iI w)), (4, .int (iI ((gD G w 8) e)))], [.int (iI (X_ro pl m)), .ref 515], S1140) _
                refine T_p xr_27_9 xn_27 (pc' := 11) (ls' := [(0, .ref 511), (1, .int (iI pl)), (2, .int (iI m)), (3, .int (iI w)), (4, .int (iI ((gD G w 8) e)))]) (st' := [.int (iI 30), .int (iI (X_ro pl m)), .ref 515]) rfl ?_
                refine T_zimul xr_27_11 (z := (X_ro pl m) * 30) rfl (pc' := 12) rfl ?_
                refine T_p xr_27_12 xn_27 (pc' := 13) (ls' := [(0, .ref 511), (1, .int (iI pl)), (2, .int (iI m)), (3, .int (iI w)), (4, .int (iI ((gD G w 8) e)))]) (st' := [.int (iI w), .int (iI ((X_ro pl m) * 30)), .ref 515]) rfl ?_
                refine T_ziadd xr_27_13 (z := ((X_ro pl m) * 30) + w) rfl (pc' := 14) rfl ?_
                refine T_p xr_27_14 xn_27 (pc' := 15) (ls' := [(0, .ref 511), (1, .int (iI pl)), (2, .int (iI m)), (3, .int (iI w)), (4, .int (iI ((gD G w 8) e)))]) (st' := [.int (iI 4), .int (iI (((X_ro pl m) * 30) + w)), .ref 515]) rfl ?_
                refine T_zimul xr_27_15 (z := (((X_ro pl m) * 30) + w) * 4) rfl (pc' := 16) rfl ?_
                refine T_p xr_27_16 xn_27 (pc' := 18) (ls' := [(0, .ref 511), (1, .int (iI pl)), (2, .int (iI m)), (3, .int (iI w)), (4, .int (iI ((gD G w 8) e)))]) (st' := [.int (iI ((gD G w 8) e)), .int (iI ((((X_ro pl m) * 30) + w) * 4)), .ref 515]) rfl ?_
                refine T_ziadd xr_27_18 (z := ((((X_ro pl m) * 30) + w) * 4) + ((gD G w 8) e)) rfl (pc' := 19) rfl ?_
                have h1170 := (hF1139.1 515 (by first | decide | omega)).trans (hA515)
                refine T_zlald xr_27_19 h1170 (pc' := 20) rfl ?_
                refine T_le (y := (X_st (-2) (X_Hw G (X_T_ G) w e pl m))) ((hcht pl m (by omega) (by omega) (by omega)).2.2.2 w hw.1 hw.2 e (by omega) (by omega) hq0) ?_
                refine T_lret xr_27_20 xf_27.2.2 rfl ?_
                show X_T sc 45 (91, [(14, .int (iI m)), (13, .int (iI ((gD G w 8) e))), (12, .int (iI e)), (11, .int (iI pl)), (9, .long (X_st (-2) b)), (7, .long (iL (l2 : Int))), (6, .ref aw), (0, .ref 517), (1, .int (iI w)), (2, .int (iI i)), (3, .int (iI j))], [.long (X_st (-2) (X_Hw G (X_T_ G) w e pl m)), .long (X_st (-2) b)], S1140) _
                refine T_cs xr_45_91 (by decide) xf_135.1 xn_135 (as := [.long (X_st (-2) b), .long (X_st (-2) (X_Hw G (X_T_ G) w e pl m))]) (r := []) rfl (Nat.le_of_ble_eq_true rfl) (Nat.le_of_ble_eq_true rfl) (pc' := 94) rfl (ls' := [(0, .long (X_st (-2) b)), (2, .long (X_st (-2) (X_Hw G (X_T_ G) w e pl m)))]) rfl ?_
                refine T_mono (c_times sc S1140 b (X_Hw G (X_T_ G) w e pl m)) (fun v1171 S1172 h1173 => ?_)
                rcases h1173 with ⟨hv1174, hf1175⟩
                rw [hv1174]
                rw [hf1175]
                show X_T sc 45 (94, [(14, .int (iI m)), (13, .int (iI ((gD G w 8) e))), (12, .int (iI e)), (11, .int (iI pl)), (9, .long (X_st (-2) b)), (7, .long (iL (l2 : Int))), (6, .ref aw), (0, .ref 517), (1, .int (iI w)), (2, .int (iI i)), (3, .int (iI j))], [.long (X_st (-2) (b * (X_Hw G (X_T_ G) w e pl m)))], S1140) _
                refine T_p xr_45_94 xn_45 (pc' := 96) (ls' := [(15, .long (X_st (-2) (b * (X_Hw G (X_T_ G) w e pl m)))), (14, .int (iI m)), (13, .int (iI ((gD G w 8) e))), (12, .int (iI e)), (11, .int (iI pl)), (9, .long (X_st (-2) b)), (7, .long (iL (l2 : Int))), (6, .ref aw), (0, .ref 517), (1, .int (iI w)), (2, .int (iI i)), (3, .int (iI j))]) (st' := []) rfl ?_
                refine T_p xr_45_96 xn_45 (pc' := 98) (ls' := [(15, .long (X_st (-2) (b * (X_Hw G (X_T_ G) w e pl m)))), (14, .int (iI m)), (13, .int (iI ((gD G w 8) e))), (12, .int (iI e)), (11, .int (iI pl)), (9, .long (X_st (-2) b)), (7, .long (iL (l2 : Int))), (6, .ref aw), (0, .ref 517), (1, .int (iI w)), (2, .int (iI i)), (3, .int (iI j))]) (st' := [.long (X_st (-2) (b * (X_Hw G (X_T_ G) w e pl m)))]) rfl ?_
                refine T_p xr_45_98 xn_45 (pc' := 99) (ls' := [(15, .long (X_st (-2) (b * (X_Hw G (X_T_ G) w e pl m)))), (14, .int (iI m)), (13, .int (iI ((gD G w 8) e))), (12, .int (iI e)), (11, .int (iI pl)), (9, .long (X_st (-2) b)), (7, .long (iL (l2 : Int))), (6, .ref aw), (0, .ref 517), (1, .int (iI w)), (2, .int (iI i)), (3, .int (iI j))]) (st' := [.ref 517, .long (X_st (-2) (b * (X_Hw G (X_T_ G) w e pl m)))]) rfl ?_
                refine T_get xr_45_99 h1162 rfl (v := .ref 511) rfl (pc' := 102) rfl ?_
                refine T_p xr_45_102 xn_45 (pc' := 103) (ls' := [(15, .long (X_st (-2) (b * (X_Hw G (X_T_ G) w e pl m)))), (14, .int (iI m)), (13, .int (iI ((gD G w 8) e))), (12, .int (iI e)), (11, .int (iI pl)), (9, .long (X_st (-2) b)), (7, .long (iL (l2 : Int))), (6, .ref aw), (0, .ref 517), (1, .int (iI w)), (2, .int (iI i)), (3, .int (iI j))]) (st' := [.int (iI w), .ref 511, .long (X_st (-2) (b * (X_Hw G (X_T_ G) w e pl m)))]) rfl ?_
                refine T_p xr_45_103 xn_45 (pc' := 105) (ls' := [(15, .long (X_st (-2) (b * (X_Hw G (X_T_ G) w e pl m)))), (14, .int (iI m)), (13, .int (iI ((gD G w 8) e))), (12, .int (iI e)), (11, .int (iI pl)), (9, .long (X_st (-2) b)), (7, .long (iL (l2 : Int))), (6, .ref aw), (0, .ref 517), (1, .int (iI w)), (2, .int (iI i)), (3, .int (iI j))]) (st' := [.int (iI e), .int (iI w), .ref 511, .long (X_st (-2) (b * (X_Hw G (X_T_ G) w e pl m)))]) rfl ?_
                refine T_p xr_45_105 xn_45 (pc' := 106) (ls' := [(15, .long (X_st (-2) (b * (X_Hw G (X_T_ G) w e pl m)))), (14, .int (iI m)), (13, .int (iI ((gD G w 8) e))), (12, .int (iI e)), (11, .int (iI pl)), (9, .long (X_st (-2) b)), (7, .long (iL (l2 : Int))), (6, .ref aw), (0, .ref 517), (1, .int (iI w)), (2, .int (iI i)), (3, .int (iI j))]) (st' := [.int (iI 1), .int (iI e), .int (iI w), .ref 511, .long (X_st (-2) (b * (X_Hw G (X_T_ G) w e pl m)))]) rfl ?_
                refine T_ziadd xr_45_106 (z := e + 1) rfl (pc' := 107) rfl ?_
                refine T_p xr_45_107 xn_45 (pc' := 109) (ls' := [(15, .long (X_st (-2) (b * (X_Hw G (X_T_ G) w e pl m)))), (14, .int (iI m)), (13, .int (iI ((gD G w 8) e))), (12, .int (iI e)), (11, .int (iI pl)), (9, .long (X_st (-2) b)), (7, .long (iL (l2 : Int))), (6, .ref aw), (0, .ref 517), (1, .int (iI w)), (2, .int (iI i)), (3, .int (iI j))]) (st' := [.int (iI m), .int (iI (e + 1)), .int (iI w), .ref 511, .long (X_st (-2) (b * (X_Hw G (X_T_ G) w e pl m)))]) rfl ?_
                refine T_p xr_45_109 xn_45 (pc' := 110) (ls' := [(15, .long (X_st (-2) (b * (X_Hw G (X_T_ G) w e pl m)))), (14, .int (iI m)), (13, .int (iI ((gD G w 8) e))), (12, .int (iI e)), (11, .int (iI pl)), (9, .long (X_st (-2) b)), (7, .long (iL (l2 : Int))), (6, .ref aw), (0, .ref 517), (1, .int (iI w)), (2, .int (iI i)), (3, .int (iI j))]) (st' := [.int (iI j), .int (iI m), .int (iI (e + 1)), .int (iI w), .ref 511, .long (X_st (-2) (b * (X_Hw G (X_T_ G) w e pl m)))]) rfl ?_
                refine T_cv (S := S1140) (q := 511) xr_45_110 xf_38.1 xf_38.2.1 xn_38 (as := [.int (iI w), .int (iI (e + 1)), .int (iI m), .int (iI j)]) (r := [.long (X_st (-2) (b * (X_Hw G (X_T_ G) w e pl m)))]) rfl h1163 (Nat.le_of_ble_eq_true rfl) (Nat.le_of_ble_eq_true rfl) (pc' := 113) rfl (ls' := [(0, .ref 511), (1, .int (iI w)), (2, .int (iI (e + 1))), (3, .int (iI m)), (4, .int (iI j))]) rfl ?_
                have h1176 := (hF1139.1 516 (by first | decide | omega)).trans (hA516)
                have h1177 := (hF1139.1 B (by omega)).trans (hb0)
                have h1178 := (hF1139.1 (B + 1) (by omega)).trans (hb1)
                have h1179 := (hF1139.1 (B + 2) (by omega)).trans (hb2)
                have h1180 := (hF1139.1 (B + 3) (by omega)).trans (hb3)
                have h1181 := (hF1139.1 (B + 4) (by omega)).trans (hb4)
                have h1182 := (hF1139.1 (B + 5) (by omega)).trans (hb5)
                have hs1183 : C_ws S1140 B (gD G) (gW G) := C_ws.fr (P := fun q => 501 ≤ q ∧ q ≤ 529) hs ((X_Fr.rf).tr (X_Fr.mono ⟨hF1139.1, hF1139.2⟩ (fun q hq => (by omega)))) (fun k h1 h2 => by omega)
                refine T_mono (c_tail sc S1140 tl B rc rn kn G tn fl w (e + 1) m j h1163 h1176 hB ⟨h1177, h1178, h1179, h1180, h1181, ⟨f, h1182, hf⟩, ⟨by omega, by omega⟩, ⟨by omega, by omega⟩, ⟨by omega, by omega⟩⟩ hs1183 hG (by omega) (by omega) (by omega) (fun z1 z2 => ht _ (by omega) z1 _ (by omega) z2)) (fun v1184 S1185 h1186 => ?_)
                rcases h1186 with ⟨hv1187, hf1188⟩
                rw [hv1187]
                rw [hf1188]
                show X_T sc 45 (113, [(15, .long (X_st (-2) (b * (X_Hw G (X_T_ G) w e pl m)))), (14, .int (iI m)), (13, .int (iI ((gD G w 8) e))), (12, .int (iI e)), (11, .int (iI pl)), (9, .long (X_st (-2) b)), (7, .long (iL (l2 : Int))), (6, .ref aw), (0, .ref 517), (1, .int (iI w)), (2, .int (iI i)), (3, .int (iI j))], [.long (X_st (-2) (X_Ew G (X_T_ G) w (e + 1) m j)), .long (X_st (-2) (b * (X_Hw G (X_T_ G) w e pl m)))], S1140) _
                refine T_cs xr_45_113 (by decide) xf_135.1 xn_135 (as := [.long (X_st (-2) (b * (X_Hw G (X_T_ G) w e pl m))), .long (X_st (-2) (X_Ew G (X_T_ G) w (e + 1) m j))]) (r := []) rfl (Nat.le_of_ble_eq_true rfl) (Nat.le_of_ble_eq_true rfl) (pc' := 116) rfl (ls' := [(0, .long (X_st (-2) (b * (X_Hw G (X_T_ G) w e pl m)))), (2, .long (X_st (-2) (X_Ew G (X_T_ G) w (e + 1) m j)))]) rfl ?_
                refine T_mono (c_times sc S1140 (b * (X_Hw G (X_T_ G) w e pl m)) (X_Ew G (X_T_ G) w (e + 1) m j)) (fun v1189 S1190 h1191 => ?_)
                rcases h1191 with ⟨hv1192, hf1193⟩
                rw [hv1192]
                rw [hf1193]
                show X_T sc 45 (116, [(15, .long (X_st (-2) (b * (X_Hw G (X_T_ G) w e pl m)))), (14, .int (iI m)), (13, .int (iI ((gD G w 8) e))), (12, .int (iI e)), (11, .int (iI pl)), (9, .long (X_st (-2) b)), (7, .long (iL (l2 : Int))), (6, .ref aw), (0, .ref 517), (1, .int (iI w)), (2, .int (iI i)), (3, .int (iI j))], [.long (X_st (-2) ((b * (X_Hw G (X_T_ G) w e pl m)) * (X_Ew G (X_T_ G) w (e + 1) m j)))], S1140) _
                refine T_p xr_45_116 xn_45 (pc' := 118) (ls' := [(17, .long (X_st (-2) ((b * (X_Hw G (X_T_ G) w e pl m)) * (X_Ew G (X_T_ G) w (e + 1) m j)))), (15, .long (X_st (-2) (b * (X_Hw G (X_T_ G) w e pl m)))), (14, .int (iI m)), (13, .int (iI ((gD G w 8) e))), (12, .int (iI e)), (11, .int (iI pl)), (9, .long (X_st (-2) b)), (7, .long (iL (l2 : Int))), (6, .ref aw), (0, .ref 517), (1, .int (iI w)), (2, .int (iI i)), (3, .int (iI j))]) (st' := []) rfl ?_
                refine T_p xr_45_118 xn_45 (pc' := 120) (ls' := [(17, .long (X_st (-2) ((b * (X_Hw G (X_T_ G) w e pl m)) * (X_Ew G (X_T_ G) w (e + 1) m j)))), (15, .long (X_st (-2) (b * (X_Hw G (X_T_ G) w e pl m)))), (14, .int (iI m)), (13, .int (iI ((gD G w 8) e))), (12, .int (iI e)), (11, .int (iI pl)), (9, .long (X_st (-2) b)), (7, .long (iL (l2 : Int))), (6, .ref aw), (0, .ref 517), (1, .int (iI w)), (2, .int (iI i)), (3, .int (iI j))]) (st' := [.long (X_st (-2) ((b * (X_Hw G (X_T_ G) w e pl m)) * (X_Ew G (X_T_ G) w (e + 1) m j)))]) rfl ?_
                refine T_p xr_45_120 xn_45 (pc' := 123) (ls' := [(17, .long (X_st (-2) ((b * (X_Hw G (X_T_ G) w e pl m)) * (X_Ew G (X_T_ G) w (e + 1) m j)))), (15, .long (X_st (-2) (b * (X_Hw G (X_T_ G) w e pl m)))), (14, .int (iI m)), (13, .int (iI ((gD G w 8) e))), (12, .int (iI e)), (11, .int (iI pl)), (9, .long (X_st (-2) b)), (7, .long (iL (l2 : Int))), (6, .ref aw), (0, .ref 517), (1, .int (iI w)), (2, .int (iI i)), (3, .int (iI j))]) (st' := [.long (iL (-2)), .long (X_st (-2) ((b * (X_Hw G (X_T_ G) w e pl m)) * (X_Ew G (X_T_ G) w (e + 1) m j)))]) rfl ?_
                refine T_lc_eq xr_45_123 xr_45_124 (t := 135) (pc' := 127) rfl rfl (fun c1194 => ?_) (fun c1194 => ?_)
                · skip
                  have c1194 : (X_st (-2) ((b * (X_Hw G (X_T_ G) w e pl m)) * (X_Ew G (X_T_ G) w (e + 1) m j))) = (iL (-2)) := c1194
                  have hlF : l2 < X_sF G w e pl j b m := by
                    first
                      | exact (X_st_lt (m := -2) (by omega) hl2m).mp (Or.inl (by first | assumption | exact Classical.not_not.mp (by assumption)))
                      | exact (X_st_lt (m := -2) (by omega) hl2m).mp (Or.inr (by first | assumption | exact Int64.not_le.mp (by assumption)))
                  have hfd := X_sp_u (show pl < m ∧ m ≤ j by omega) hl2 hlF
                  rw [X_spl_h hq0 hfd] at hX0
                  refine T_p xr_45_135 xn_45 (pc' := 136) (ls' := [(17, .long (X_st (-2) ((b * (X_Hw G (X_T_ G) w e pl m)) * (X_Ew G (X_T_ G) w (e + 1) m j)))), (15, .long (X_st (-2) (b * (X_Hw G (X_T_ G) w e pl m)))), (14, .int (iI m)), (13, .int (iI ((gD G w 8) e))), (12, .int (iI e)), (11, .int (iI pl)), (9, .long (X_st (-2) b)), (7, .long (iL (l2 : Int))), (6, .ref aw), (0, .ref 517), (1, .int (iI w)), (2, .int (iI i)), (3, .int (iI j))]) (st' := [.ref 517]) rfl ?_
                  refine T_get xr_45_136 h1162 rfl (v := .ref 525) rfl (pc' := 139) rfl ?_
                  refine T_p xr_45_139 xn_45 (pc' := 141) (ls' := [(17, .long (X_st (-2) ((b * (X_Hw G (X_T_ G) w e pl m)) * (X_Ew G (X_T_ G) w (e + 1) m j)))), (15, .long (X_st (-2) (b * (X_Hw G (X_T_ G) w e pl m)))), (14, .int (iI m)), (13, .int (iI ((gD G w 8) e))), (12, .int (iI e)), (11, .int (iI pl)), (9, .long (X_st (-2) b)), (7, .long (iL (l2 : Int))), (6, .ref aw), (0, .ref 517), (1, .int (iI w)), (2, .int (iI i)), (3, .int (iI j))]) (st' := [.int (iI ((gD G w 8) e)), .ref 525]) rfl ?_
                  refine T_p xr_45_141 xn_45 (pc' := 143) (ls' := [(17, .long (X_st (-2) ((b * (X_Hw G (X_T_ G) w e pl m)) * (X_Ew G (X_T_ G) w (e + 1) m j)))), (15, .long (X_st (-2) (b * (X_Hw G (X_T_ G) w e pl m)))), (14, .int (iI m)), (13, .int (iI ((gD G w 8) e))), (12, .int (iI e)), (11, .int (iI pl)), (9, .long (X_st (-2) b)), (7, .long (iL (l2 : Int))), (6, .ref aw), (0, .ref 517), (1, .int (iI w)), (2, .int (iI i)), (3, .int (iI j))]) (st' := [.int (iI pl), .int (iI ((gD G w 8) e)), .ref 525]) rfl ?_
                  refine T_ziast xr_45_143 hhF1 (pc' := 144) rfl (fun S1195 h1196 n1197 e1198 => ?_)
                  refine T_p xr_45_144 xn_45 (pc' := 145) (ls' := [(17, .long (X_st (-2) ((b * (X_Hw G (X_T_ G) w e pl m)) * (X_Ew G (X_T_ G) w (e + 1) m j)))), (15, .long (X_st (-2) (b * (X_Hw G (X_T_ G) w e pl m)))), (14, .int (iI m)), (13, .int (iI ((gD G w 8) e))), (12, .int (iI e)), (11, .int (iI pl)), (9, .long (X_st (-2) b)), (7, .long (iL (l2 : Int))), (6, .ref aw), (0, .ref 517), (1, .int (iI w)), (2, .int (iI i)), (3, .int (iI j))]) (st' := [.ref 517]) rfl ?_
                  have h1199 := (n1197 517 (by decide)).trans (h1162)
                  refine T_get xr_45_145 h1199 rfl (v := .ref 526) rfl (pc' := 148) rfl ?_
                  refine T_p xr_45_148 xn_45 (pc' := 150) (ls' := [(17, .long (X_st (-2) ((b * (X_Hw G (X_T_ G) w e pl m)) * (X_Ew G (X_T_ G) w (e + 1) m j)))), (15, .long (X_st (-2) (b * (X_Hw G (X_T_ G) w e pl m)))), (14, .int (iI m)), (13, .int (iI ((gD G w 8) e))), (12, .int (iI e)), (11, .int (iI pl)), (9, .long (X_st (-2) b)), (7, .long (iL (l2 : Int))), (6, .ref aw), (0, .ref 517), (1, .int (iI w)), (2, .int (iI i)), (3, .int (iI j))]) (st' := [.int (iI ((gD G w 8) e)), .ref 526]) rfl ?_
                  refine T_p xr_45_150 xn_45 (pc' := 152) (ls' := [(17, .long (X_st (-2) ((b * (X_Hw G (X_T_ G) w e pl m)) * (X_Ew G (X_T_ G) w (e + 1) m j)))), (15, .long (X_st (-2) (b * (X_Hw G (X_T_ G) w e pl m)))), (14, .int (iI m)), (13, .int (iI ((gD G w 8) e))), (12, .int (iI e)), (11, .int (iI pl)), (9, .long (X_st (-2) b)), (7, .long (iL (l2 : Int))), (6, .ref aw), (0, .ref 517), (1, .int (iI w)), (2, .int (iI i)), (3, .int (iI j))]) (st' := [.int (iI m), .int (iI ((gD G w 8) e)), .ref 526]) rfl ?_
                  have h1200 := (n1197 526 (by decide)).trans (hhE1)
                  refine T_ziast xr_45_152 h1200 (pc' := 153) rfl (fun S1201 h1202 n1203 e1204 => ?_)
                  refine T_p xr_45_153 xn_45 (pc' := 155) (ls' := [(17, .long (X_st (-2) ((b * (X_Hw G (X_T_ G) w e pl m)) * (X_Ew G (X_T_ G) w (e + 1) m j)))), (15, .long (X_st (-2) (b * (X_Hw G (X_T_ G) w e pl m)))), (14, .int (iI m)), (13, .int (iI ((gD G w 8) e))), (12, .int (iI e)), (11, .int (iI pl)), (9, .long (X_st (-2) b)), (7, .long (iL (l2 : Int))), (6, .ref aw), (0, .ref 517), (1, .int (iI w)), (2, .int (iI i)), (3, .int (iI j))]) (st' := [.long (X_st (-2) (b * (X_Hw G (X_T_ G) w e pl m)))]) rfl ?_
                  refine T_p xr_45_155 xn_45 (pc' := 157) (ls' := [(9, .long (X_st (-2) (b * (X_Hw G (X_T_ G) w e pl m)))), (17, .long (X_st (-2) ((b * (X_Hw G (X_T_ G) w e pl m)) * (X_Ew G (X_T_ G) w (e + 1) m j)))), (15, .long (X_st (-2) (b * (X_Hw G (X_T_ G) w e pl m)))), (14, .int (iI m)), (13, .int (iI ((gD G w 8) e))), (12, .int (iI e)), (11, .int (iI pl)), (7, .long (iL (l2 : Int))), (6, .ref aw), (0, .ref 517), (1, .int (iI w)), (2, .int (iI i)), (3, .int (iI j))]) (st' := []) rfl ?_
                  refine T_p xr_45_157 xn_45 (pc' := 173) (ls' := [(9, .long (X_st (-2) (b * (X_Hw G (X_T_ G) w e pl m)))), (17, .long (X_st (-2) ((b * (X_Hw G (X_T_ G) w e pl m)) * (X_Ew G (X_T_ G) w (e + 1) m j)))), (15, .long (X_st (-2) (b * (X_Hw G (X_T_ G) w e pl m)))), (14, .int (iI m)), (13, .int (iI ((gD G w 8) e))), (12, .int (iI e)), (11, .int (iI pl)), (7, .long (iL (l2 : Int))), (6, .ref aw), (0, .ref 517), (1, .int (iI w)), (2, .int (iI i)), (3, .int (iI j))]) (st' := []) rfl ?_
                  refine T_p xr_45_173 xn_45 (pc' := 174) (ls' := [(9, .long (X_st (-2) (b * (X_Hw G (X_T_ G) w e pl m)))), (17, .long (X_st (-2) ((b * (X_Hw G (X_T_ G) w e pl m)) * (X_Ew G (X_T_ G) w (e + 1) m j)))), (15, .long (X_st (-2) (b * (X_Hw G (X_T_ G) w e pl m)))), (14, .int (iI m)), (13, .int (iI ((gD G w 8) e))), (12, .int (iI e)), (11, .int (iI pl)), (7, .long (iL (l2 : Int))), (6, .ref aw), (0, .ref 517), (1, .int (iI w)), (2, .int (iI i)), (3, .int (iI j))]) (st' := [.ref 517]) rfl ?_
                  have h1205 := (n1203 517 (by decide)).trans (h1199)
                  refine T_get xr_45_174 h1205 rfl (v := .ref 526) rfl (pc' := 177) rfl ?_
                  refine T_p xr_45_177 xn_45 (pc' := 179) (ls' := [(9, .long (X_st (-2) (b * (X_Hw G (X_T_ G) w e pl m)))), (17, .long (X_st (-2) ((b * (X_Hw G (X_T_ G) w e pl m)) * (X_Ew G (X_T_ G) w (e + 1) m j)))), (15, .long (X_st (-2) (b * (X_Hw G (X_T_ G) w e pl m)))), (14, .int (iI m)), (13, .int (iI ((gD G w 8) e))), (12, .int (iI e)), (11, .int (iI pl)), (7, .long (iL (l2 : Int))), (6, .ref aw), (0, .ref 517), (1, .int (iI w)), (2, .int (iI i)), (3, .int (iI j))]) (st' := [.int (iI ((gD G w 8) e)), .ref 526]) rfl ?_
                  refine T_ziald xr_45_179 h1202 (pc' := 180) rfl ?_
                  refine T_ie (y := iI m) (by rw [X_ug_s]) ?_
                  refine T_p xr_45_180 xn_45 (pc' := 182) (ls' := [(11, .int (iI m)), (9, .long (X_st (-2) (b * (X_Hw G (X_T_ G) w e pl m)))), (17, .long (X_st (-2) ((b * (X_Hw G (X_T_ G) w e pl m)) * (X_Ew G (X_T_ G) w (e + 1) m j)))), (15, .long (X_st (-2) (b * (X_Hw G (X_T_ G) w e pl m)))), (14, .int (iI m)), (13, .int (iI ((gD G w 8) e))), (12, .int (iI e)), (7, .long (iL (l2 : Int))), (6, .ref aw), (0, .ref 517), (1, .int (iI w)), (2, .int (iI i)), (3, .int (iI j))]) (st' := []) rfl ?_
                  refine T_ziinc xr_45_182 xn_45 (a := e) (z := e + 1) rfl (Nat.le_of_ble_eq_true rfl) (by omega) (ls' := [(12, .int (iI (e + 1))), (11, .int (iI m)), (9, .long (X_st (-2) (b * (X_Hw G (X_T_ G) w e pl m)))), (17, .long (X_st (-2) ((b * (X_Hw G (X_T_ G) w e pl m)) * (X_Ew G (X_T_ G) w (e + 1) m j)))), (15, .long (X_st (-2) (b * (X_Hw G (X_T_ G) w e pl m)))), (14, .int (iI m)), (13, .int (iI ((gD G w 8) e))), (7, .long (iL (l2 : Int))), (6, .ref aw), (0, .ref 517), (1, .int (iI w)), (2, .int (iI i)), (3, .int (iI j))]) rfl (pc' := 185) rfl ?_
                  refine T_p xr_45_185 xn_45 (pc' := 27) (ls' := [(12, .int (iI (e + 1))), (11, .int (iI m)), (9, .long (X_st (-2) (b * (X_Hw G (X_T_ G) w e pl m)))), (17, .long (X_st (-2) ((b * (X_Hw G (X_T_ G) w e pl m)) * (X_Ew G (X_T_ G) w (e + 1) m j)))), (15, .long (X_st (-2) (b * (X_Hw G (X_T_ G) w e pl m)))), (14, .int (iI m)), (13, .int (iI ((gD G w 8) e))), (7, .long (iL (l2 : Int))), (6, .ref aw), (0, .ref 517), (1, .int (iI w)), (2, .int (iI i)), (3, .int (iI j))]) (st' := []) rfl ?_
                  have h1206 := (n1203 525 (by decide)).trans (h1196)
                  refine T_sub (ls := [(12, .int (iI (e + 1))), (11, .int (iI m)), (9, .long (X_st (-2) (b * (X_Hw G (X_T_ G) w e pl m)))), (7, .long (iL (l2 : Int))), (6, .ref aw), (0, .ref 517), (1, .int (iI w)), (2, .int (iI i)), (3, .int (iI j))]) ⟨rfl, rfl, rfl, rfl, rfl, rfl, rfl, rfl, rfl, trivial⟩ rfl rfl ?_
                  exact ih1136 S1201 (e + 1) m l2 (b * (X_Hw G (X_T_ G) w e pl m)) (X_ug HF (gD G w 8 e) pl) (X_ug HE (gD G w 8 e) m) (X_ug hF1 ((gD G w 8) e) pl) (X_ug hE1 ((gD G w 8) e) m) h1206 h1202 (hF1139.tr (((X_Fr.rf).tr (X_Fr.of n1197 e1198 (by first | decide | exact ⟨Nat.le_add_right _ _, Nat.add_le_add_left (by decide) _⟩ | omega))).tr (X_Fr.of n1203 e1204 (by first | decide | exact ⟨Nat.le_add_right _ _, Nat.add_le_add_left (by decide) _⟩ | omega)))) (by omega) hlF (by omega) hX0 (fun h h1 h2 => by
                        by_cases hh : h = gD G w 8 e
                        · subst hh; rw [X_ug_s, X_ug_s, X_ug_s, X_ug_s]; exact ⟨rfl, rfl⟩
                        · rw [X_ug_n _ _ hh, X_ug_n _ _ hh, X_ug_n _ _ hh, X_ug_n _ _ hh]; exact hA h h1 (by omega)) (by omega)
                · skip
                  have c1194 : ¬ ((X_st (-2) ((b * (X_Hw G (X_T_ G) w e pl m)) * (X_Ew G (X_T_ G) w (e + 1) m j))) = (iL (-2))) := c1194
                  refine T_p xr_45_127 xn_45 (pc' := 129) (ls' := [(17, .long (X_st (-2) ((b * (X_Hw G (X_T_ G) w e pl m)) * (X_Ew G (X_T_ G) w (e + 1) m j)))), (15, .long (X_st (-2) (b * (X_Hw G (X_T_ G) w e pl m)))), (14, .int (iI m)), (13, .int (iI ((gD G w 8) e))), (12, .int (iI e)), (11, .int (iI pl)), (9, .long (X_st (-2) b)), (7, .long (iL (l2 : Int))), (6, .ref aw), (0, .ref 517), (1, .int (iI w)), (2, .int (iI i)), (3, .int (iI j))]) (st' := [.long (iL (l2 : Int))]) rfl ?_
                  refine T_p xr_45_129 xn_45 (pc' := 131) (ls' := [(17, .long (X_st (-2) ((b * (X_Hw G (X_T_ G) w e pl m)) * (X_Ew G (X_T_ G) w (e + 1) m j)))), (15, .long (X_st (-2) (b * (X_Hw G (X_T_ G) w e pl m)))), (14, .int (iI m)), (13, .int (iI ((gD G w 8) e))), (12, .int (iI e)), (11, .int (iI pl)), (9, .long (X_st (-2) b)), (7, .long (iL (l2 : Int))), (6, .ref aw), (0, .ref 517), (1, .int (iI w)), (2, .int (iI i)), (3, .int (iI j))]) (st' := [.long (X_st (-2) ((b * (X_Hw G (X_T_ G) w e pl m)) * (X_Ew G (X_T_ G) w (e + 1) m j))), .long (iL (l2 : Int))]) rfl ?_
                  refine T_lc_ge xr_45_131 xr_45_132 (t := 160) (pc' := 135) rfl rfl (fun c1207 => ?_) (fun c1207 => ?_)
                  · skip
                    have c1207 : (X_st (-2) ((b * (X_Hw G (X_T_ G) w e pl m)) * (X_Ew G (X_T_ G) w (e + 1) m j))) ≤ (iL (l2 : Int)) := c1207
                    refine T_p xr_45_160 xn_45 (pc' := 162) (ls' := [(17, .long (X_st (-2) ((b * (X_Hw G (X_T_ G) w e pl m)) * (X_Ew G (X_T_ G) w (e + 1) m j)))), (15, .long (X_st (-2) (b * (X_Hw G (X_T_ G) w e pl m)))), (14, .int (iI m)), (13, .int (iI ((gD G w 8) e))), (12, .int (iI e)), (11, .int (iI pl)), (9, .long (X_st (-2) b)), (7, .long (iL (l2 : Int))), (6, .ref aw), (0, .ref 517), (1, .int (iI w)), (2, .int (iI i)), (3, .int (iI j))]) (st' := [.long (iL (l2 : Int))]) rfl ?_
                    refine T_p xr_45_162 xn_45 (pc' := 164) (ls' := [(17, .long (X_st (-2) ((b * (X_Hw G (X_T_ G) w e pl m)) * (X_Ew G (X_T_ G) w (e + 1) m j)))), (15, .long (X_st (-2) (b * (X_Hw G (X_T_ G) w e pl m)))), (14, .int (iI m)), (13, .int (iI ((gD G w 8) e))), (12, .int (iI e)), (11, .int (iI pl)), (9, .long (X_st (-2) b)), (7, .long (iL (l2 : Int))), (6, .ref aw), (0, .ref 517), (1, .int (iI w)), (2, .int (iI i)), (3, .int (iI j))]) (st' := [.long (X_st (-2) ((b * (X_Hw G (X_T_ G) w e pl m)) * (X_Ew G (X_T_ G) w (e + 1) m j))), .long (iL (l2 : Int))]) rfl ?_
                    refine T_p xr_45_164 xn_45 (pc' := 165) (ls' := [(17, .long (X_st (-2) ((b * (X_Hw G (X_T_ G) w e pl m)) * (X_Ew G (X_T_ G) w (e + 1) m j)))), (15, .long (X_st (-2) (b * (X_Hw G (X_T_ G) w e pl m)))), (14, .int (iI m)), (13, .int (iI ((gD G w 8) e))), (12, .int (iI e)), (11, .int (iI pl)), (9, .long (X_st (-2) b)), (7, .long (iL (l2 : Int))), (6, .ref aw), (0, .ref 517), (1, .int (iI w)), (2, .int (iI i)), (3, .int (iI j))]) (st' := [.long ((iL (l2 : Int)) - (X_st (-2) ((b * (X_Hw G (X_T_ G) w e pl m)) * (X_Ew G (X_T_ G) w (e + 1) m j))))]) rfl ?_
                    have hlF : X_sF G w e pl j b m ≤ l2 ∧ X_st (-2) (X_sF G w e pl j b m) = iL ((X_sF G w e pl j b m : Nat) : Int) := by
                      have h1 : ¬ (X_st (-2) (X_sF G w e pl j b m) = iL (-2) ∨ iL (l2 : Int) < X_st (-2) (X_sF G w e pl j b m)) := by
                        rintro (h | h)
                        · exact absurd h (by assumption)
                        · exact absurd h (Int64.not_lt.mpr (by first | assumption | exact Classical.not_not.mp (by assumption)))
                      rw [X_st_lt (by omega) hl2m] at h1
                      exact ⟨by omega, X_st_lo (by omega)⟩
                    refine T_le (y := (iL ((l2 - X_sF G w e pl j b m : Nat) : Int))) (by rw [show X_st (-2) (b * X_Hw G (X_T_ G) w e pl m * X_Ew G (X_T_ G) w (e + 1) m j) = X_st (-2) (X_sF G w e pl j b m) from rfl, hlF.2]; exact iL_sub hlF.1) ?_
                    refine T_p xr_45_165 xn_45 (pc' := 167) (ls' := [(7, .long (iL ((l2 - X_sF G w e pl j b m : Nat) : Int))), (17, .long (X_st (-2) ((b * (X_Hw G (X_T_ G) w e pl m)) * (X_Ew G (X_T_ G) w (e + 1) m j)))), (15, .long (X_st (-2) (b * (X_Hw G (X_T_ G) w e pl m)))), (14, .int (iI m)), (13, .int (iI ((gD G w 8) e))), (12, .int (iI e)), (11, .int (iI pl)), (9, .long (X_st (-2) b)), (6, .ref aw), (0, .ref 517), (1, .int (iI w)), (2, .int (iI i)), (3, .int (iI j))]) (st' := []) rfl ?_
                    refine T_ziinc xr_45_167 xn_45 (a := m) (z := m + 1) rfl (Nat.le_of_ble_eq_true rfl) (by omega) (ls' := [(14, .int (iI (m + 1))), (7, .long (iL ((l2 - X_sF G w e pl j b m : Nat) : Int))), (17, .long (X_st (-2) ((b * (X_Hw G (X_T_ G) w e pl m)) * (X_Ew G (X_T_ G) w (e + 1) m j)))), (15, .long (X_st (-2) (b * (X_Hw G (X_T_ G) w e pl m)))), (13, .int (iI ((gD G w 8) e))), (12, .int (iI e)), (11, .int (iI pl)), (9, .long (X_st (-2) b)), (6, .ref aw), (0, .ref 517), (1, .int (iI w)), (2, .int (iI i)), (3, .int (iI j))]) rfl (pc' := 170) rfl ?_
                    refine T_p xr_45_170 xn_45 (pc' := 69) (ls' := [(14, .int (iI (m + 1))), (7, .long (iL ((l2 - X_sF G w e pl j b m : Nat) : Int))), (17, .long (X_st (-2) ((b * (X_Hw G (X_T_ G) w e pl m)) * (X_Ew G (X_T_ G) w (e + 1) m j)))), (15, .long (X_st (-2) (b * (X_Hw G (X_T_ G) w e pl m)))), (13, .int (iI ((gD G w 8) e))), (12, .int (iI e)), (11, .int (iI pl)), (9, .long (X_st (-2) b)), (6, .ref aw), (0, .ref 517), (1, .int (iI w)), (2, .int (iI i)), (3, .int (iI j))]) (st' := []) rfl ?_
                    refine T_sub (ls := [(14, .int (iI (m + 1))), (13, .int (iI ((gD G w 8) e))), (12, .int (iI e)), (11, .int (iI pl)), (9, .long (X_st (-2) b)), (7, .long (iL ((l2 - X_sF G w e pl j b m : Nat) : Int))), (6, .ref aw), (0, .ref 517), (1, .int (iI w)), (2, .int (iI i)), (3, .int (iI j))]) ⟨rfl, rfl, rfl, rfl, rfl, rfl, rfl, rfl, rfl, rfl, rfl, trivial⟩ rfl rfl ?_
                    exact ih1157 (m + 1) (l2 - X_sF G w e pl j b m)  (by omega) (by omega) (by rw [X_Su_s (by omega)]; omega) (by omega)
                  · skip
                    have c1207 : ¬ ((X_st (-2) ((b * (X_Hw G (X_T_ G) w e pl m)) * (X_Ew G (X_T_ G) w (e + 1) m j))) ≤ (iL (l2 : Int))) := c1207
                    have hlF : l2 < X_sF G w e pl j b m := by
                      first
                        | exact (X_st_lt (m := -2) (by omega) hl2m).mp (Or.inl (by first | assumption | exact Classical.not_not.mp (by assumption)))
                        | exact (X_st_lt (m := -2) (by omega) hl2m).mp (Or.inr (by first | assumption | exact Int64.not_le.mp (by assumption)))
                    have hfd := X_sp_u (show pl < m ∧ m ≤ j by omega) hl2 hlF
                    rw [X_spl_h hq0 hfd] at hX0
                    refine T_p xr_45_135 xn_45 (pc' := 136) (ls' := [(17, .long (X_st (-2) ((b * (X_Hw G (X_T_ G) w e pl m)) * (X_Ew G (X_T_ G) w (e + 1) m j)))), (15, .long (X_st (-2) (b * (X_Hw G (X_T_ G) w e pl m)))), (14, .int (iI m)), (13, .int (iI ((gD G w 8) e))), (12, .int (iI e)), (11, .int (iI pl)), (9, .long (X_st (-2) b)), (7, .long (iL (l2 : Int))), (6, .ref aw), (0, .ref 517), (1, .int (iI w)), (2, .int (iI i)), (3, .int (iI j))]) (st' := [.ref 517]) rfl ?_
                    refine T_get xr_45_136 h1162 rfl (v := .ref 525) rfl (pc' := 139) rfl ?_
                    refine T_p xr_45_139 xn_45 (pc' := 141) (ls' := [(17, .long (X_st (-2) ((b * (X_Hw G (X_T_ G) w e pl m)) * (X_Ew G (X_T_ G) w (e + 1) m j)))), (15, .long (X_st (-2) (b * (X_Hw G (X_T_ G) w e pl m)))), (14, .int (iI m)), (13, .int (iI ((gD G w 8) e))), (12, .int (iI e)), (11, .int (iI pl)), (9, .long (X_st (-2) b)), (7, .long (iL (l2 : Int))), (6, .ref aw), (0, .ref 517), (1, .int (iI w)), (2, .int (iI i)), (3, .int (iI j))]) (st' := [.int (iI ((gD G w 8) e)), .ref 525]) rfl ?_
                    refine T_p xr_45_141 xn_45 (pc' := 143) (ls' := [(17, .long (X_st (-2) ((b * (X_Hw G (X_T_ G) w e pl m)) * (X_Ew G (X_T_ G) w (e + 1) m j)))), (15, .long (X_st (-2) (b * (X_Hw G (X_T_ G) w e pl m)))), (14, .int (iI m)), (13, .int (iI ((gD G w 8) e))), (12, .int (iI e)), (11, .int (iI pl)), (9, .long (X_st (-2) b)), (7, .long (iL (l2 : Int))), (6, .ref aw), (0, .ref 517), (1, .int (iI w)), (2, .int (iI i)), (3, .int (iI j))]) (st' := [.int (iI pl), .int (iI ((gD G w 8) e)), .ref 525]) rfl ?_
                    refine T_ziast xr_45_143 hhF1 (pc' := 144) rfl (fun S1208 h1209 n1210 e1211 => ?_)
                    refine T_p xr_45_144 xn_45 (pc' := 145) (ls' := [(17, .long (X_st (-2) ((b * (X_Hw G (X_T_ G) w e pl m)) * (X_Ew G (X_T_ G) w (e + 1) m j)))), (15, .long (X_st (-2) (b * (X_Hw G (X_T_ G) w e pl m)))), (14, .int (iI m)), (13, .int (iI ((gD G w 8) e))), (12, .int (iI e)), (11, .int (iI pl)), (9, .long (X_st (-2) b)), (7, .long (iL (l2 : Int))), (6, .ref aw), (0, .ref 517), (1, .int (iI w)), (2, .int (iI i)), (3, .int (iI j))]) (st' := [.ref 517]) rfl ?_
                    have h1212 := (n1210 517 (by decide)).trans (h1162)
                    refine T_get xr_45_145 h1212 rfl (v := .ref 526) rfl (pc' := 148) rfl ?_
                    refine T_p xr_45_148 xn_45 (pc' := 150) (ls' := [(17, .long (X_st (-2) ((b * (X_Hw G (X_T_ G) w e pl m)) * (X_Ew G (X_T_ G) w (e + 1) m j)))), (15, .long (X_st (-2) (b * (X_Hw G (X_T_ G) w e pl m)))), (14, .int (iI m)), (13, .int (iI ((gD G w 8) e))), (12, .int (iI e)), (11, .int (iI pl)), (9, .long (X_st (-2) b)), (7, .long (iL (l2 : Int))), (6, .ref aw), (0, .ref 517), (1, .int (iI w)), (2, .int (iI i)), (3, .int (iI j))]) (st' := [.int (iI ((gD G w 8) e)), .ref 526]) rfl ?_
                    refine T_p xr_45_150 xn_45 (pc' := 152) (ls' := [(17, .long (X_st (-2) ((b * (X_Hw G (X_T_ G) w e pl m)) * (X_Ew G (X_T_ G) w (e + 1) m j)))), (15, .long (X_st (-2) (b * (X_Hw G (X_T_ G) w e pl m)))), (14, .int (iI m)), (13, .int (iI ((gD G w 8) e))), (12, .int (iI e)), (11, .int (iI pl)), (9, .long (X_st (-2) b)), (7, .long (iL (l2 : Int))), (6, .ref aw), (0, .ref 517), (1, .int (iI w)), (2, .int (iI i)), (3, .int (iI j))]) (st' := [.int (iI m), .int (iI ((gD G w 8) e)), .ref 526]) rfl ?_
                    have h1213 := (n1210 526 (by decide)).trans (hhE1)
                    refine T_ziast xr_45_152 h1213 (pc' := 153) rfl (fun S1214 h1215 n1216 e1217 => ?_)
                    refine T_p xr_45_153 xn_45 (pc' := 155) (ls' := [(17, .long (X_st (-2) ((b * (X_Hw G (X_T_ G) w e pl m)) * (X_Ew G (X_T_ G) w (e + 1) m j)))), (15, .long (X_st (-2) (b * (X_Hw G (X_T_ G) w e pl m)))), (14, .int (iI m)), (13, .int (iI ((gD G w 8) e))), (12, .int (iI e)), (11, .int (iI pl)), (9, .long (X_st (-2) b)), (7, .long (iL (l2 : Int))), (6, .ref aw), (0, .ref 517), (1, .int (iI w)), (2, .int (iI i)), (3, .int (iI j))]) (st' := [.long (X_st (-2) (b * (X_Hw G (X_T_ G) w e pl m)))]) rfl ?_
                    refine T_p xr_45_155 xn_45 (pc' := 157) (ls' := [(9, .long (X_st (-2) (b * (X_Hw G (X_T_ G) w e pl m)))), (17, .long (X_st (-2) ((b * (X_Hw G (X_T_ G) w e pl m)) * (X_Ew G (X_T_ G) w (e + 1) m j)))), (15, .long (X_st (-2) (b * (X_Hw G (X_T_ G) w e pl m)))), (14, .int (iI m)), (13, .int (iI ((gD G w 8) e))), (12, .int (iI e)), (11, .int (iI pl)), (7, .long (iL (l2 : Int))), (6, .ref aw), (0, .ref 517), (1, .int (iI w)), (2, .int (iI i)), (3, .int (iI j))]) (st' := []) rfl ?_
                    refine T_p xr_45_157 xn_45 (pc' := 173) (ls' := [(9, .long (X_st (-2) (b * (X_Hw G (X_T_ G) w e pl m)))), (17, .long (X_st (-2) ((b * (X_Hw G (X_T_ G) w e pl m)) * (X_Ew G (X_T_ G) w (e + 1) m j)))), (15, .long (X_st (-2) (b * (X_Hw G (X_T_ G) w e pl m)))), (14, .int (iI m)), (13, .int (iI ((gD G w 8) e))), (12, .int (iI e)), (11, .int (iI pl)), (7, .long (iL (l2 : Int))), (6, .ref aw), (0, .ref 517), (1, .int (iI w)), (2, .int (iI i)), (3, .int (iI j))]) (st' := []) rfl ?_
                    refine T_p xr_45_173 xn_45 (pc' := 174) (ls' := [(9, .long (X_st (-2) (b * (X_Hw G (X_T_ G) w e pl m)))), (17, .long (X_st (-2) ((b * (X_Hw G (X_T_ G) w e pl m)) * (X_Ew G (X_T_ G) w (e + 1) m j)))), (15, .long (X_st (-2) (b * (X_Hw G (X_T_ G) w e pl m)))), (14, .int (iI m)), (13, .int (iI ((gD G w 8) e))), (12, .int (iI e)), (11, .int (iI pl)), (7, .long (iL (l2 : Int))), (6, .ref aw), (0, .ref 517), (1, .int (iI w)), (2, .int (iI i)), (3, .int (iI j))]) (st' := [.ref 517]) rfl ?_
                    have h1218 := (n1216 517 (by decide)).trans (h1212)
                    refine T_get xr_45_174 h1218 rfl (v := .ref 526) rfl (pc' := 177) rfl ?_
                    refine T_p xr_45_177 xn_45 (pc' := 179) (ls' := [(9, .long (X_st (-2) (b * (X_Hw G (X_T_ G) w e pl m)))), (17, .long (X_st (-2) ((b * (X_Hw G (X_T_ G) w e pl m)) * (X_Ew G (X_T_ G) w (e + 1) m j)))), (15, .long (X_st (-2) (b * (X_Hw G (X_T_ G) w e pl m)))), (14, .int (iI m)), (13, .int (iI ((gD G w 8) e))), (12, .int (iI e)), (11, .int (iI pl)), (7, .long (iL (l2 : Int))), (6, .ref aw), (0, .ref 517), (1, .int (iI w)), (2, .int (iI i)), (3, .int (iI j))]) (st' := [.int (iI ((gD G w 8) e)), .ref 526]) rfl ?_
                    refine T_ziald xr_45_179 h1215 (pc' := 180) rfl ?_
                    refine T_ie (y := iI m) (by rw [X_ug_s]) ?_
                    refine T_p xr_45_180 xn_45 (pc' := 182) (ls' := [(11, .int (iI m)), (9, .long (X_st (-2) (b * (X_Hw G (X_T_ G) w e pl m)))), (17, .long (X_st (-2) ((b * (X_Hw G (X_T_ G) w e pl m)) * (X_Ew G (X_T_ G) w (e + 1) m j)))), (15, .long (X_st (-2) (b * (X_Hw G (X_T_ G) w e pl m)))), (14, .int (iI m)), (13, .int (iI ((gD G w 8) e))), (12, .int (iI e)), (7, .long (iL (l2 : Int))), (6, .ref aw), (0, .ref 517), (1, .int (iI w)), (2, .int (iI i)), (3, .int (iI j))]) (st' := []) rfl ?_
                    refine T_ziinc xr_45_182 xn_45 (a := e) (z := e + 1) rfl (Nat.le_of_ble_eq_true rfl) (by omega) (ls' := [(12, .int (iI (e + 1))), (11, .int (iI m)), (9, .long (X_st (-2) (b * (X_Hw G (X_T_ G) w e pl m)))), (17, .long (X_st (-2) ((b * (X_Hw G (X_T_ G) w e pl m)) * (X_Ew G (X_T_ G) w (e + 1) m j)))), (15, .long (X_st (-2) (b * (X_Hw G (X_T_ G) w e pl m)))), (14, .int (iI m)), (13, .int (iI ((gD G w 8) e))), (7, .long (iL (l2 : Int))), (6, .ref aw), (0, .ref 517), (1, .int (iI w)), (2, .int (iI i)), (3, .int (iI j))]) rfl (pc' := 185) rfl ?_
                    refine T_p xr_45_185 xn_45 (pc' := 27) (ls' := [(12, .int (iI (e + 1))), (11, .int (iI m)), (9, .long (X_st (-2) (b * (X_Hw G (X_T_ G) w e pl m)))), (17, .long (X_st (-2) ((b * (X_Hw G (X_T_ G) w e pl m)) * (X_Ew G (X_T_ G) w (e + 1) m j)))), (15, .long (X_st (-2) (b * (X_Hw G (X_T_ G) w e pl m)))), (14, .int (iI m)), (13, .int (iI ((gD G w 8) e))), (7, .long (iL (l2 : Int))), (6, .ref aw), (0, .ref 517), (1, .int (iI w)), (2, .int (iI i)), (3, .int (iI j))]) (st' := []) rfl ?_
                    have h1219 := (n1216 525 (by decide)).trans (h1209)
                    refine T_sub (ls := [(12, .int (iI (e + 1))), (11, .int (iI m)), (9, .long (X_st (-2) (b * (X_Hw G (X_T_ G) w e pl m)))), (7, .long (iL (l2 : Int))), (6, .ref aw), (0, .ref 517), (1, .int (iI w)), (2, .int (iI i)), (3, .int (iI j))]) ⟨rfl, rfl, rfl, rfl, rfl, rfl, rfl, rfl, rfl, trivial⟩ rfl rfl ?_
                    exact ih1136 S1214 (e + 1) m l2 (b * (X_Hw G (X_T_ G) w e pl m)) (X_ug HF (gD G w 8 e) pl) (X_ug HE (gD G w 8 e) m) (X_ug hF1 ((gD G w 8) e) pl) (X_ug hE1 ((gD G w 8) e) m) h1219 h1215 (hF1139.tr (((X_Fr.rf).tr (X_Fr.of n1210 e1211 (by first | decide | exact ⟨Nat.le_add_right _ _, Nat.add_le_add_left (by decide) _⟩ | omega))).tr (X_Fr.of n1216 e1217 (by first | decide | exact ⟨Nat.le_add_right _ _, Nat.add_le_add_left (by decide) _⟩ | omega)))) (by omega) hlF (by omega) hX0 (fun h h1 h2 => by
                          by_cases hh : h = gD G w 8 e
                          · subst hh; rw [X_ug_s, X_ug_s, X_ug_s, X_ug_s]; exact ⟨rfl, rfl⟩
                          · rw [X_ug_n _ _ hh, X_ug_n _ _ hh, X_ug_n _ _ hh, X_ug_n _ _ hh]; exact hA h h1 (by omega)) (by omega)
          exact L1156 ((j + 1) + 1).toNat (pl + 1) l  (by omega) hlm (by rw [X_Su_e (Int.le_refl _)]; omega) (by omega)
        · skip
          have c1155 : ¬ (X_hl ((gD G) w) ((gW G) w) e) := c1155
          have hqn : ¬ gW G w e = 0 := fun z => absurd (show X_hl (gD G w) (gW G w) e from ⟨by omega, by omega, z⟩) (by assumption)
          have hpp := X_sp_p (show e < gD G w 3 0 by omega) hqn hl
          have hX0 := hX
          rw [show (gD G w 3 0 - e).toNat = (gD G w 3 0 - (e + 1)).toNat + 1 by omega, X_spl_p hqn] at hX0
          have hs1 := X_hn_s (q := gW G w) (e := e) (show 0 ≤ e by omega)
          rw [if_neg hqn, Int.add_zero] at hs1
          refine T_ziinc xr_45_47 xn_45 (a := pl) (z := pl + 1) rfl (Nat.le_of_ble_eq_true rfl) (by omega) (ls' := [(11, .int (iI (pl + 1))), (12, .int (iI e)), (9, .long (X_st (-2) b)), (7, .long (iL (l : Int))), (6, .ref aw), (0, .ref 517), (1, .int (iI w)), (2, .int (iI i)), (3, .int (iI j))]) rfl (pc' := 50) rfl ?_
          refine T_p xr_45_50 xn_45 (pc' := 182) (ls' := [(11, .int (iI (pl + 1))), (12, .int (iI e)), (9, .long (X_st (-2) b)), (7, .long (iL (l : Int))), (6, .ref aw), (0, .ref 517), (1, .int (iI w)), (2, .int (iI i)), (3, .int (iI j))]) (st' := []) rfl ?_
          refine T_ziinc xr_45_182 xn_45 (a := e) (z := e + 1) rfl (Nat.le_of_ble_eq_true rfl) (by omega) (ls' := [(12, .int (iI (e + 1))), (11, .int (iI (pl + 1))), (9, .long (X_st (-2) b)), (7, .long (iL (l : Int))), (6, .ref aw), (0, .ref 517), (1, .int (iI w)), (2, .int (iI i)), (3, .int (iI j))]) rfl (pc' := 185) rfl ?_
          refine T_p xr_45_185 xn_45 (pc' := 27) (ls' := [(12, .int (iI (e + 1))), (11, .int (iI (pl + 1))), (9, .long (X_st (-2) b)), (7, .long (iL (l : Int))), (6, .ref aw), (0, .ref 517), (1, .int (iI w)), (2, .int (iI i)), (3, .int (iI j))]) (st' := []) rfl ?_
          exact ih1136 S1140 (e + 1) (pl + 1) l b HF HE hF1 hE1 hhF1 hhE1 (hF1139.tr (X_Fr.rf)) (by omega) hpp.2.2 hlm hX0 (fun h h1 h2 => hA h h1 (by omega)) (by omega)
  refine T_sub (ls := [(12, .int (iI 0)), (11, .int (iI i)), (9, .long (iL 1)), (7, .long (iL (k2 : Int))), (6, .ref aw), (0, .ref 517), (1, .int (iI w)), (2, .int (iI i)), (3, .int (iI j))]) ⟨rfl, rfl, rfl, rfl, rfl, rfl, rfl, rfl, rfl, trivial⟩ rfl rfl ?_
  exact L1135 ((gD G w 3 0) + 1).toNat S 0 i k2 1 (fun _ => 0) (fun _ => 0) hF hE hA525 hA526 ((X_Fr.rf)) (by omega) hE0 hkm (by rw [show (gD G w 3 0 - 0).toNat = (gD G w 3 0).toNat by omega]) (fun h h1 h2 => absurd h2 (by have z : X_hn (gW G w) 0 = 0 := rfl; omega)) (by omega)
end
section
theorem xr_41_0 : X_row 41 0 = some (0, (.aload_n 0, 1), (0, 0, 0)) := by decide +kernel
theorem xr_41_1 : X_row 41 1 = some (1, (.getfield 9, 3), (2, 3, 24)) := by decide +kernel
theorem xr_41_4 : X_row 41 4 = some (4, (.bipush 30, 2), (0, 0, 0)) := by decide +kernel
theorem xr_41_6 : X_row 41 6 = some (6, (.if_icmp .ge 54, 3), (0, 0, 0)) := by decide +kernel
theorem xr_41_9 : X_row 41 9 = some (9, (.aload_n 0, 1), (0, 0, 0)) := by decide +kernel
theorem xr_41_10 : X_row 41 10 = some (10, (.getfield 15, 3), (2, 4, 26)) := by decide +kernel
theorem xr_41_13 : X_row 41 13 = some (13, (.aload_n 0, 1), (0, 0, 0)) := by decide +kernel
theorem xr_41_14 : X_row 41 14 = some (14, (.getfield 9, 3), (2, 3, 24)) := by decide +kernel
theorem xr_41_17 : X_row 41 17 = some (17, (.iload_n 1, 1), (0, 0, 0)) := by decide +kernel
theorem xr_41_18 : X_row 41 18 = some (18, (.iastore, 1), (0, 0, 0)) := by decide +kernel
theorem xr_41_19 : X_row 41 19 = some (19, (.aload_n 0, 1), (0, 0, 0)) := by decide +kernel
theorem xr_41_20 : X_row 41 20 = some (20, (.getfield 19, 3), (2, 5, 28)) := by decide +kernel
theorem xr_41_23 : X_row 41 23 = some (23, (.aload_n 0, 1), (0, 0, 0)) := by decide +kernel
theorem xr_41_24 : X_row 41 24 = some (24, (.getfield 9, 3), (2, 3, 24)) := by decide +kernel
theorem xr_41_27 : X_row 41 27 = some (27, (.iload_n 2, 1), (0, 0, 0)) := by decide +kernel
theorem xr_41_28 : X_row 41 28 = some (28, (.iastore, 1), (0, 0, 0)) := by decide +kernel
theorem xr_41_29 : X_row 41 29 = some (29, (.aload_n 0, 1), (0, 0, 0)) := by decide +kernel
theorem xr_41_30 : X_row 41 30 = some (30, (.getfield 22, 3), (2, 6, 30)) := by decide +kernel
theorem xr_41_33 : X_row 41 33 = some (33, (.aload_n 0, 1), (0, 0, 0)) := by decide +kernel
theorem xr_41_34 : X_row 41 34 = some (34, (.getfield 9, 3), (2, 3, 24)) := by decide +kernel
theorem xr_41_37 : X_row 41 37 = some (37, (.iload_n 3, 1), (0, 0, 0)) := by decide +kernel
theorem xr_41_38 : X_row 41 38 = some (38, (.iastore, 1), (0, 0, 0)) := by decide +kernel
theorem xr_41_39 : X_row 41 39 = some (39, (.aload_n 0, 1), (0, 0, 0)) := by decide +kernel
theorem xr_41_40 : X_row 41 40 = some (40, (.getfield 25, 3), (2, 7, 32)) := by decide +kernel
theorem xr_41_43 : X_row 41 43 = some (43, (.aload_n 0, 1), (0, 0, 0)) := by decide +kernel
theorem xr_41_44 : X_row 41 44 = some (44, (.getfield 9, 3), (2, 3, 24)) := by decide +kernel
theorem xr_41_47 : X_row 41 47 = some (47, (.iload 4, 2), (0, 0, 0)) := by decide +kernel
theorem xr_41_49 : X_row 41 49 = some (49, (.iastore, 1), (0, 0, 0)) := by decide +kernel
theorem xr_41_50 : X_row 41 50 = some (50, (.aload_n 0, 1), (0, 0, 0)) := by decide +kernel
theorem xr_41_51 : X_row 41 51 = some (51, (.dup, 1), (0, 0, 0)) := by decide +kernel
theorem xr_41_52 : X_row 41 52 = some (52, (.getfield 9, 3), (2, 3, 24)) := by decide +kernel
theorem xr_41_55 : X_row 41 55 = some (55, (.iconst 1, 1), (0, 0, 0)) := by decide +kernel
theorem xr_41_56 : X_row 41 56 = some (56, (.iadd, 1), (0, 0, 0)) := by decide +kernel
theorem xr_41_57 : X_row 41 57 = some (57, (.putfield 9, 3), (2, 3, 24)) := by decide +kernel
theorem xr_41_60 : X_row 41 60 = some (60, (.return_, 1), (0, 0, 0)) := by decide +kernel
theorem xr_42_0 : X_row 42 0 = some (0, (.aload_n 0, 1), (0, 0, 0)) := by decide +kernel
theorem xr_42_1 : X_row 42 1 = some (1, (.getfield 9, 3), (2, 3, 24)) := by decide +kernel
theorem xr_42_4 : X_row 42 4 = some (4, (.ifCond .le 39, 3), (0, 0, 0)) := by decide +kernel
theorem xr_42_7 : X_row 42 7 = some (7, (.aload_n 0, 1), (0, 0, 0)) := by decide +kernel
theorem xr_42_8 : X_row 42 8 = some (8, (.getfield 28, 3), (2, 8, 34)) := by decide +kernel
theorem xr_42_11 : X_row 42 11 = some (11, (.aload_n 0, 1), (0, 0, 0)) := by decide +kernel
theorem xr_42_12 : X_row 42 12 = some (12, (.getfield 9, 3), (2, 3, 24)) := by decide +kernel
theorem xr_42_15 : X_row 42 15 = some (15, (.iconst 1, 1), (0, 0, 0)) := by decide +kernel
theorem xr_42_16 : X_row 42 16 = some (16, (.isub, 1), (0, 0, 0)) := by decide +kernel
theorem xr_42_17 : X_row 42 17 = some (17, (.iload_n 1, 1), (0, 0, 0)) := by decide +kernel
theorem xr_42_18 : X_row 42 18 = some (18, (.iastore, 1), (0, 0, 0)) := by decide +kernel
theorem xr_42_19 : X_row 42 19 = some (19, (.aload_n 0, 1), (0, 0, 0)) := by decide +kernel
theorem xr_42_20 : X_row 42 20 = some (20, (.getfield 31, 3), (2, 9, 36)) := by decide +kernel
theorem xr_42_23 : X_row 42 23 = some (23, (.aload_n 0, 1), (0, 0, 0)) := by decide +kernel
theorem xr_42_24 : X_row 42 24 = some (24, (.getfield 9, 3), (2, 3, 24)) := by decide +kernel
theorem xr_42_27 : X_row 42 27 = some (27, (.iconst 1, 1), (0, 0, 0)) := by decide +kernel
theorem xr_42_28 : X_row 42 28 = some (28, (.isub, 1), (0, 0, 0)) := by decide +kernel
theorem xr_42_29 : X_row 42 29 = some (29, (.iload_n 2, 1), (0, 0, 0)) := by decide +kernel
theorem xr_42_30 : X_row 42 30 = some (30, (.iastore, 1), (0, 0, 0)) := by decide +kernel
theorem xr_42_31 : X_row 42 31 = some (31, (.aload_n 0, 1), (0, 0, 0)) := by decide +kernel
theorem xr_42_32 : X_row 42 32 = some (32, (.getfield 34, 3), (2, 10, 38)) := by decide +kernel
theorem xr_42_35 : X_row 42 35 = some (35, (.aload_n 0, 1), (0, 0, 0)) := by decide +kernel
theorem xr_42_36 : X_row 42 36 = some (36, (.getfield 9, 3), (2, 3, 24)) := by decide +kernel
theorem xr_42_39 : X_row 42 39 = some (39, (.iconst 1, 1), (0, 0, 0)) := by decide +kernel
theorem xr_42_40 : X_row 42 40 = some (40, (.isub, 1), (0, 0, 0)) := by decide +kernel
theorem xr_42_41 : X_row 42 41 = some (41, (.lload_n 3, 1), (0, 0, 0)) := by decide +kernel
theorem xr_42_42 : X_row 42 42 = some (42, (.lastore, 1), (0, 0, 0)) := by decide +kernel
theorem xr_42_43 : X_row 42 43 = some (43, (.return_, 1), (0, 0, 0)) := by decide +kernel
theorem xr_46_0 : X_row 46 0 = some (0, (.aload_n 0, 1), (0, 0, 0)) := by decide +kernel
theorem xr_46_1 : X_row 46 1 = some (1, (.getfield 44, 3), (2, 0, 18)) := by decide +kernel
theorem xr_46_4 : X_row 46 4 = some (4, (.getfield 98, 3), (1, 0, 17)) := by decide +kernel
theorem xr_46_7 : X_row 46 7 = some (7, (.getfield 123, 3), (0, 7, 13)) := by decide +kernel
theorem xr_46_10 : X_row 46 10 = some (10, (.iload_n 1, 1), (0, 0, 0)) := by decide +kernel
theorem xr_46_11 : X_row 46 11 = some (11, (.aaload, 1), (0, 0, 0)) := by decide +kernel
theorem xr_46_12 : X_row 46 12 = some (12, (.astore 5, 2), (0, 0, 0)) := by decide +kernel
theorem xr_46_14 : X_row 46 14 = some (14, (.lload_n 3, 1), (0, 0, 0)) := by decide +kernel
theorem xr_46_15 : X_row 46 15 = some (15, (.lstore 6, 2), (0, 0, 0)) := by decide +kernel
theorem xr_46_17 : X_row 46 17 = some (17, (.aload 5, 2), (0, 0, 0)) := by decide +kernel
theorem xr_46_19 : X_row 46 19 = some (19, (.getfield 149, 3), (8, 4, 3)) := by decide +kernel
theorem xr_46_22 : X_row 46 22 = some (22, (.iconst 1, 1), (0, 0, 0)) := by decide +kernel
theorem xr_46_23 : X_row 46 23 = some (23, (.isub, 1), (0, 0, 0)) := by decide +kernel
theorem xr_46_24 : X_row 46 24 = some (24, (.istore 8, 2), (0, 0, 0)) := by decide +kernel
theorem xr_46_26 : X_row 46 26 = some (26, (.iload 8, 2), (0, 0, 0)) := by decide +kernel
theorem xr_46_28 : X_row 46 28 = some (28, (.ifCond .lt 119, 3), (0, 0, 0)) := by decide +kernel
theorem xr_46_31 : X_row 46 31 = some (31, (.aload_n 0, 1), (0, 0, 0)) := by decide +kernel
theorem xr_46_32 : X_row 46 32 = some (32, (.getfield 38, 3), (2, 11, 40)) := by decide +kernel
theorem xr_46_35 : X_row 46 35 = some (35, (.iload 8, 2), (0, 0, 0)) := by decide +kernel
theorem xr_46_37 : X_row 46 37 = some (37, (.iaload, 1), (0, 0, 0)) := by decide +kernel
theorem xr_46_38 : X_row 46 38 = some (38, (.istore 9, 2), (0, 0, 0)) := by decide +kernel
theorem xr_46_40 : X_row 46 40 = some (40, (.aload_n 0, 1), (0, 0, 0)) := by decide +kernel
theorem xr_46_41 : X_row 46 41 = some (41, (.getfield 41, 3), (2, 12, 42)) := by decide +kernel
theorem xr_46_44 : X_row 46 44 = some (44, (.iload 8, 2), (0, 0, 0)) := by decide +kernel
theorem xr_46_46 : X_row 46 46 = some (46, (.iaload, 1), (0, 0, 0)) := by decide +kernel
theorem xr_46_47 : X_row 46 47 = some (47, (.istore 10, 2), (0, 0, 0)) := by decide +kernel
theorem xr_46_49 : X_row 46 49 = some (49, (.aload_n 0, 1), (0, 0, 0)) := by decide +kernel
theorem xr_46_50 : X_row 46 50 = some (50, (.getfield 44, 3), (2, 0, 18)) := by decide +kernel
theorem xr_46_53 : X_row 46 53 = some (53, (.iload 9, 2), (0, 0, 0)) := by decide +kernel
theorem xr_46_55 : X_row 46 55 = some (55, (.iload 10, 2), (0, 0, 0)) := by decide +kernel
theorem xr_46_57 : X_row 46 57 = some (57, (.iload_n 1, 1), (0, 0, 0)) := by decide +kernel
theorem xr_46_58 : X_row 46 58 = some (58, (.iload 8, 2), (0, 0, 0)) := by decide +kernel
theorem xr_46_60 : X_row 46 60 = some (60, (.invokevirtual 138, 3), (27, 24, 0)) := by decide +kernel
theorem xr_46_63 : X_row 46 63 = some (63, (.lstore 11, 2), (0, 0, 0)) := by decide +kernel
theorem xr_46_65 : X_row 46 65 = some (65, (.lload 11, 2), (0, 0, 0)) := by decide +kernel
theorem xr_46_67 : X_row 46 67 = some (67, (.lconst 0, 1), (0, 0, 0)) := by decide +kernel
theorem xr_46_68 : X_row 46 68 = some (68, (.lcmp, 1), (0, 0, 0)) := by decide +kernel
theorem xr_46_69 : X_row 46 69 = some (69, (.ifCond .le 7, 3), (0, 0, 0)) := by decide +kernel
theorem xr_46_72 : X_row 46 72 = some (72, (.iconst 1, 1), (0, 0, 0)) := by decide +kernel
theorem xr_46_73 : X_row 46 73 = some (73, (.goto 4, 3), (0, 0, 0)) := by decide +kernel
theorem xr_46_76 : X_row 46 76 = some (76, (.iconst 0, 1), (0, 0, 0)) := by decide +kernel
theorem xr_46_77 : X_row 46 77 = some (77, (.istore 13, 2), (0, 0, 0)) := by decide +kernel
theorem xr_46_79 : X_row 46 79 = some (79, (.aload_n 0, 1), (0, 0, 0)) := by decide +kernel
theorem xr_46_80 : X_row 46 80 = some (80, (.iload 9, 2), (0, 0, 0)) := by decide +kernel
theorem xr_46_82 : X_row 46 82 = some (82, (.iload 10, 2), (0, 0, 0)) := by decide +kernel
theorem xr_46_84 : X_row 46 84 = some (84, (.iload_n 2, 1), (0, 0, 0)) := by decide +kernel
theorem xr_46_85 : X_row 46 85 = some (85, (.iload 8, 2), (0, 0, 0)) := by decide +kernel
theorem xr_46_87 : X_row 46 87 = some (87, (.invokevirtual 66, 3), (41, 2, 0)) := by decide +kernel
theorem xr_46_90 : X_row 46 90 = some (90, (.aload_n 0, 1), (0, 0, 0)) := by decide +kernel
theorem xr_46_91 : X_row 46 91 = some (91, (.aload 5, 2), (0, 0, 0)) := by decide +kernel
theorem xr_46_93 : X_row 46 93 = some (93, (.getfield 151, 3), (8, 11, 7)) := by decide +kernel
theorem xr_46_96 : X_row 46 96 = some (96, (.iload 8, 2), (0, 0, 0)) := by decide +kernel
theorem xr_46_98 : X_row 46 98 = some (98, (.iaload, 1), (0, 0, 0)) := by decide +kernel
theorem xr_46_99 : X_row 46 99 = some (99, (.aload 5, 2), (0, 0, 0)) := by decide +kernel
theorem xr_46_101 : X_row 46 101 = some (101, (.getfield 154, 3), (8, 12, 9)) := by decide +kernel
theorem xr_46_104 : X_row 46 104 = some (104, (.iload 8, 2), (0, 0, 0)) := by decide +kernel
theorem xr_46_106 : X_row 46 106 = some (106, (.iaload, 1), (0, 0, 0)) := by decide +kernel
theorem xr_46_107 : X_row 46 107 = some (107, (.iload 13, 2), (0, 0, 0)) := by decide +kernel
theorem xr_46_109 : X_row 46 109 = some (109, (.ifCond .eq 11, 3), (0, 0, 0)) := by decide +kernel
theorem xr_46_112 : X_row 46 112 = some (112, (.lload 6, 2), (0, 0, 0)) := by decide +kernel
theorem xr_46_114 : X_row 46 114 = some (114, (.lload 11, 2), (0, 0, 0)) := by decide +kernel
theorem xr_46_116 : X_row 46 116 = some (116, (.lrem, 1), (0, 0, 0)) := by decide +kernel
theorem xr_46_117 : X_row 46 117 = some (117, (.goto 5, 3), (0, 0, 0)) := by decide +kernel
theorem xr_46_120 : X_row 46 120 = some (120, (.lload 6, 2), (0, 0, 0)) := by decide +kernel
theorem xr_46_122 : X_row 46 122 = some (122, (.invokevirtual 70, 3), (42, 4, 0)) := by decide +kernel
theorem xr_46_125 : X_row 46 125 = some (125, (.iload 13, 2), (0, 0, 0)) := by decide +kernel
theorem xr_46_127 : X_row 46 127 = some (127, (.ifCond .eq 11, 3), (0, 0, 0)) := by decide +kernel
theorem xr_46_130 : X_row 46 130 = some (130, (.lload 6, 2), (0, 0, 0)) := by decide +kernel
theorem xr_46_132 : X_row 46 132 = some (132, (.lload 11, 2), (0, 0, 0)) := by decide +kernel
theorem xr_46_134 : X_row 46 134 = some (134, (.ldiv, 1), (0, 0, 0)) := by decide +kernel
theorem xr_46_135 : X_row 46 135 = some (135, (.goto 4, 3), (0, 0, 0)) := by decide +kernel
theorem xr_46_138 : X_row 46 138 = some (138, (.lconst 0, 1), (0, 0, 0)) := by decide +kernel
theorem xr_46_139 : X_row 46 139 = some (139, (.lstore 6, 2), (0, 0, 0)) := by decide +kernel
theorem xr_46_141 : X_row 46 141 = some (141, (.iinc 8 (-1), 3), (0, 0, 0)) := by decide +kernel
theorem xr_46_144 : X_row 46 144 = some (144, (.goto (-118), 3), (0, 0, 0)) := by decide +kernel
theorem xr_46_147 : X_row 46 147 = some (147, (.return_, 1), (0, 0, 0)) := by decide +kernel
theorem xn_41 : X_nL 41 = 5 := by decide +kernel
theorem xf_41 : X_na 41 = 4 ∧ X_ci 41 = 2 ∧ X_rt 41 = none := by decide +kernel
theorem xn_42 : X_nL 42 = 5 := by decide +kernel
theorem xf_42 : X_na 42 = 3 ∧ X_ci 42 = 2 ∧ X_rt 42 = none := by decide +kernel
theorem xn_46 : X_nL 46 = 14 := by decide +kernel
theorem xf_46 : X_na 46 = 3 ∧ X_ci 46 = 2 ∧ X_rt 46 = none := by decide +kernel
set_option maxHeartbeats 1600000 in
theorem c_fillWord (sc : X_Sc) (S : X_S) (oK : Int → Int64) (oW : Int → Int64) (oA : Int → Int64) (oH : Int → Int64) (fF : Int → Int) (fE : Int → Int) (fP : Int → Int) (fH : Int → Int) (fW : Int → Int) (fK : Int → Int) (fN : Int → Int64) (hF : Int → Int) (hE : Int → Int) (B : Nat) (rc : Int) (rn : Int → Int64) (kn : Int → Int64) (G : X_G) (tn : Int) (fl : Int) (wt : Int) (w : Int) (node : Int) (l : Nat) (HF : Int → Int) (HE : Int → Int) (St : Int → X_It) (hO511 : S.1 511 = .inr (1, [.ref B, .ref 501, .int (iI fl), .ref 512, .ref 513, .ref 514, .ref 515, .ref 516])) (hO517 : S.1 517 = .inr (2, [.ref 511, .ref 501, .ref 504, .int (iI wt), .ref 518, .ref 519, .ref 520, .ref 521, .ref 522, .ref 523, .ref 524, .ref 525, .ref 526])) (hA512 : S.1 512 = .inl (.long, 5115, .inr (.inl fun k : Nat => oK (k : Int)))) (hA513 : S.1 513 = .inl (.long, 13950, .inr (.inl fun k : Nat => oW (k : Int)))) (hA514 : S.1 514 = .inl (.long, 465, .inr (.inl fun k : Nat => oA (k : Int)))) (hA515 : S.1 515 = .inl (.long, 55800, .inr (.inl fun k : Nat => oH (k : Int)))) (hA518 : S.1 518 = .inl (.int, 30, .inl fun k : Nat => iI (fF (k : Int)))) (hA519 : S.1 519 = .inl (.int, 30, .inl fun k : Nat => iI (fE (k : Int)))) (hA520 : S.1 520 = .inl (.int, 30, .inl fun k : Nat => iI (fP (k : Int)))) (hA521 : S.1 521 = .inl (.int, 30, .inl fun k : Nat => iI (fH (k : Int)))) (hA522 : S.1 522 = .inl (.int, 30, .inl fun k : Nat => iI (fW (k : Int)))) (hA523 : S.1 523 = .inl (.int, 30, .inl fun k : Nat => iI (fK (k : Int)))) (hA524 : S.1 524 = .inl (.long, 30, .inr (.inl fun k : Nat => fN (k : Int)))) (hA525 : S.1 525 = .inl (.int, 4, .inl fun k : Nat => iI (hF (k : Int)))) (hA526 : S.1 526 = .inl (.int, 4, .inl fun k : Nat => iI (hE (k : Int)))) (hB : B = 4 ∨ B = 250) (hb : C_bk S B rc (gk G) (gw G) rn (gl G) kn (ga G)) (hs : C_ws S B (gD G) (gW G)) (hG : X_Gok G) (hw : 0 ≤ w ∧ w < gw G) (htn : 0 ≤ tn ∧ tn ≤ 30) (hcht : X_cht G (-2) tn oK oW oA oH) (hst : F_st G wt St fF fE fP fH fW fK fN) (hA : ∀ h, 0 ≤ h → h < gD G w 4 0 → hF h = HF h ∧ hE h = HE h) (hx : ∀ x, 0 ≤ x → x < gD G w 4 0 → (0 ≤ HF x ∧ HF x < HE x ∧ HE x ≤ tn) ∧ 0 < X_Hh G w x (HF x) (HE x)) (hwt : 0 ≤ wt ∧ wt + gD G w 4 0 ≤ 30) (hlm : l ≤ 9223372036854775807) : X_T sc 46 (0, [(0, .ref 517), (1, .int (iI w)), (2, .int (iI node)), (3, .long (iL (l : Int)))], [], S) (fun v S' => ∃ (r1 : Int) (St1 : Int → X_It) (fF1 : Int → Int) (fE1 : Int → Int) (fP1 : Int → Int) (fH1 : Int → Int) (fW1 : Int → Int) (fK1 : Int → Int) (fN1 : Int → Int64), v = none ∧ X_pus G w node HF HE (gD G w 4 0).toNat l (wt, St) = (r1, St1) ∧ F_st G r1 St1 fF1 fE1 fP1 fH1 fW1 fK1 fN1 ∧ S'.1 517 = .inr (2, [.ref 511, .ref 501, .ref 504, .int (iI r1), .ref 518, .ref 519, .ref 520, .ref 521, .ref 522, .ref 523, .ref 524, .ref 525, .ref 526]) ∧ S'.1 518 = .inl (.int, 30, .inl fun k : Nat => iI (fF1 (k : Int))) ∧ S'.1 519 = .inl (.int, 30, .inl fun k : Nat => iI (fE1 (k : Int))) ∧ S'.1 520 = .inl (.int, 30, .inl fun k : Nat => iI (fP1 (k : Int))) ∧ S'.1 521 = .inl (.int, 30, .inl fun k : Nat => iI (fH1 (k : Int))) ∧ S'.1 522 = .inl (.int, 30, .inl fun k : Nat => iI (fW1 (k : Int))) ∧ S'.1 523 = .inl (.int, 30, .inl fun k : Nat => iI (fK1 (k : Int))) ∧ S'.1 524 = .inl (.long, 30, .inr (.inl fun k : Nat => fN1 (k : Int))) ∧ (X_Fr (fun q => q = 518 ∨ q = 519 ∨ q = 520 ∨ q = 521 ∨ q = 522 ∨ q = 523 ∨ q = 524 ∨ q = 517) S S')) := by
  obtain ⟨hb0, hb1, hb2, hb3, hb4, ⟨f, hb5, hf⟩, ⟨hrc, hrcb⟩, ⟨hkc, hkcb⟩, ⟨hwc, hwcb⟩⟩ := id hb
  have hgw := hG.2.2.2 w hw.1 hw.2
  have hsz := hgw.1
  have hho := hgw.2.1
  refine X_QI (fun Q hQ => ?_)
  refine T_p xr_46_0 xn_46 (pc' := 1) (ls' := [(0, .ref 517), (1, .int (iI w)), (2, .int (iI node)), (3, .long (iL (l : Int)))]) (st' := [.ref 517]) rfl ?_
  refine T_get xr_46_1 hO517 rfl (v := .ref 511) rfl (pc' := 4) rfl ?_
  refine T_get xr_46_4 hO511 rfl (v := .ref B) rfl (pc' := 7) rfl ?_
  refine T_get xr_46_7 hb0 rfl (v := .ref (B + 5)) rfl (pc' := 10) rfl ?_
  refine T_p xr_46_10 xn_46 (pc' := 11) (ls' := [(0, .ref 517), (1, .int (iI w)), (2, .int (iI node)), (3, .long (iL (l : Int)))]) (st' := [.int (iI w), .ref (B + 5)]) rfl ?_
  have hwaw := hs w (by omega) (by omega)
  obtain ⟨aw, haaw⟩ : ∃ z : Nat, z = B + 6 + 8 * (w : Int).toNat := ⟨_, rfl⟩
  rw [← haaw] at hwaw
  obtain ⟨⟨_, _⟩, ⟨_, _⟩, ⟨_, _⟩, ⟨_, _⟩, ⟨_, _⟩, ⟨_, _⟩, ⟨_, _⟩, ⟨_, _⟩⟩ := id hwaw.2
  refine T_zaald xr_46_11 hb5 (w := aw) (by rw [haaw]; exact hf _ (by omega)) (pc' := 12) rfl ?_
  refine T_p xr_46_12 xn_46 (pc' := 14) (ls' := [(5, .ref aw), (0, .ref 517), (1, .int (iI w)), (2, .int (iI node)), (3, .long (iL (l : Int)))]) (st' := []) rfl ?_
  refine T_p xr_46_14 xn_46 (pc' := 15) (ls' := [(5, .ref aw), (0, .ref 517), (1, .int (iI w)), (2, .int (iI node)), (3, .long (iL (l : Int)))]) (st' := [.long (iL (l : Int))]) rfl ?_
  refine T_p xr_46_15 xn_46 (pc' := 17) (ls' := [(6, .long (iL (l : Int))), (5, .ref aw), (0, .ref 517), (1, .int (iI w)), (2, .int (iI node)), (3, .long (iL (l : Int)))]) (st' := []) rfl ?_
  refine T_p xr_46_17 xn_46 (pc' := 19) (ls' := [(6, .long (iL (l : Int))), (5, .ref aw), (0, .ref 517), (1, .int (iI w)), (2, .int (iI node)), (3, .long (iL (l : Int)))]) (st' := [.ref aw]) rfl ?_
  refine T_get xr_46_19 hwaw.1.1 rfl (v := .int (iI ((gD G) w 4 0))) rfl (pc' := 22) rfl ?_
  refine T_p xr_46_22 xn_46 (pc' := 23) (ls' := [(6, .long (iL (l : Int))), (5, .ref aw), (0, .ref 517), (1, .int (iI w)), (2, .int (iI node)), (3, .long (iL (l : Int)))]) (st' := [.int (iI 1), .int (iI ((gD G) w 4 0))]) rfl ?_
  refine T_zisub xr_46_23 (z := ((gD G) w 4 0) - 1) rfl (pc' := 24) rfl ?_
  refine T_p xr_46_24 xn_46 (pc' := 26) (ls' := [(8, .int (iI (((gD G) w 4 0) - 1))), (6, .long (iL (l : Int))), (5, .ref aw), (0, .ref 517), (1, .int (iI w)), (2, .int (iI node)), (3, .long (iL (l : Int)))]) (st' := []) rfl ?_
  have L1223 : ∀ (m1225 : Nat) (S1228 : X_S) (h : Int) (l1 : Nat) (wt1 : Int) (St1 : Int → X_It) (fF1 : Int → Int) (fE1 : Int → Int) (fP1 : Int → Int) (fH1 : Int → Int) (fW1 : Int → Int) (fK1 : Int → Int) (fN1 : Int → Int64) (hO1 : S1228.1 517 = .inr (2, [.ref 511, .ref 501, .ref 504, .int (iI wt1), .ref 518, .ref 519, .ref 520, .ref 521, .ref 522, .ref 523, .ref 524, .ref 525, .ref 526])) (hfF1 : S1228.1 518 = .inl (.int, 30, .inl fun k : Nat => iI (fF1 (k : Int)))) (hfE1 : S1228.1 519 = .inl (.int, 30, .inl fun k : Nat => iI (fE1 (k : Int)))) (hfP1 : S1228.1 520 = .inl (.int, 30, .inl fun k : Nat => iI (fP1 (k : Int)))) (hfH1 : S1228.1 521 = .inl (.int, 30, .inl fun k : Nat => iI (fH1 (k : Int)))) (hfW1 : S1228.1 522 = .inl (.int, 30, .inl fun k : Nat => iI (fW1 (k : Int)))) (hfK1 : S1228.1 523 = .inl (.int, 30, .inl fun k : Nat => iI (fK1 (k : Int)))) (hfN1 : S1228.1 524 = .inl (.long, 30, .inr (.inl fun k : Nat => fN1 (k : Int)))) (hF1227 : X_Fr (fun q => 517 ≤ q ∧ q ≤ 524) S S1228) (hh : -1 ≤ h ∧ h < gD G w 4 0) (hl1m : l1 ≤ 9223372036854775807) (hP : X_pus G w node HF HE (h + 1).toNat l1 (wt1, St1) = X_pus G w node HF HE (gD G w 4 0).toNat l (wt, St)) (hst1 : F_st G wt1 St1 fF1 fE1 fP1 fH1 fW1 fK1 fN1) (hwt1 : 0 ≤ wt1 ∧ wt1 + h + 1 ≤ 30) (hm1226 : h + 1 < m1225), X_T sc 46 (26, [(8, .int (iI h)), (6, .long (iL (l1 : Int))), (5, .ref aw), (0, .ref 517), (1, .int (iI w)), (2, .int (iI node))], [], S1228) Q := by
    intro m1225
    induction m1225 with
    | zero =>
      intro S1228 h l1 wt1 St1 fF1 fE1 fP1 fH1 fW1 fK1 fN1 hO1 hfF1 hfE1 hfP1 hfH1 hfW1 hfK1 hfN1 hF1227 hh hl1m hP hst1 hwt1 hm1226
      exact (show False by omega).elim
    | succ m1225 ih1224 =>
      intro S1228 h l1 wt1 St1 fF1 fE1 fP1 fH1 fW1 fK1 fN1 hO1 hfF1 hfE1 hfP1 hfH1 hfW1 hfK1 hfN1 hF1227 hh hl1m hP hst1 hwt1 hm1226
      refine T_p xr_46_26 xn_46 (pc' := 28) (ls' := [(8, .int (iI h)), (6, .long (iL (l1 : Int))), (5, .ref aw), (0, .ref 517), (1, .int (iI w)), (2, .int (iI node))]) (st' := [.int (iI h)]) rfl ?_
      refine T_zif_lt xr_46_28 (t := 147) (pc' := 31) rfl rfl (fun c1229 => ?_) (fun c1229 => ?_)
      · skip
        have c1229 : h < 0 := c1229
        refine T_vret xr_46_147 xf_46.2.2 ?_
        refine hQ _ _ ?_
        rw [show (h + 1).toNat = 0 by omega] at hP
        exact ⟨wt1, St1, fF1, fE1, fP1, fH1, fW1, fK1, fN1, rfl, hP.symm, hst1, hO1, hfF1, hfE1, hfP1, hfH1, hfW1, hfK1, hfN1, (X_Fr.rf).tr (X_Fr.mono ⟨hF1227.1, hF1227.2⟩ (fun q hq => (by omega)))⟩
      · skip
        have c1229 : ¬ (h < 0) := c1229
        have hxh := hx h (by omega) (by omega)
        have hHp := hxh.2
        have hAh := hA h (by omega) (by omega)
        refine T_p xr_46_31 xn_46 (pc' := 32) (ls' := [(8, .int (iI h)), (6, .long (iL (l1 : Int))), (5, .ref aw), (0, .ref 517), (1, .int (iI w)), (2, .int (iI node))]) (st' := [.ref 517]) rfl ?_
        refine T_get xr_46_32 hO1 rfl (v := .ref 525) rfl (pc' := 35) rfl ?_
        refine T_p xr_46_35 xn_46 (pc' := 37) (ls' := [(8, .int (iI h)), (6, .long (iL (l1 : Int))), (5, .ref aw), (0, .ref 517), (1, .int (iI w)), (2, .int (iI node))]) (st' := [.int (iI h), .ref 525]) rfl ?_
        have h1230 := (hF1227.1 525 (by first | decide | omega)).trans (hA525)
        refine T_ziald xr_46_37 h1230 (pc' := 38) rfl ?_
        refine T_ie (y := iI (HF h)) (by rw [hAh.1]) ?_
        refine T_p xr_46_38 xn_46 (pc' := 40) (ls' := [(9, .int (iI (HF h))), (8, .int (iI h)), (6, .long (iL (l1 : Int))), (5, .ref aw), (0, .ref 517), (1, .int (iI w)), (2, .int (iI node))]) (st' := []) rfl ?_
        refine T_p xr_46_40 xn_46 (pc' := 41) (ls' := [(9, .int (iI (HF h))), (8, .int (iI h)), (6, .long (iL (l1 : Int))), (5, .ref aw), (0, .ref 517), (1, .int (iI w)), (2, .int (iI node))]) (st' := [.ref 517]) rfl ?_
        refine T_get xr_46_41 hO1 rfl (v := .ref 526) rfl (pc' := 44) rfl ?_
        refine T_p xr_46_44 xn_46 (pc' := 46) (ls' := [(9, .int (iI (HF h))), (8, .int (iI h)), (6, .long (iL (l1 : Int))), (5, .ref aw), (0, .ref 517), (1, .int (iI w)), (2, .int (iI node))]) (st' := [.int (iI h), .ref 526]) rfl ?_
        have h1231 := (hF1227.1 526 (by first | decide | omega)).trans (hA526)
        refine T_ziald xr_46_46 h1231 (pc' := 47) rfl ?_
        refine T_ie (y := iI (HE h)) (by rw [hAh.2]) ?_
        refine T_p xr_46_47 xn_46 (pc' := 49) (ls' := [(10, .int (iI (HE h))), (9, .int (iI (HF h))), (8, .int (iI h)), (6, .long (iL (l1 : Int))), (5, .ref aw), (0, .ref 517), (1, .int (iI w)), (2, .int (iI node))]) (st' := []) rfl ?_
        refine T_p xr_46_49 xn_46 (pc' := 50) (ls' := [(10, .int (iI (HE h))), (9, .int (iI (HF h))), (8, .int (iI h)), (6, .long (iL (l1 : Int))), (5, .ref aw), (0, .ref 517), (1, .int (iI w)), (2, .int (iI node))]) (st' := [.ref 517]) rfl ?_
        refine T_get xr_46_50 hO1 rfl (v := .ref 511) rfl (pc' := 53) rfl ?_
        refine T_p xr_46_53 xn_46 (pc' := 55) (ls' := [(10, .int (iI (HE h))), (9, .int (iI (HF h))), (8, .int (iI h)), (6, .long (iL (l1 : Int))), (5, .ref aw), (0, .ref 517), (1, .int (iI w)), (2, .int (iI node))]) (st' := [.int (iI (HF h)), .ref 511]) rfl ?_
        refine T_p xr_46_55 xn_46 (pc' := 57) (ls' := [(10, .int (iI (HE h))), (9, .int (iI (HF h))), (8, .int (iI h)), (6, .long (iL (l1 : Int))), (5, .ref aw), (0, .ref 517), (1, .int (iI w)), (2, .int (iI node))]) (st' := [.int (iI (HE h)), .int (iI (HF h)), .ref 511]) rfl ?_
        refine T_p xr_46_57 xn_46 (pc' := 58) (ls' := [(10, .int (iI (HE h))), (9, .int (iI (HF h))), (8, .int (iI h)), (6, .long (iL (l1 : Int))), (5, .ref aw), (0, .ref 517), (1, .int (iI w)), (2, .int (iI node))]) (st' := [.int (iI w), .int (iI (HE h)), .int (iI (HF h)), .ref 511]) rfl ?_
        refine T_p xr_46_58 xn_46 (pc' := 60) (ls' := [(10, .int (iI (HE h))), (9, .int (iI (HF h))), (8, .int (iI h)), (6, .long (iL (l1 : Int))), (5, .ref aw), (0, .ref 517), (1, .int (iI w)), (2, .int (iI node))]) (st' := [.int (iI h), .int (iI w), .int (iI (HE h)), .int (iI (HF h)), .ref 511]) rfl ?_
        have h1232 := (hF1227.1 511 (by first | decide | omega)).trans (hO511)
        refine T_cv (S := S1228) (q := 511) xr_46_60 xf_27.1 xf_27.2.1 xn_27 (as := [.int (iI (HF h)), .int (iI (HE h)), .int (iI w), .int (iI h)]) (r := []) rfl h1232 (Nat.le_of_ble_eq_true rfl) (Nat.le_of_ble_eq_true rfl) (pc' := 63) rfl (ls' := [(0, .ref 511), (1, .int (iI (HF h))), (2, .int (iI (HE h))), (3, .int (iI w)), (4, .int (iI h))]) rfl ?_
        refine T_p xr_27_0 xn_27 (pc' := 1) (ls' := [(0, .ref 511), (1, .int (iI (HF h))), (2, .int (iI (HE h))), (3, .int (iI w)), (4, .int (iI h))]) (st' := [.ref 511]) rfl ?_
        refine T_get xr_27_1 h1232 rfl (v := .ref 515) rfl (pc' := 4) rfl ?_
        refine T_p xr_27_4 xn_27 (pc' := 5) (ls' := [(0, .ref 511), (1, .int (iI (HF h))), (2, .int (iI (HE h))), (3, .int (iI w)), (4, .int (iI h))]) (st' := [.int (iI (HF h)), .ref 515]) rfl ?_
        refine T_p xr_27_5 xn_27 (pc' := 6) (ls' := [(0, .ref 511), (1, .int (iI (HF h))), (2, .int (iI (HE h))), (3, .int (iI w)), (4, .int (iI h))]) (st' := [.int (iI (HE h)), .int (iI (HF h)), .ref 515]) rfl ?_
        refine T_cs xr_27_6 (by decide) xf_24.1 xn_24 (as := [.int (iI (HF h)), .int (iI (HE h))]) (r := [.ref 515]) rfl (Nat.le_of_ble_eq_true rfl) (Nat.le_of_ble_eq_true rfl) (pc' := 9) rfl (ls' := [(0, .int (iI (HF h))), (1, .int (iI (HE h)))]) rfl ?_
        refine T_mono (c_rowOf sc S1228 (HF h) (HE h) (by omega)) (fun v1233 S1234 h1235 => ?_)
        rcases h1235 with ⟨hv1236, hf1237⟩
        rw [hv1236]
        rw [hf1237]
        have hr1238 := X_ro_r (i := (HF h)) (j := (HE h)) (by omega) (by omega) (by omega)
        show X_T sc 27 (9, [(0, .ref 511), (1, .int (iI (HF h))), (2, .int (iI (HE h))), (3, .int (iI w)), (4, .int (iI h))], [.int (iI (X_ro (HF h) (HE h))), .ref 515], S1228) _
        refine T_p xr_27_9 xn_27 (pc' := 11) (ls' := [(0, .ref 511), (1, .int (iI (HF h))), (2, .int (iI (HE h))), (3, .int (iI w)), (4, .int (iI h))]) (st' := [.int (iI 30), .int (iI (X_ro (HF h) (HE h))), .ref 515]) rfl ?_
        refine T_zimul xr_27_11 (z := (X_ro (HF h) (HE h)) * 30) rfl (pc' := 12) rfl ?_
        refine T_p xr_27_12 xn_27 (pc' := 13) (ls' := [(0, .ref 511), (1, .int (iI (HF h))), (2, .int (iI (HE h))), (3, .int (iI w)), (4, .int (iI h))]) (st' := [.int (iI w), .int (iI ((X_ro (HF h) (HE h)) * 30)), .ref 515]) rfl ?_
        refine T_ziadd xr_27_13 (z := ((X_ro (HF h) (HE h)) * 30) + w) rfl (pc' := 14) rfl ?_
        refine T_p xr_27_14 xn_27 (pc' := 15) (ls' := [(0, .ref 511), (1, .int (iI (HF h))), (2, .int (iI (HE h))), (3, .int (iI w)), (4, .int (iI h))]) (st' := [.int (iI 4), .int (iI (((X_ro (HF h) (HE h)) * 30) + w)), .ref 515]) rfl ?_
        refine T_zimul xr_27_15 (z := (((X_ro (HF h) (HE h)) * 30) + w) * 4) rfl (pc' := 16) rfl ?_
        refine T_p xr_27_16 xn_27 (pc' := 18) (ls' := [(0, .ref 511), (1, .int (iI (HF h))), (2, .int (iI (HE h))), (3, .int (iI w)), (4, .int (iI h))]) (st' := [.int (iI h), .int (iI ((((X_ro (HF h) (HE h)) * 30) + w) * 4)), .ref 515]) rfl ?_
        refine T_ziadd xr_27_18 (z := ((((X_ro (HF h) (HE h)) * 30) + w) * 4) + h) rfl (pc' := 19) rfl ?_
        have h1239 := (hF1227.1 515 (by first | decide | omega)).trans (hA515)
        refine T_zlald xr_27_19 h1239 (pc' := 20) rfl ?_
        refine T_le (y := (X_st (-2) (X_Hh G w h (HF h) (HE h)))) ((hcht (HF h) (HE h) hxh.1.1 hxh.1.2.1 hxh.1.2.2).hh hw hgw (by omega) (by omega)) ?_
        refine T_lret xr_27_20 xf_27.2.2 rfl ?_
        show X_T sc 46 (63, [(10, .int (iI (HE h))), (9, .int (iI (HF h))), (8, .int (iI h)), (6, .long (iL (l1 : Int))), (5, .ref aw), (0, .ref 517), (1, .int (iI w)), (2, .int (iI node))], [.long (X_st (-2) (X_Hh G w h (HF h) (HE h)))], S1228) _
        refine T_p xr_46_63 xn_46 (pc' := 65) (ls' := [(11, .long (X_st (-2) (X_Hh G w h (HF h) (HE h)))), (10, .int (iI (HE h))), (9, .int (iI (HF h))), (8, .int (iI h)), (6, .long (iL (l1 : Int))), (5, .ref aw), (0, .ref 517), (1, .int (iI w)), (2, .int (iI node))]) (st' := []) rfl ?_
        have J1240 : X_T sc 46 (77, [(11, .long (X_st (-2) (X_Hh G w h (HF h) (HE h)))), (10, .int (iI (HE h))), (9, .int (iI (HF h))), (8, .int (iI h)), (6, .long (iL (l1 : Int))), (5, .ref aw), (0, .ref 517), (1, .int (iI w)), (2, .int (iI node))], [.int (iI (bI (X_Hh G w h (HF h) (HE h) ≤ 9223372036854775807)))], S1228) Q := by
          refine T_p xr_46_77 xn_46 (pc' := 79) (ls' := [(13, .int (iI (bI (X_Hh G w h (HF h) (HE h) ≤ 9223372036854775807)))), (11, .long (X_st (-2) (X_Hh G w h (HF h) (HE h)))), (10, .int (iI (HE h))), (9, .int (iI (HF h))), (8, .int (iI h)), (6, .long (iL (l1 : Int))), (5, .ref aw), (0, .ref 517), (1, .int (iI w)), (2, .int (iI node))]) (st' := []) rfl ?_
          refine T_p xr_46_79 xn_46 (pc' := 80) (ls' := [(13, .int (iI (bI (X_Hh G w h (HF h) (HE h) ≤ 9223372036854775807)))), (11, .long (X_st (-2) (X_Hh G w h (HF h) (HE h)))), (10, .int (iI (HE h))), (9, .int (iI (HF h))), (8, .int (iI h)), (6, .long (iL (l1 : Int))), (5, .ref aw), (0, .ref 517), (1, .int (iI w)), (2, .int (iI node))]) (st' := [.ref 517]) rfl ?_
          refine T_p xr_46_80 xn_46 (pc' := 82) (ls' := [(13, .int (iI (bI (X_Hh G w h (HF h) (HE h) ≤ 9223372036854775807)))), (11, .long (X_st (-2) (X_Hh G w h (HF h) (HE h)))), (10, .int (iI (HE h))), (9, .int (iI (HF h))), (8, .int (iI h)), (6, .long (iL (l1 : Int))), (5, .ref aw), (0, .ref 517), (1, .int (iI w)), (2, .int (iI node))]) (st' := [.int (iI (HF h)), .ref 517]) rfl ?_
          refine T_p xr_46_82 xn_46 (pc' := 84) (ls' := [(13, .int (iI (bI (X_Hh G w h (HF h) (HE h) ≤ 9223372036854775807)))), (11, .long (X_st (-2) (X_Hh G w h (HF h) (HE h)))), (10, .int (iI (HE h))), (9, .int (iI (HF h))), (8, .int (iI h)), (6, .long (iL (l1 : Int))), (5, .ref aw), (0, .ref 517), (1, .int (iI w)), (2, .int (iI node))]) (st' := [.int (iI (HE h)), .int (iI (HF h)), .ref 517]) rfl ?_
          refine T_p xr_46_84 xn_46 (pc' := 85) (ls' := [(13, .int (iI (bI (X_Hh G w h (HF h) (HE h) ≤ 9223372036854775807)))), (11, .long (X_st (-2) (X_Hh G w h (HF h) (HE h)))), (10, .int (iI (HE h))), (9, .int (iI (HF h))), (8, .int (iI h)), (6, .long (iL (l1 : Int))), (5, .ref aw), (0, .ref 517), (1, .int (iI w)), (2, .int (iI node))]) (st' := [.int (iI node), .int (iI (HE h)), .int (iI (HF h)), .ref 517]) rfl ?_
          refine T_p xr_46_85 xn_46 (pc' := 87) (ls' := [(13, .int (iI (bI (X_Hh G w h (HF h) (HE h) ≤ 9223372036854775807)))), (11, .long (X_st (-2) (X_Hh G w h (HF h) (HE h)))), (10, .int (iI (HE h))), (9, .int (iI (HF h))), (8, .int (iI h)), (6, .long (iL (l1 : Int))), (5, .ref aw), (0, .ref 517), (1, .int (iI w)), (2, .int (iI node))]) (st' := [.int (iI h), .int (iI node), .int (iI (HE h)), .int (iI (HF h)), .ref 517]) rfl ?_
          refine T_cv (S := S1228) (q := 517) xr_46_87 xf_41.1 xf_41.2.1 xn_41 (as := [.int (iI (HF h)), .int (iI (HE h)), .int (iI node), .int (iI h)]) (r := []) rfl hO1 (Nat.le_of_ble_eq_true rfl) (Nat.le_of_ble_eq_true rfl) (pc' := 90) rfl (ls' := [(0, .ref 517), (1, .int (iI (HF h))), (2, .int (iI (HE h))), (3, .int (iI node)), (4, .int (iI h))]) rfl ?_
          refine T_p xr_41_0 xn_41 (pc' := 1) (ls' := [(0, .ref 517), (1, .int (iI (HF h))), (2, .int (iI (HE h))), (3, .int (iI node)), (4, .int (iI h))]) (st' := [.ref 517]) rfl ?_
          refine T_get xr_41_1 hO1 rfl (v := .int (iI wt1)) rfl (pc' := 4) rfl ?_
          refine T_p xr_41_4 xn_41 (pc' := 6) (ls' := [(0, .ref 517), (1, .int (iI (HF h))), (2, .int (iI (HE h))), (3, .int (iI node)), (4, .int (iI h))]) (st' := [.int (iI 30), .int (iI wt1)]) rfl ?_
          refine T_zicmp_ge xr_41_6 (t := 60) (pc' := 9) rfl rfl (fun c1241 => ?_) (fun c1241 => ?_)
          · skip
            have c1241 : 30 ≤ wt1 := c1241
            exact (show False by omega).elim
          · skip
            have c1241 : ¬ (30 ≤ wt1) := c1241
            refine T_p xr_41_9 xn_41 (pc' := 10) (ls' := [(0, .ref 517), (1, .int (iI (HF h))), (2, .int (iI (HE h))), (3, .int (iI node)), (4, .int (iI h))]) (st' := [.ref 517]) rfl ?_
            refine T_get xr_41_10 hO1 rfl (v := .ref 518) rfl (pc' := 13) rfl ?_
            refine T_p xr_41_13 xn_41 (pc' := 14) (ls' := [(0, .ref 517), (1, .int (iI (HF h))), (2, .int (iI (HE h))), (3, .int (iI node)), (4, .int (iI h))]) (st' := [.ref 517, .ref 518]) rfl ?_
            refine T_get xr_41_14 hO1 rfl (v := .int (iI wt1)) rfl (pc' := 17) rfl ?_
            refine T_p xr_41_17 xn_41 (pc' := 18) (ls' := [(0, .ref 517), (1, .int (iI (HF h))), (2, .int (iI (HE h))), (3, .int (iI node)), (4, .int (iI h))]) (st' := [.int (iI (HF h)), .int (iI wt1), .ref 518]) rfl ?_
            refine T_ziast xr_41_18 hfF1 (pc' := 19) rfl (fun S1242 h1243 n1244 e1245 => ?_)
            refine T_p xr_41_19 xn_41 (pc' := 20) (ls' := [(0, .ref 517), (1, .int (iI (HF h))), (2, .int (iI (HE h))), (3, .int (iI node)), (4, .int (iI h))]) (st' := [.ref 517]) rfl ?_
            have h1246 := (n1244 517 (by decide)).trans (hO1)
            refine T_get xr_41_20 h1246 rfl (v := .ref 519) rfl (pc' := 23) rfl ?_
            refine T_p xr_41_23 xn_41 (pc' := 24) (ls' := [(0, .ref 517), (1, .int (iI (HF h))), (2, .int (iI (HE h))), (3, .int (iI node)), (4, .int (iI h))]) (st' := [.ref 517, .ref 519]) rfl ?_
            refine T_get xr_41_24 h1246 rfl (v := .int (iI wt1)) rfl (pc' := 27) rfl ?_
            refine T_p xr_41_27 xn_41 (pc' := 28) (ls' := [(0, .ref 517), (1, .int (iI (HF h))), (2, .int (iI (HE h))), (3, .int (iI node)), (4, .int (iI h))]) (st' := [.int (iI (HE h)), .int (iI wt1), .ref 519]) rfl ?_
            have h1247 := (n1244 519 (by decide)).trans (hfE1)
            refine T_ziast xr_41_28 h1247 (pc' := 29) rfl (fun S1248 h1249 n1250 e1251 => ?_)
            refine T_p xr_41_29 xn_41 (pc' := 30) (ls' := [(0, .ref 517), (1, .int (iI (HF h))), (2, .int (iI (HE h))), (3, .int (iI node)), (4, .int (iI h))]) (st' := [.ref 517]) rfl ?_
            have h1252 := (n1250 517 (by decide)).trans (h1246)
            refine T_get xr_41_30 h1252 rfl (v := .ref 520) rfl (pc' := 33) rfl ?_
            refine T_p xr_41_33 xn_41 (pc' := 34) (ls' := [(0, .ref 517), (1, .int (iI (HF h))), (2, .int (iI (HE h))), (3, .int (iI node)), (4, .int (iI h))]) (st' := [.ref 517, .ref 520]) rfl ?_
            refine T_get xr_41_34 h1252 rfl (v := .int (iI wt1)) rfl (pc' := 37) rfl ?_
            refine T_p xr_41_37 xn_41 (pc' := 38) (ls' := [(0, .ref 517), (1, .int (iI (HF h))), (2, .int (iI (HE h))), (3, .int (iI node)), (4, .int (iI h))]) (st' := [.int (iI node), .int (iI wt1), .ref 520]) rfl ?_
            have h1253 := (n1250 520 (by decide)).trans ((n1244 520 (by decide)).trans (hfP1))
            refine T_ziast xr_41_38 h1253 (pc' := 39) rfl (fun S1254 h1255 n1256 e1257 => ?_)
            refine T_p xr_41_39 xn_41 (pc' := 40) (ls' := [(0, .ref 517), (1, .int (iI (HF h))), (2, .int (iI (HE h))), (3, .int (iI node)), (4, .int (iI h))]) (st' := [.ref 517]) rfl ?_
            have h1258 := (n1256 517 (by decide)).trans (h1252)
            refine T_get xr_41_40 h1258 rfl (v := .ref 521) rfl (pc' := 43) rfl ?_
            refine T_p xr_41_43 xn_41 (pc' := 44) (ls' := [(0, .ref 517), (1, .int (iI (HF h))), (2, .int (iI (HE h))), (3, .int (iI node)), (4, .int (iI h))]) (st' := [.ref 517, .ref 521]) rfl ?_
            refine T_get xr_41_44 h1258 rfl (v := .int (iI wt1)) rfl (pc' := 47) rfl ?_
            refine T_p xr_41_47 xn_41 (pc' := 49) (ls' := [(0, .ref 517), (1, .int (iI (HF h))), (2, .int (iI (HE h))), (3, .int (iI node)), (4, .int (iI h))]) (st' := [.int (iI h), .int (iI wt1), .ref 521]) rfl ?_
            have h1259 := (n1256 521 (by decide)).trans ((n1250 521 (by decide)).trans ((n1244 521 (by decide)).trans (hfH1)))
            refine T_ziast xr_41_49 h1259 (pc' := 50) rfl (fun S1260 h1261 n1262 e1263 => ?_)
            refine T_p xr_41_50 xn_41 (pc' := 51) (ls' := [(0, .ref 517), (1, .int (iI (HF h))), (2, .int (iI (HE h))), (3, .int (iI node)), (4, .int (iI h))]) (st' := [.ref 517]) rfl ?_
            refine T_p xr_41_51 xn_41 (pc' := 52) (ls' := [(0, .ref 517), (1, .int (iI (HF h))), (2, .int (iI (HE h))), (3, .int (iI node)), (4, .int (iI h))]) (st' := [.ref 517, .ref 517]) rfl ?_
            have h1264 := (n1262 517 (by decide)).trans (h1258)
            refine T_get xr_41_52 h1264 rfl (v := .int (iI wt1)) rfl (pc' := 55) rfl ?_
            refine T_p xr_41_55 xn_41 (pc' := 56) (ls' := [(0, .ref 517), (1, .int (iI (HF h))), (2, .int (iI (HE h))), (3, .int (iI node)), (4, .int (iI h))]) (st' := [.int (iI 1), .int (iI wt1), .ref 517]) rfl ?_
            refine T_ziadd xr_41_56 (z := wt1 + 1) rfl (pc' := 57) rfl ?_
            refine T_put xr_41_57 h1264 rfl (Nat.le_of_ble_eq_true rfl) rfl (fs' := [.ref 511, .ref 501, .ref 504, .int (iI (wt1 + 1)), .ref 518, .ref 519, .ref 520, .ref 521, .ref 522, .ref 523, .ref 524, .ref 525, .ref 526]) rfl (pc' := 60) rfl (fun S1265 h1266 n1267 e1268 => ?_)
            refine T_vret xr_41_60 xf_41.2.2 ?_
            show X_T sc 46 (90, [(13, .int (iI (bI (X_Hh G w h (HF h) (HE h) ≤ 9223372036854775807)))), (11, .long (X_st (-2) (X_Hh G w h (HF h) (HE h)))), (10, .int (iI (HE h))), (9, .int (iI (HF h))), (8, .int (iI h)), (6, .long (iL (l1 : Int))), (5, .ref aw), (0, .ref 517), (1, .int (iI w)), (2, .int (iI node))], [], S1265) _
            refine T_p xr_46_90 xn_46 (pc' := 91) (ls' := [(13, .int (iI (bI (X_Hh G w h (HF h) (HE h) ≤ 9223372036854775807)))), (11, .long (X_st (-2) (X_Hh G w h (HF h) (HE h)))), (10, .int (iI (HE h))), (9, .int (iI (HF h))), (8, .int (iI h)), (6, .long (iL (l1 : Int))), (5, .ref aw), (0, .ref 517), (1, .int (iI w)), (2, .int (iI node))]) (st' := [.ref 517]) rfl ?_
            refine T_p xr_46_91 xn_46 (pc' := 93) (ls' := [(13, .int (iI (bI (X_Hh G w h (HF h) (HE h) ≤ 9223372036854775807)))), (11, .long (X_st (-2) (X_Hh G w h (HF h) (HE h)))), (10, .int (iI (HE h))), (9, .int (iI (HF h))), (8, .int (iI h)), (6, .long (iL (l1 : Int))), (5, .ref aw), (0, .ref 517), (1, .int (iI w)), (2, .int (iI node))]) (st' := [.ref aw, .ref 517]) rfl ?_
            have h1269 := (n1267 aw (by omega)).trans ((n1262 aw (by omega)).trans ((n1256 aw (by omega)).trans ((n1250 aw (by omega)).trans ((n1244 aw (by omega)).trans ((hF1227.1 aw (by omega)).trans (hwaw.1.1))))))
            refine T_get xr_46_93 h1269 rfl (v := .ref (aw + 4)) rfl (pc' := 96) rfl ?_
            refine T_p xr_46_96 xn_46 (pc' := 98) (ls' := [(13, .int (iI (bI (X_Hh G w h (HF h) (HE h) ≤ 9223372036854775807)))), (11, .long (X_st (-2) (X_Hh G w h (HF h) (HE h)))), (10, .int (iI (HE h))), (9, .int (iI (HF h))), (8, .int (iI h)), (6, .long (iL (l1 : Int))), (5, .ref aw), (0, .ref 517), (1, .int (iI w)), (2, .int (iI node))]) (st' := [.int (iI h), .ref (aw + 4), .ref 517]) rfl ?_
            have h1270 := (n1267 (aw + 4) (by omega)).trans ((n1262 (aw + 4) (by omega)).trans ((n1256 (aw + 4) (by omega)).trans ((n1250 (aw + 4) (by omega)).trans ((n1244 (aw + 4) (by omega)).trans ((hF1227.1 (aw + 4) (by omega)).trans (hwaw.1.2.2.2.2.1))))))
            refine T_ziald xr_46_98 h1270 (pc' := 99) rfl ?_
            refine T_p xr_46_99 xn_46 (pc' := 101) (ls' := [(13, .int (iI (bI (X_Hh G w h (HF h) (HE h) ≤ 9223372036854775807)))), (11, .long (X_st (-2) (X_Hh G w h (HF h) (HE h)))), (10, .int (iI (HE h))), (9, .int (iI (HF h))), (8, .int (iI h)), (6, .long (iL (l1 : Int))), (5, .ref aw), (0, .ref 517), (1, .int (iI w)), (2, .int (iI node))]) (st' := [.ref aw, .int (iI (((gD G) w 10) h)), .ref 517]) rfl ?_
            refine T_get xr_46_101 h1269 rfl (v := .ref (aw + 5)) rfl (pc' := 104) rfl ?_
            refine T_p xr_46_104 xn_46 (pc' := 106) (ls' := [(13, .int (iI (bI (X_Hh G w h (HF h) (HE h) ≤ 9223372036854775807)))), (11, .long (X_st (-2) (X_Hh G w h (HF h) (HE h)))), (10, .int (iI (HE h))), (9, .int (iI (HF h))), (8, .int (iI h)), (6, .long (iL (l1 : Int))), (5, .ref aw), (0, .ref 517), (1, .int (iI w)), (2, .int (iI node))]) (st' := [.int (iI h), .ref (aw + 5), .int (iI (((gD G) w 10) h)), .ref 517]) rfl ?_
            have h1271 := (n1267 (aw + 5) (by omega)).trans ((n1262 (aw + 5) (by omega)).trans ((n1256 (aw + 5) (by omega)).trans ((n1250 (aw + 5) (by omega)).trans ((n1244 (aw + 5) (by omega)).trans ((hF1227.1 (aw + 5) (by omega)).trans (hwaw.1.2.2.2.2.2.1))))))
            refine T_ziald xr_46_106 h1271 (pc' := 107) rfl ?_
            refine T_p xr_46_107 xn_46 (pc' := 109) (ls' := [(13, .int (iI (bI (X_Hh G w h (HF h) (HE h) ≤ 9223372036854775807)))), (11, .long (X_st (-2) (X_Hh G w h (HF h) (HE h)))), (10, .int (iI (HE h))), (9, .int (iI (HF h))), (8, .int (iI h)), (6, .long (iL (l1 : Int))), (5, .ref aw), (0, .ref 517), (1, .int (iI w)), (2, .int (iI node))]) (st' := [.int (iI (bI (X_Hh G w h (HF h) (HE h) ≤ 9223372036854775807))), .int (iI (((gD G) w 11) h)), .int (iI (((gD G) w 10) h)), .ref 517]) rfl ?_
            refine T_bif_eq xr_46_109 (t := 120) (pc' := 112) rfl rfl (fun c1272 => ?_) (fun c1272 => ?_)
            · skip
              have c1272 : ¬ (X_Hh G w h (HF h) (HE h) ≤ 9223372036854775807) := c1272
              refine T_p xr_46_120 xn_46 (pc' := 122) (ls' := [(13, .int (iI (bI (X_Hh G w h (HF h) (HE h) ≤ 9223372036854775807)))), (11, .long (X_st (-2) (X_Hh G w h (HF h) (HE h)))), (10, .int (iI (HE h))), (9, .int (iI (HF h))), (8, .int (iI h)), (6, .long (iL (l1 : Int))), (5, .ref aw), (0, .ref 517), (1, .int (iI w)), (2, .int (iI node))]) (st' := [.long (iL (l1 : Int)), .int (iI (((gD G) w 11) h)), .int (iI (((gD G) w 10) h)), .ref 517]) rfl ?_
              refine T_le (y := (iL ((l1 % X_Hh G w h (HF h) (HE h) : Nat) : Int))) (by rw [Nat.mod_eq_of_lt (show l1 < X_Hh G w h (HF h) (HE h) by omega)]) ?_
              refine T_cv (S := S1265) (q := 517) xr_46_122 xf_42.1 xf_42.2.1 xn_42 (as := [.int (iI (((gD G) w 10) h)), .int (iI (((gD G) w 11) h)), .long (iL ((l1 % X_Hh G w h (HF h) (HE h) : Nat) : Int))]) (r := []) rfl h1266 (Nat.le_of_ble_eq_true rfl) (Nat.le_of_ble_eq_true rfl) (pc' := 125) rfl (ls' := [(0, .ref 517), (1, .int (iI (((gD G) w 10) h))), (2, .int (iI (((gD G) w 11) h))), (3, .long (iL ((l1 % X_Hh G w h (HF h) (HE h) : Nat) : Int)))]) rfl ?_
              refine T_p xr_42_0 xn_42 (pc' := 1) (ls' := [(0, .ref 517), (1, .int (iI (((gD G) w 10) h))), (2, .int (iI (((gD G) w 11) h))), (3, .long (iL ((l1 % X_Hh G w h (HF h) (HE h) : Nat) : Int)))]) (st' := [.ref 517]) rfl ?_
              refine T_get xr_42_1 h1266 rfl (v := .int (iI (wt1 + 1))) rfl (pc' := 4) rfl ?_
              refine T_zif_le xr_42_4 (t := 43) (pc' := 7) rfl rfl (fun c1273 => ?_) (fun c1273 => ?_)
              · skip
                have c1273 : (wt1 + 1) ≤ 0 := c1273
                exact (show False by omega).elim
              · skip
                have c1273 : ¬ ((wt1 + 1) ≤ 0) := c1273
                refine T_p xr_42_7 xn_42 (pc' := 8) (ls' := [(0, .ref 517), (1, .int (iI (((gD G) w 10) h))), (2, .int (iI (((gD G) w 11) h))), (3, .long (iL ((l1 % X_Hh G w h (HF h) (HE h) : Nat) : Int)))]) (st' := [.ref 517]) rfl ?_
                refine T_get xr_42_8 h1266 rfl (v := .ref 522) rfl (pc' := 11) rfl ?_
                refine T_p xr_42_11 xn_42 (pc' := 12) (ls' := [(0, .ref 517), (1, .int (iI (((gD G) w 10) h))), (2, .int (iI (((gD G) w 11) h))), (3, .long (iL ((l1 % X_Hh G w h (HF h) (HE h) : Nat) : Int)))]) (st' := [.ref 517, .ref 522]) rfl ?_
                refine T_get xr_42_12 h1266 rfl (v := .int (iI (wt1 + 1))) rfl (pc' := 15) rfl ?_
                refine T_p xr_42_15 xn_42 (pc' := 16) (ls' := [(0, .ref 517), (1, .int (iI (((gD G) w 10) h))), (2, .int (iI (((gD G) w 11) h))), (3, .long (iL ((l1 % X_Hh G w h (HF h) (HE h) : Nat) : Int)))]) (st' := [.int (iI 1), .int (iI (wt1 + 1)), .ref 522]) rfl ?_
                refine T_zisub xr_42_16 (z := wt1) (by omega) (pc' := 17) rfl ?_
                refine T_p xr_42_17 xn_42 (pc' := 18) (ls' := [(0, .ref 517), (1, .int (iI (((gD G) w 10) h))), (2, .int (iI (((gD G) w 11) h))), (3, .long (iL ((l1 % X_Hh G w h (HF h) (HE h) : Nat) : Int)))]) (st' := [.int (iI (((gD G) w 10) h)), .int (iI wt1), .ref 522]) rfl ?_
                have h1274 := (n1267 522 (by decide)).trans ((n1262 522 (by decide)).trans ((n1256 522 (by decide)).trans ((n1250 522 (by decide)).trans ((n1244 522 (by decide)).trans (hfW1)))))
                refine T_ziast xr_42_18 h1274 (pc' := 19) rfl (fun S1275 h1276 n1277 e1278 => ?_)
                refine T_p xr_42_19 xn_42 (pc' := 20) (ls' := [(0, .ref 517), (1, .int (iI (((gD G) w 10) h))), (2, .int (iI (((gD G) w 11) h))), (3, .long (iL ((l1 % X_Hh G w h (HF h) (HE h) : Nat) : Int)))]) (st' := [.ref 517]) rfl ?_
                have h1279 := (n1277 517 (by decide)).trans (h1266)
                refine T_get xr_42_20 h1279 rfl (v := .ref 523) rfl (pc' := 23) rfl ?_
                refine T_p xr_42_23 xn_42 (pc' := 24) (ls' := [(0, .ref 517), (1, .int (iI (((gD G) w 10) h))), (2, .int (iI (((gD G) w 11) h))), (3, .long (iL ((l1 % X_Hh G w h (HF h) (HE h) : Nat) : Int)))]) (st' := [.ref 517, .ref 523]) rfl ?_
                refine T_get xr_42_24 h1279 rfl (v := .int (iI (wt1 + 1))) rfl (pc' := 27) rfl ?_
                refine T_p xr_42_27 xn_42 (pc' := 28) (ls' := [(0, .ref 517), (1, .int (iI (((gD G) w 10) h))), (2, .int (iI (((gD G) w 11) h))), (3, .long (iL ((l1 % X_Hh G w h (HF h) (HE h) : Nat) : Int)))]) (st' := [.int (iI 1), .int (iI (wt1 + 1)), .ref 523]) rfl ?_
                refine T_zisub xr_42_28 (z := wt1) (by omega) (pc' := 29) rfl ?_
                refine T_p xr_42_29 xn_42 (pc' := 30) (ls' := [(0, .ref 517), (1, .int (iI (((gD G) w 10) h))), (2, .int (iI (((gD G) w 11) h))), (3, .long (iL ((l1 % X_Hh G w h (HF h) (HE h) : Nat) : Int)))]) (st' := [.int (iI (((gD G) w 11) h)), .int (iI wt1), .ref 523]) rfl ?_
                have h1280 := (n1277 523 (by decide)).trans ((n1267 523 (by decide)).trans ((n1262 523 (by decide)).trans ((n1256 523 (by decide)).trans ((n1250 523 (by decide)).trans ((n1244 523 (by decide)).trans (hfK1))))))
                refine T_ziast xr_42_30 h1280 (pc' := 31) rfl (fun S1281 h1282 n1283 e1284 => ?_)
                refine T_p xr_42_31 xn_42 (pc' := 32) (ls' := [(0, .ref 517), (1, .int (iI (((gD G) w 10) h))), (2, .int (iI (((gD G) w 11) h))), (3, .long (iL ((l1 % X_Hh G w h (HF h) (HE h) : Nat) : Int)))]) (st' := [.ref 517]) rfl ?_
                have h1285 := (n1283 517 (by decide)).trans (h1279)
                refine T_get xr_42_32 h1285 rfl (v := .ref 524) rfl (pc' := 35) rfl ?_
                refine T_p xr_42_35 xn_42 (pc' := 36) (ls' := [(0, .ref 517), (1, .int (iI (((gD G) w 10) h))), (2, .int (iI (((gD G) w 11) h))), (3, .long (iL ((l1 % X_Hh G w h (HF h) (HE h) : Nat) : Int)))]) (st' := [.ref 517, .ref 524]) rfl ?_
                refine T_get xr_42_36 h1285 rfl (v := .int (iI (wt1 + 1))) rfl (pc' := 39) rfl ?_
                refine T_p xr_42_39 xn_42 (pc' := 40) (ls' := [(0, .ref 517), (1, .int (iI (((gD G) w 10) h))), (2, .int (iI (((gD G) w 11) h))), (3, .long (iL ((l1 % X_Hh G w h (HF h) (HE h) : Nat) : Int)))]) (st' := [.int (iI 1), .int (iI (wt1 + 1)), .ref 524]) rfl ?_
                refine T_zisub xr_42_40 (z := wt1) (by omega) (pc' := 41) rfl ?_
                refine T_p xr_42_41 xn_42 (pc' := 42) (ls' := [(0, .ref 517), (1, .int (iI (((gD G) w 10) h))), (2, .int (iI (((gD G) w 11) h))), (3, .long (iL ((l1 % X_Hh G w h (HF h) (HE h) : Nat) : Int)))]) (st' := [.long (iL ((l1 % X_Hh G w h (HF h) (HE h) : Nat) : Int)), .int (iI wt1), .ref 524]) rfl ?_
                have h1286 := (n1283 524 (by decide)).trans ((n1277 524 (by decide)).trans ((n1267 524 (by decide)).trans ((n1262 524 (by decide)).trans ((n1256 524 (by decide)).trans ((n1250 524 (by decide)).trans ((n1244 524 (by decide)).trans (hfN1)))))))
                refine T_zlast xr_42_42 h1286 (pc' := 43) rfl (fun S1287 h1288 n1289 e1290 => ?_)
                refine T_vret xr_42_43 xf_42.2.2 ?_
                show X_T sc 46 (125, [(13, .int (iI (bI (X_Hh G w h (HF h) (HE h) ≤ 9223372036854775807)))), (11, .long (X_st (-2) (X_Hh G w h (HF h) (HE h)))), (10, .int (iI (HE h))), (9, .int (iI (HF h))), (8, .int (iI h)), (6, .long (iL (l1 : Int))), (5, .ref aw), (0, .ref 517), (1, .int (iI w)), (2, .int (iI node))], [], S1287) _
                refine T_p xr_46_125 xn_46 (pc' := 127) (ls' := [(13, .int (iI (bI (X_Hh G w h (HF h) (HE h) ≤ 9223372036854775807)))), (11, .long (X_st (-2) (X_Hh G w h (HF h) (HE h)))), (10, .int (iI (HE h))), (9, .int (iI (HF h))), (8, .int (iI h)), (6, .long (iL (l1 : Int))), (5, .ref aw), (0, .ref 517), (1, .int (iI w)), (2, .int (iI node))]) (st' := [.int (iI (bI (X_Hh G w h (HF h) (HE h) ≤ 9223372036854775807)))]) rfl ?_
                refine T_bif_eq xr_46_127 (t := 138) (pc' := 130) rfl rfl (fun c1291 => ?_) (fun c1291 => ?_)
                · skip
                  have c1291 : ¬ (X_Hh G w h (HF h) (HE h) ≤ 9223372036854775807) := c1291
                  refine T_p xr_46_138 xn_46 (pc' := 139) (ls' := [(13, .int (iI (bI (X_Hh G w h (HF h) (HE h) ≤ 9223372036854775807)))), (11, .long (X_st (-2) (X_Hh G w h (HF h) (HE h)))), (10, .int (iI (HE h))), (9, .int (iI (HF h))), (8, .int (iI h)), (6, .long (iL (l1 : Int))), (5, .ref aw), (0, .ref 517), (1, .int (iI w)), (2, .int (iI node))]) (st' := [.long (iL 0)]) rfl ?_
                  refine T_le (y := (iL ((l1 / X_Hh G w h (HF h) (HE h) : Nat) : Int))) (by rw [Nat.div_eq_of_lt (show l1 < X_Hh G w h (HF h) (HE h) by omega)]; rfl) ?_
                  refine T_p xr_46_139 xn_46 (pc' := 141) (ls' := [(6, .long (iL ((l1 / X_Hh G w h (HF h) (HE h) : Nat) : Int))), (13, .int (iI (bI (X_Hh G w h (HF h) (HE h) ≤ 9223372036854775807)))), (11, .long (X_st (-2) (X_Hh G w h (HF h) (HE h)))), (10, .int (iI (HE h))), (9, .int (iI (HF h))), (8, .int (iI h)), (5, .ref aw), (0, .ref 517), (1, .int (iI w)), (2, .int (iI node))]) (st' := []) rfl ?_
                  refine T_ziinc xr_46_141 xn_46 (a := h) (z := h - 1) rfl (Nat.le_of_ble_eq_true rfl) (by omega) (ls' := [(8, .int (iI (h - 1))), (6, .long (iL ((l1 / X_Hh G w h (HF h) (HE h) : Nat) : Int))), (13, .int (iI (bI (X_Hh G w h (HF h) (HE h) ≤ 9223372036854775807)))), (11, .long (X_st (-2) (X_Hh G w h (HF h) (HE h)))), (10, .int (iI (HE h))), (9, .int (iI (HF h))), (5, .ref aw), (0, .ref 517), (1, .int (iI w)), (2, .int (iI node))]) rfl (pc' := 144) rfl ?_
                  refine T_p xr_46_144 xn_46 (pc' := 26) (ls' := [(8, .int (iI (h - 1))), (6, .long (iL ((l1 / X_Hh G w h (HF h) (HE h) : Nat) : Int))), (13, .int (iI (bI (X_Hh G w h (HF h) (HE h) ≤ 9223372036854775807)))), (11, .long (X_st (-2) (X_Hh G w h (HF h) (HE h)))), (10, .int (iI (HE h))), (9, .int (iI (HF h))), (5, .ref aw), (0, .ref 517), (1, .int (iI w)), (2, .int (iI node))]) (st' := []) rfl ?_
                  have h1292 := (n1289 517 (by decide)).trans (h1285)
                  have h1293 := (n1289 518 (by decide)).trans ((n1283 518 (by decide)).trans ((n1277 518 (by decide)).trans ((n1267 518 (by decide)).trans ((n1262 518 (by decide)).trans ((n1256 518 (by decide)).trans ((n1250 518 (by decide)).trans (h1243)))))))
                  have h1294 := (n1289 519 (by decide)).trans ((n1283 519 (by decide)).trans ((n1277 519 (by decide)).trans ((n1267 519 (by decide)).trans ((n1262 519 (by decide)).trans ((n1256 519 (by decide)).trans (h1249))))))
                  have h1295 := (n1289 520 (by decide)).trans ((n1283 520 (by decide)).trans ((n1277 520 (by decide)).trans ((n1267 520 (by decide)).trans ((n1262 520 (by decide)).trans (h1255)))))
                  have h1296 := (n1289 521 (by decide)).trans ((n1283 521 (by decide)).trans ((n1277 521 (by decide)).trans ((n1267 521 (by decide)).trans (h1261))))
                  have h1297 := (n1289 522 (by decide)).trans ((n1283 522 (by decide)).trans (h1276))
                  have h1298 := (n1289 523 (by decide)).trans (h1282)
                  refine T_sub (ls := [(8, .int (iI (h - 1))), (6, .long (iL ((l1 / X_Hh G w h (HF h) (HE h) : Nat) : Int))), (5, .ref aw), (0, .ref 517), (1, .int (iI w)), (2, .int (iI node))]) ⟨rfl, rfl, rfl, rfl, rfl, rfl, trivial⟩ rfl rfl ?_
                  exact ih1224 S1287 (h - 1) (l1 / X_Hh G w h (HF h) (HE h)) (wt1 + 1) (X_ug St1 wt1 (HF h, HE h, node, h, gD G w 9 h, w, X_eh G w h, l1 % X_Hh G w h (HF h) (HE h))) (X_ug fF1 wt1 (HF h)) (X_ug fE1 wt1 (HE h)) (X_ug fP1 wt1 node) (X_ug fH1 wt1 h) (X_ug fW1 wt1 (((gD G) w 10) h)) (X_ug fK1 wt1 (((gD G) w 11) h)) (X_ug fN1 wt1 (iL ((l1 % X_Hh G w h (HF h) (HE h) : Nat) : Int))) h1292 h1293 h1294 h1295 h1296 h1297 h1298 h1288 (hF1227.tr (((((((((X_Fr.rf).tr (X_Fr.of n1244 e1245 (by first | decide | exact ⟨Nat.le_add_right _ _, Nat.add_le_add_left (by decide) _⟩ | omega))).tr (X_Fr.of n1250 e1251 (by first | decide | exact ⟨Nat.le_add_right _ _, Nat.add_le_add_left (by decide) _⟩ | omega))).tr (X_Fr.of n1256 e1257 (by first | decide | exact ⟨Nat.le_add_right _ _, Nat.add_le_add_left (by decide) _⟩ | omega))).tr (X_Fr.of n1262 e1263 (by first | decide | exact ⟨Nat.le_add_right _ _, Nat.add_le_add_left (by decide) _⟩ | omega))).tr (X_Fr.of n1267 e1268 (by first | decide | exact ⟨Nat.le_add_right _ _, Nat.add_le_add_left (by decide) _⟩ | omega))).tr (X_Fr.of n1277 e1278 (by first | decide | exact ⟨Nat.le_add_right _ _, Nat.add_le_add_left (by decide) _⟩ | omega))).tr (X_Fr.of n1283 e1284 (by first | decide | exact ⟨Nat.le_add_right _ _, Nat.add_le_add_left (by decide) _⟩ | omega))).tr (X_Fr.of n1289 e1290 (by first | decide | exact ⟨Nat.le_add_right _ _, Nat.add_le_add_left (by decide) _⟩ | omega)))) (by omega) (Nat.le_trans (Nat.div_le_self _ _) hl1m) (by
                        rw [X_pus_s (show 0 ≤ h by omega)] at hP
                        rw [show (h - 1 + 1).toNat = h.toNat by omega]
                        exact hP) (F_st.push hst1 rfl rfl rfl rfl ⟨rfl, rfl, rfl, rfl, (hgw.bits (show 0 ≤ h by omega) (by omega) hG).1, (hgw.bits (show 0 ≤ h by omega) (by omega) hG).2, rfl⟩ rfl rfl rfl) (by omega) (by omega)
                · skip
                  have c1291 : (X_Hh G w h (HF h) (HE h) ≤ 9223372036854775807) := c1291
                  exact (show False by first | contradiction | omega).elim
            · skip
              have c1272 : (X_Hh G w h (HF h) (HE h) ≤ 9223372036854775807) := c1272
              refine T_p xr_46_112 xn_46 (pc' := 114) (ls' := [(13, .int (iI (bI (X_Hh G w h (HF h) (HE h) ≤ 9223372036854775807)))), (11, .long (X_st (-2) (X_Hh G w h (HF h) (HE h)))), (10, .int (iI (HE h))), (9, .int (iI (HF h))), (8, .int (iI h)), (6, .long (iL (l1 : Int))), (5, .ref aw), (0, .ref 517), (1, .int (iI w)), (2, .int (iI node))]) (st' := [.long (iL (l1 : Int)), .int (iI (((gD G) w 11) h)), .int (iI (((gD G) w 10) h)), .ref 517]) rfl ?_
              refine T_p xr_46_114 xn_46 (pc' := 116) (ls' := [(13, .int (iI (bI (X_Hh G w h (HF h) (HE h) ≤ 9223372036854775807)))), (11, .long (X_st (-2) (X_Hh G w h (HF h) (HE h)))), (10, .int (iI (HE h))), (9, .int (iI (HF h))), (8, .int (iI h)), (6, .long (iL (l1 : Int))), (5, .ref aw), (0, .ref 517), (1, .int (iI w)), (2, .int (iI node))]) (st' := [.long (X_st (-2) (X_Hh G w h (HF h) (HE h))), .long (iL (l1 : Int)), .int (iI (((gD G) w 11) h)), .int (iI (((gD G) w 10) h)), .ref 517]) rfl ?_
              refine T_p xr_46_116 xn_46 (pc' := 117) (ls' := [(13, .int (iI (bI (X_Hh G w h (HF h) (HE h) ≤ 9223372036854775807)))), (11, .long (X_st (-2) (X_Hh G w h (HF h) (HE h)))), (10, .int (iI (HE h))), (9, .int (iI (HF h))), (8, .int (iI h)), (6, .long (iL (l1 : Int))), (5, .ref aw), (0, .ref 517), (1, .int (iI w)), (2, .int (iI node))]) (st' := .long ((iL (l1 : Int)) - (iL (l1 : Int)) / (X_st (-2) (X_Hh G w h (HF h) (HE h))) * (X_st (-2) (X_Hh G w h (HF h) (HE h)))) :: [.int (iI (((gD G) w 11) h)), .int (iI (((gD G) w 10) h)), .ref 517]) (by simp only [X_pstep, X_l2]; rw [if_neg (by exact fun z => absurd ((X_st_z (m := -2) (by omega)).mp z) (by omega))]) ?_
              refine T_p xr_46_117 xn_46 (pc' := 122) (ls' := [(13, .int (iI (bI (X_Hh G w h (HF h) (HE h) ≤ 9223372036854775807)))), (11, .long (X_st (-2) (X_Hh G w h (HF h) (HE h)))), (10, .int (iI (HE h))), (9, .int (iI (HF h))), (8, .int (iI h)), (6, .long (iL (l1 : Int))), (5, .ref aw), (0, .ref 517), (1, .int (iI w)), (2, .int (iI node))]) (st' := [.long ((iL (l1 : Int)) - (iL (l1 : Int)) / (X_st (-2) (X_Hh G w h (HF h) (HE h))) * (X_st (-2) (X_Hh G w h (HF h) (HE h)))), .int (iI (((gD G) w 11) h)), .int (iI (((gD G) w 10) h)), .ref 517]) rfl ?_
              refine T_le (y := (iL ((l1 % X_Hh G w h (HF h) (HE h) : Nat) : Int))) (by rw [X_st_lo (a := X_Hh G w h (HF h) (HE h)) (by assumption)]; exact (iL_rem hl1m ⟨hHp, by assumption⟩).1) ?_
              refine T_cv (S := S1265) (q := 517) xr_46_122 xf_42.1 xf_42.2.1 xn_42 (as := [.int (iI (((gD G) w 10) h)), .int (iI (((gD G) w 11) h)), .long (iL ((l1 % X_Hh G w h (HF h) (HE h) : Nat) : Int))]) (r := []) rfl h1266 (Nat.le_of_ble_eq_true rfl) (Nat.le_of_ble_eq_true rfl) (pc' := 125) rfl (ls' := [(0, .ref 517), (1, .int (iI (((gD G) w 10) h))), (2, .int (iI (((gD G) w 11) h))), (3, .long (iL ((l1 % X_Hh G w h (HF h) (HE h) : Nat) : Int)))]) rfl ?_
              refine T_p xr_42_0 xn_42 (pc' := 1) (ls' := [(0, .ref 517), (1, .int (iI (((gD G) w 10) h))), (2, .int (iI (((gD G) w 11) h))), (3, .long (iL ((l1 % X_Hh G w h (HF h) (HE h) : Nat) : Int)))]) (st' := [.ref 517]) rfl ?_
              refine T_get xr_42_1 h1266 rfl (v := .int (iI (wt1 + 1))) rfl (pc' := 4) rfl ?_
              refine T_zif_le xr_42_4 (t := 43) (pc' := 7) rfl rfl (fun c1299 => ?_) (fun c1299 => ?_)
              · skip
                have c1299 : (wt1 + 1) ≤ 0 := c1299
                exact (show False by omega).elim
              · skip
                have c1299 : ¬ ((wt1 + 1) ≤ 0) := c1299
                refine T_p xr_42_7 xn_42 (pc' := 8) (ls' := [(0, .ref 517), (1, .int (iI (((gD G) w 10) h))), (2, .int (iI (((gD G) w 11) h))), (3, .long (iL ((l1 % X_Hh G w h (HF h) (HE h) : Nat) : Int)))]) (st' := [.ref 517]) rfl ?_
                refine T_get xr_42_8 h1266 rfl (v := .ref 522) rfl (pc' := 11) rfl ?_
                refine T_p xr_42_11 xn_42 (pc' := 12) (ls' := [(0, .ref 517), (1, .int (iI (((gD G) w 10) h))), (2, .int (iI (((gD G) w 11) h))), (3, .long (iL ((l1 % X_Hh G w h (HF h) (HE h) : Nat) : Int)))]) (st' := [.ref 517, .ref 522]) rfl ?_
                refine T_get xr_42_12 h1266 rfl (v := .int (iI (wt1 + 1))) rfl (pc' := 15) rfl ?_
                refine T_p xr_42_15 xn_42 (pc' := 16) (ls' := [(0, .ref 517), (1, .int (iI (((gD G) w 10) h))), (2, .int (iI (((gD G) w 11) h))), (3, .long (iL ((l1 % X_Hh G w h (HF h) (HE h) : Nat) : Int)))]) (st' := [.int (iI 1), .int (iI (wt1 + 1)), .ref 522]) rfl ?_
                refine T_zisub xr_42_16 (z := wt1) (by omega) (pc' := 17) rfl ?_
                refine T_p xr_42_17 xn_42 (pc' := 18) (ls' := [(0, .ref 517), (1, .int (iI (((gD G) w 10) h))), (2, .int (iI (((gD G) w 11) h))), (3, .long (iL ((l1 % X_Hh G w h (HF h) (HE h) : Nat) : Int)))]) (st' := [.int (iI (((gD G) w 10) h)), .int (iI wt1), .ref 522]) rfl ?_
                have h1300 := (n1267 522 (by decide)).trans ((n1262 522 (by decide)).trans ((n1256 522 (by decide)).trans ((n1250 522 (by decide)).trans ((n1244 522 (by decide)).trans (hfW1)))))
                refine T_ziast xr_42_18 h1300 (pc' := 19) rfl (fun S1301 h1302 n1303 e1304 => ?_)
                refine T_p xr_42_19 xn_42 (pc' := 20) (ls' := [(0, .ref 517), (1, .int (iI (((gD G) w 10) h))), (2, .int (iI (((gD G) w 11) h))), (3, .long (iL ((l1 % X_Hh G w h (HF h) (HE h) : Nat) : Int)))]) (st' := [.ref 517]) rfl ?_
                have h1305 := (n1303 517 (by decide)).trans (h1266)
                refine T_get xr_42_20 h1305 rfl (v := .ref 523) rfl (pc' := 23) rfl ?_
                refine T_p xr_42_23 xn_42 (pc' := 24) (ls' := [(0, .ref 517), (1, .int (iI (((gD G) w 10) h))), (2, .int (iI (((gD G) w 11) h))), (3, .long (iL ((l1 % X_Hh G w h (HF h) (HE h) : Nat) : Int)))]) (st' := [.ref 517, .ref 523]) rfl ?_
                refine T_get xr_42_24 h1305 rfl (v := .int (iI (wt1 + 1))) rfl (pc' := 27) rfl ?_
                refine T_p xr_42_27 xn_42 (pc' := 28) (ls' := [(0, .ref 517), (1, .int (iI (((gD G) w 10) h))), (2, .int (iI (((gD G) w 11) h))), (3, .long (iL ((l1 % X_Hh G w h (HF h) (HE h) : Nat) : Int)))]) (st' := [.int (iI 1), .int (iI (wt1 + 1)), .ref 523]) rfl ?_
                refine T_zisub xr_42_28 (z := wt1) (by omega) (pc' := 29) rfl ?_
                refine T_p xr_42_29 xn_42 (pc' := 30) (ls' := [(0, .ref 517), (1, .int (iI (((gD G) w 10) h))), (2, .int (iI (((gD G) w 11) h))), (3, .long (iL ((l1 % X_Hh G w h (HF h) (HE h) : Nat) : Int)))]) (st' := [.int (iI (((gD G) w 11) h)), .int (iI wt1), .ref 523]) rfl ?_
                have h1306 := (n1303 523 (by decide)).trans ((n1267 523 (by decide)).trans ((n1262 523 (by decide)).trans ((n1256 523 (by decide)).trans ((n1250 523 (by decide)).trans ((n1244 523 (by decide)).trans (hfK1))))))
                refine T_ziast xr_42_30 h1306 (pc' := 31) rfl (fun S1307 h1308 n1309 e1310 => ?_)
                refine T_p xr_42_31 xn_42 (pc' := 32) (ls' := [(0, .ref 517), (1, .int (iI (((gD G) w 10) h))), (2, .int (iI (((gD G) w 11) h))), (3, .long (iL ((l1 % X_Hh G w h (HF h) (HE h) : Nat) : Int)))]) (st' := [.ref 517]) rfl ?_
                have h1311 := (n1309 517 (by decide)).trans (h1305)
                refine T_get xr_42_32 h1311 rfl (v := .ref 524) rfl (pc' := 35) rfl ?_
                refine T_p xr_42_35 xn_42 (pc' := 36) (ls' := [(0, .ref 517), (1, .int (iI (((gD G) w 10) h))), (2, .int (iI (((gD G) w 11) h))), (3, .long (iL ((l1 % X_Hh G w h (HF h) (HE h) : Nat) : Int)))]) (st' := [.ref 517, .ref 524]) rfl ?_
                refine T_get xr_42_36 h1311 rfl (v := .int (iI (wt1 + 1))) rfl (pc' := 39) rfl ?_
                refine T_p xr_42_39 xn_42 (pc' := 40) (ls' := [(0, .ref 517), (1, .int (iI (((gD G) w 10) h))), (2, .int (iI (((gD G) w 11) h))), (3, .long (iL ((l1 % X_Hh G w h (HF h) (HE h) : Nat) : Int)))]) (st' := [.int (iI 1), .int (iI (wt1 + 1)), .ref 524]) rfl ?_
                refine T_zisub xr_42_40 (z := wt1) (by omega) (pc' := 41) rfl ?_
                refine T_p xr_42_41 xn_42 (pc' := 42) (ls' := [(0, .ref 517), (1, .int (iI (((gD G) w 10) h))), (2, .int (iI (((gD G) w 11) h))), (3, .long (iL ((l1 % X_Hh G w h (HF h) (HE h) : Nat) : Int)))]) (st' := [.long (iL ((l1 % X_Hh G w h (HF h) (HE h) : Nat) : Int)), .int (iI wt1), .ref 524]) rfl ?_
                have h1312 := (n1309 524 (by decide)).trans ((n1303 524 (by decide)).trans ((n1267 524 (by decide)).trans ((n1262 524 (by decide)).trans ((n1256 524 (by decide)).trans ((n1250 524 (by decide)).trans ((n1244 524 (by decide)).trans (hfN1)))))))
                refine T_zlast xr_42_42 h1312 (pc' := 43) rfl (fun S1313 h1314 n1315 e1316 => ?_)
                refine T_vret xr_42_43 xf_42.2.2 ?_
                show X_T sc 46 (125, [(13, .int (iI (bI (X_Hh G w h (HF h) (HE h) ≤ 9223372036854775807)))), (11, .long (X_st (-2) (X_Hh G w h (HF h) (HE h)))), (10, .int (iI (HE h))), (9, .int (iI (HF h))), (8, .int (iI h)), (6, .long (iL (l1 : Int))), (5, .ref aw), (0, .ref 517), (1, .int (iI w)), (2, .int (iI node))], [], S1313) _
                refine T_p xr_46_125 xn_46 (pc' := 127) (ls' := [(13, .int (iI (bI (X_Hh G w h (HF h) (HE h) ≤ 9223372036854775807)))), (11, .long (X_st (-2) (X_Hh G w h (HF h) (HE h)))), (10, .int (iI (HE h))), (9, .int (iI (HF h))), (8, .int (iI h)), (6, .long (iL (l1 : Int))), (5, .ref aw), (0, .ref 517), (1, .int (iI w)), (2, .int (iI node))]) (st' := [.int (iI (bI (X_Hh G w h (HF h) (HE h) ≤ 9223372036854775807)))]) rfl ?_
                refine T_bif_eq xr_46_127 (t := 138) (pc' := 130) rfl rfl (fun c1317 => ?_) (fun c1317 => ?_)
                · skip
                  have c1317 : ¬ (X_Hh G w h (HF h) (HE h) ≤ 9223372036854775807) := c1317
                  exact (show False by first | contradiction | omega).elim
                · skip
                  have c1317 : (X_Hh G w h (HF h) (HE h) ≤ 9223372036854775807) := c1317
                  refine T_p xr_46_130 xn_46 (pc' := 132) (ls' := [(13, .int (iI (bI (X_Hh G w h (HF h) (HE h) ≤ 9223372036854775807)))), (11, .long (X_st (-2) (X_Hh G w h (HF h) (HE h)))), (10, .int (iI (HE h))), (9, .int (iI (HF h))), (8, .int (iI h)), (6, .long (iL (l1 : Int))), (5, .ref aw), (0, .ref 517), (1, .int (iI w)), (2, .int (iI node))]) (st' := [.long (iL (l1 : Int))]) rfl ?_
                  refine T_p xr_46_132 xn_46 (pc' := 134) (ls' := [(13, .int (iI (bI (X_Hh G w h (HF h) (HE h) ≤ 9223372036854775807)))), (11, .long (X_st (-2) (X_Hh G w h (HF h) (HE h)))), (10, .int (iI (HE h))), (9, .int (iI (HF h))), (8, .int (iI h)), (6, .long (iL (l1 : Int))), (5, .ref aw), (0, .ref 517), (1, .int (iI w)), (2, .int (iI node))]) (st' := [.long (X_st (-2) (X_Hh G w h (HF h) (HE h))), .long (iL (l1 : Int))]) rfl ?_
                  refine T_p xr_46_134 xn_46 (pc' := 135) (ls' := [(13, .int (iI (bI (X_Hh G w h (HF h) (HE h) ≤ 9223372036854775807)))), (11, .long (X_st (-2) (X_Hh G w h (HF h) (HE h)))), (10, .int (iI (HE h))), (9, .int (iI (HF h))), (8, .int (iI h)), (6, .long (iL (l1 : Int))), (5, .ref aw), (0, .ref 517), (1, .int (iI w)), (2, .int (iI node))]) (st' := .long ((iL (l1 : Int)) / (X_st (-2) (X_Hh G w h (HF h) (HE h)))) :: []) (by simp only [X_pstep, X_l2]; rw [if_neg (by exact fun z => absurd ((X_st_z (m := -2) (by omega)).mp z) (by omega))]) ?_
                  refine T_p xr_46_135 xn_46 (pc' := 139) (ls' := [(13, .int (iI (bI (X_Hh G w h (HF h) (HE h) ≤ 9223372036854775807)))), (11, .long (X_st (-2) (X_Hh G w h (HF h) (HE h)))), (10, .int (iI (HE h))), (9, .int (iI (HF h))), (8, .int (iI h)), (6, .long (iL (l1 : Int))), (5, .ref aw), (0, .ref 517), (1, .int (iI w)), (2, .int (iI node))]) (st' := [.long ((iL (l1 : Int)) / (X_st (-2) (X_Hh G w h (HF h) (HE h))))]) rfl ?_
                  refine T_le (y := (iL ((l1 / X_Hh G w h (HF h) (HE h) : Nat) : Int))) (by rw [X_st_lo (a := X_Hh G w h (HF h) (HE h)) (by assumption)]; exact (iL_rem hl1m ⟨hHp, by assumption⟩).2) ?_
                  refine T_p xr_46_139 xn_46 (pc' := 141) (ls' := [(6, .long (iL ((l1 / X_Hh G w h (HF h) (HE h) : Nat) : Int))), (13, .int (iI (bI (X_Hh G w h (HF h) (HE h) ≤ 9223372036854775807)))), (11, .long (X_st (-2) (X_Hh G w h (HF h) (HE h)))), (10, .int (iI (HE h))), (9, .int (iI (HF h))), (8, .int (iI h)), (5, .ref aw), (0, .ref 517), (1, .int (iI w)), (2, .int (iI node))]) (st' := []) rfl ?_
                  refine T_ziinc xr_46_141 xn_46 (a := h) (z := h - 1) rfl (Nat.le_of_ble_eq_true rfl) (by omega) (ls' := [(8, .int (iI (h - 1))), (6, .long (iL ((l1 / X_Hh G w h (HF h) (HE h) : Nat) : Int))), (13, .int (iI (bI (X_Hh G w h (HF h) (HE h) ≤ 9223372036854775807)))), (11, .long (X_st (-2) (X_Hh G w h (HF h) (HE h)))), (10, .int (iI (HE h))), (9, .int (iI (HF h))), (5, .ref aw), (0, .ref 517), (1, .int (iI w)), (2, .int (iI node))]) rfl (pc' := 144) rfl ?_
                  refine T_p xr_46_144 xn_46 (pc' := 26) (ls' := [(8, .int (iI (h - 1))), (6, .long (iL ((l1 / X_Hh G w h (HF h) (HE h) : Nat) : Int))), (13, .int (iI (bI (X_Hh G w h (HF h) (HE h) ≤ 9223372036854775807)))), (11, .long (X_st (-2) (X_Hh G w h (HF h) (HE h)))), (10, .int (iI (HE h))), (9, .int (iI (HF h))), (5, .ref aw), (0, .ref 517), (1, .int (iI w)), (2, .int (iI node))]) (st' := []) rfl ?_
                  have h1318 := (n1315 517 (by decide)).trans (h1311)
                  have h1319 := (n1315 518 (by decide)).trans ((n1309 518 (by decide)).trans ((n1303 518 (by decide)).trans ((n1267 518 (by decide)).trans ((n1262 518 (by decide)).trans ((n1256 518 (by decide)).trans ((n1250 518 (by decide)).trans (h1243)))))))
                  have h1320 := (n1315 519 (by decide)).trans ((n1309 519 (by decide)).trans ((n1303 519 (by decide)).trans ((n1267 519 (by decide)).trans ((n1262 519 (by decide)).trans ((n1256 519 (by decide)).trans (h1249))))))
                  have h1321 := (n1315 520 (by decide)).trans ((n1309 520 (by decide)).trans ((n1303 520 (by decide)).trans ((n1267 520 (by decide)).trans ((n1262 520 (by decide)).trans (h1255)))))
                  have h1322 := (n1315 521 (by decide)).trans ((n1309 521 (by decide)).trans ((n1303 521 (by decide)).trans ((n1267 521 (by decide)).trans (h1261))))
                  have h1323 := (n1315 522 (by decide)).trans ((n1309 522 (by decide)).trans (h1302))
                  have h1324 := (n1315 523 (by decide)).trans (h1308)
                  refine T_sub (ls := [(8, .int (iI (h - 1))), (6, .long (iL ((l1 / X_Hh G w h (HF h) (HE h) : Nat) : Int))), (5, .ref aw), (0, .ref 517), (1, .int (iI w)), (2, .int (iI node))]) ⟨rfl, rfl, rfl, rfl, rfl, rfl, trivial⟩ rfl rfl ?_
                  exact ih1224 S1313 (h - 1) (l1 / X_Hh G w h (HF h) (HE h)) (wt1 + 1) (X_ug St1 wt1 (HF h, HE h, node, h, gD G w 9 h, w, X_eh G w h, l1 % X_Hh G w h (HF h) (HE h))) (X_ug fF1 wt1 (HF h)) (X_ug fE1 wt1 (HE h)) (X_ug fP1 wt1 node) (X_ug fH1 wt1 h) (X_ug fW1 wt1 (((gD G) w 10) h)) (X_ug fK1 wt1 (((gD G) w 11) h)) (X_ug fN1 wt1 (iL ((l1 % X_Hh G w h (HF h) (HE h) : Nat) : Int))) h1318 h1319 h1320 h1321 h1322 h1323 h1324 h1314 (hF1227.tr (((((((((X_Fr.rf).tr (X_Fr.of n1244 e1245 (by first | decide | exact ⟨Nat.le_add_right _ _, Nat.add_le_add_left (by decide) _⟩ | omega))).tr (X_Fr.of n1250 e1251 (by first | decide | exact ⟨Nat.le_add_right _ _, Nat.add_le_add_left (by decide) _⟩ | omega))).tr (X_Fr.of n1256 e1257 (by first | decide | exact ⟨Nat.le_add_right _ _, Nat.add_le_add_left (by decide) _⟩ | omega))).tr (X_Fr.of n1262 e1263 (by first | decide | exact ⟨Nat.le_add_right _ _, Nat.add_le_add_left (by decide) _⟩ | omega))).tr (X_Fr.of n1267 e1268 (by first | decide | exact ⟨Nat.le_add_right _ _, Nat.add_le_add_left (by decide) _⟩ | omega))).tr (X_Fr.of n1303 e1304 (by first | decide | exact ⟨Nat.le_add_right _ _, Nat.add_le_add_left (by decide) _⟩ | omega))).tr (X_Fr.of n1309 e1310 (by first | decide | exact ⟨Nat.le_add_right _ _, Nat.add_le_add_left (by decide) _⟩ | omega))).tr (X_Fr.of n1315 e1316 (by first | decide | exact ⟨Nat.le_add_right _ _, Nat.add_le_add_left (by decide) _⟩ | omega)))) (by omega) (Nat.le_trans (Nat.div_le_self _ _) hl1m) (by
                        rw [X_pus_s (show 0 ≤ h by omega)] at hP
                        rw [show (h - 1 + 1).toNat = h.toNat by omega]
                        exact hP) (F_st.push hst1 rfl rfl rfl rfl ⟨rfl, rfl, rfl, rfl, (hgw.bits (show 0 ≤ h by omega) (by omega) hG).1, (hgw.bits (show 0 ≤ h by omega) (by omega) hG).2, rfl⟩ rfl rfl rfl) (by omega) (by omega)
        refine T_p xr_46_65 xn_46 (pc' := 67) (ls' := [(11, .long (X_st (-2) (X_Hh G w h (HF h) (HE h)))), (10, .int (iI (HE h))), (9, .int (iI (HF h))), (8, .int (iI h)), (6, .long (iL (l1 : Int))), (5, .ref aw), (0, .ref 517), (1, .int (iI w)), (2, .int (iI node))]) (st' := [.long (X_st (-2) (X_Hh G w h (HF h) (HE h)))]) rfl ?_
        refine T_p xr_46_67 xn_46 (pc' := 68) (ls' := [(11, .long (X_st (-2) (X_Hh G w h (HF h) (HE h)))), (10, .int (iI (HE h))), (9, .int (iI (HF h))), (8, .int (iI h)), (6, .long (iL (l1 : Int))), (5, .ref aw), (0, .ref 517), (1, .int (iI w)), (2, .int (iI node))]) (st' := [.long (iL 0), .long (X_st (-2) (X_Hh G w h (HF h) (HE h)))]) rfl ?_
        refine T_lc_le xr_46_68 xr_46_69 (t := 76) (pc' := 72) rfl rfl (fun c1325 => ?_) (fun c1325 => ?_)
        · skip
          have c1325 : (X_st (-2) (X_Hh G w h (HF h) (HE h))) ≤ (iL 0) := c1325
          refine T_p xr_46_76 xn_46 (pc' := 77) (ls' := [(11, .long (X_st (-2) (X_Hh G w h (HF h) (HE h)))), (10, .int (iI (HE h))), (9, .int (iI (HF h))), (8, .int (iI h)), (6, .long (iL (l1 : Int))), (5, .ref aw), (0, .ref 517), (1, .int (iI w)), (2, .int (iI node))]) (st' := [.int (iI 0)]) rfl ?_
          refine T_ie (y := iI (bI (X_Hh G w h (HF h) (HE h) ≤ 9223372036854775807))) (by rw [bI_f (by exact fun z => absurd (show X_st (-2) (X_Hh G w h (HF h) (HE h)) ≤ iL 0 by assumption) (by rw [X_st_lo z, iL_le (by omega) (by omega) (by omega) (by omega)]; omega))]) ?_
          exact J1240
        · skip
          have c1325 : ¬ ((X_st (-2) (X_Hh G w h (HF h) (HE h))) ≤ (iL 0)) := c1325
          refine T_p xr_46_72 xn_46 (pc' := 73) (ls' := [(11, .long (X_st (-2) (X_Hh G w h (HF h) (HE h)))), (10, .int (iI (HE h))), (9, .int (iI (HF h))), (8, .int (iI h)), (6, .long (iL (l1 : Int))), (5, .ref aw), (0, .ref 517), (1, .int (iI w)), (2, .int (iI node))]) (st' := [.int (iI 1)]) rfl ?_
          refine T_p xr_46_73 xn_46 (pc' := 77) (ls' := [(11, .long (X_st (-2) (X_Hh G w h (HF h) (HE h)))), (10, .int (iI (HE h))), (9, .int (iI (HF h))), (8, .int (iI h)), (6, .long (iL (l1 : Int))), (5, .ref aw), (0, .ref 517), (1, .int (iI w)), (2, .int (iI node))]) (st' := [.int (iI 1)]) rfl ?_
          refine T_ie (y := iI (bI (X_Hh G w h (HF h) (HE h) ≤ 9223372036854775807))) (by rw [bI_t (by exact Classical.byContradiction (fun z => absurd (show X_st (-2) (X_Hh G w h (HF h) (HE h)) ≤ iL 0 by rw [X_st_hi (by omega)]; decide) (by assumption)))]) ?_
          exact J1240
  refine T_sub (ls := [(8, .int (iI (((gD G) w 4 0) - 1))), (6, .long (iL (l : Int))), (5, .ref aw), (0, .ref 517), (1, .int (iI w)), (2, .int (iI node))]) ⟨rfl, rfl, rfl, rfl, rfl, rfl, trivial⟩ rfl rfl ?_
  exact L1223 ((gD G w 4 0) + 1).toNat S (((gD G) w 4 0) - 1) l wt St fF fE fP fH fW fK fN hO517 hA518 hA519 hA520 hA521 hA522 hA523 hA524 ((X_Fr.rf)) (by omega) hlm (by rw [show (gD G w 4 0 - 1 + 1).toNat = (gD G w 4 0).toNat by omega]) hst (by omega) (by omega)
end
