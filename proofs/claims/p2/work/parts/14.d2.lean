theorem xr_29_0 : X_row 29 0 = some (0, (.lconst 0, 1), (0, 0, 0)) := by decide +kernel
theorem xr_29_1 : X_row 29 1 = some (1, (.lstore_n 3, 1), (0, 0, 0)) := by decide +kernel
theorem xr_29_2 : X_row 29 2 = some (2, (.iconst 0, 1), (0, 0, 0)) := by decide +kernel
theorem xr_29_3 : X_row 29 3 = some (3, (.istore 5, 2), (0, 0, 0)) := by decide +kernel
theorem xr_29_5 : X_row 29 5 = some (5, (.iload 5, 2), (0, 0, 0)) := by decide +kernel
theorem xr_29_7 : X_row 29 7 = some (7, (.aload_n 0, 1), (0, 0, 0)) := by decide +kernel
theorem xr_29_8 : X_row 29 8 = some (8, (.getfield 32, 3), (1, 0, 22)) := by decide +kernel
theorem xr_29_11 : X_row 29 11 = some (11, (.getfield 48, 3), (0, 1, 13)) := by decide +kernel
theorem xr_29_14 : X_row 29 14 = some (14, (.if_icmp .ge 35, 3), (0, 0, 0)) := by decide +kernel
theorem xr_29_17 : X_row 29 17 = some (17, (.iload_n 2, 1), (0, 0, 0)) := by decide +kernel
theorem xr_29_18 : X_row 29 18 = some (18, (.iload 5, 2), (0, 0, 0)) := by decide +kernel
theorem xr_29_20 : X_row 29 20 = some (20, (.invokestatic 54, 3), (131, 29, 0)) := by decide +kernel
theorem xr_29_23 : X_row 29 23 = some (23, (.ifCond .eq 20, 3), (0, 0, 0)) := by decide +kernel
theorem xr_29_26 : X_row 29 26 = some (26, (.lload_n 3, 1), (0, 0, 0)) := by decide +kernel
theorem xr_29_27 : X_row 29 27 = some (27, (.aload_n 0, 1), (0, 0, 0)) := by decide +kernel
theorem xr_29_28 : X_row 29 28 = some (28, (.getfield 15, 3), (1, 3, 28)) := by decide +kernel
theorem xr_29_31 : X_row 29 31 = some (31, (.iload_n 1, 1), (0, 0, 0)) := by decide +kernel
theorem xr_29_32 : X_row 29 32 = some (32, (.bipush 11, 2), (0, 0, 0)) := by decide +kernel
theorem xr_29_34 : X_row 29 34 = some (34, (.imul, 1), (0, 0, 0)) := by decide +kernel
theorem xr_29_35 : X_row 29 35 = some (35, (.iload 5, 2), (0, 0, 0)) := by decide +kernel
theorem xr_29_37 : X_row 29 37 = some (37, (.iadd, 1), (0, 0, 0)) := by decide +kernel
theorem xr_29_38 : X_row 29 38 = some (38, (.laload, 1), (0, 0, 0)) := by decide +kernel
theorem xr_29_39 : X_row 29 39 = some (39, (.invokestatic 58, 3), (134, 17, 0)) := by decide +kernel
theorem xr_29_42 : X_row 29 42 = some (42, (.lstore_n 3, 1), (0, 0, 0)) := by decide +kernel
theorem xr_29_43 : X_row 29 43 = some (43, (.iinc 5 1, 3), (0, 0, 0)) := by decide +kernel
theorem xr_29_46 : X_row 29 46 = some (46, (.goto (-41), 3), (0, 0, 0)) := by decide +kernel
theorem xr_29_49 : X_row 29 49 = some (49, (.lload_n 3, 1), (0, 0, 0)) := by decide +kernel
theorem xr_29_50 : X_row 29 50 = some (50, (.lreturn, 1), (0, 0, 0)) := by decide +kernel
theorem xr_30_0 : X_row 30 0 = some (0, (.lconst 0, 1), (0, 0, 0)) := by decide +kernel
theorem xr_30_1 : X_row 30 1 = some (1, (.lstore_n 3, 1), (0, 0, 0)) := by decide +kernel
theorem xr_30_2 : X_row 30 2 = some (2, (.iconst 0, 1), (0, 0, 0)) := by decide +kernel
theorem xr_30_3 : X_row 30 3 = some (3, (.istore 5, 2), (0, 0, 0)) := by decide +kernel
theorem xr_30_5 : X_row 30 5 = some (5, (.iload 5, 2), (0, 0, 0)) := by decide +kernel
theorem xr_30_7 : X_row 30 7 = some (7, (.aload_n 0, 1), (0, 0, 0)) := by decide +kernel
theorem xr_30_8 : X_row 30 8 = some (8, (.getfield 32, 3), (1, 0, 22)) := by decide +kernel
theorem xr_30_11 : X_row 30 11 = some (11, (.getfield 62, 3), (0, 2, 15)) := by decide +kernel
theorem xr_30_14 : X_row 30 14 = some (14, (.if_icmp .ge 35, 3), (0, 0, 0)) := by decide +kernel
theorem xr_30_17 : X_row 30 17 = some (17, (.iload_n 2, 1), (0, 0, 0)) := by decide +kernel
theorem xr_30_18 : X_row 30 18 = some (18, (.iload 5, 2), (0, 0, 0)) := by decide +kernel
theorem xr_30_20 : X_row 30 20 = some (20, (.invokestatic 54, 3), (131, 29, 0)) := by decide +kernel
theorem xr_30_23 : X_row 30 23 = some (23, (.ifCond .eq 20, 3), (0, 0, 0)) := by decide +kernel
theorem xr_30_26 : X_row 30 26 = some (26, (.lload_n 3, 1), (0, 0, 0)) := by decide +kernel
theorem xr_30_27 : X_row 30 27 = some (27, (.aload_n 0, 1), (0, 0, 0)) := by decide +kernel
theorem xr_30_28 : X_row 30 28 = some (28, (.getfield 19, 3), (1, 4, 30)) := by decide +kernel
theorem xr_30_31 : X_row 30 31 = some (31, (.iload_n 1, 1), (0, 0, 0)) := by decide +kernel
theorem xr_30_32 : X_row 30 32 = some (32, (.bipush 30, 2), (0, 0, 0)) := by decide +kernel
theorem xr_30_34 : X_row 30 34 = some (34, (.imul, 1), (0, 0, 0)) := by decide +kernel
theorem xr_30_35 : X_row 30 35 = some (35, (.iload 5, 2), (0, 0, 0)) := by decide +kernel
theorem xr_30_37 : X_row 30 37 = some (37, (.iadd, 1), (0, 0, 0)) := by decide +kernel
theorem xr_30_38 : X_row 30 38 = some (38, (.laload, 1), (0, 0, 0)) := by decide +kernel
theorem xr_30_39 : X_row 30 39 = some (39, (.invokestatic 58, 3), (134, 17, 0)) := by decide +kernel
theorem xr_30_42 : X_row 30 42 = some (42, (.lstore_n 3, 1), (0, 0, 0)) := by decide +kernel
theorem xr_30_43 : X_row 30 43 = some (43, (.iinc 5 1, 3), (0, 0, 0)) := by decide +kernel
theorem xr_30_46 : X_row 30 46 = some (46, (.goto (-41), 3), (0, 0, 0)) := by decide +kernel
theorem xr_30_49 : X_row 30 49 = some (49, (.lload_n 3, 1), (0, 0, 0)) := by decide +kernel
theorem xr_30_50 : X_row 30 50 = some (50, (.lreturn, 1), (0, 0, 0)) := by decide +kernel
theorem xr_88_0 : X_row 88 0 = some (0, (.aload_n 0, 1), (0, 0, 0)) := by decide +kernel
theorem xr_88_1 : X_row 88 1 = some (1, (.iload_n 1, 1), (0, 0, 0)) := by decide +kernel
theorem xr_88_2 : X_row 88 2 = some (2, (.invokevirtual 41, 3), (89, 4, 0)) := by decide +kernel
theorem xr_88_5 : X_row 88 5 = some (5, (.iconst (-1), 1), (0, 0, 0)) := by decide +kernel
theorem xr_88_6 : X_row 88 6 = some (6, (.if_icmp .eq 7, 3), (0, 0, 0)) := by decide +kernel
theorem xr_88_9 : X_row 88 9 = some (9, (.iconst 1, 1), (0, 0, 0)) := by decide +kernel
theorem xr_88_10 : X_row 88 10 = some (10, (.goto 4, 3), (0, 0, 0)) := by decide +kernel
theorem xr_88_13 : X_row 88 13 = some (13, (.iconst 0, 1), (0, 0, 0)) := by decide +kernel
theorem xr_88_14 : X_row 88 14 = some (14, (.ireturn, 1), (0, 0, 0)) := by decide +kernel
theorem xr_89_0 : X_row 89 0 = some (0, (.iconst 0, 1), (0, 0, 0)) := by decide +kernel
theorem xr_89_1 : X_row 89 1 = some (1, (.istore_n 2, 1), (0, 0, 0)) := by decide +kernel
theorem xr_89_2 : X_row 89 2 = some (2, (.bipush 56, 2), (0, 0, 0)) := by decide +kernel
theorem xr_89_4 : X_row 89 4 = some (4, (.istore_n 3, 1), (0, 0, 0)) := by decide +kernel
theorem xr_89_5 : X_row 89 5 = some (5, (.iload_n 3, 1), (0, 0, 0)) := by decide +kernel
theorem xr_89_6 : X_row 89 6 = some (6, (.ifCond .lt 56, 3), (0, 0, 0)) := by decide +kernel
theorem xr_89_9 : X_row 89 9 = some (9, (.aload_n 0, 1), (0, 0, 0)) := by decide +kernel
theorem xr_89_10 : X_row 89 10 = some (10, (.getfield 15, 3), (6, 1, 4)) := by decide +kernel
theorem xr_89_13 : X_row 89 13 = some (13, (.iload_n 1, 1), (0, 0, 0)) := by decide +kernel
theorem xr_89_14 : X_row 89 14 = some (14, (.laload, 1), (0, 0, 0)) := by decide +kernel
theorem xr_89_15 : X_row 89 15 = some (15, (.iload_n 3, 1), (0, 0, 0)) := by decide +kernel
theorem xr_89_16 : X_row 89 16 = some (16, (.lshr, 1), (0, 0, 0)) := by decide +kernel
theorem xr_89_17 : X_row 89 17 = some (17, (.ldc2_w 44, 3), (255, 880, 0)) := by decide +kernel
theorem xr_89_20 : X_row 89 20 = some (20, (.land, 1), (0, 0, 0)) := by decide +kernel
theorem xr_89_21 : X_row 89 21 = some (21, (.l2i, 1), (0, 0, 0)) := by decide +kernel
theorem xr_89_22 : X_row 89 22 = some (22, (.istore 4, 2), (0, 0, 0)) := by decide +kernel
theorem xr_89_24 : X_row 89 24 = some (24, (.iload 4, 2), (0, 0, 0)) := by decide +kernel
theorem xr_89_26 : X_row 89 26 = some (26, (.ifCond .eq 30, 3), (0, 0, 0)) := by decide +kernel
theorem xr_89_29 : X_row 89 29 = some (29, (.iload 4, 2), (0, 0, 0)) := by decide +kernel
theorem xr_89_31 : X_row 89 31 = some (31, (.bipush 48, 2), (0, 0, 0)) := by decide +kernel
theorem xr_89_33 : X_row 89 33 = some (33, (.if_icmp .lt 10, 3), (0, 0, 0)) := by decide +kernel
theorem xr_89_36 : X_row 89 36 = some (36, (.iload 4, 2), (0, 0, 0)) := by decide +kernel
theorem xr_89_38 : X_row 89 38 = some (38, (.bipush 57, 2), (0, 0, 0)) := by decide +kernel
theorem xr_89_40 : X_row 89 40 = some (40, (.if_icmp .le 5, 3), (0, 0, 0)) := by decide +kernel
theorem xr_89_43 : X_row 89 43 = some (43, (.iconst (-1), 1), (0, 0, 0)) := by decide +kernel
theorem xr_89_44 : X_row 89 44 = some (44, (.ireturn, 1), (0, 0, 0)) := by decide +kernel
theorem xr_89_45 : X_row 89 45 = some (45, (.iload_n 2, 1), (0, 0, 0)) := by decide +kernel
theorem xr_89_46 : X_row 89 46 = some (46, (.bipush 10, 2), (0, 0, 0)) := by decide +kernel
theorem xr_89_48 : X_row 89 48 = some (48, (.imul, 1), (0, 0, 0)) := by decide +kernel
theorem xr_89_49 : X_row 89 49 = some (49, (.iload 4, 2), (0, 0, 0)) := by decide +kernel
theorem xr_89_51 : X_row 89 51 = some (51, (.iadd, 1), (0, 0, 0)) := by decide +kernel
theorem xr_89_52 : X_row 89 52 = some (52, (.bipush 48, 2), (0, 0, 0)) := by decide +kernel
theorem xr_89_54 : X_row 89 54 = some (54, (.isub, 1), (0, 0, 0)) := by decide +kernel
theorem xr_89_55 : X_row 89 55 = some (55, (.istore_n 2, 1), (0, 0, 0)) := by decide +kernel
theorem xr_89_56 : X_row 89 56 = some (56, (.iinc 3 (-8), 3), (0, 0, 0)) := by decide +kernel
theorem xr_89_59 : X_row 89 59 = some (59, (.goto (-54), 3), (0, 0, 0)) := by decide +kernel
theorem xr_89_62 : X_row 89 62 = some (62, (.iload_n 2, 1), (0, 0, 0)) := by decide +kernel
theorem xr_89_63 : X_row 89 63 = some (63, (.ireturn, 1), (0, 0, 0)) := by decide +kernel
theorem xr_90_0 : X_row 90 0 = some (0, (.iload_n 2, 1), (0, 0, 0)) := by decide +kernel
theorem xr_90_1 : X_row 90 1 = some (1, (.iload_n 1, 1), (0, 0, 0)) := by decide +kernel
theorem xr_90_2 : X_row 90 2 = some (2, (.isub, 1), (0, 0, 0)) := by decide +kernel
theorem xr_90_3 : X_row 90 3 = some (3, (.iconst 3, 1), (0, 0, 0)) := by decide +kernel
theorem xr_90_4 : X_row 90 4 = some (4, (.if_icmp .lt 35, 3), (0, 0, 0)) := by decide +kernel
theorem xr_90_7 : X_row 90 7 = some (7, (.aload_n 0, 1), (0, 0, 0)) := by decide +kernel
theorem xr_90_8 : X_row 90 8 = some (8, (.getfield 15, 3), (6, 1, 4)) := by decide +kernel
theorem xr_90_11 : X_row 90 11 = some (11, (.iload_n 1, 1), (0, 0, 0)) := by decide +kernel
theorem xr_90_12 : X_row 90 12 = some (12, (.laload, 1), (0, 0, 0)) := by decide +kernel
theorem xr_90_13 : X_row 90 13 = some (13, (.ldc2_w 46, 3), (40, 889, 0)) := by decide +kernel
theorem xr_90_16 : X_row 90 16 = some (16, (.lcmp, 1), (0, 0, 0)) := by decide +kernel
theorem xr_90_17 : X_row 90 17 = some (17, (.ifCond .ne 22, 3), (0, 0, 0)) := by decide +kernel
theorem xr_90_20 : X_row 90 20 = some (20, (.aload_n 0, 1), (0, 0, 0)) := by decide +kernel
theorem xr_90_21 : X_row 90 21 = some (21, (.getfield 15, 3), (6, 1, 4)) := by decide +kernel
theorem xr_90_24 : X_row 90 24 = some (24, (.iload_n 2, 1), (0, 0, 0)) := by decide +kernel
theorem xr_90_25 : X_row 90 25 = some (25, (.iconst 1, 1), (0, 0, 0)) := by decide +kernel
theorem xr_90_26 : X_row 90 26 = some (26, (.isub, 1), (0, 0, 0)) := by decide +kernel
theorem xr_90_27 : X_row 90 27 = some (27, (.laload, 1), (0, 0, 0)) := by decide +kernel
theorem xr_90_28 : X_row 90 28 = some (28, (.ldc2_w 48, 3), (41, 890, 0)) := by decide +kernel
theorem xr_90_31 : X_row 90 31 = some (31, (.lcmp, 1), (0, 0, 0)) := by decide +kernel
theorem xr_90_32 : X_row 90 32 = some (32, (.ifCond .ne 7, 3), (0, 0, 0)) := by decide +kernel
theorem xr_90_35 : X_row 90 35 = some (35, (.iconst 1, 1), (0, 0, 0)) := by decide +kernel
theorem xr_90_36 : X_row 90 36 = some (36, (.goto 4, 3), (0, 0, 0)) := by decide +kernel
theorem xr_90_39 : X_row 90 39 = some (39, (.iconst 0, 1), (0, 0, 0)) := by decide +kernel
theorem xr_90_40 : X_row 90 40 = some (40, (.ireturn, 1), (0, 0, 0)) := by decide +kernel
theorem xn_29 : X_nL 29 = 6 := by decide +kernel
theorem xf_29 : X_na 29 = 2 ∧ X_ci 29 = 1 ∧ X_rt 29 = (some .long) := by decide +kernel
theorem xn_30 : X_nL 30 = 6 := by decide +kernel
theorem xf_30 : X_na 30 = 2 ∧ X_ci 30 = 1 ∧ X_rt 30 = (some .long) := by decide +kernel
theorem xn_88 : X_nL 88 = 2 := by decide +kernel
theorem xf_88 : X_na 88 = 1 ∧ X_ci 88 = 6 ∧ X_rt 88 = (some .boolean) := by decide +kernel
theorem xn_89 : X_nL 89 = 5 := by decide +kernel
theorem xf_89 : X_na 89 = 1 ∧ X_ci 89 = 6 ∧ X_rt 89 = (some .int) := by decide +kernel
theorem xn_90 : X_nL 90 = 3 := by decide +kernel
theorem xf_90 : X_na 90 = 2 ∧ X_ci 90 = 6 ∧ X_rt 90 = (some .boolean) := by decide +kernel
theorem c_numberAt (sc : X_Sc) (S : X_S) (tn : Int) (G : X_G) (t : Int) (hO501 : S.1 501 = .inr (6, [.int (iI tn), .ref 502, .ref 503])) (hA502 : S.1 502 = .inl (.long, 30, .inr (.inl fun k : Nat => (gt G) (k : Int)))) (ht : 0 ≤ t ∧ t < 30) : X_T sc 89 (0, [(0, .ref 501), (1, .int (iI t))], [], S) (fun v S' => v = some (.int (iI (X_nv (gt G t)))) ∧ S' = S) := by
  refine X_QI (fun Q hQ => ?_)
  refine T_p xr_89_0 xn_89 (pc' := 1) (ls' := [(0, .ref 501), (1, .int (iI t))]) (st' := [.int (iI 0)]) rfl ?_
  refine T_p xr_89_1 xn_89 (pc' := 2) (ls' := [(2, .int (iI 0)), (0, .ref 501), (1, .int (iI t))]) (st' := []) rfl ?_
  refine T_p xr_89_2 xn_89 (pc' := 4) (ls' := [(2, .int (iI 0)), (0, .ref 501), (1, .int (iI t))]) (st' := [.int (iI 56)]) rfl ?_
  refine T_p xr_89_4 xn_89 (pc' := 5) (ls' := [(3, .int (iI 56)), (2, .int (iI 0)), (0, .ref 501), (1, .int (iI t))]) (st' := []) rfl ?_
  have L570 : ∀ (m572 : Nat) (s : Int) (v : Int) (m : Int) (hs : s = 56 - 8 * m) (hm : 0 ≤ m ∧ m ≤ 8) (hv : v = X_nvl (gt G t) m.toNat) (hvr : 0 ≤ v ∧ v ≤ 99999999) (hm573 : 9 - m < m572), X_T sc 89 (5, [(3, .int (iI s)), (2, .int (iI v)), (0, .ref 501), (1, .int (iI t))], [], S) Q := by
    intro m572
    induction m572 with
    | zero =>
      intro s v m hs hm hv hvr hm573
      exact (show False by omega).elim
    | succ m572 ih571 =>
      intro s v m hs hm hv hvr hm573
      refine T_p xr_89_5 xn_89 (pc' := 6) (ls' := [(3, .int (iI s)), (2, .int (iI v)), (0, .ref 501), (1, .int (iI t))]) (st' := [.int (iI s)]) rfl ?_
      refine T_zif_lt xr_89_6 (t := 62) (pc' := 9) rfl rfl (fun c575 => ?_) (fun c575 => ?_)
      · skip
        have c575 : s < 0 := c575
        refine T_p xr_89_62 xn_89 (pc' := 63) (ls' := [(3, .int (iI s)), (2, .int (iI v)), (0, .ref 501), (1, .int (iI t))]) (st' := [.int (iI v)]) rfl ?_
        refine T_iret xr_89_63 xf_89.2.2 rfl ?_
        refine hQ _ _ ?_
        exact ⟨by rw [show X_nv (gt G t) = v from (by rw [hv, show m.toNat = 8 by omega]; rfl)], rfl⟩
      · skip
        have c575 : ¬ (s < 0) := c575
        refine T_p xr_89_9 xn_89 (pc' := 10) (ls' := [(3, .int (iI s)), (2, .int (iI v)), (0, .ref 501), (1, .int (iI t))]) (st' := [.ref 501]) rfl ?_
        refine T_get xr_89_10 hO501 rfl (v := .ref 502) rfl (pc' := 13) rfl ?_
        refine T_p xr_89_13 xn_89 (pc' := 14) (ls' := [(3, .int (iI s)), (2, .int (iI v)), (0, .ref 501), (1, .int (iI t))]) (st' := [.int (iI t), .ref 502]) rfl ?_
        refine T_zlald xr_89_14 hA502 (pc' := 15) rfl ?_
        refine T_p xr_89_15 xn_89 (pc' := 16) (ls' := [(3, .int (iI s)), (2, .int (iI v)), (0, .ref 501), (1, .int (iI t))]) (st' := [.int (iI s), .long ((gt G) t)]) rfl ?_
        refine T_p xr_89_16 xn_89 (pc' := 17) (ls' := [(3, .int (iI s)), (2, .int (iI v)), (0, .ref 501), (1, .int (iI t))]) (st' := [.long (((gt G) t) >>> ((iI s).toInt64 &&& 63))]) rfl ?_
        refine T_p xr_89_17 xn_89 (pc' := 20) (ls' := [(3, .int (iI s)), (2, .int (iI v)), (0, .ref 501), (1, .int (iI t))]) (st' := [.long (iL 255), .long (((gt G) t) >>> ((iI s).toInt64 &&& 63))]) rfl ?_
        refine T_p xr_89_20 xn_89 (pc' := 21) (ls' := [(3, .int (iI s)), (2, .int (iI v)), (0, .ref 501), (1, .int (iI t))]) (st' := [.long ((((gt G) t) >>> ((iI s).toInt64 &&& 63)) &&& (iL 255))]) rfl ?_
        refine T_zop xr_89_21 (pc' := 22) rfl (z := ((((((gt G) t) >>> ((iI s).toInt64 &&& 63)) &&& (iL 255)) : Int64).toInt32).toInt) (iI_of _) ?_
        refine T_ie (y := iI (X_tb (gt G t) s)) (by rfl) ?_
        have htb := X_tb_r (gt G t) s
        have hgo := X_nv_go (by omega) hs hv (show ¬ v = -1 by omega)
        refine T_p xr_89_22 xn_89 (pc' := 24) (ls' := [(4, .int (iI (X_tb (gt G t) s))), (3, .int (iI s)), (2, .int (iI v)), (0, .ref 501), (1, .int (iI t))]) (st' := []) rfl ?_
        refine T_p xr_89_24 xn_89 (pc' := 26) (ls' := [(4, .int (iI (X_tb (gt G t) s))), (3, .int (iI s)), (2, .int (iI v)), (0, .ref 501), (1, .int (iI t))]) (st' := [.int (iI (X_tb (gt G t) s))]) rfl ?_
        refine T_zif_eq xr_89_26 (t := 56) (pc' := 29) rfl rfl (fun c576 => ?_) (fun c576 => ?_)
        · skip
          have c576 : (X_tb (gt G t) s) = 0 := c576
          refine T_ziinc xr_89_56 xn_89 (a := s) (z := s - 8) rfl (Nat.le_of_ble_eq_true rfl) (by omega) (ls' := [(3, .int (iI (s - 8))), (4, .int (iI (X_tb (gt G t) s))), (2, .int (iI v)), (0, .ref 501), (1, .int (iI t))]) rfl (pc' := 59) rfl ?_
          refine T_p xr_89_59 xn_89 (pc' := 5) (ls' := [(3, .int (iI (s - 8))), (4, .int (iI (X_tb (gt G t) s))), (2, .int (iI v)), (0, .ref 501), (1, .int (iI t))]) (st' := []) rfl ?_
          refine T_sub (ls := [(3, .int (iI (s - 8))), (2, .int (iI v)), (0, .ref 501), (1, .int (iI t))]) ⟨rfl, rfl, rfl, rfl, trivial⟩ rfl rfl ?_
          exact ih571 (s - 8) v (m + 1)  (by omega) (by omega) (by first | exact (hgo.1 (by omega)).symm | exact (hgo.2.2 (by omega) (by omega) (by omega)).symm) (by
                have hr := X_nvl_r (gt G t) (m + 1).toNat (by omega)
                have hp : (10 : Nat) ^ (m + 1).toNat ≤ 10 ^ 8 := Nat.pow_le_pow_right (by decide) (by omega)
                have h8 : (10 : Nat) ^ 8 = 100000000 := by decide
                first | (have h := hgo.1 (by omega); omega) | (have h := hgo.2.2 (by omega) (by omega) (by omega); omega)) (by omega)
        · skip
          have c576 : ¬ ((X_tb (gt G t) s) = 0) := c576
          refine T_p xr_89_29 xn_89 (pc' := 31) (ls' := [(4, .int (iI (X_tb (gt G t) s))), (3, .int (iI s)), (2, .int (iI v)), (0, .ref 501), (1, .int (iI t))]) (st' := [.int (iI (X_tb (gt G t) s))]) rfl ?_
          refine T_p xr_89_31 xn_89 (pc' := 33) (ls' := [(4, .int (iI (X_tb (gt G t) s))), (3, .int (iI s)), (2, .int (iI v)), (0, .ref 501), (1, .int (iI t))]) (st' := [.int (iI 48), .int (iI (X_tb (gt G t) s))]) rfl ?_
          refine T_zicmp_lt xr_89_33 (t := 43) (pc' := 36) rfl rfl (fun c577 => ?_) (fun c577 => ?_)
          · skip
            have c577 : (X_tb (gt G t) s) < 48 := c577
            refine T_p xr_89_43 xn_89 (pc' := 44) (ls' := [(4, .int (iI (X_tb (gt G t) s))), (3, .int (iI s)), (2, .int (iI v)), (0, .ref 501), (1, .int (iI t))]) (st' := [.int (iI (-1))]) rfl ?_
            refine T_iret xr_89_44 xf_89.2.2 rfl ?_
            refine hQ _ _ ?_
            exact ⟨by rw [show X_nv (gt G t) = -1 from X_nv_no (m := m + 1) (by omega) (hgo.2.1 (by omega) (by omega))], rfl⟩
          · skip
            have c577 : ¬ ((X_tb (gt G t) s) < 48) := c577
            refine T_p xr_89_36 xn_89 (pc' := 38) (ls' := [(4, .int (iI (X_tb (gt G t) s))), (3, .int (iI s)), (2, .int (iI v)), (0, .ref 501), (1, .int (iI t))]) (st' := [.int (iI (X_tb (gt G t) s))]) rfl ?_
            refine T_p xr_89_38 xn_89 (pc' := 40) (ls' := [(4, .int (iI (X_tb (gt G t) s))), (3, .int (iI s)), (2, .int (iI v)), (0, .ref 501), (1, .int (iI t))]) (st' := [.int (iI 57), .int (iI (X_tb (gt G t) s))]) rfl ?_
            refine T_zicmp_le xr_89_40 (t := 45) (pc' := 43) rfl rfl (fun c578 => ?_) (fun c578 => ?_)
            · skip
              have c578 : (X_tb (gt G t) s) ≤ 57 := c578
              refine T_p xr_89_45 xn_89 (pc' := 46) (ls' := [(4, .int (iI (X_tb (gt G t) s))), (3, .int (iI s)), (2, .int (iI v)), (0, .ref 501), (1, .int (iI t))]) (st' := [.int (iI v)]) rfl ?_
              refine T_p xr_89_46 xn_89 (pc' := 48) (ls' := [(4, .int (iI (X_tb (gt G t) s))), (3, .int (iI s)), (2, .int (iI v)), (0, .ref 501), (1, .int (iI t))]) (st' := [.int (iI 10), .int (iI v)]) rfl ?_
              refine T_zimul xr_89_48 (z := v * 10) rfl (pc' := 49) rfl ?_
              refine T_p xr_89_49 xn_89 (pc' := 51) (ls' := [(4, .int (iI (X_tb (gt G t) s))), (3, .int (iI s)), (2, .int (iI v)), (0, .ref 501), (1, .int (iI t))]) (st' := [.int (iI (X_tb (gt G t) s)), .int (iI (v * 10))]) rfl ?_
              refine T_ziadd xr_89_51 (z := (v * 10) + (X_tb (gt G t) s)) rfl (pc' := 52) rfl ?_
              refine T_p xr_89_52 xn_89 (pc' := 54) (ls' := [(4, .int (iI (X_tb (gt G t) s))), (3, .int (iI s)), (2, .int (iI v)), (0, .ref 501), (1, .int (iI t))]) (st' := [.int (iI 48), .int (iI ((v * 10) + (X_tb (gt G t) s)))]) rfl ?_
              refine T_zisub xr_89_54 (z := ((v * 10) + (X_tb (gt G t) s)) - 48) rfl (pc' := 55) rfl ?_
              refine T_p xr_89_55 xn_89 (pc' := 56) (ls' := [(2, .int (iI (((v * 10) + (X_tb (gt G t) s)) - 48))), (4, .int (iI (X_tb (gt G t) s))), (3, .int (iI s)), (0, .ref 501), (1, .int (iI t))]) (st' := []) rfl ?_
              refine T_ziinc xr_89_56 xn_89 (a := s) (z := s - 8) rfl (Nat.le_of_ble_eq_true rfl) (by omega) (ls' := [(3, .int (iI (s - 8))), (2, .int (iI (((v * 10) + (X_tb (gt G t) s)) - 48))), (4, .int (iI (X_tb (gt G t) s))), (0, .ref 501), (1, .int (iI t))]) rfl (pc' := 59) rfl ?_
              refine T_p xr_89_59 xn_89 (pc' := 5) (ls' := [(3, .int (iI (s - 8))), (2, .int (iI (((v * 10) + (X_tb (gt G t) s)) - 48))), (4, .int (iI (X_tb (gt G t) s))), (0, .ref 501), (1, .int (iI t))]) (st' := []) rfl ?_
              refine T_sub (ls := [(3, .int (iI (s - 8))), (2, .int (iI (((v * 10) + (X_tb (gt G t) s)) - 48))), (0, .ref 501), (1, .int (iI t))]) ⟨rfl, rfl, rfl, rfl, trivial⟩ rfl rfl ?_
              exact ih571 (s - 8) (((v * 10) + (X_tb (gt G t) s)) - 48) (m + 1)  (by omega) (by omega) (by first | exact (hgo.1 (by omega)).symm | exact (hgo.2.2 (by omega) (by omega) (by omega)).symm) (by
                    have hr := X_nvl_r (gt G t) (m + 1).toNat (by omega)
                    have hp : (10 : Nat) ^ (m + 1).toNat ≤ 10 ^ 8 := Nat.pow_le_pow_right (by decide) (by omega)
                    have h8 : (10 : Nat) ^ 8 = 100000000 := by decide
                    first | (have h := hgo.1 (by omega); omega) | (have h := hgo.2.2 (by omega) (by omega) (by omega); omega)) (by omega)
            · skip
              have c578 : ¬ ((X_tb (gt G t) s) ≤ 57) := c578
              refine T_p xr_89_43 xn_89 (pc' := 44) (ls' := [(4, .int (iI (X_tb (gt G t) s))), (3, .int (iI s)), (2, .int (iI v)), (0, .ref 501), (1, .int (iI t))]) (st' := [.int (iI (-1))]) rfl ?_
              refine T_iret xr_89_44 xf_89.2.2 rfl ?_
              refine hQ _ _ ?_
              exact ⟨by rw [show X_nv (gt G t) = -1 from X_nv_no (m := m + 1) (by omega) (hgo.2.1 (by omega) (by omega))], rfl⟩
  exact L570 ((9 : Int) + 1).toNat 56 0 0  (by omega) (by omega) rfl (by omega) (by omega)
theorem c_sIsNumber (sc : X_Sc) (S : X_S) (tn : Int) (G : X_G) (t : Int) (hO501 : S.1 501 = .inr (6, [.int (iI tn), .ref 502, .ref 503])) (hA502 : S.1 502 = .inl (.long, 30, .inr (.inl fun k : Nat => (gt G) (k : Int)))) (ht : 0 ≤ t ∧ t < 30) : X_T sc 88 (0, [(0, .ref 501), (1, .int (iI t))], [], S) (fun v S' => v = some (.int (iI (bI (0 ≤ X_nv (gt G t))))) ∧ S' = S) := by
  refine X_QI (fun Q hQ => ?_)
  refine T_p xr_88_0 xn_88 (pc' := 1) (ls' := [(0, .ref 501), (1, .int (iI t))]) (st' := [.ref 501]) rfl ?_
  refine T_p xr_88_1 xn_88 (pc' := 2) (ls' := [(0, .ref 501), (1, .int (iI t))]) (st' := [.int (iI t), .ref 501]) rfl ?_
  refine T_cv (S := S) (q := 501) xr_88_2 xf_89.1 xf_89.2.1 xn_89 (as := [.int (iI t)]) (r := []) rfl hO501 (Nat.le_of_ble_eq_true rfl) (Nat.le_of_ble_eq_true rfl) (pc' := 5) rfl (ls' := [(0, .ref 501), (1, .int (iI t))]) rfl ?_
  refine T_mono (c_numberAt sc S tn G t hO501 hA502 (by omega)) (fun v579 S580 h581 => ?_)
  rcases h581 with ⟨hv582, hf583⟩
  rw [hv582]
  rw [hf583]
  have hnv584 := X_nv_r (gt G t)
  show X_T sc 88 (5, [(0, .ref 501), (1, .int (iI t))], [.int (iI (X_nv (gt G t)))], S) _
  refine T_p xr_88_5 xn_88 (pc' := 6) (ls' := [(0, .ref 501), (1, .int (iI t))]) (st' := [.int (iI (-1)), .int (iI (X_nv (gt G t)))]) rfl ?_
  refine T_zicmp_eq xr_88_6 (t := 13) (pc' := 9) rfl rfl (fun c585 => ?_) (fun c585 => ?_)
  · skip
    have c585 : (X_nv (gt G t)) = (-1) := c585
    refine T_p xr_88_13 xn_88 (pc' := 14) (ls' := [(0, .ref 501), (1, .int (iI t))]) (st' := [.int (iI 0)]) rfl ?_
    refine T_iret xr_88_14 xf_88.2.2 (by decide) ?_
    refine hQ _ _ ?_
    exact ⟨by rw [bI_f (by omega)], rfl⟩
  · skip
    have c585 : ¬ ((X_nv (gt G t)) = (-1)) := c585
    refine T_p xr_88_9 xn_88 (pc' := 10) (ls' := [(0, .ref 501), (1, .int (iI t))]) (st' := [.int (iI 1)]) rfl ?_
    refine T_p xr_88_10 xn_88 (pc' := 14) (ls' := [(0, .ref 501), (1, .int (iI t))]) (st' := [.int (iI 1)]) rfl ?_
    refine T_iret xr_88_14 xf_88.2.2 (by decide) ?_
    refine hQ _ _ ?_
    exact ⟨by rw [bI_t (by omega)], rfl⟩
theorem c_isBracketed (sc : X_Sc) (S : X_S) (tn : Int) (G : X_G) (i : Int) (j : Int) (hO501 : S.1 501 = .inr (6, [.int (iI tn), .ref 502, .ref 503])) (hA502 : S.1 502 = .inl (.long, 30, .inr (.inl fun k : Nat => (gt G) (k : Int)))) (hij : 0 ≤ i ∧ i < j ∧ j ≤ 30) : X_T sc 90 (0, [(0, .ref 501), (1, .int (iI i)), (2, .int (iI j))], [], S) (fun v S' => v = some (.int (iI (bI (X_brk G i j)))) ∧ S' = S) := by
  refine X_QI (fun Q hQ => ?_)
  refine T_p xr_90_0 xn_90 (pc' := 1) (ls' := [(0, .ref 501), (1, .int (iI i)), (2, .int (iI j))]) (st' := [.int (iI j)]) rfl ?_
  refine T_p xr_90_1 xn_90 (pc' := 2) (ls' := [(0, .ref 501), (1, .int (iI i)), (2, .int (iI j))]) (st' := [.int (iI i), .int (iI j)]) rfl ?_
  refine T_zisub xr_90_2 (z := j - i) rfl (pc' := 3) rfl ?_
  refine T_p xr_90_3 xn_90 (pc' := 4) (ls' := [(0, .ref 501), (1, .int (iI i)), (2, .int (iI j))]) (st' := [.int (iI 3), .int (iI (j - i))]) rfl ?_
  refine T_zicmp_lt xr_90_4 (t := 39) (pc' := 7) rfl rfl (fun c586 => ?_) (fun c586 => ?_)
  · skip
    have c586 : (j - i) < 3 := c586
    refine T_p xr_90_39 xn_90 (pc' := 40) (ls' := [(0, .ref 501), (1, .int (iI i)), (2, .int (iI j))]) (st' := [.int (iI 0)]) rfl ?_
    refine T_iret xr_90_40 xf_90.2.2 (by decide) ?_
    refine hQ _ _ ?_
    exact ⟨by rw [bI_f (fun z => by first | exact absurd z.1 (by omega) | exact absurd z.2.1 (by assumption) | exact absurd z.2.2 (by assumption))], rfl⟩
  · skip
    have c586 : ¬ ((j - i) < 3) := c586
    refine T_p xr_90_7 xn_90 (pc' := 8) (ls' := [(0, .ref 501), (1, .int (iI i)), (2, .int (iI j))]) (st' := [.ref 501]) rfl ?_
    refine T_get xr_90_8 hO501 rfl (v := .ref 502) rfl (pc' := 11) rfl ?_
    refine T_p xr_90_11 xn_90 (pc' := 12) (ls' := [(0, .ref 501), (1, .int (iI i)), (2, .int (iI j))]) (st' := [.int (iI i), .ref 502]) rfl ?_
    refine T_zlald xr_90_12 hA502 (pc' := 13) rfl ?_
    refine T_p xr_90_13 xn_90 (pc' := 16) (ls' := [(0, .ref 501), (1, .int (iI i)), (2, .int (iI j))]) (st' := [.long (iL 40), .long ((gt G) i)]) rfl ?_
    refine T_lc_ne xr_90_16 xr_90_17 (t := 39) (pc' := 20) rfl rfl (fun c587 => ?_) (fun c587 => ?_)
    · skip
      have c587 : ¬ ((gt G) i) = (iL 40) := c587
      refine T_p xr_90_39 xn_90 (pc' := 40) (ls' := [(0, .ref 501), (1, .int (iI i)), (2, .int (iI j))]) (st' := [.int (iI 0)]) rfl ?_
      refine T_iret xr_90_40 xf_90.2.2 (by decide) ?_
      refine hQ _ _ ?_
      exact ⟨by rw [bI_f (fun z => by first | exact absurd z.1 (by omega) | exact absurd z.2.1 (by assumption) | exact absurd z.2.2 (by assumption))], rfl⟩
    · skip
      have c587 : ¬ (¬ ((gt G) i) = (iL 40)) := c587
      refine T_p xr_90_20 xn_90 (pc' := 21) (ls' := [(0, .ref 501), (1, .int (iI i)), (2, .int (iI j))]) (st' := [.ref 501]) rfl ?_
      refine T_get xr_90_21 hO501 rfl (v := .ref 502) rfl (pc' := 24) rfl ?_
      refine T_p xr_90_24 xn_90 (pc' := 25) (ls' := [(0, .ref 501), (1, .int (iI i)), (2, .int (iI j))]) (st' := [.int (iI j), .ref 502]) rfl ?_
      refine T_p xr_90_25 xn_90 (pc' := 26) (ls' := [(0, .ref 501), (1, .int (iI i)), (2, .int (iI j))]) (st' := [.int (iI 1), .int (iI j), .ref 502]) rfl ?_
      refine T_zisub xr_90_26 (z := j - 1) rfl (pc' := 27) rfl ?_
      refine T_zlald xr_90_27 hA502 (pc' := 28) rfl ?_
      refine T_p xr_90_28 xn_90 (pc' := 31) (ls' := [(0, .ref 501), (1, .int (iI i)), (2, .int (iI j))]) (st' := [.long (iL 41), .long ((gt G) (j - 1))]) rfl ?_
      refine T_lc_ne xr_90_31 xr_90_32 (t := 39) (pc' := 35) rfl rfl (fun c588 => ?_) (fun c588 => ?_)
      · skip
        have c588 : ¬ ((gt G) (j - 1)) = (iL 41) := c588
        refine T_p xr_90_39 xn_90 (pc' := 40) (ls' := [(0, .ref 501), (1, .int (iI i)), (2, .int (iI j))]) (st' := [.int (iI 0)]) rfl ?_
        refine T_iret xr_90_40 xf_90.2.2 (by decide) ?_
        refine hQ _ _ ?_
        exact ⟨by rw [bI_f (fun z => by first | exact absurd z.1 (by omega) | exact absurd z.2.1 (by assumption) | exact absurd z.2.2 (by assumption))], rfl⟩
      · skip
        have c588 : ¬ (¬ ((gt G) (j - 1)) = (iL 41)) := c588
        refine T_p xr_90_35 xn_90 (pc' := 36) (ls' := [(0, .ref 501), (1, .int (iI i)), (2, .int (iI j))]) (st' := [.int (iI 1)]) rfl ?_
        refine T_p xr_90_36 xn_90 (pc' := 40) (ls' := [(0, .ref 501), (1, .int (iI i)), (2, .int (iI j))]) (st' := [.int (iI 1)]) rfl ?_
        refine T_iret xr_90_40 xf_90.2.2 (by decide) ?_
        refine hQ _ _ ?_
        exact ⟨by rw [bI_t ⟨by omega, by first | assumption | exact Classical.not_not.mp (by assumption) | exact Int64.not_lt.mpr (by assumption) | exact Int64.not_le.mp (by assumption), by first | assumption | exact Classical.not_not.mp (by assumption) | exact Int64.not_lt.mpr (by assumption) | exact Int64.not_le.mp (by assumption)⟩], rfl⟩
theorem c_sumK (sc : X_Sc) (S : X_S) (oK : Int → Int64) (B : Nat) (rc : Int) (rn : Int → Int64) (kn : Int → Int64) (G : X_G) (tn : Int) (fl : Int) (row : Int) (ks : Int) (F_ : Int → Nat) (hO511 : S.1 511 = .inr (1, [.ref B, .ref 501, .int (iI fl), .ref 512, .ref 513, .ref 514, .ref 515, .ref 516])) (hA512 : S.1 512 = .inl (.long, 5115, .inr (.inl fun k : Nat => oK (k : Int)))) (hB : B = 4 ∨ B = 250) (hb : C_bk S B rc (gk G) (gw G) rn (gl G) kn (ga G)) (hs : C_ws S B (gD G) (gW G)) (hG : X_Gok G) (hrow : 0 ≤ row ∧ row ≤ 464) (hF_ : ∀ k, 0 ≤ k → k < gk G → oK (row * 11 + k) = X_st (-2) (F_ k)) : X_T sc 29 (0, [(0, .ref 511), (1, .int (iI row)), (2, .int (iI ks))], [], S) (fun v S' => v = some (.long (X_st (-2) (X_Su (fun k => X_if (X_bt ks k) (F_ k)) 0 (gk G)))) ∧ S' = S) := by
  obtain ⟨hb0, hb1, hb2, hb3, hb4, ⟨f, hb5, hf⟩, ⟨hrc, hrcb⟩, ⟨hkc, hkcb⟩, ⟨hwc, hwcb⟩⟩ := id hb
  refine X_QI (fun Q hQ => ?_)
  refine T_p xr_29_0 xn_29 (pc' := 1) (ls' := [(0, .ref 511), (1, .int (iI row)), (2, .int (iI ks))]) (st' := [.long (iL 0)]) rfl ?_
  refine T_p xr_29_1 xn_29 (pc' := 2) (ls' := [(3, .long (iL 0)), (0, .ref 511), (1, .int (iI row)), (2, .int (iI ks))]) (st' := []) rfl ?_
  refine T_p xr_29_2 xn_29 (pc' := 3) (ls' := [(3, .long (iL 0)), (0, .ref 511), (1, .int (iI row)), (2, .int (iI ks))]) (st' := [.int (iI 0)]) rfl ?_
  refine T_p xr_29_3 xn_29 (pc' := 5) (ls' := [(5, .int (iI 0)), (3, .long (iL 0)), (0, .ref 511), (1, .int (iI row)), (2, .int (iI ks))]) (st' := []) rfl ?_
  have L589 : ∀ (m591 : Nat) (k : Int) (s : Nat) (hk : 0 ≤ k ∧ k ≤ gk G) (hsu : s = X_Su (fun k => X_if (X_bt ks k) (F_ k)) 0 k) (hm592 : gk G - k < m591), X_T sc 29 (5, [(5, .int (iI k)), (3, .long (X_st (-2) s)), (0, .ref 511), (1, .int (iI row)), (2, .int (iI ks))], [], S) Q := by
    intro m591
    induction m591 with
    | zero =>
      intro k s hk hsu hm592
      exact (show False by omega).elim
    | succ m591 ih590 =>
      intro k s hk hsu hm592
      refine T_p xr_29_5 xn_29 (pc' := 7) (ls' := [(5, .int (iI k)), (3, .long (X_st (-2) s)), (0, .ref 511), (1, .int (iI row)), (2, .int (iI ks))]) (st' := [.int (iI k)]) rfl ?_
      refine T_p xr_29_7 xn_29 (pc' := 8) (ls' := [(5, .int (iI k)), (3, .long (X_st (-2) s)), (0, .ref 511), (1, .int (iI row)), (2, .int (iI ks))]) (st' := [.ref 511, .int (iI k)]) rfl ?_
      refine T_get xr_29_8 hO511 rfl (v := .ref B) rfl (pc' := 11) rfl ?_
      refine T_get xr_29_11 hb0 rfl (v := .int (iI (gk G))) rfl (pc' := 14) rfl ?_
      refine T_zicmp_ge xr_29_14 (t := 49) (pc' := 17) rfl rfl (fun c594 => ?_) (fun c594 => ?_)
      · skip
        have c594 : (gk G) ≤ k := c594
        refine T_p xr_29_49 xn_29 (pc' := 50) (ls' := [(5, .int (iI k)), (3, .long (X_st (-2) s)), (0, .ref 511), (1, .int (iI row)), (2, .int (iI ks))]) (st' := [.long (X_st (-2) s)]) rfl ?_
        refine T_lret xr_29_50 xf_29.2.2 rfl ?_
        refine hQ _ _ ?_
        exact ⟨by rw [hsu, show k = gk G by omega], rfl⟩
      · skip
        have c594 : ¬ ((gk G) ≤ k) := c594
        refine T_p xr_29_17 xn_29 (pc' := 18) (ls' := [(5, .int (iI k)), (3, .long (X_st (-2) s)), (0, .ref 511), (1, .int (iI row)), (2, .int (iI ks))]) (st' := [.int (iI ks)]) rfl ?_
        refine T_p xr_29_18 xn_29 (pc' := 20) (ls' := [(5, .int (iI k)), (3, .long (X_st (-2) s)), (0, .ref 511), (1, .int (iI row)), (2, .int (iI ks))]) (st' := [.int (iI k), .int (iI ks)]) rfl ?_
        refine T_cs xr_29_20 (by decide) xf_131.1 xn_131 (as := [.int (iI ks), .int (iI k)]) (r := []) rfl (Nat.le_of_ble_eq_true rfl) (Nat.le_of_ble_eq_true rfl) (pc' := 23) rfl (ls' := [(0, .int (iI ks)), (1, .int (iI k))]) rfl ?_
        refine T_mono (c_hasBit sc S ks k) (fun v596 S597 h595 => ?_)
        obtain ⟨h598, h599⟩ := h595
        rw [h598, h599]
        show X_T sc 29 (23, [(5, .int (iI k)), (3, .long (X_st (-2) s)), (0, .ref 511), (1, .int (iI row)), (2, .int (iI ks))], [.int (iI (bI (X_bt ks k)))], S) _
        refine T_bif_eq xr_29_23 (t := 43) (pc' := 26) rfl rfl (fun c600 => ?_) (fun c600 => ?_)
        · skip
          have c600 : ¬ (X_bt ks k) := c600
          refine T_ziinc xr_29_43 xn_29 (a := k) (z := k + 1) rfl (Nat.le_of_ble_eq_true rfl) (by omega) (ls' := [(5, .int (iI (k + 1))), (3, .long (X_st (-2) s)), (0, .ref 511), (1, .int (iI row)), (2, .int (iI ks))]) rfl (pc' := 46) rfl ?_
          refine T_p xr_29_46 xn_29 (pc' := 5) (ls' := [(5, .int (iI (k + 1))), (3, .long (X_st (-2) s)), (0, .ref 511), (1, .int (iI row)), (2, .int (iI ks))]) (st' := []) rfl ?_
          exact ih590 (k + 1) s  (by omega) (by first | exact ((X_Su_if (p := fun k => X_bt ks k) (f := F_) (show (0 : Int) ≤ k by omega)).1 (by assumption)).symm ▸ (by rw [hsu]) | exact ((X_Su_if (p := fun k => X_bt ks k) (f := F_) (show (0 : Int) ≤ k by omega)).2 (by assumption)).symm ▸ hsu) (by omega)
        · skip
          have c600 : (X_bt ks k) := c600
          refine T_p xr_29_26 xn_29 (pc' := 27) (ls' := [(5, .int (iI k)), (3, .long (X_st (-2) s)), (0, .ref 511), (1, .int (iI row)), (2, .int (iI ks))]) (st' := [.long (X_st (-2) s)]) rfl ?_
          refine T_p xr_29_27 xn_29 (pc' := 28) (ls' := [(5, .int (iI k)), (3, .long (X_st (-2) s)), (0, .ref 511), (1, .int (iI row)), (2, .int (iI ks))]) (st' := [.ref 511, .long (X_st (-2) s)]) rfl ?_
          refine T_get xr_29_28 hO511 rfl (v := .ref 512) rfl (pc' := 31) rfl ?_
          refine T_p xr_29_31 xn_29 (pc' := 32) (ls' := [(5, .int (iI k)), (3, .long (X_st (-2) s)), (0, .ref 511), (1, .int (iI row)), (2, .int (iI ks))]) (st' := [.int (iI row), .ref 512, .long (X_st (-2) s)]) rfl ?_
          refine T_p xr_29_32 xn_29 (pc' := 34) (ls' := [(5, .int (iI k)), (3, .long (X_st (-2) s)), (0, .ref 511), (1, .int (iI row)), (2, .int (iI ks))]) (st' := [.int (iI 11), .int (iI row), .ref 512, .long (X_st (-2) s)]) rfl ?_
          refine T_zimul xr_29_34 (z := row * 11) rfl (pc' := 35) rfl ?_
          refine T_p xr_29_35 xn_29 (pc' := 37) (ls' := [(5, .int (iI k)), (3, .long (X_st (-2) s)), (0, .ref 511), (1, .int (iI row)), (2, .int (iI ks))]) (st' := [.int (iI k), .int (iI (row * 11)), .ref 512, .long (X_st (-2) s)]) rfl ?_
          refine T_ziadd xr_29_37 (z := (row * 11) + k) rfl (pc' := 38) rfl ?_
          refine T_zlald xr_29_38 hA512 (pc' := 39) rfl ?_
          refine T_le (y := (X_st (-2) (F_ k))) (hF_ k (by omega) (by omega)) ?_
          refine T_cs xr_29_39 (by decide) xf_134.1 xn_134 (as := [.long (X_st (-2) s), .long (X_st (-2) (F_ k))]) (r := []) rfl (Nat.le_of_ble_eq_true rfl) (Nat.le_of_ble_eq_true rfl) (pc' := 42) rfl (ls' := [(0, .long (X_st (-2) s)), (2, .long (X_st (-2) (F_ k)))]) rfl ?_
          refine T_mono (c_plus sc S s (F_ k)) (fun v601 S602 h603 => ?_)
          rcases h603 with ⟨hv604, hf605⟩
          rw [hv604]
          rw [hf605]
          show X_T sc 29 (42, [(5, .int (iI k)), (3, .long (X_st (-2) s)), (0, .ref 511), (1, .int (iI row)), (2, .int (iI ks))], [.long (X_st (-2) (s + (F_ k)))], S) _
          refine T_p xr_29_42 xn_29 (pc' := 43) (ls' := [(3, .long (X_st (-2) (s + (F_ k)))), (5, .int (iI k)), (0, .ref 511), (1, .int (iI row)), (2, .int (iI ks))]) (st' := []) rfl ?_
          refine T_ziinc xr_29_43 xn_29 (a := k) (z := k + 1) rfl (Nat.le_of_ble_eq_true rfl) (by omega) (ls' := [(5, .int (iI (k + 1))), (3, .long (X_st (-2) (s + (F_ k)))), (0, .ref 511), (1, .int (iI row)), (2, .int (iI ks))]) rfl (pc' := 46) rfl ?_
          refine T_p xr_29_46 xn_29 (pc' := 5) (ls' := [(5, .int (iI (k + 1))), (3, .long (X_st (-2) (s + (F_ k)))), (0, .ref 511), (1, .int (iI row)), (2, .int (iI ks))]) (st' := []) rfl ?_
          exact ih590 (k + 1) (s + (F_ k))  (by omega) (by first | exact ((X_Su_if (p := fun k => X_bt ks k) (f := F_) (show (0 : Int) ≤ k by omega)).1 (by assumption)).symm ▸ (by rw [hsu]) | exact ((X_Su_if (p := fun k => X_bt ks k) (f := F_) (show (0 : Int) ≤ k by omega)).2 (by assumption)).symm ▸ hsu) (by omega)
  exact L589 (gk G + 1).toNat 0 0  (by omega) (X_Su_e (Int.le_refl 0)).symm (by omega)
theorem c_sumW (sc : X_Sc) (S : X_S) (oW : Int → Int64) (B : Nat) (rc : Int) (rn : Int → Int64) (kn : Int → Int64) (G : X_G) (tn : Int) (fl : Int) (row : Int) (ks : Int) (F_ : Int → Nat) (hO511 : S.1 511 = .inr (1, [.ref B, .ref 501, .int (iI fl), .ref 512, .ref 513, .ref 514, .ref 515, .ref 516])) (hA513 : S.1 513 = .inl (.long, 13950, .inr (.inl fun k : Nat => oW (k : Int)))) (hB : B = 4 ∨ B = 250) (hb : C_bk S B rc (gk G) (gw G) rn (gl G) kn (ga G)) (hs : C_ws S B (gD G) (gW G)) (hG : X_Gok G) (hrow : 0 ≤ row ∧ row ≤ 464) (hF_ : ∀ k, 0 ≤ k → k < gw G → oW (row * 30 + k) = X_st (-2) (F_ k)) : X_T sc 30 (0, [(0, .ref 511), (1, .int (iI row)), (2, .int (iI ks))], [], S) (fun v S' => v = some (.long (X_st (-2) (X_Su (fun k => X_if (X_bt ks k) (F_ k)) 0 (gw G)))) ∧ S' = S) := by
  obtain ⟨hb0, hb1, hb2, hb3, hb4, ⟨f, hb5, hf⟩, ⟨hrc, hrcb⟩, ⟨hkc, hkcb⟩, ⟨hwc, hwcb⟩⟩ := id hb
  refine X_QI (fun Q hQ => ?_)
  refine T_p xr_30_0 xn_30 (pc' := 1) (ls' := [(0, .ref 511), (1, .int (iI row)), (2, .int (iI ks))]) (st' := [.long (iL 0)]) rfl ?_
  refine T_p xr_30_1 xn_30 (pc' := 2) (ls' := [(3, .long (iL 0)), (0, .ref 511), (1, .int (iI row)), (2, .int (iI ks))]) (st' := []) rfl ?_
  refine T_p xr_30_2 xn_30 (pc' := 3) (ls' := [(3, .long (iL 0)), (0, .ref 511), (1, .int (iI row)), (2, .int (iI ks))]) (st' := [.int (iI 0)]) rfl ?_
  refine T_p xr_30_3 xn_30 (pc' := 5) (ls' := [(5, .int (iI 0)), (3, .long (iL 0)), (0, .ref 511), (1, .int (iI row)), (2, .int (iI ks))]) (st' := []) rfl ?_
  have L606 : ∀ (m608 : Nat) (k : Int) (s : Nat) (hk : 0 ≤ k ∧ k ≤ gw G) (hsu : s = X_Su (fun k => X_if (X_bt ks k) (F_ k)) 0 k) (hm609 : gw G - k < m608), X_T sc 30 (5, [(5, .int (iI k)), (3, .long (X_st (-2) s)), (0, .ref 511), (1, .int (iI row)), (2, .int (iI ks))], [], S) Q := by
    intro m608
    induction m608 with
    | zero =>
      intro k s hk hsu hm609
      exact (show False by omega).elim
    | succ m608 ih607 =>
      intro k s hk hsu hm609
      refine T_p xr_30_5 xn_30 (pc' := 7) (ls' := [(5, .int (iI k)), (3, .long (X_st (-2) s)), (0, .ref 511), (1, .int (iI row)), (2, .int (iI ks))]) (st' := [.int (iI k)]) rfl ?_
      refine T_p xr_30_7 xn_30 (pc' := 8) (ls' := [(5, .int (iI k)), (3, .long (X_st (-2) s)), (0, .ref 511), (1, .int (iI row)), (2, .int (iI ks))]) (st' := [.ref 511, .int (iI k)]) rfl ?_
      refine T_get xr_30_8 hO511 rfl (v := .ref B) rfl (pc' := 11) rfl ?_
      refine T_get xr_30_11 hb0 rfl (v := .int (iI (gw G))) rfl (pc' := 14) rfl ?_
      refine T_zicmp_ge xr_30_14 (t := 49) (pc' := 17) rfl rfl (fun c611 => ?_) (fun c611 => ?_)
      · skip
        have c611 : (gw G) ≤ k := c611
        refine T_p xr_30_49 xn_30 (pc' := 50) (ls' := [(5, .int (iI k)), (3, .long (X_st (-2) s)), (0, .ref 511), (1, .int (iI row)), (2, .int (iI ks))]) (st' := [.long (X_st (-2) s)]) rfl ?_
        refine T_lret xr_30_50 xf_30.2.2 rfl ?_
        refine hQ _ _ ?_
        exact ⟨by rw [hsu, show k = gw G by omega], rfl⟩
      · skip
        have c611 : ¬ ((gw G) ≤ k) := c611
        refine T_p xr_30_17 xn_30 (pc' := 18) (ls' := [(5, .int (iI k)), (3, .long (X_st (-2) s)), (0, .ref 511), (1, .int (iI row)), (2, .int (iI ks))]) (st' := [.int (iI ks)]) rfl ?_
        refine T_p xr_30_18 xn_30 (pc' := 20) (ls' := [(5, .int (iI k)), (3, .long (X_st (-2) s)), (0, .ref 511), (1, .int (iI row)), (2, .int (iI ks))]) (st' := [.int (iI k), .int (iI ks)]) rfl ?_
        refine T_cs xr_30_20 (by decide) xf_131.1 xn_131 (as := [.int (iI ks), .int (iI k)]) (r := []) rfl (Nat.le_of_ble_eq_true rfl) (Nat.le_of_ble_eq_true rfl) (pc' := 23) rfl (ls' := [(0, .int (iI ks)), (1, .int (iI k))]) rfl ?_
        refine T_mono (c_hasBit sc S ks k) (fun v613 S614 h612 => ?_)
        obtain ⟨h615, h616⟩ := h612
        rw [h615, h616]
        show X_T sc 30 (23, [(5, .int (iI k)), (3, .long (X_st (-2) s)), (0, .ref 511), (1, .int (iI row)), (2, .int (iI ks))], [.int (iI (bI (X_bt ks k)))], S) _
        refine T_bif_eq xr_30_23 (t := 43) (pc' := 26) rfl rfl (fun c617 => ?_) (fun c617 => ?_)
        · skip
          have c617 : ¬ (X_bt ks k) := c617
          refine T_ziinc xr_30_43 xn_30 (a := k) (z := k + 1) rfl (Nat.le_of_ble_eq_true rfl) (by omega) (ls' := [(5, .int (iI (k + 1))), (3, .long (X_st (-2) s)), (0, .ref 511), (1, .int (iI row)), (2, .int (iI ks))]) rfl (pc' := 46) rfl ?_
          refine T_p xr_30_46 xn_30 (pc' := 5) (ls' := [(5, .int (iI (k + 1))), (3, .long (X_st (-2) s)), (0, .ref 511), (1, .int (iI row)), (2, .int (iI ks))]) (st' := []) rfl ?_
          exact ih607 (k + 1) s  (by omega) (by first | exact ((X_Su_if (p := fun k => X_bt ks k) (f := F_) (show (0 : Int) ≤ k by omega)).1 (by assumption)).symm ▸ (by rw [hsu]) | exact ((X_Su_if (p := fun k => X_bt ks k) (f := F_) (show (0 : Int) ≤ k by omega)).2 (by assumption)).symm ▸ hsu) (by omega)
        · skip
          have c617 : (X_bt ks k) := c617
          refine T_p xr_30_26 xn_30 (pc' := 27) (ls' := [(5, .int (iI k)), (3, .long (X_st (-2) s)), (0, .ref 511), (1, .int (iI row)), (2, .int (iI ks))]) (st' := [.long (X_st (-2) s)]) rfl ?_
          refine T_p xr_30_27 xn_30 (pc' := 28) (ls' := [(5, .int (iI k)), (3, .long (X_st (-2) s)), (0, .ref 511), (1, .int (iI row)), (2, .int (iI ks))]) (st' := [.ref 511, .long (X_st (-2) s)]) rfl ?_
          refine T_get xr_30_28 hO511 rfl (v := .ref 513) rfl (pc' := 31) rfl ?_
          refine T_p xr_30_31 xn_30 (pc' := 32) (ls' := [(5, .int (iI k)), (3, .long (X_st (-2) s)), (0, .ref 511), (1, .int (iI row)), (2, .int (iI ks))]) (st' := [.int (iI row), .ref 513, .long (X_st (-2) s)]) rfl ?_
          refine T_p xr_30_32 xn_30 (pc' := 34) (ls' := [(5, .int (iI k)), (3, .long (X_st (-2) s)), (0, .ref 511), (1, .int (iI row)), (2, .int (iI ks))]) (st' := [.int (iI 30), .int (iI row), .ref 513, .long (X_st (-2) s)]) rfl ?_
          refine T_zimul xr_30_34 (z := row * 30) rfl (pc' := 35) rfl ?_
          refine T_p xr_30_35 xn_30 (pc' := 37) (ls' := [(5, .int (iI k)), (3, .long (X_st (-2) s)), (0, .ref 511), (1, .int (iI row)), (2, .int (iI ks))]) (st' := [.int (iI k), .int (iI (row * 30)), .ref 513, .long (X_st (-2) s)]) rfl ?_
          refine T_ziadd xr_30_37 (z := (row * 30) + k) rfl (pc' := 38) rfl ?_
          refine T_zlald xr_30_38 hA513 (pc' := 39) rfl ?_
          refine T_le (y := (X_st (-2) (F_ k))) (hF_ k (by omega) (by omega)) ?_
          refine T_cs xr_30_39 (by decide) xf_134.1 xn_134 (as := [.long (X_st (-2) s), .long (X_st (-2) (F_ k))]) (r := []) rfl (Nat.le_of_ble_eq_true rfl) (Nat.le_of_ble_eq_true rfl) (pc' := 42) rfl (ls' := [(0, .long (X_st (-2) s)), (2, .long (X_st (-2) (F_ k)))]) rfl ?_
          refine T_mono (c_plus sc S s (F_ k)) (fun v618 S619 h620 => ?_)
          rcases h620 with ⟨hv621, hf622⟩
          rw [hv621]
          rw [hf622]
          show X_T sc 30 (42, [(5, .int (iI k)), (3, .long (X_st (-2) s)), (0, .ref 511), (1, .int (iI row)), (2, .int (iI ks))], [.long (X_st (-2) (s + (F_ k)))], S) _
          refine T_p xr_30_42 xn_30 (pc' := 43) (ls' := [(3, .long (X_st (-2) (s + (F_ k)))), (5, .int (iI k)), (0, .ref 511), (1, .int (iI row)), (2, .int (iI ks))]) (st' := []) rfl ?_
          refine T_ziinc xr_30_43 xn_30 (a := k) (z := k + 1) rfl (Nat.le_of_ble_eq_true rfl) (by omega) (ls' := [(5, .int (iI (k + 1))), (3, .long (X_st (-2) (s + (F_ k)))), (0, .ref 511), (1, .int (iI row)), (2, .int (iI ks))]) rfl (pc' := 46) rfl ?_
          refine T_p xr_30_46 xn_30 (pc' := 5) (ls' := [(5, .int (iI (k + 1))), (3, .long (X_st (-2) (s + (F_ k)))), (0, .ref 511), (1, .int (iI row)), (2, .int (iI ks))]) (st' := []) rfl ?_
          exact ih607 (k + 1) (s + (F_ k))  (by omega) (by first | exact ((X_Su_if (p := fun k => X_bt ks k) (f := F_) (show (0 : Int) ≤ k by omega)).1 (by assumption)).symm ▸ (by rw [hsu]) | exact ((X_Su_if (p := fun k => X_bt ks k) (f := F_) (show (0 : Int) ≤ k by omega)).2 (by assumption)).symm ▸ hsu) (by omega)
  exact L606 (gw G + 1).toNat 0 0  (by omega) (X_Su_e (Int.le_refl 0)).symm (by omega)
