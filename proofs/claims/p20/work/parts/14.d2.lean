theorem xr_25_0 : X_row 25 0 = some (0, (.lconst 0, 1), (0, 0, 0)) := by decide +kernel
theorem xr_25_1 : X_row 25 1 = some (1, (.lstore_n 3, 1), (0, 0, 0)) := by decide +kernel
theorem xr_25_2 : X_row 25 2 = some (2, (.iconst 0, 1), (0, 0, 0)) := by decide +kernel
theorem xr_25_3 : X_row 25 3 = some (3, (.istore 5, 2), (0, 0, 0)) := by decide +kernel
theorem xr_25_5 : X_row 25 5 = some (5, (.iload 5, 2), (0, 0, 0)) := by decide +kernel
theorem xr_25_7 : X_row 25 7 = some (7, (.aload_n 0, 1), (0, 0, 0)) := by decide +kernel
theorem xr_25_8 : X_row 25 8 = some (8, (.getfield 32, 3), (1, 0, 22)) := by decide +kernel
theorem xr_25_11 : X_row 25 11 = some (11, (.getfield 48, 3), (0, 1, 13)) := by decide +kernel
theorem xr_25_14 : X_row 25 14 = some (14, (.if_icmp .ge 35, 3), (0, 0, 0)) := by decide +kernel
theorem xr_25_17 : X_row 25 17 = some (17, (.iload_n 2, 1), (0, 0, 0)) := by decide +kernel
theorem xr_25_18 : X_row 25 18 = some (18, (.iload 5, 2), (0, 0, 0)) := by decide +kernel
theorem xr_25_20 : X_row 25 20 = some (20, (.invokestatic 54, 3), (112, 29, 0)) := by decide +kernel
theorem xr_25_23 : X_row 25 23 = some (23, (.ifCond .eq 20, 3), (0, 0, 0)) := by decide +kernel
theorem xr_25_26 : X_row 25 26 = some (26, (.lload_n 3, 1), (0, 0, 0)) := by decide +kernel
theorem xr_25_27 : X_row 25 27 = some (27, (.aload_n 0, 1), (0, 0, 0)) := by decide +kernel
theorem xr_25_28 : X_row 25 28 = some (28, (.getfield 15, 3), (1, 3, 28)) := by decide +kernel
theorem xr_25_31 : X_row 25 31 = some (31, (.iload_n 1, 1), (0, 0, 0)) := by decide +kernel
theorem xr_25_32 : X_row 25 32 = some (32, (.bipush 11, 2), (0, 0, 0)) := by decide +kernel
theorem xr_25_34 : X_row 25 34 = some (34, (.imul, 1), (0, 0, 0)) := by decide +kernel
theorem xr_25_35 : X_row 25 35 = some (35, (.iload 5, 2), (0, 0, 0)) := by decide +kernel
theorem xr_25_37 : X_row 25 37 = some (37, (.iadd, 1), (0, 0, 0)) := by decide +kernel
theorem xr_25_38 : X_row 25 38 = some (38, (.laload, 1), (0, 0, 0)) := by decide +kernel
theorem xr_25_39 : X_row 25 39 = some (39, (.invokestatic 58, 3), (115, 17, 0)) := by decide +kernel
theorem xr_25_42 : X_row 25 42 = some (42, (.lstore_n 3, 1), (0, 0, 0)) := by decide +kernel
theorem xr_25_43 : X_row 25 43 = some (43, (.iinc 5 1, 3), (0, 0, 0)) := by decide +kernel
theorem xr_25_46 : X_row 25 46 = some (46, (.goto (-41), 3), (0, 0, 0)) := by decide +kernel
theorem xr_25_49 : X_row 25 49 = some (49, (.lload_n 3, 1), (0, 0, 0)) := by decide +kernel
theorem xr_25_50 : X_row 25 50 = some (50, (.lreturn, 1), (0, 0, 0)) := by decide +kernel
theorem xr_26_0 : X_row 26 0 = some (0, (.lconst 0, 1), (0, 0, 0)) := by decide +kernel
theorem xr_26_1 : X_row 26 1 = some (1, (.lstore_n 3, 1), (0, 0, 0)) := by decide +kernel
theorem xr_26_2 : X_row 26 2 = some (2, (.iconst 0, 1), (0, 0, 0)) := by decide +kernel
theorem xr_26_3 : X_row 26 3 = some (3, (.istore 5, 2), (0, 0, 0)) := by decide +kernel
theorem xr_26_5 : X_row 26 5 = some (5, (.iload 5, 2), (0, 0, 0)) := by decide +kernel
theorem xr_26_7 : X_row 26 7 = some (7, (.aload_n 0, 1), (0, 0, 0)) := by decide +kernel
theorem xr_26_8 : X_row 26 8 = some (8, (.getfield 32, 3), (1, 0, 22)) := by decide +kernel
theorem xr_26_11 : X_row 26 11 = some (11, (.getfield 62, 3), (0, 2, 15)) := by decide +kernel
theorem xr_26_14 : X_row 26 14 = some (14, (.if_icmp .ge 35, 3), (0, 0, 0)) := by decide +kernel
theorem xr_26_17 : X_row 26 17 = some (17, (.iload_n 2, 1), (0, 0, 0)) := by decide +kernel
theorem xr_26_18 : X_row 26 18 = some (18, (.iload 5, 2), (0, 0, 0)) := by decide +kernel
theorem xr_26_20 : X_row 26 20 = some (20, (.invokestatic 54, 3), (112, 29, 0)) := by decide +kernel
theorem xr_26_23 : X_row 26 23 = some (23, (.ifCond .eq 20, 3), (0, 0, 0)) := by decide +kernel
theorem xr_26_26 : X_row 26 26 = some (26, (.lload_n 3, 1), (0, 0, 0)) := by decide +kernel
theorem xr_26_27 : X_row 26 27 = some (27, (.aload_n 0, 1), (0, 0, 0)) := by decide +kernel
theorem xr_26_28 : X_row 26 28 = some (28, (.getfield 19, 3), (1, 4, 30)) := by decide +kernel
theorem xr_26_31 : X_row 26 31 = some (31, (.iload_n 1, 1), (0, 0, 0)) := by decide +kernel
theorem xr_26_32 : X_row 26 32 = some (32, (.bipush 30, 2), (0, 0, 0)) := by decide +kernel
theorem xr_26_34 : X_row 26 34 = some (34, (.imul, 1), (0, 0, 0)) := by decide +kernel
theorem xr_26_35 : X_row 26 35 = some (35, (.iload 5, 2), (0, 0, 0)) := by decide +kernel
theorem xr_26_37 : X_row 26 37 = some (37, (.iadd, 1), (0, 0, 0)) := by decide +kernel
theorem xr_26_38 : X_row 26 38 = some (38, (.laload, 1), (0, 0, 0)) := by decide +kernel
theorem xr_26_39 : X_row 26 39 = some (39, (.invokestatic 58, 3), (115, 17, 0)) := by decide +kernel
theorem xr_26_42 : X_row 26 42 = some (42, (.lstore_n 3, 1), (0, 0, 0)) := by decide +kernel
theorem xr_26_43 : X_row 26 43 = some (43, (.iinc 5 1, 3), (0, 0, 0)) := by decide +kernel
theorem xr_26_46 : X_row 26 46 = some (46, (.goto (-41), 3), (0, 0, 0)) := by decide +kernel
theorem xr_26_49 : X_row 26 49 = some (49, (.lload_n 3, 1), (0, 0, 0)) := by decide +kernel
theorem xr_26_50 : X_row 26 50 = some (50, (.lreturn, 1), (0, 0, 0)) := by decide +kernel
theorem xr_83_0 : X_row 83 0 = some (0, (.aload_n 0, 1), (0, 0, 0)) := by decide +kernel
theorem xr_83_1 : X_row 83 1 = some (1, (.iload_n 1, 1), (0, 0, 0)) := by decide +kernel
theorem xr_83_2 : X_row 83 2 = some (2, (.invokevirtual 41, 3), (84, 4, 0)) := by decide +kernel
theorem xr_83_5 : X_row 83 5 = some (5, (.iconst (-1), 1), (0, 0, 0)) := by decide +kernel
theorem xr_83_6 : X_row 83 6 = some (6, (.if_icmp .eq 7, 3), (0, 0, 0)) := by decide +kernel
theorem xr_83_9 : X_row 83 9 = some (9, (.iconst 1, 1), (0, 0, 0)) := by decide +kernel
theorem xr_83_10 : X_row 83 10 = some (10, (.goto 4, 3), (0, 0, 0)) := by decide +kernel
theorem xr_83_13 : X_row 83 13 = some (13, (.iconst 0, 1), (0, 0, 0)) := by decide +kernel
theorem xr_83_14 : X_row 83 14 = some (14, (.ireturn, 1), (0, 0, 0)) := by decide +kernel
theorem xr_84_0 : X_row 84 0 = some (0, (.iconst 0, 1), (0, 0, 0)) := by decide +kernel
theorem xr_84_1 : X_row 84 1 = some (1, (.istore_n 2, 1), (0, 0, 0)) := by decide +kernel
theorem xr_84_2 : X_row 84 2 = some (2, (.bipush 56, 2), (0, 0, 0)) := by decide +kernel
theorem xr_84_4 : X_row 84 4 = some (4, (.istore_n 3, 1), (0, 0, 0)) := by decide +kernel
theorem xr_84_5 : X_row 84 5 = some (5, (.iload_n 3, 1), (0, 0, 0)) := by decide +kernel
theorem xr_84_6 : X_row 84 6 = some (6, (.ifCond .lt 56, 3), (0, 0, 0)) := by decide +kernel
theorem xr_84_9 : X_row 84 9 = some (9, (.aload_n 0, 1), (0, 0, 0)) := by decide +kernel
theorem xr_84_10 : X_row 84 10 = some (10, (.getfield 15, 3), (6, 1, 4)) := by decide +kernel
theorem xr_84_13 : X_row 84 13 = some (13, (.iload_n 1, 1), (0, 0, 0)) := by decide +kernel
theorem xr_84_14 : X_row 84 14 = some (14, (.laload, 1), (0, 0, 0)) := by decide +kernel
theorem xr_84_15 : X_row 84 15 = some (15, (.iload_n 3, 1), (0, 0, 0)) := by decide +kernel
theorem xr_84_16 : X_row 84 16 = some (16, (.lshr, 1), (0, 0, 0)) := by decide +kernel
theorem xr_84_17 : X_row 84 17 = some (17, (.ldc2_w 44, 3), (255, 771, 0)) := by decide +kernel
theorem xr_84_20 : X_row 84 20 = some (20, (.land, 1), (0, 0, 0)) := by decide +kernel
theorem xr_84_21 : X_row 84 21 = some (21, (.l2i, 1), (0, 0, 0)) := by decide +kernel
theorem xr_84_22 : X_row 84 22 = some (22, (.istore 4, 2), (0, 0, 0)) := by decide +kernel
theorem xr_84_24 : X_row 84 24 = some (24, (.iload 4, 2), (0, 0, 0)) := by decide +kernel
theorem xr_84_26 : X_row 84 26 = some (26, (.ifCond .eq 30, 3), (0, 0, 0)) := by decide +kernel
theorem xr_84_29 : X_row 84 29 = some (29, (.iload 4, 2), (0, 0, 0)) := by decide +kernel
theorem xr_84_31 : X_row 84 31 = some (31, (.bipush 48, 2), (0, 0, 0)) := by decide +kernel
theorem xr_84_33 : X_row 84 33 = some (33, (.if_icmp .lt 10, 3), (0, 0, 0)) := by decide +kernel
theorem xr_84_36 : X_row 84 36 = some (36, (.iload 4, 2), (0, 0, 0)) := by decide +kernel
theorem xr_84_38 : X_row 84 38 = some (38, (.bipush 57, 2), (0, 0, 0)) := by decide +kernel
theorem xr_84_40 : X_row 84 40 = some (40, (.if_icmp .le 5, 3), (0, 0, 0)) := by decide +kernel
theorem xr_84_43 : X_row 84 43 = some (43, (.iconst (-1), 1), (0, 0, 0)) := by decide +kernel
theorem xr_84_44 : X_row 84 44 = some (44, (.ireturn, 1), (0, 0, 0)) := by decide +kernel
theorem xr_84_45 : X_row 84 45 = some (45, (.iload_n 2, 1), (0, 0, 0)) := by decide +kernel
theorem xr_84_46 : X_row 84 46 = some (46, (.bipush 10, 2), (0, 0, 0)) := by decide +kernel
theorem xr_84_48 : X_row 84 48 = some (48, (.imul, 1), (0, 0, 0)) := by decide +kernel
theorem xr_84_49 : X_row 84 49 = some (49, (.iload 4, 2), (0, 0, 0)) := by decide +kernel
theorem xr_84_51 : X_row 84 51 = some (51, (.iadd, 1), (0, 0, 0)) := by decide +kernel
theorem xr_84_52 : X_row 84 52 = some (52, (.bipush 48, 2), (0, 0, 0)) := by decide +kernel
theorem xr_84_54 : X_row 84 54 = some (54, (.isub, 1), (0, 0, 0)) := by decide +kernel
theorem xr_84_55 : X_row 84 55 = some (55, (.istore_n 2, 1), (0, 0, 0)) := by decide +kernel
theorem xr_84_56 : X_row 84 56 = some (56, (.iinc 3 (-8), 3), (0, 0, 0)) := by decide +kernel
theorem xr_84_59 : X_row 84 59 = some (59, (.goto (-54), 3), (0, 0, 0)) := by decide +kernel
theorem xr_84_62 : X_row 84 62 = some (62, (.iload_n 2, 1), (0, 0, 0)) := by decide +kernel
theorem xr_84_63 : X_row 84 63 = some (63, (.ireturn, 1), (0, 0, 0)) := by decide +kernel
theorem xr_85_0 : X_row 85 0 = some (0, (.iload_n 2, 1), (0, 0, 0)) := by decide +kernel
theorem xr_85_1 : X_row 85 1 = some (1, (.iload_n 1, 1), (0, 0, 0)) := by decide +kernel
theorem xr_85_2 : X_row 85 2 = some (2, (.isub, 1), (0, 0, 0)) := by decide +kernel
theorem xr_85_3 : X_row 85 3 = some (3, (.iconst 3, 1), (0, 0, 0)) := by decide +kernel
theorem xr_85_4 : X_row 85 4 = some (4, (.if_icmp .lt 35, 3), (0, 0, 0)) := by decide +kernel
theorem xr_85_7 : X_row 85 7 = some (7, (.aload_n 0, 1), (0, 0, 0)) := by decide +kernel
theorem xr_85_8 : X_row 85 8 = some (8, (.getfield 15, 3), (6, 1, 4)) := by decide +kernel
theorem xr_85_11 : X_row 85 11 = some (11, (.iload_n 1, 1), (0, 0, 0)) := by decide +kernel
theorem xr_85_12 : X_row 85 12 = some (12, (.laload, 1), (0, 0, 0)) := by decide +kernel
theorem xr_85_13 : X_row 85 13 = some (13, (.ldc2_w 46, 3), (40, 780, 0)) := by decide +kernel
theorem xr_85_16 : X_row 85 16 = some (16, (.lcmp, 1), (0, 0, 0)) := by decide +kernel
theorem xr_85_17 : X_row 85 17 = some (17, (.ifCond .ne 22, 3), (0, 0, 0)) := by decide +kernel
theorem xr_85_20 : X_row 85 20 = some (20, (.aload_n 0, 1), (0, 0, 0)) := by decide +kernel
theorem xr_85_21 : X_row 85 21 = some (21, (.getfield 15, 3), (6, 1, 4)) := by decide +kernel
theorem xr_85_24 : X_row 85 24 = some (24, (.iload_n 2, 1), (0, 0, 0)) := by decide +kernel
theorem xr_85_25 : X_row 85 25 = some (25, (.iconst 1, 1), (0, 0, 0)) := by decide +kernel
theorem xr_85_26 : X_row 85 26 = some (26, (.isub, 1), (0, 0, 0)) := by decide +kernel
theorem xr_85_27 : X_row 85 27 = some (27, (.laload, 1), (0, 0, 0)) := by decide +kernel
theorem xr_85_28 : X_row 85 28 = some (28, (.ldc2_w 48, 3), (41, 781, 0)) := by decide +kernel
theorem xr_85_31 : X_row 85 31 = some (31, (.lcmp, 1), (0, 0, 0)) := by decide +kernel
theorem xr_85_32 : X_row 85 32 = some (32, (.ifCond .ne 7, 3), (0, 0, 0)) := by decide +kernel
theorem xr_85_35 : X_row 85 35 = some (35, (.iconst 1, 1), (0, 0, 0)) := by decide +kernel
theorem xr_85_36 : X_row 85 36 = some (36, (.goto 4, 3), (0, 0, 0)) := by decide +kernel
theorem xr_85_39 : X_row 85 39 = some (39, (.iconst 0, 1), (0, 0, 0)) := by decide +kernel
theorem xr_85_40 : X_row 85 40 = some (40, (.ireturn, 1), (0, 0, 0)) := by decide +kernel
theorem xn_25 : X_nL 25 = 6 := by decide +kernel
theorem xf_25 : X_na 25 = 2 ∧ X_ci 25 = 1 ∧ X_rt 25 = (some .long) := by decide +kernel
theorem xn_26 : X_nL 26 = 6 := by decide +kernel
theorem xf_26 : X_na 26 = 2 ∧ X_ci 26 = 1 ∧ X_rt 26 = (some .long) := by decide +kernel
theorem xn_83 : X_nL 83 = 2 := by decide +kernel
theorem xf_83 : X_na 83 = 1 ∧ X_ci 83 = 6 ∧ X_rt 83 = (some .boolean) := by decide +kernel
theorem xn_84 : X_nL 84 = 5 := by decide +kernel
theorem xf_84 : X_na 84 = 1 ∧ X_ci 84 = 6 ∧ X_rt 84 = (some .int) := by decide +kernel
theorem xn_85 : X_nL 85 = 3 := by decide +kernel
theorem xf_85 : X_na 85 = 2 ∧ X_ci 85 = 6 ∧ X_rt 85 = (some .boolean) := by decide +kernel
theorem c_numberAt (sc : X_Sc) (S : X_S) (tn : Int) (G : X_G) (t : Int) (hO501 : S.1 501 = .inr (6, [.int (iI tn), .ref 502, .ref 503])) (hA502 : S.1 502 = .inl (.long, 30, .inr (.inl fun k : Nat => (gt G) (k : Int)))) (ht : 0 ≤ t ∧ t < 30) : X_T sc 84 (0, [(0, .ref 501), (1, .int (iI t))], [], S) (fun v S' => v = some (.int (iI (X_nv (gt G t)))) ∧ S' = S) := by
  refine X_QI (fun Q hQ => ?_)
  refine T_p xr_84_0 xn_84 (pc' := 1) (ls' := [(0, .ref 501), (1, .int (iI t))]) (st' := [.int (iI 0)]) rfl ?_
  refine T_p xr_84_1 xn_84 (pc' := 2) (ls' := [(2, .int (iI 0)), (0, .ref 501), (1, .int (iI t))]) (st' := []) rfl ?_
  refine T_p xr_84_2 xn_84 (pc' := 4) (ls' := [(2, .int (iI 0)), (0, .ref 501), (1, .int (iI t))]) (st' := [.int (iI 56)]) rfl ?_
  refine T_p xr_84_4 xn_84 (pc' := 5) (ls' := [(3, .int (iI 56)), (2, .int (iI 0)), (0, .ref 501), (1, .int (iI t))]) (st' := []) rfl ?_
  have L469 : ∀ (m471 : Nat) (s : Int) (v : Int) (m : Int) (hs : s = 56 - 8 * m) (hm : 0 ≤ m ∧ m ≤ 8) (hv : v = X_nvl (gt G t) m.toNat) (hvr : 0 ≤ v ∧ v ≤ 99999999) (hm472 : 9 - m < m471), X_T sc 84 (5, [(3, .int (iI s)), (2, .int (iI v)), (0, .ref 501), (1, .int (iI t))], [], S) Q := by
    intro m471
    induction m471 with
    | zero =>
      intro s v m hs hm hv hvr hm472
      exact (show False by omega).elim
    | succ m471 ih470 =>
      intro s v m hs hm hv hvr hm472
      refine T_p xr_84_5 xn_84 (pc' := 6) (ls' := [(3, .int (iI s)), (2, .int (iI v)), (0, .ref 501), (1, .int (iI t))]) (st' := [.int (iI s)]) rfl ?_
      refine T_zif_lt xr_84_6 (t := 62) (pc' := 9) rfl rfl (fun c474 => ?_) (fun c474 => ?_)
      · skip
        have c474 : s < 0 := c474
        refine T_p xr_84_62 xn_84 (pc' := 63) (ls' := [(3, .int (iI s)), (2, .int (iI v)), (0, .ref 501), (1, .int (iI t))]) (st' := [.int (iI v)]) rfl ?_
        refine T_iret xr_84_63 xf_84.2.2 rfl ?_
        refine hQ _ _ ?_
        exact ⟨by rw [show X_nv (gt G t) = v from (by rw [hv, show m.toNat = 8 by omega]; rfl)], rfl⟩
      · skip
        have c474 : ¬ (s < 0) := c474
        refine T_p xr_84_9 xn_84 (pc' := 10) (ls' := [(3, .int (iI s)), (2, .int (iI v)), (0, .ref 501), (1, .int (iI t))]) (st' := [.ref 501]) rfl ?_
        refine T_get xr_84_10 hO501 rfl (v := .ref 502) rfl (pc' := 13) rfl ?_
        refine T_p xr_84_13 xn_84 (pc' := 14) (ls' := [(3, .int (iI s)), (2, .int (iI v)), (0, .ref 501), (1, .int (iI t))]) (st' := [.int (iI t), .ref 502]) rfl ?_
        refine T_zlald xr_84_14 hA502 (pc' := 15) rfl ?_
        refine T_p xr_84_15 xn_84 (pc' := 16) (ls' := [(3, .int (iI s)), (2, .int (iI v)), (0, .ref 501), (1, .int (iI t))]) (st' := [.int (iI s), .long ((gt G) t)]) rfl ?_
        refine T_p xr_84_16 xn_84 (pc' := 17) (ls' := [(3, .int (iI s)), (2, .int (iI v)), (0, .ref 501), (1, .int (iI t))]) (st' := [.long (((gt G) t) >>> ((iI s).toInt64 &&& 63))]) rfl ?_
        refine T_p xr_84_17 xn_84 (pc' := 20) (ls' := [(3, .int (iI s)), (2, .int (iI v)), (0, .ref 501), (1, .int (iI t))]) (st' := [.long (iL 255), .long (((gt G) t) >>> ((iI s).toInt64 &&& 63))]) rfl ?_
        refine T_p xr_84_20 xn_84 (pc' := 21) (ls' := [(3, .int (iI s)), (2, .int (iI v)), (0, .ref 501), (1, .int (iI t))]) (st' := [.long ((((gt G) t) >>> ((iI s).toInt64 &&& 63)) &&& (iL 255))]) rfl ?_
        refine T_zop xr_84_21 (pc' := 22) rfl (z := ((((((gt G) t) >>> ((iI s).toInt64 &&& 63)) &&& (iL 255)) : Int64).toInt32).toInt) (iI_of _) ?_
        refine T_ie (y := iI (X_tb (gt G t) s)) (by rfl) ?_
        have htb := X_tb_r (gt G t) s
        have hgo := X_nv_go (by omega) hs hv (show ¬ v = -1 by omega)
        refine T_p xr_84_22 xn_84 (pc' := 24) (ls' := [(4, .int (iI (X_tb (gt G t) s))), (3, .int (iI s)), (2, .int (iI v)), (0, .ref 501), (1, .int (iI t))]) (st' := []) rfl ?_
        refine T_p xr_84_24 xn_84 (pc' := 26) (ls' := [(4, .int (iI (X_tb (gt G t) s))), (3, .int (iI s)), (2, .int (iI v)), (0, .ref 501), (1, .int (iI t))]) (st' := [.int (iI (X_tb (gt G t) s))]) rfl ?_
        refine T_zif_eq xr_84_26 (t := 56) (pc' := 29) rfl rfl (fun c475 => ?_) (fun c475 => ?_)
        · skip
          have c475 : (X_tb (gt G t) s) = 0 := c475
          refine T_ziinc xr_84_56 xn_84 (a := s) (z := s - 8) rfl (Nat.le_of_ble_eq_true rfl) (by omega) (ls' := [(3, .int (iI (s - 8))), (4, .int (iI (X_tb (gt G t) s))), (2, .int (iI v)), (0, .ref 501), (1, .int (iI t))]) rfl (pc' := 59) rfl ?_
          refine T_p xr_84_59 xn_84 (pc' := 5) (ls' := [(3, .int (iI (s - 8))), (4, .int (iI (X_tb (gt G t) s))), (2, .int (iI v)), (0, .ref 501), (1, .int (iI t))]) (st' := []) rfl ?_
          refine T_sub (ls := [(3, .int (iI (s - 8))), (2, .int (iI v)), (0, .ref 501), (1, .int (iI t))]) ⟨rfl, rfl, rfl, rfl, trivial⟩ rfl rfl ?_
          exact ih470 (s - 8) v (m + 1)  (by omega) (by omega) (by first | exact (hgo.1 (by omega)).symm | exact (hgo.2.2 (by omega) (by omega) (by omega)).symm) (by
                have hr := X_nvl_r (gt G t) (m + 1).toNat (by omega)
                have hp : (10 : Nat) ^ (m + 1).toNat ≤ 10 ^ 8 := Nat.pow_le_pow_right (by decide) (by omega)
                have h8 : (10 : Nat) ^ 8 = 100000000 := by decide
                first | (have h := hgo.1 (by omega); omega) | (have h := hgo.2.2 (by omega) (by omega) (by omega); omega)) (by omega)
        · skip
          have c475 : ¬ ((X_tb (gt G t) s) = 0) := c475
          refine T_p xr_84_29 xn_84 (pc' := 31) (ls' := [(4, .int (iI (X_tb (gt G t) s))), (3, .int (iI s)), (2, .int (iI v)), (0, .ref 501), (1, .int (iI t))]) (st' := [.int (iI (X_tb (gt G t) s))]) rfl ?_
          refine T_p xr_84_31 xn_84 (pc' := 33) (ls' := [(4, .int (iI (X_tb (gt G t) s))), (3, .int (iI s)), (2, .int (iI v)), (0, .ref 501), (1, .int (iI t))]) (st' := [.int (iI 48), .int (iI (X_tb (gt G t) s))]) rfl ?_
          refine T_zicmp_lt xr_84_33 (t := 43) (pc' := 36) rfl rfl (fun c476 => ?_) (fun c476 => ?_)
          · skip
            have c476 : (X_tb (gt G t) s) < 48 := c476
            refine T_p xr_84_43 xn_84 (pc' := 44) (ls' := [(4, .int (iI (X_tb (gt G t) s))), (3, .int (iI s)), (2, .int (iI v)), (0, .ref 501), (1, .int (iI t))]) (st' := [.int (iI (-1))]) rfl ?_
            refine T_iret xr_84_44 xf_84.2.2 rfl ?_
            refine hQ _ _ ?_
            exact ⟨by rw [show X_nv (gt G t) = -1 from X_nv_no (m := m + 1) (by omega) (hgo.2.1 (by omega) (by omega))], rfl⟩
          · skip
            have c476 : ¬ ((X_tb (gt G t) s) < 48) := c476
            refine T_p xr_84_36 xn_84 (pc' := 38) (ls' := [(4, .int (iI (X_tb (gt G t) s))), (3, .int (iI s)), (2, .int (iI v)), (0, .ref 501), (1, .int (iI t))]) (st' := [.int (iI (X_tb (gt G t) s))]) rfl ?_
            refine T_p xr_84_38 xn_84 (pc' := 40) (ls' := [(4, .int (iI (X_tb (gt G t) s))), (3, .int (iI s)), (2, .int (iI v)), (0, .ref 501), (1, .int (iI t))]) (st' := [.int (iI 57), .int (iI (X_tb (gt G t) s))]) rfl ?_
            refine T_zicmp_le xr_84_40 (t := 45) (pc' := 43) rfl rfl (fun c477 => ?_) (fun c477 => ?_)
            · skip
              have c477 : (X_tb (gt G t) s) ≤ 57 := c477
              refine T_p xr_84_45 xn_84 (pc' := 46) (ls' := [(4, .int (iI (X_tb (gt G t) s))), (3, .int (iI s)), (2, .int (iI v)), (0, .ref 501), (1, .int (iI t))]) (st' := [.int (iI v)]) rfl ?_
              refine T_p xr_84_46 xn_84 (pc' := 48) (ls' := [(4, .int (iI (X_tb (gt G t) s))), (3, .int (iI s)), (2, .int (iI v)), (0, .ref 501), (1, .int (iI t))]) (st' := [.int (iI 10), .int (iI v)]) rfl ?_
              refine T_zimul xr_84_48 (z := v * 10) rfl (pc' := 49) rfl ?_
              refine T_p xr_84_49 xn_84 (pc' := 51) (ls' := [(4, .int (iI (X_tb (gt G t) s))), (3, .int (iI s)), (2, .int (iI v)), (0, .ref 501), (1, .int (iI t))]) (st' := [.int (iI (X_tb (gt G t) s)), .int (iI (v * 10))]) rfl ?_
              refine T_ziadd xr_84_51 (z := (v * 10) + (X_tb (gt G t) s)) rfl (pc' := 52) rfl ?_
              refine T_p xr_84_52 xn_84 (pc' := 54) (ls' := [(4, .int (iI (X_tb (gt G t) s))), (3, .int (iI s)), (2, .int (iI v)), (0, .ref 501), (1, .int (iI t))]) (st' := [.int (iI 48), .int (iI ((v * 10) + (X_tb (gt G t) s)))]) rfl ?_
              refine T_zisub xr_84_54 (z := ((v * 10) + (X_tb (gt G t) s)) - 48) rfl (pc' := 55) rfl ?_
              refine T_p xr_84_55 xn_84 (pc' := 56) (ls' := [(2, .int (iI (((v * 10) + (X_tb (gt G t) s)) - 48))), (4, .int (iI (X_tb (gt G t) s))), (3, .int (iI s)), (0, .ref 501), (1, .int (iI t))]) (st' := []) rfl ?_
              refine T_ziinc xr_84_56 xn_84 (a := s) (z := s - 8) rfl (Nat.le_of_ble_eq_true rfl) (by omega) (ls' := [(3, .int (iI (s - 8))), (2, .int (iI (((v * 10) + (X_tb (gt G t) s)) - 48))), (4, .int (iI (X_tb (gt G t) s))), (0, .ref 501), (1, .int (iI t))]) rfl (pc' := 59) rfl ?_
              refine T_p xr_84_59 xn_84 (pc' := 5) (ls' := [(3, .int (iI (s - 8))), (2, .int (iI (((v * 10) + (X_tb (gt G t) s)) - 48))), (4, .int (iI (X_tb (gt G t) s))), (0, .ref 501), (1, .int (iI t))]) (st' := []) rfl ?_
              refine T_sub (ls := [(3, .int (iI (s - 8))), (2, .int (iI (((v * 10) + (X_tb (gt G t) s)) - 48))), (0, .ref 501), (1, .int (iI t))]) ⟨rfl, rfl, rfl, rfl, trivial⟩ rfl rfl ?_
              exact ih470 (s - 8) (((v * 10) + (X_tb (gt G t) s)) - 48) (m + 1)  (by omega) (by omega) (by first | exact (hgo.1 (by omega)).symm | exact (hgo.2.2 (by omega) (by omega) (by omega)).symm) (by
                    have hr := X_nvl_r (gt G t) (m + 1).toNat (by omega)
                    have hp : (10 : Nat) ^ (m + 1).toNat ≤ 10 ^ 8 := Nat.pow_le_pow_right (by decide) (by omega)
                    have h8 : (10 : Nat) ^ 8 = 100000000 := by decide
                    first | (have h := hgo.1 (by omega); omega) | (have h := hgo.2.2 (by omega) (by omega) (by omega); omega)) (by omega)
            · skip
              have c477 : ¬ ((X_tb (gt G t) s) ≤ 57) := c477
              refine T_p xr_84_43 xn_84 (pc' := 44) (ls' := [(4, .int (iI (X_tb (gt G t) s))), (3, .int (iI s)), (2, .int (iI v)), (0, .ref 501), (1, .int (iI t))]) (st' := [.int (iI (-1))]) rfl ?_
              refine T_iret xr_84_44 xf_84.2.2 rfl ?_
              refine hQ _ _ ?_
              exact ⟨by rw [show X_nv (gt G t) = -1 from X_nv_no (m := m + 1) (by omega) (hgo.2.1 (by omega) (by omega))], rfl⟩
  exact L469 ((9 : Int) + 1).toNat 56 0 0  (by omega) (by omega) rfl (by omega) (by omega)
theorem c_sIsNumber (sc : X_Sc) (S : X_S) (tn : Int) (G : X_G) (t : Int) (hO501 : S.1 501 = .inr (6, [.int (iI tn), .ref 502, .ref 503])) (hA502 : S.1 502 = .inl (.long, 30, .inr (.inl fun k : Nat => (gt G) (k : Int)))) (ht : 0 ≤ t ∧ t < 30) : X_T sc 83 (0, [(0, .ref 501), (1, .int (iI t))], [], S) (fun v S' => v = some (.int (iI (bI (0 ≤ X_nv (gt G t))))) ∧ S' = S) := by
  refine X_QI (fun Q hQ => ?_)
  refine T_p xr_83_0 xn_83 (pc' := 1) (ls' := [(0, .ref 501), (1, .int (iI t))]) (st' := [.ref 501]) rfl ?_
  refine T_p xr_83_1 xn_83 (pc' := 2) (ls' := [(0, .ref 501), (1, .int (iI t))]) (st' := [.int (iI t), .ref 501]) rfl ?_
  refine T_cv (S := S) (q := 501) xr_83_2 xf_84.1 xf_84.2.1 xn_84 (as := [.int (iI t)]) (r := []) rfl hO501 (Nat.le_of_ble_eq_true rfl) (Nat.le_of_ble_eq_true rfl) (pc' := 5) rfl (ls' := [(0, .ref 501), (1, .int (iI t))]) rfl ?_
  refine T_mono (c_numberAt sc S tn G t hO501 hA502 (by omega)) (fun v478 S479 h480 => ?_)
  rcases h480 with ⟨hv481, hf482⟩
  rw [hv481]
  rw [hf482]
  have hnv483 := X_nv_r (gt G t)
  show X_T sc 83 (5, [(0, .ref 501), (1, .int (iI t))], [.int (iI (X_nv (gt G t)))], S) _
  refine T_p xr_83_5 xn_83 (pc' := 6) (ls' := [(0, .ref 501), (1, .int (iI t))]) (st' := [.int (iI (-1)), .int (iI (X_nv (gt G t)))]) rfl ?_
  refine T_zicmp_eq xr_83_6 (t := 13) (pc' := 9) rfl rfl (fun c484 => ?_) (fun c484 => ?_)
  · skip
    have c484 : (X_nv (gt G t)) = (-1) := c484
    refine T_p xr_83_13 xn_83 (pc' := 14) (ls' := [(0, .ref 501), (1, .int (iI t))]) (st' := [.int (iI 0)]) rfl ?_
    refine T_iret xr_83_14 xf_83.2.2 (by decide) ?_
    refine hQ _ _ ?_
    exact ⟨by rw [bI_f (by omega)], rfl⟩
  · skip
    have c484 : ¬ ((X_nv (gt G t)) = (-1)) := c484
    refine T_p xr_83_9 xn_83 (pc' := 10) (ls' := [(0, .ref 501), (1, .int (iI t))]) (st' := [.int (iI 1)]) rfl ?_
    refine T_p xr_83_10 xn_83 (pc' := 14) (ls' := [(0, .ref 501), (1, .int (iI t))]) (st' := [.int (iI 1)]) rfl ?_
    refine T_iret xr_83_14 xf_83.2.2 (by decide) ?_
    refine hQ _ _ ?_
    exact ⟨by rw [bI_t (by omega)], rfl⟩
theorem c_isBracketed (sc : X_Sc) (S : X_S) (tn : Int) (G : X_G) (i : Int) (j : Int) (hO501 : S.1 501 = .inr (6, [.int (iI tn), .ref 502, .ref 503])) (hA502 : S.1 502 = .inl (.long, 30, .inr (.inl fun k : Nat => (gt G) (k : Int)))) (hij : 0 ≤ i ∧ i < j ∧ j ≤ 30) : X_T sc 85 (0, [(0, .ref 501), (1, .int (iI i)), (2, .int (iI j))], [], S) (fun v S' => v = some (.int (iI (bI (X_brk G i j)))) ∧ S' = S) := by
  refine X_QI (fun Q hQ => ?_)
  refine T_p xr_85_0 xn_85 (pc' := 1) (ls' := [(0, .ref 501), (1, .int (iI i)), (2, .int (iI j))]) (st' := [.int (iI j)]) rfl ?_
  refine T_p xr_85_1 xn_85 (pc' := 2) (ls' := [(0, .ref 501), (1, .int (iI i)), (2, .int (iI j))]) (st' := [.int (iI i), .int (iI j)]) rfl ?_
  refine T_zisub xr_85_2 (z := j - i) rfl (pc' := 3) rfl ?_
  refine T_p xr_85_3 xn_85 (pc' := 4) (ls' := [(0, .ref 501), (1, .int (iI i)), (2, .int (iI j))]) (st' := [.int (iI 3), .int (iI (j - i))]) rfl ?_
  refine T_zicmp_lt xr_85_4 (t := 39) (pc' := 7) rfl rfl (fun c485 => ?_) (fun c485 => ?_)
  · skip
    have c485 : (j - i) < 3 := c485
    refine T_p xr_85_39 xn_85 (pc' := 40) (ls' := [(0, .ref 501), (1, .int (iI i)), (2, .int (iI j))]) (st' := [.int (iI 0)]) rfl ?_
    refine T_iret xr_85_40 xf_85.2.2 (by decide) ?_
    refine hQ _ _ ?_
    exact ⟨by rw [bI_f (fun z => by first | exact absurd z.1 (by omega) | exact absurd z.2.1 (by assumption) | exact absurd z.2.2 (by assumption))], rfl⟩
  · skip
    have c485 : ¬ ((j - i) < 3) := c485
    refine T_p xr_85_7 xn_85 (pc' := 8) (ls' := [(0, .ref 501), (1, .int (iI i)), (2, .int (iI j))]) (st' := [.ref 501]) rfl ?_
    refine T_get xr_85_8 hO501 rfl (v := .ref 502) rfl (pc' := 11) rfl ?_
    refine T_p xr_85_11 xn_85 (pc' := 12) (ls' := [(0, .ref 501), (1, .int (iI i)), (2, .int (iI j))]) (st' := [.int (iI i), .ref 502]) rfl ?_
    refine T_zlald xr_85_12 hA502 (pc' := 13) rfl ?_
    refine T_p xr_85_13 xn_85 (pc' := 16) (ls' := [(0, .ref 501), (1, .int (iI i)), (2, .int (iI j))]) (st' := [.long (iL 40), .long ((gt G) i)]) rfl ?_
    refine T_lc_ne xr_85_16 xr_85_17 (t := 39) (pc' := 20) rfl rfl (fun c486 => ?_) (fun c486 => ?_)
    · skip
      have c486 : ¬ ((gt G) i) = (iL 40) := c486
      refine T_p xr_85_39 xn_85 (pc' := 40) (ls' := [(0, .ref 501), (1, .int (iI i)), (2, .int (iI j))]) (st' := [.int (iI 0)]) rfl ?_
      refine T_iret xr_85_40 xf_85.2.2 (by decide) ?_
      refine hQ _ _ ?_
      exact ⟨by rw [bI_f (fun z => by first | exact absurd z.1 (by omega) | exact absurd z.2.1 (by assumption) | exact absurd z.2.2 (by assumption))], rfl⟩
    · skip
      have c486 : ¬ (¬ ((gt G) i) = (iL 40)) := c486
      refine T_p xr_85_20 xn_85 (pc' := 21) (ls' := [(0, .ref 501), (1, .int (iI i)), (2, .int (iI j))]) (st' := [.ref 501]) rfl ?_
      refine T_get xr_85_21 hO501 rfl (v := .ref 502) rfl (pc' := 24) rfl ?_
      refine T_p xr_85_24 xn_85 (pc' := 25) (ls' := [(0, .ref 501), (1, .int (iI i)), (2, .int (iI j))]) (st' := [.int (iI j), .ref 502]) rfl ?_
      refine T_p xr_85_25 xn_85 (pc' := 26) (ls' := [(0, .ref 501), (1, .int (iI i)), (2, .int (iI j))]) (st' := [.int (iI 1), .int (iI j), .ref 502]) rfl ?_
      refine T_zisub xr_85_26 (z := j - 1) rfl (pc' := 27) rfl ?_
      refine T_zlald xr_85_27 hA502 (pc' := 28) rfl ?_
      refine T_p xr_85_28 xn_85 (pc' := 31) (ls' := [(0, .ref 501), (1, .int (iI i)), (2, .int (iI j))]) (st' := [.long (iL 41), .long ((gt G) (j - 1))]) rfl ?_
      refine T_lc_ne xr_85_31 xr_85_32 (t := 39) (pc' := 35) rfl rfl (fun c487 => ?_) (fun c487 => ?_)
      · skip
        have c487 : ¬ ((gt G) (j - 1)) = (iL 41) := c487
        refine T_p xr_85_39 xn_85 (pc' := 40) (ls' := [(0, .ref 501), (1, .int (iI i)), (2, .int (iI j))]) (st' := [.int (iI 0)]) rfl ?_
        refine T_iret xr_85_40 xf_85.2.2 (by decide) ?_
        refine hQ _ _ ?_
        exact ⟨by rw [bI_f (fun z => by first | exact absurd z.1 (by omega) | exact absurd z.2.1 (by assumption) | exact absurd z.2.2 (by assumption))], rfl⟩
      · skip
        have c487 : ¬ (¬ ((gt G) (j - 1)) = (iL 41)) := c487
        refine T_p xr_85_35 xn_85 (pc' := 36) (ls' := [(0, .ref 501), (1, .int (iI i)), (2, .int (iI j))]) (st' := [.int (iI 1)]) rfl ?_
        refine T_p xr_85_36 xn_85 (pc' := 40) (ls' := [(0, .ref 501), (1, .int (iI i)), (2, .int (iI j))]) (st' := [.int (iI 1)]) rfl ?_
        refine T_iret xr_85_40 xf_85.2.2 (by decide) ?_
        refine hQ _ _ ?_
        exact ⟨by rw [bI_t ⟨by omega, by first | assumption | exact Classical.not_not.mp (by assumption) | exact Int64.not_lt.mpr (by assumption) | exact Int64.not_le.mp (by assumption), by first | assumption | exact Classical.not_not.mp (by assumption) | exact Int64.not_lt.mpr (by assumption) | exact Int64.not_le.mp (by assumption)⟩], rfl⟩
theorem c_sumK (sc : X_Sc) (S : X_S) (oK : Int → Int64) (B : Nat) (rc : Int) (rn : Int → Int64) (kn : Int → Int64) (G : X_G) (tn : Int) (fl : Int) (row : Int) (ks : Int) (F_ : Int → Nat) (hO511 : S.1 511 = .inr (1, [.ref B, .ref 501, .int (iI fl), .ref 512, .ref 513, .ref 514, .ref 515, .ref 516])) (hA512 : S.1 512 = .inl (.long, 5115, .inr (.inl fun k : Nat => oK (k : Int)))) (hB : B = 4 ∨ B = 250) (hb : C_bk S B rc (gk G) (gw G) rn (gl G) kn (ga G)) (hs : C_ws S B (gD G) (gW G)) (hG : X_Gok G) (hrow : 0 ≤ row ∧ row ≤ 464) (hF_ : ∀ k, 0 ≤ k → k < gk G → oK (row * 11 + k) = X_st (-2) (F_ k)) : X_T sc 25 (0, [(0, .ref 511), (1, .int (iI row)), (2, .int (iI ks))], [], S) (fun v S' => v = some (.long (X_st (-2) (X_Su (fun k => X_if (X_bt ks k) (F_ k)) 0 (gk G)))) ∧ S' = S) := by
  obtain ⟨hb0, hb1, hb2, hb3, hb4, ⟨f, hb5, hf⟩, ⟨hrc, hrcb⟩, ⟨hkc, hkcb⟩, ⟨hwc, hwcb⟩⟩ := id hb
  refine X_QI (fun Q hQ => ?_)
  refine T_p xr_25_0 xn_25 (pc' := 1) (ls' := [(0, .ref 511), (1, .int (iI row)), (2, .int (iI ks))]) (st' := [.long (iL 0)]) rfl ?_
  refine T_p xr_25_1 xn_25 (pc' := 2) (ls' := [(3, .long (iL 0)), (0, .ref 511), (1, .int (iI row)), (2, .int (iI ks))]) (st' := []) rfl ?_
  refine T_p xr_25_2 xn_25 (pc' := 3) (ls' := [(3, .long (iL 0)), (0, .ref 511), (1, .int (iI row)), (2, .int (iI ks))]) (st' := [.int (iI 0)]) rfl ?_
  refine T_p xr_25_3 xn_25 (pc' := 5) (ls' := [(5, .int (iI 0)), (3, .long (iL 0)), (0, .ref 511), (1, .int (iI row)), (2, .int (iI ks))]) (st' := []) rfl ?_
  have L488 : ∀ (m490 : Nat) (k : Int) (s : Nat) (hk : 0 ≤ k ∧ k ≤ gk G) (hsu : s = X_Su (fun k => X_if (X_bt ks k) (F_ k)) 0 k) (hm491 : gk G - k < m490), X_T sc 25 (5, [(5, .int (iI k)), (3, .long (X_st (-2) s)), (0, .ref 511), (1, .int (iI row)), (2, .int (iI ks))], [], S) Q := by
    intro m490
    induction m490 with
    | zero =>
      intro k s hk hsu hm491
      exact (show False by omega).elim
    | succ m490 ih489 =>
      intro k s hk hsu hm491
      refine T_p xr_25_5 xn_25 (pc' := 7) (ls' := [(5, .int (iI k)), (3, .long (X_st (-2) s)), (0, .ref 511), (1, .int (iI row)), (2, .int (iI ks))]) (st' := [.int (iI k)]) rfl ?_
      refine T_p xr_25_7 xn_25 (pc' := 8) (ls' := [(5, .int (iI k)), (3, .long (X_st (-2) s)), (0, .ref 511), (1, .int (iI row)), (2, .int (iI ks))]) (st' := [.ref 511, .int (iI k)]) rfl ?_
      refine T_get xr_25_8 hO511 rfl (v := .ref B) rfl (pc' := 11) rfl ?_
      refine T_get xr_25_11 hb0 rfl (v := .int (iI (gk G))) rfl (pc' := 14) rfl ?_
      refine T_zicmp_ge xr_25_14 (t := 49) (pc' := 17) rfl rfl (fun c493 => ?_) (fun c493 => ?_)
      · skip
        have c493 : (gk G) ≤ k := c493
        refine T_p xr_25_49 xn_25 (pc' := 50) (ls' := [(5, .int (iI k)), (3, .long (X_st (-2) s)), (0, .ref 511), (1, .int (iI row)), (2, .int (iI ks))]) (st' := [.long (X_st (-2) s)]) rfl ?_
        refine T_lret xr_25_50 xf_25.2.2 rfl ?_
        refine hQ _ _ ?_
        exact ⟨by rw [hsu, show k = gk G by omega], rfl⟩
      · skip
        have c493 : ¬ ((gk G) ≤ k) := c493
        refine T_p xr_25_17 xn_25 (pc' := 18) (ls' := [(5, .int (iI k)), (3, .long (X_st (-2) s)), (0, .ref 511), (1, .int (iI row)), (2, .int (iI ks))]) (st' := [.int (iI ks)]) rfl ?_
        refine T_p xr_25_18 xn_25 (pc' := 20) (ls' := [(5, .int (iI k)), (3, .long (X_st (-2) s)), (0, .ref 511), (1, .int (iI row)), (2, .int (iI ks))]) (st' := [.int (iI k), .int (iI ks)]) rfl ?_
        refine T_cs xr_25_20 (by decide) xf_112.1 xn_112 (as := [.int (iI ks), .int (iI k)]) (r := []) rfl (Nat.le_of_ble_eq_true rfl) (Nat.le_of_ble_eq_true rfl) (pc' := 23) rfl (ls' := [(0, .int (iI ks)), (1, .int (iI k))]) rfl ?_
        refine T_mono (c_hasBit sc S ks k) (fun v495 S496 h494 => ?_)
        obtain ⟨h497, h498⟩ := h494
        rw [h497, h498]
        show X_T sc 25 (23, [(5, .int (iI k)), (3, .long (X_st (-2) s)), (0, .ref 511), (1, .int (iI row)), (2, .int (iI ks))], [.int (iI (bI (X_bt ks k)))], S) _
        refine T_bif_eq xr_25_23 (t := 43) (pc' := 26) rfl rfl (fun c499 => ?_) (fun c499 => ?_)
        · skip
          have c499 : ¬ (X_bt ks k) := c499
          refine T_ziinc xr_25_43 xn_25 (a := k) (z := k + 1) rfl (Nat.le_of_ble_eq_true rfl) (by omega) (ls' := [(5, .int (iI (k + 1))), (3, .long (X_st (-2) s)), (0, .ref 511), (1, .int (iI row)), (2, .int (iI ks))]) rfl (pc' := 46) rfl ?_
          refine T_p xr_25_46 xn_25 (pc' := 5) (ls' := [(5, .int (iI (k + 1))), (3, .long (X_st (-2) s)), (0, .ref 511), (1, .int (iI row)), (2, .int (iI ks))]) (st' := []) rfl ?_
          exact ih489 (k + 1) s  (by omega) (by first | exact ((X_Su_if (p := fun k => X_bt ks k) (f := F_) (show (0 : Int) ≤ k by omega)).1 (by assumption)).symm ▸ (by rw [hsu]) | exact ((X_Su_if (p := fun k => X_bt ks k) (f := F_) (show (0 : Int) ≤ k by omega)).2 (by assumption)).symm ▸ hsu) (by omega)
        · skip
          have c499 : (X_bt ks k) := c499
          refine T_p xr_25_26 xn_25 (pc' := 27) (ls' := [(5, .int (iI k)), (3, .long (X_st (-2) s)), (0, .ref 511), (1, .int (iI row)), (2, .int (iI ks))]) (st' := [.long (X_st (-2) s)]) rfl ?_
          refine T_p xr_25_27 xn_25 (pc' := 28) (ls' := [(5, .int (iI k)), (3, .long (X_st (-2) s)), (0, .ref 511), (1, .int (iI row)), (2, .int (iI ks))]) (st' := [.ref 511, .long (X_st (-2) s)]) rfl ?_
          refine T_get xr_25_28 hO511 rfl (v := .ref 512) rfl (pc' := 31) rfl ?_
          refine T_p xr_25_31 xn_25 (pc' := 32) (ls' := [(5, .int (iI k)), (3, .long (X_st (-2) s)), (0, .ref 511), (1, .int (iI row)), (2, .int (iI ks))]) (st' := [.int (iI row), .ref 512, .long (X_st (-2) s)]) rfl ?_
          refine T_p xr_25_32 xn_25 (pc' := 34) (ls' := [(5, .int (iI k)), (3, .long (X_st (-2) s)), (0, .ref 511), (1, .int (iI row)), (2, .int (iI ks))]) (st' := [.int (iI 11), .int (iI row), .ref 512, .long (X_st (-2) s)]) rfl ?_
          refine T_zimul xr_25_34 (z := row * 11) rfl (pc' := 35) rfl ?_
          refine T_p xr_25_35 xn_25 (pc' := 37) (ls' := [(5, .int (iI k)), (3, .long (X_st (-2) s)), (0, .ref 511), (1, .int (iI row)), (2, .int (iI ks))]) (st' := [.int (iI k), .int (iI (row * 11)), .ref 512, .long (X_st (-2) s)]) rfl ?_
          refine T_ziadd xr_25_37 (z := (row * 11) + k) rfl (pc' := 38) rfl ?_
          refine T_zlald xr_25_38 hA512 (pc' := 39) rfl ?_
          refine T_le (y := (X_st (-2) (F_ k))) (hF_ k (by omega) (by omega)) ?_
          refine T_cs xr_25_39 (by decide) xf_115.1 xn_115 (as := [.long (X_st (-2) s), .long (X_st (-2) (F_ k))]) (r := []) rfl (Nat.le_of_ble_eq_true rfl) (Nat.le_of_ble_eq_true rfl) (pc' := 42) rfl (ls' := [(0, .long (X_st (-2) s)), (2, .long (X_st (-2) (F_ k)))]) rfl ?_
          refine T_mono (c_plus sc S s (F_ k)) (fun v500 S501 h502 => ?_)
          rcases h502 with ⟨hv503, hf504⟩
          rw [hv503]
          rw [hf504]
          show X_T sc 25 (42, [(5, .int (iI k)), (3, .long (X_st (-2) s)), (0, .ref 511), (1, .int (iI row)), (2, .int (iI ks))], [.long (X_st (-2) (s + (F_ k)))], S) _
          refine T_p xr_25_42 xn_25 (pc' := 43) (ls' := [(3, .long (X_st (-2) (s + (F_ k)))), (5, .int (iI k)), (0, .ref 511), (1, .int (iI row)), (2, .int (iI ks))]) (st' := []) rfl ?_
          refine T_ziinc xr_25_43 xn_25 (a := k) (z := k + 1) rfl (Nat.le_of_ble_eq_true rfl) (by omega) (ls' := [(5, .int (iI (k + 1))), (3, .long (X_st (-2) (s + (F_ k)))), (0, .ref 511), (1, .int (iI row)), (2, .int (iI ks))]) rfl (pc' := 46) rfl ?_
          refine T_p xr_25_46 xn_25 (pc' := 5) (ls' := [(5, .int (iI (k + 1))), (3, .long (X_st (-2) (s + (F_ k)))), (0, .ref 511), (1, .int (iI row)), (2, .int (iI ks))]) (st' := []) rfl ?_
          exact ih489 (k + 1) (s + (F_ k))  (by omega) (by first | exact ((X_Su_if (p := fun k => X_bt ks k) (f := F_) (show (0 : Int) ≤ k by omega)).1 (by assumption)).symm ▸ (by rw [hsu]) | exact ((X_Su_if (p := fun k => X_bt ks k) (f := F_) (show (0 : Int) ≤ k by omega)).2 (by assumption)).symm ▸ hsu) (by omega)
  exact L488 (gk G + 1).toNat 0 0  (by omega) (X_Su_e (Int.le_refl 0)).symm (by omega)
theorem c_sumW (sc : X_Sc) (S : X_S) (oW : Int → Int64) (B : Nat) (rc : Int) (rn : Int → Int64) (kn : Int → Int64) (G : X_G) (tn : Int) (fl : Int) (row : Int) (ks : Int) (F_ : Int → Nat) (hO511 : S.1 511 = .inr (1, [.ref B, .ref 501, .int (iI fl), .ref 512, .ref 513, .ref 514, .ref 515, .ref 516])) (hA513 : S.1 513 = .inl (.long, 13950, .inr (.inl fun k : Nat => oW (k : Int)))) (hB : B = 4 ∨ B = 250) (hb : C_bk S B rc (gk G) (gw G) rn (gl G) kn (ga G)) (hs : C_ws S B (gD G) (gW G)) (hG : X_Gok G) (hrow : 0 ≤ row ∧ row ≤ 464) (hF_ : ∀ k, 0 ≤ k → k < gw G → oW (row * 30 + k) = X_st (-2) (F_ k)) : X_T sc 26 (0, [(0, .ref 511), (1, .int (iI row)), (2, .int (iI ks))], [], S) (fun v S' => v = some (.long (X_st (-2) (X_Su (fun k => X_if (X_bt ks k) (F_ k)) 0 (gw G)))) ∧ S' = S) := by
  obtain ⟨hb0, hb1, hb2, hb3, hb4, ⟨f, hb5, hf⟩, ⟨hrc, hrcb⟩, ⟨hkc, hkcb⟩, ⟨hwc, hwcb⟩⟩ := id hb
  refine X_QI (fun Q hQ => ?_)
  refine T_p xr_26_0 xn_26 (pc' := 1) (ls' := [(0, .ref 511), (1, .int (iI row)), (2, .int (iI ks))]) (st' := [.long (iL 0)]) rfl ?_
  refine T_p xr_26_1 xn_26 (pc' := 2) (ls' := [(3, .long (iL 0)), (0, .ref 511), (1, .int (iI row)), (2, .int (iI ks))]) (st' := []) rfl ?_
  refine T_p xr_26_2 xn_26 (pc' := 3) (ls' := [(3, .long (iL 0)), (0, .ref 511), (1, .int (iI row)), (2, .int (iI ks))]) (st' := [.int (iI 0)]) rfl ?_
  refine T_p xr_26_3 xn_26 (pc' := 5) (ls' := [(5, .int (iI 0)), (3, .long (iL 0)), (0, .ref 511), (1, .int (iI row)), (2, .int (iI ks))]) (st' := []) rfl ?_
  have L505 : ∀ (m507 : Nat) (k : Int) (s : Nat) (hk : 0 ≤ k ∧ k ≤ gw G) (hsu : s = X_Su (fun k => X_if (X_bt ks k) (F_ k)) 0 k) (hm508 : gw G - k < m507), X_T sc 26 (5, [(5, .int (iI k)), (3, .long (X_st (-2) s)), (0, .ref 511), (1, .int (iI row)), (2, .int (iI ks))], [], S) Q := by
    intro m507
    induction m507 with
    | zero =>
      intro k s hk hsu hm508
      exact (show False by omega).elim
    | succ m507 ih506 =>
      intro k s hk hsu hm508
      refine T_p xr_26_5 xn_26 (pc' := 7) (ls' := [(5, .int (iI k)), (3, .long (X_st (-2) s)), (0, .ref 511), (1, .int (iI row)), (2, .int (iI ks))]) (st' := [.int (iI k)]) rfl ?_
      refine T_p xr_26_7 xn_26 (pc' := 8) (ls' := [(5, .int (iI k)), (3, .long (X_st (-2) s)), (0, .ref 511), (1, .int (iI row)), (2, .int (iI ks))]) (st' := [.ref 511, .int (iI k)]) rfl ?_
      refine T_get xr_26_8 hO511 rfl (v := .ref B) rfl (pc' := 11) rfl ?_
      refine T_get xr_26_11 hb0 rfl (v := .int (iI (gw G))) rfl (pc' := 14) rfl ?_
      refine T_zicmp_ge xr_26_14 (t := 49) (pc' := 17) rfl rfl (fun c510 => ?_) (fun c510 => ?_)
      · skip
        have c510 : (gw G) ≤ k := c510
        refine T_p xr_26_49 xn_26 (pc' := 50) (ls' := [(5, .int (iI k)), (3, .long (X_st (-2) s)), (0, .ref 511), (1, .int (iI row)), (2, .int (iI ks))]) (st' := [.long (X_st (-2) s)]) rfl ?_
        refine T_lret xr_26_50 xf_26.2.2 rfl ?_
        refine hQ _ _ ?_
        exact ⟨by rw [hsu, show k = gw G by omega], rfl⟩
      · skip
        have c510 : ¬ ((gw G) ≤ k) := c510
        refine T_p xr_26_17 xn_26 (pc' := 18) (ls' := [(5, .int (iI k)), (3, .long (X_st (-2) s)), (0, .ref 511), (1, .int (iI row)), (2, .int (iI ks))]) (st' := [.int (iI ks)]) rfl ?_
        refine T_p xr_26_18 xn_26 (pc' := 20) (ls' := [(5, .int (iI k)), (3, .long (X_st (-2) s)), (0, .ref 511), (1, .int (iI row)), (2, .int (iI ks))]) (st' := [.int (iI k), .int (iI ks)]) rfl ?_
        refine T_cs xr_26_20 (by decide) xf_112.1 xn_112 (as := [.int (iI ks), .int (iI k)]) (r := []) rfl (Nat.le_of_ble_eq_true rfl) (Nat.le_of_ble_eq_true rfl) (pc' := 23) rfl (ls' := [(0, .int (iI ks)), (1, .int (iI k))]) rfl ?_
        refine T_mono (c_hasBit sc S ks k) (fun v512 S513 h511 => ?_)
        obtain ⟨h514, h515⟩ := h511
        rw [h514, h515]
        show X_T sc 26 (23, [(5, .int (iI k)), (3, .long (X_st (-2) s)), (0, .ref 511), (1, .int (iI row)), (2, .int (iI ks))], [.int (iI (bI (X_bt ks k)))], S) _
        refine T_bif_eq xr_26_23 (t := 43) (pc' := 26) rfl rfl (fun c516 => ?_) (fun c516 => ?_)
        · skip
          have c516 : ¬ (X_bt ks k) := c516
          refine T_ziinc xr_26_43 xn_26 (a := k) (z := k + 1) rfl (Nat.le_of_ble_eq_true rfl) (by omega) (ls' := [(5, .int (iI (k + 1))), (3, .long (X_st (-2) s)), (0, .ref 511), (1, .int (iI row)), (2, .int (iI ks))]) rfl (pc' := 46) rfl ?_
          refine T_p xr_26_46 xn_26 (pc' := 5) (ls' := [(5, .int (iI (k + 1))), (3, .long (X_st (-2) s)), (0, .ref 511), (1, .int (iI row)), (2, .int (iI ks))]) (st' := []) rfl ?_
          exact ih506 (k + 1) s  (by omega) (by first | exact ((X_Su_if (p := fun k => X_bt ks k) (f := F_) (show (0 : Int) ≤ k by omega)).1 (by assumption)).symm ▸ (by rw [hsu]) | exact ((X_Su_if (p := fun k => X_bt ks k) (f := F_) (show (0 : Int) ≤ k by omega)).2 (by assumption)).symm ▸ hsu) (by omega)
        · skip
          have c516 : (X_bt ks k) := c516
          refine T_p xr_26_26 xn_26 (pc' := 27) (ls' := [(5, .int (iI k)), (3, .long (X_st (-2) s)), (0, .ref 511), (1, .int (iI row)), (2, .int (iI ks))]) (st' := [.long (X_st (-2) s)]) rfl ?_
          refine T_p xr_26_27 xn_26 (pc' := 28) (ls' := [(5, .int (iI k)), (3, .long (X_st (-2) s)), (0, .ref 511), (1, .int (iI row)), (2, .int (iI ks))]) (st' := [.ref 511, .long (X_st (-2) s)]) rfl ?_
          refine T_get xr_26_28 hO511 rfl (v := .ref 513) rfl (pc' := 31) rfl ?_
          refine T_p xr_26_31 xn_26 (pc' := 32) (ls' := [(5, .int (iI k)), (3, .long (X_st (-2) s)), (0, .ref 511), (1, .int (iI row)), (2, .int (iI ks))]) (st' := [.int (iI row), .ref 513, .long (X_st (-2) s)]) rfl ?_
          refine T_p xr_26_32 xn_26 (pc' := 34) (ls' := [(5, .int (iI k)), (3, .long (X_st (-2) s)), (0, .ref 511), (1, .int (iI row)), (2, .int (iI ks))]) (st' := [.int (iI 30), .int (iI row), .ref 513, .long (X_st (-2) s)]) rfl ?_
          refine T_zimul xr_26_34 (z := row * 30) rfl (pc' := 35) rfl ?_
          refine T_p xr_26_35 xn_26 (pc' := 37) (ls' := [(5, .int (iI k)), (3, .long (X_st (-2) s)), (0, .ref 511), (1, .int (iI row)), (2, .int (iI ks))]) (st' := [.int (iI k), .int (iI (row * 30)), .ref 513, .long (X_st (-2) s)]) rfl ?_
          refine T_ziadd xr_26_37 (z := (row * 30) + k) rfl (pc' := 38) rfl ?_
          refine T_zlald xr_26_38 hA513 (pc' := 39) rfl ?_
          refine T_le (y := (X_st (-2) (F_ k))) (hF_ k (by omega) (by omega)) ?_
          refine T_cs xr_26_39 (by decide) xf_115.1 xn_115 (as := [.long (X_st (-2) s), .long (X_st (-2) (F_ k))]) (r := []) rfl (Nat.le_of_ble_eq_true rfl) (Nat.le_of_ble_eq_true rfl) (pc' := 42) rfl (ls' := [(0, .long (X_st (-2) s)), (2, .long (X_st (-2) (F_ k)))]) rfl ?_
          refine T_mono (c_plus sc S s (F_ k)) (fun v517 S518 h519 => ?_)
          rcases h519 with ⟨hv520, hf521⟩
          rw [hv520]
          rw [hf521]
          show X_T sc 26 (42, [(5, .int (iI k)), (3, .long (X_st (-2) s)), (0, .ref 511), (1, .int (iI row)), (2, .int (iI ks))], [.long (X_st (-2) (s + (F_ k)))], S) _
          refine T_p xr_26_42 xn_26 (pc' := 43) (ls' := [(3, .long (X_st (-2) (s + (F_ k)))), (5, .int (iI k)), (0, .ref 511), (1, .int (iI row)), (2, .int (iI ks))]) (st' := []) rfl ?_
          refine T_ziinc xr_26_43 xn_26 (a := k) (z := k + 1) rfl (Nat.le_of_ble_eq_true rfl) (by omega) (ls' := [(5, .int (iI (k + 1))), (3, .long (X_st (-2) (s + (F_ k)))), (0, .ref 511), (1, .int (iI row)), (2, .int (iI ks))]) rfl (pc' := 46) rfl ?_
          refine T_p xr_26_46 xn_26 (pc' := 5) (ls' := [(5, .int (iI (k + 1))), (3, .long (X_st (-2) (s + (F_ k)))), (0, .ref 511), (1, .int (iI row)), (2, .int (iI ks))]) (st' := []) rfl ?_
          exact ih506 (k + 1) (s + (F_ k))  (by omega) (by first | exact ((X_Su_if (p := fun k => X_bt ks k) (f := F_) (show (0 : Int) ≤ k by omega)).1 (by assumption)).symm ▸ (by rw [hsu]) | exact ((X_Su_if (p := fun k => X_bt ks k) (f := F_) (show (0 : Int) ≤ k by omega)).2 (by assumption)).symm ▸ hsu) (by omega)
  exact L505 (gw G + 1).toNat 0 0  (by omega) (X_Su_e (Int.le_refl 0)).symm (by omega)
