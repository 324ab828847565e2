theorem xr_115_0 : X_row 115 0 = some (0, (.aload_n 0, 1), (0, 0, 0)) := by decide +kernel
theorem xr_115_1 : X_row 115 1 = some (1, (.getfield 31, 3), (10, 3, 54)) := by decide +kernel
theorem xr_115_4 : X_row 115 4 = some (4, (.aload_n 0, 1), (0, 0, 0)) := by decide +kernel
theorem xr_115_5 : X_row 115 5 = some (5, (.getfield 23, 3), (10, 2, 52)) := by decide +kernel
theorem xr_115_8 : X_row 115 8 = some (8, (.invokevirtual 84, 3), (65, 18, 0)) := by decide +kernel
theorem xr_115_11 : X_row 115 11 = some (11, (.istore_n 1, 1), (0, 0, 0)) := by decide +kernel
theorem xr_115_12 : X_row 115 12 = some (12, (.aload_n 0, 1), (0, 0, 0)) := by decide +kernel
theorem xr_115_13 : X_row 115 13 = some (13, (.getfield 12, 3), (10, 0, 48)) := by decide +kernel
theorem xr_115_16 : X_row 115 16 = some (16, (.iconst 0, 1), (0, 0, 0)) := by decide +kernel
theorem xr_115_17 : X_row 115 17 = some (17, (.putfield 76, 3), (7, 1, 1)) := by decide +kernel
theorem xr_115_20 : X_row 115 20 = some (20, (.iload_n 1, 1), (0, 0, 0)) := by decide +kernel
theorem xr_115_21 : X_row 115 21 = some (21, (.ifCond .ne 5, 3), (0, 0, 0)) := by decide +kernel
theorem xr_115_24 : X_row 115 24 = some (24, (.iconst (-1), 1), (0, 0, 0)) := by decide +kernel
theorem xr_115_25 : X_row 115 25 = some (25, (.ireturn, 1), (0, 0, 0)) := by decide +kernel
theorem xr_115_26 : X_row 115 26 = some (26, (.aload_n 0, 1), (0, 0, 0)) := by decide +kernel
theorem xr_115_27 : X_row 115 27 = some (27, (.getfield 23, 3), (10, 2, 52)) := by decide +kernel
theorem xr_115_30 : X_row 115 30 = some (30, (.astore_n 2, 1), (0, 0, 0)) := by decide +kernel
theorem xr_115_31 : X_row 115 31 = some (31, (.aload_n 0, 1), (0, 0, 0)) := by decide +kernel
theorem xr_115_32 : X_row 115 32 = some (32, (.aload_n 0, 1), (0, 0, 0)) := by decide +kernel
theorem xr_115_33 : X_row 115 33 = some (33, (.getfield 19, 3), (10, 1, 50)) := by decide +kernel
theorem xr_115_36 : X_row 115 36 = some (36, (.putfield 23, 3), (10, 2, 52)) := by decide +kernel
theorem xr_115_39 : X_row 115 39 = some (39, (.aload_n 0, 1), (0, 0, 0)) := by decide +kernel
theorem xr_115_40 : X_row 115 40 = some (40, (.aload_n 2, 1), (0, 0, 0)) := by decide +kernel
theorem xr_115_41 : X_row 115 41 = some (41, (.putfield 19, 3), (10, 1, 50)) := by decide +kernel
theorem xr_115_44 : X_row 115 44 = some (44, (.aload_n 0, 1), (0, 0, 0)) := by decide +kernel
theorem xr_115_45 : X_row 115 45 = some (45, (.getfield 38, 3), (10, 4, 56)) := by decide +kernel
theorem xr_115_48 : X_row 115 48 = some (48, (.iconst 0, 1), (0, 0, 0)) := by decide +kernel
theorem xr_115_49 : X_row 115 49 = some (49, (.putfield 88, 3), (6, 0, 31)) := by decide +kernel
theorem xr_115_52 : X_row 115 52 = some (52, (.aload_n 0, 1), (0, 0, 0)) := by decide +kernel
theorem xr_115_53 : X_row 115 53 = some (53, (.invokevirtual 91, 3), (130, 20, 0)) := by decide +kernel
theorem xr_115_56 : X_row 115 56 = some (56, (.aload_n 0, 1), (0, 0, 0)) := by decide +kernel
theorem xr_115_57 : X_row 115 57 = some (57, (.getfield 19, 3), (10, 1, 50)) := by decide +kernel
theorem xr_115_60 : X_row 115 60 = some (60, (.getfield 94, 3), (0, 2, 23)) := by decide +kernel
theorem xr_115_63 : X_row 115 63 = some (63, (.ireturn, 1), (0, 0, 0)) := by decide +kernel
theorem xr_121_0 : X_row 121 0 = some (0, (.aload_n 0, 1), (0, 0, 0)) := by decide +kernel
theorem xr_121_1 : X_row 121 1 = some (1, (.getfield 38, 3), (10, 4, 56)) := by decide +kernel
theorem xr_121_4 : X_row 121 4 = some (4, (.aload_n 0, 1), (0, 0, 0)) := by decide +kernel
theorem xr_121_5 : X_row 121 5 = some (5, (.getfield 12, 3), (10, 0, 48)) := by decide +kernel
theorem xr_121_8 : X_row 121 8 = some (8, (.invokevirtual 155, 3), (87, 40, 0)) := by decide +kernel
theorem xr_121_11 : X_row 121 11 = some (11, (.istore_n 1, 1), (0, 0, 0)) := by decide +kernel
theorem xr_121_12 : X_row 121 12 = some (12, (.aload_n 0, 1), (0, 0, 0)) := by decide +kernel
theorem xr_121_13 : X_row 121 13 = some (13, (.getfield 12, 3), (10, 0, 48)) := by decide +kernel
theorem xr_121_16 : X_row 121 16 = some (16, (.iconst 0, 1), (0, 0, 0)) := by decide +kernel
theorem xr_121_17 : X_row 121 17 = some (17, (.putfield 76, 3), (7, 1, 1)) := by decide +kernel
theorem xr_121_20 : X_row 121 20 = some (20, (.iload_n 1, 1), (0, 0, 0)) := by decide +kernel
theorem xr_121_21 : X_row 121 21 = some (21, (.ifCond .ne 5, 3), (0, 0, 0)) := by decide +kernel
theorem xr_121_24 : X_row 121 24 = some (24, (.iconst (-1), 1), (0, 0, 0)) := by decide +kernel
theorem xr_121_25 : X_row 121 25 = some (25, (.ireturn, 1), (0, 0, 0)) := by decide +kernel
theorem xr_121_26 : X_row 121 26 = some (26, (.aload_n 0, 1), (0, 0, 0)) := by decide +kernel
theorem xr_121_27 : X_row 121 27 = some (27, (.invokevirtual 91, 3), (130, 20, 0)) := by decide +kernel
theorem xr_121_30 : X_row 121 30 = some (30, (.aload_n 0, 1), (0, 0, 0)) := by decide +kernel
theorem xr_121_31 : X_row 121 31 = some (31, (.getfield 38, 3), (10, 4, 56)) := by decide +kernel
theorem xr_121_34 : X_row 121 34 = some (34, (.getfield 88, 3), (6, 0, 31)) := by decide +kernel
theorem xr_121_37 : X_row 121 37 = some (37, (.ireturn, 1), (0, 0, 0)) := by decide +kernel
theorem xr_126_0 : X_row 126 0 = some (0, (.aload_n 0, 1), (0, 0, 0)) := by decide +kernel
theorem xr_126_1 : X_row 126 1 = some (1, (.getfield 19, 3), (10, 1, 50)) := by decide +kernel
theorem xr_126_4 : X_row 126 4 = some (4, (.iload_n 1, 1), (0, 0, 0)) := by decide +kernel
theorem xr_126_5 : X_row 126 5 = some (5, (.invokevirtual 110, 3), (4, 28, 0)) := by decide +kernel
theorem xr_126_8 : X_row 126 8 = some (8, (.ifCond .ne 5, 3), (0, 0, 0)) := by decide +kernel
theorem xr_126_11 : X_row 126 11 = some (11, (.iconst 0, 1), (0, 0, 0)) := by decide +kernel
theorem xr_126_12 : X_row 126 12 = some (12, (.ireturn, 1), (0, 0, 0)) := by decide +kernel
theorem xr_126_13 : X_row 126 13 = some (13, (.aload_n 0, 1), (0, 0, 0)) := by decide +kernel
theorem xr_126_14 : X_row 126 14 = some (14, (.getfield 19, 3), (10, 1, 50)) := by decide +kernel
theorem xr_126_17 : X_row 126 17 = some (17, (.getfield 114, 3), (0, 7, 25)) := by decide +kernel
theorem xr_126_20 : X_row 126 20 = some (20, (.iload_n 1, 1), (0, 0, 0)) := by decide +kernel
theorem xr_126_21 : X_row 126 21 = some (21, (.aaload, 1), (0, 0, 0)) := by decide +kernel
theorem xr_126_22 : X_row 126 22 = some (22, (.astore_n 3, 1), (0, 0, 0)) := by decide +kernel
theorem xr_126_23 : X_row 126 23 = some (23, (.aload_n 3, 1), (0, 0, 0)) := by decide +kernel
theorem xr_126_24 : X_row 126 24 = some (24, (.getfield 139, 3), (8, 5, 13)) := by decide +kernel
theorem xr_126_27 : X_row 126 27 = some (27, (.iconst (-1), 1), (0, 0, 0)) := by decide +kernel
theorem xr_126_28 : X_row 126 28 = some (28, (.if_icmp .ne 10, 3), (0, 0, 0)) := by decide +kernel
theorem xr_126_31 : X_row 126 31 = some (31, (.aload_n 3, 1), (0, 0, 0)) := by decide +kernel
theorem xr_126_32 : X_row 126 32 = some (32, (.getfield 132, 3), (8, 4, 11)) := by decide +kernel
theorem xr_126_35 : X_row 126 35 = some (35, (.ifCond .le 5, 3), (0, 0, 0)) := by decide +kernel
theorem xr_126_38 : X_row 126 38 = some (38, (.iconst 0, 1), (0, 0, 0)) := by decide +kernel
theorem xr_126_39 : X_row 126 39 = some (39, (.ireturn, 1), (0, 0, 0)) := by decide +kernel
theorem xr_126_40 : X_row 126 40 = some (40, (.aload_n 3, 1), (0, 0, 0)) := by decide +kernel
theorem xr_126_41 : X_row 126 41 = some (41, (.iconst 1, 1), (0, 0, 0)) := by decide +kernel
theorem xr_126_42 : X_row 126 42 = some (42, (.putfield 190, 3), (8, 6, 15)) := by decide +kernel
theorem xr_126_45 : X_row 126 45 = some (45, (.aload_n 3, 1), (0, 0, 0)) := by decide +kernel
theorem xr_126_46 : X_row 126 46 = some (46, (.iload_n 2, 1), (0, 0, 0)) := by decide +kernel
theorem xr_126_47 : X_row 126 47 = some (47, (.putfield 194, 3), (8, 7, 17)) := by decide +kernel
theorem xr_126_50 : X_row 126 50 = some (50, (.iconst 1, 1), (0, 0, 0)) := by decide +kernel
theorem xr_126_51 : X_row 126 51 = some (51, (.ireturn, 1), (0, 0, 0)) := by decide +kernel
theorem xn_115 : X_nL 115 = 3 := by decide +kernel
theorem xf_115 : X_na 115 = 0 ∧ X_ci 115 = 10 ∧ X_rt 115 = (some .int) := by decide +kernel
theorem xn_121 : X_nL 121 = 2 := by decide +kernel
theorem xf_121 : X_na 121 = 0 ∧ X_ci 121 = 10 ∧ X_rt 121 = (some .int) := by decide +kernel
theorem xn_126 : X_nL 126 = 4 := by decide +kernel
theorem xf_126 : X_na 126 = 2 ∧ X_ci 126 = 10 ∧ X_rt 126 = (some .boolean) := by decide +kernel
theorem c_bind (sc : X_Sc) (S : X_S) (B : Nat) (rc : Int) (rn : Int → Int64) (kn : Int → Int64) (G : X_G) (B2 : Nat) (w : Int) (vl : Int) (hO1 : S.1 1 = .inr (10, [.ref 2, .ref B, .ref B2, .ref 496, .ref 501, .ref 504, .ref 511, .ref 517, .ref 527])) (hB : B = 4 ∨ B = 250) (hb : C_bk S B rc (gk G) (gw G) rn (gl G) kn (ga G)) (hs : C_ws S B (gD G) (gW G)) (hw : -2147483648 ≤ w ∧ w ≤ 2147483647) (hv : -2147483648 ≤ vl ∧ vl ≤ 2147483647) : X_T sc 126 (0, [(0, .ref 1), (1, .int (iI w)), (2, .int (iI vl))], [], S) (fun v S' => (v = some (.int (iI 0)) ∧ (¬ ((0 ≤ w ∧ w < gw G) ∧ gD G w 5 0 = -1 ∧ gD G w 4 0 ≤ 0)) ∧ S' = S) ∨ (v = some (.int (iI 1)) ∧ ((0 ≤ w ∧ w < gw G) ∧ gD G w 5 0 = -1 ∧ gD G w 4 0 ≤ 0) ∧ C_ws S' B (X_ug (gD G) w (X_wu (X_wu (gD G w) 6 (fun _ => 1)) 7 (fun _ => vl))) (gW G) ∧ (X_Fr (fun q => B + 6 ≤ q ∧ q < B + 246) S S'))) := by
  obtain ⟨hb0, hb1, hb2, hb3, hb4, ⟨f, hb5, hf⟩, ⟨hrc, hrcb⟩, ⟨hkc, hkcb⟩, ⟨hwc, hwcb⟩⟩ := id hb
  refine X_QI (fun Q hQ => ?_)
  refine T_p xr_126_0 xn_126 (pc' := 1) (ls' := [(0, .ref 1), (1, .int (iI w)), (2, .int (iI vl))]) (st' := [.ref 1]) rfl ?_
  refine T_get xr_126_1 hO1 rfl (v := .ref B) rfl (pc' := 4) rfl ?_
  refine T_p xr_126_4 xn_126 (pc' := 5) (ls' := [(0, .ref 1), (1, .int (iI w)), (2, .int (iI vl))]) (st' := [.int (iI w), .ref B]) rfl ?_
  refine T_cv (S := S) (q := B) xr_126_5 xf_4.1 xf_4.2.1 xn_4 (as := [.int (iI w)]) (r := []) rfl hb0 (Nat.le_of_ble_eq_true rfl) (Nat.le_of_ble_eq_true rfl) (pc' := 8) rfl (ls' := [(0, .ref B), (1, .int (iI w))]) rfl ?_
  refine T_mono (c_hasWord sc S B rc (gk G) (gw G) rn (gl G) kn (ga G) w ⟨hb0, hb1, hb2, hb3, hb4, ⟨f, hb5, hf⟩, ⟨by omega, by omega⟩, ⟨by omega, by omega⟩, ⟨by omega, by omega⟩⟩ (by omega)) (fun v2696 S2697 h2695 => ?_)
  obtain ⟨h2698, h2699⟩ := h2695
  rw [h2698, h2699]
  show X_T sc 126 (8, [(0, .ref 1), (1, .int (iI w)), (2, .int (iI vl))], [.int (iI (bI (0 ≤ w ∧ w < (gw G))))], S) _
  refine T_bif_ne xr_126_8 (t := 13) (pc' := 11) rfl rfl (fun c2700 => ?_) (fun c2700 => ?_)
  · skip
    have c2700 : (0 ≤ w ∧ w < (gw G)) := c2700
    refine T_p xr_126_13 xn_126 (pc' := 14) (ls' := [(0, .ref 1), (1, .int (iI w)), (2, .int (iI vl))]) (st' := [.ref 1]) rfl ?_
    refine T_get xr_126_14 hO1 rfl (v := .ref B) rfl (pc' := 17) rfl ?_
    refine T_get xr_126_17 hb0 rfl (v := .ref (B + 5)) rfl (pc' := 20) rfl ?_
    refine T_p xr_126_20 xn_126 (pc' := 21) (ls' := [(0, .ref 1), (1, .int (iI w)), (2, .int (iI vl))]) (st' := [.int (iI w), .ref (B + 5)]) rfl ?_
    have hwaw := hs w (by omega) (by omega)
    obtain ⟨aw, haaw⟩ : ∃ z : Nat, z = B + 6 + 8 * (w : Int).toNat := ⟨_, rfl⟩
    rw [← haaw] at hwaw
    obtain ⟨⟨_, _⟩, ⟨_, _⟩, ⟨_, _⟩, ⟨_, _⟩, ⟨_, _⟩, ⟨_, _⟩, ⟨_, _⟩, ⟨_, _⟩⟩ := id hwaw.2
    refine T_zaald xr_126_21 hb5 (w := aw) (by rw [haaw]; exact hf _ (by omega)) (pc' := 22) rfl ?_
    refine T_p xr_126_22 xn_126 (pc' := 23) (ls' := [(3, .ref aw), (0, .ref 1), (1, .int (iI w)), (2, .int (iI vl))]) (st' := []) rfl ?_
    refine T_p xr_126_23 xn_126 (pc' := 24) (ls' := [(3, .ref aw), (0, .ref 1), (1, .int (iI w)), (2, .int (iI vl))]) (st' := [.ref aw]) rfl ?_
    refine T_get xr_126_24 hwaw.1.1 rfl (v := .int (iI ((gD G) w 5 0))) rfl (pc' := 27) rfl ?_
    refine T_p xr_126_27 xn_126 (pc' := 28) (ls' := [(3, .ref aw), (0, .ref 1), (1, .int (iI w)), (2, .int (iI vl))]) (st' := [.int (iI (-1)), .int (iI ((gD G) w 5 0))]) rfl ?_
    refine T_zicmp_ne xr_126_28 (t := 38) (pc' := 31) rfl rfl (fun c2704 => ?_) (fun c2704 => ?_)
    · skip
      have c2704 : ¬ ((gD G) w 5 0) = (-1) := c2704
      refine T_p xr_126_38 xn_126 (pc' := 39) (ls' := [(3, .ref aw), (0, .ref 1), (1, .int (iI w)), (2, .int (iI vl))]) (st' := [.int (iI 0)]) rfl ?_
      refine T_iret xr_126_39 xf_126.2.2 (by decide) ?_
      refine hQ _ _ ?_
      exact Or.inl ⟨rfl, (by omega), rfl⟩
    · skip
      have c2704 : ¬ (¬ ((gD G) w 5 0) = (-1)) := c2704
      refine T_p xr_126_31 xn_126 (pc' := 32) (ls' := [(3, .ref aw), (0, .ref 1), (1, .int (iI w)), (2, .int (iI vl))]) (st' := [.ref aw]) rfl ?_
      refine T_get xr_126_32 hwaw.1.1 rfl (v := .int (iI ((gD G) w 4 0))) rfl (pc' := 35) rfl ?_
      refine T_zif_le xr_126_35 (t := 40) (pc' := 38) rfl rfl (fun c2705 => ?_) (fun c2705 => ?_)
      · skip
        have c2705 : ((gD G) w 4 0) ≤ 0 := c2705
        refine T_p xr_126_40 xn_126 (pc' := 41) (ls' := [(3, .ref aw), (0, .ref 1), (1, .int (iI w)), (2, .int (iI vl))]) (st' := [.ref aw]) rfl ?_
        refine T_p xr_126_41 xn_126 (pc' := 42) (ls' := [(3, .ref aw), (0, .ref 1), (1, .int (iI w)), (2, .int (iI vl))]) (st' := [.int (iI 1), .ref aw]) rfl ?_
        refine T_put xr_126_42 hwaw.1.1 rfl (Nat.le_of_ble_eq_true rfl) rfl (fs' := [.int (iI ((gD G) w 0 0)), .int (iI ((gD G) w 1 0)), .int (iI ((gD G) w 2 0)), .int (iI ((gD G) w 3 0)), .int (iI ((gD G) w 4 0)), .int (iI ((gD G) w 5 0)), .int (iI 1), .int (iI ((gD G) w 7 0)), .ref (aw + 1), .ref (aw + 2), .ref (aw + 3), .ref (aw + 4), .ref (aw + 5), .ref (aw + 6), .ref (aw + 7)]) rfl (pc' := 45) rfl (fun S2706 h2707 n2708 e2709 => ?_)
        refine T_p xr_126_45 xn_126 (pc' := 46) (ls' := [(3, .ref aw), (0, .ref 1), (1, .int (iI w)), (2, .int (iI vl))]) (st' := [.ref aw]) rfl ?_
        refine T_p xr_126_46 xn_126 (pc' := 47) (ls' := [(3, .ref aw), (0, .ref 1), (1, .int (iI w)), (2, .int (iI vl))]) (st' := [.int (iI vl), .ref aw]) rfl ?_
        refine T_put xr_126_47 h2707 rfl (Nat.le_of_ble_eq_true rfl) rfl (fs' := [.int (iI ((gD G) w 0 0)), .int (iI ((gD G) w 1 0)), .int (iI ((gD G) w 2 0)), .int (iI ((gD G) w 3 0)), .int (iI ((gD G) w 4 0)), .int (iI ((gD G) w 5 0)), .int (iI 1), .int (iI vl), .ref (aw + 1), .ref (aw + 2), .ref (aw + 3), .ref (aw + 4), .ref (aw + 5), .ref (aw + 6), .ref (aw + 7)]) rfl (pc' := 50) rfl (fun S2710 h2711 n2712 e2713 => ?_)
        refine T_p xr_126_50 xn_126 (pc' := 51) (ls' := [(3, .ref aw), (0, .ref 1), (1, .int (iI w)), (2, .int (iI vl))]) (st' := [.int (iI 1)]) rfl ?_
        refine T_iret xr_126_51 xf_126.2.2 (by decide) ?_
        refine hQ _ _ ?_
        have h2714 := (n2712 (aw + 1) (by omega)).trans ((n2708 (aw + 1) (by omega)).trans (hwaw.1.2.1))
        have h2715 := (n2712 (aw + 2) (by omega)).trans ((n2708 (aw + 2) (by omega)).trans (hwaw.1.2.2.1))
        have h2716 := (n2712 (aw + 3) (by omega)).trans ((n2708 (aw + 3) (by omega)).trans (hwaw.1.2.2.2.1))
        have h2717 := (n2712 (aw + 4) (by omega)).trans ((n2708 (aw + 4) (by omega)).trans (hwaw.1.2.2.2.2.1))
        have h2718 := (n2712 (aw + 5) (by omega)).trans ((n2708 (aw + 5) (by omega)).trans (hwaw.1.2.2.2.2.2.1))
        have h2719 := (n2712 (aw + 6) (by omega)).trans ((n2708 (aw + 6) (by omega)).trans (hwaw.1.2.2.2.2.2.2.1))
        have h2720 := (n2712 (aw + 7) (by omega)).trans ((n2708 (aw + 7) (by omega)).trans (hwaw.1.2.2.2.2.2.2.2))
        have hz := hwaw.2
        have hws : C_ws S2710 B (X_ug (gD G) w (X_wu (X_wu (gD G w) 6 (fun _ => 1)) 7 (fun _ => vl))) (gW G) := C_ws.upd hs (((X_Fr.rf).tr (X_Fr.of n2708 e2709 (by omega))).tr (X_Fr.of n2712 e2713 (by omega))) haaw (by omega) ⟨h2711, h2714, h2715, h2716, h2717, h2718, h2719, h2720⟩ ⟨hz.1, hz.2.1, hz.2.2.1, hz.2.2.2.1, hz.2.2.2.2.1, hz.2.2.2.2.2.1, (show (0 : Int) ≤ 1 ∧ (1 : Int) ≤ 1 by omega), hv⟩
        exact Or.inr ⟨rfl, (by omega), hws, ((X_Fr.rf).tr (X_Fr.of n2708 e2709 (by omega))).tr (X_Fr.of n2712 e2713 (by omega))⟩
      · skip
        have c2705 : ¬ (((gD G) w 4 0) ≤ 0) := c2705
        refine T_p xr_126_38 xn_126 (pc' := 39) (ls' := [(3, .ref aw), (0, .ref 1), (1, .int (iI w)), (2, .int (iI vl))]) (st' := [.int (iI 0)]) rfl ?_
        refine T_iret xr_126_39 xf_126.2.2 (by decide) ?_
        refine hQ _ _ ?_
        exact Or.inl ⟨rfl, (by omega), rfl⟩
  · skip
    have c2700 : ¬ (0 ≤ w ∧ w < (gw G)) := c2700
    refine T_p xr_126_11 xn_126 (pc' := 12) (ls' := [(0, .ref 1), (1, .int (iI w)), (2, .int (iI vl))]) (st' := [.int (iI 0)]) rfl ?_
    refine T_iret xr_126_12 xf_126.2.2 (by decide) ?_
    refine hQ _ _ ?_
    exact Or.inl ⟨rfl, (by omega), rfl⟩
theorem c_sentence (sc : X_Sc) (S : X_S) (ot : Int → Int64) (dr : Int → Int64) (B : Nat) (B2 : Nat) (tn : Int) (fl : Int) (nc : Int) (rs : Int) (re : Int) (hgt : Int) (len : Int) (tb : Int → Int) (hO1 : S.1 1 = .inr (10, [.ref 2, .ref B, .ref B2, .ref 496, .ref 501, .ref 504, .ref 511, .ref 517, .ref 527])) (hO2 : S.1 2 = .inr (7, [.ref 3, .int (iI len)])) (hO501 : S.1 501 = .inr (6, [.int (iI tn), .ref 502, .ref 503])) (hO511 : S.1 511 = .inr (1, [.ref B, .ref 501, .int (iI fl), .ref 512, .ref 513, .ref 514, .ref 515, .ref 516])) (hO504 : S.1 504 = .inr (5, [.int (iI nc), .ref 505, .ref 506, .ref 507, .ref 508, .ref 509, .ref 510])) (hO527 : S.1 527 = .inr (9, [.ref 501, .ref 504, .int (iI rs), .int (iI re), .ref 528, .ref 529, .int (iI hgt)])) (hA502 : S.1 502 = .inl (.long, 30, .inr (.inl fun k : Nat => ot (k : Int)))) (hA503 : S.1 503 = .inl (.long, 30, .inr (.inl fun k : Nat => dr (k : Int)))) (hA3 : S.1 3 = .inl (.byte, 2000, .inl fun k : Nat => iI (tb (k : Int)))) (hl : 0 ≤ len ∧ len ≤ 2000) : X_T sc 121 (0, [(0, .ref 1)], [], S) (fun v S' => (∃ (dr1 : Int → Int64), v = some (.int (iI (-1))) ∧ X_sn tb len len.toNat = none ∧ S'.1 2 = .inr (7, [.ref 3, .int (iI 0)]) ∧ S'.1 503 = .inl (.long, 30, .inr (.inl fun k : Nat => dr1 (k : Int))) ∧ (X_Fr (fun q => q = 503 ∨ q = 2) S S')) ∨ (∃ (n1 : Int) (z1 : Int) (t1 : Int → Int64) (ot1 : Int → Int64) (dr1 : Int → Int64), v = some (.int (iI n1)) ∧ X_sn tb len len.toNat = some (n1, z1, t1) ∧ (0 ≤ n1 ∧ n1 ≤ 30) ∧ ((∀ i, 0 ≤ i → i < n1 → ot1 i = t1 i)) ∧ S'.1 2 = .inr (7, [.ref 3, .int (iI 0)]) ∧ S'.1 501 = .inr (6, [.int (iI n1), .ref 502, .ref 503]) ∧ S'.1 511 = .inr (1, [.ref B, .ref 501, .int (iI 0), .ref 512, .ref 513, .ref 514, .ref 515, .ref 516]) ∧ S'.1 504 = .inr (5, [.int (iI 0), .ref 505, .ref 506, .ref 507, .ref 508, .ref 509, .ref 510]) ∧ S'.1 527 = .inr (9, [.ref 501, .ref 504, .int (iI 0), .int (iI (-1)), .ref 528, .ref 529, .int (iI hgt)]) ∧ S'.1 502 = .inl (.long, 30, .inr (.inl fun k : Nat => ot1 (k : Int))) ∧ S'.1 503 = .inl (.long, 30, .inr (.inl fun k : Nat => dr1 (k : Int))) ∧ (X_Fr (fun q => q = 2 ∨ (501 ≤ q ∧ q ≤ 504) ∨ q = 511 ∨ q = 527) S S'))) := by
  refine X_QI (fun Q hQ => ?_)
  refine T_p xr_121_0 xn_121 (pc' := 1) (ls' := [(0, .ref 1)]) (st' := [.ref 1]) rfl ?_
  refine T_get xr_121_1 hO1 rfl (v := .ref 501) rfl (pc' := 4) rfl ?_
  refine T_p xr_121_4 xn_121 (pc' := 5) (ls' := [(0, .ref 1)]) (st' := [.ref 1, .ref 501]) rfl ?_
  refine T_get xr_121_5 hO1 rfl (v := .ref 2) rfl (pc' := 8) rfl ?_
  refine T_cv (S := S) (q := 501) xr_121_8 xf_87.1 xf_87.2.1 xn_87 (as := [.ref 2]) (r := []) rfl hO501 (Nat.le_of_ble_eq_true rfl) (Nat.le_of_ble_eq_true rfl) (pc' := 11) rfl (ls' := [(0, .ref 501), (1, .ref 2)]) rfl ?_
  refine T_mono (c_readFrom sc S ot dr tn len tb hO2 hO501 hA502 hA503 hA3 (by omega)) (fun v2721 S2722 h2723 => ?_)
  rcases h2723 with ⟨dr2724, hv2725, hp2726, ha2727, hf2728⟩ | ⟨n2729, z2730, t2731, ot2732, dr2733, hv2734, hp2735, hp2736, hp2737, ho2738, ha2739, ha2740, hf2741⟩
  · skip
    rw [hv2725]
    show X_T sc 121 (11, [(0, .ref 1)], [.int (iI 0)], S2722) _
    refine T_p xr_121_11 xn_121 (pc' := 12) (ls' := [(1, .int (iI 0)), (0, .ref 1)]) (st' := []) rfl ?_
    refine T_p xr_121_12 xn_121 (pc' := 13) (ls' := [(1, .int (iI 0)), (0, .ref 1)]) (st' := [.ref 1]) rfl ?_
    have h2742 := (hf2728.1 1 (by omega)).trans (hO1)
    refine T_get xr_121_13 h2742 rfl (v := .ref 2) rfl (pc' := 16) rfl ?_
    refine T_p xr_121_16 xn_121 (pc' := 17) (ls' := [(1, .int (iI 0)), (0, .ref 1)]) (st' := [.int (iI 0), .ref 2]) rfl ?_
    have h2743 := (hf2728.1 2 (by omega)).trans (hO2)
    refine T_put xr_121_17 h2743 rfl (Nat.le_of_ble_eq_true rfl) rfl (fs' := [.ref 3, .int (iI 0)]) rfl (pc' := 20) rfl (fun S2744 h2745 n2746 e2747 => ?_)
    refine T_p xr_121_20 xn_121 (pc' := 21) (ls' := [(1, .int (iI 0)), (0, .ref 1)]) (st' := [.int (iI 0)]) rfl ?_
    refine T_zif_nef xr_121_21 (t := 26) (pc' := 24) rfl rfl (by decide) ?_
    refine T_p xr_121_24 xn_121 (pc' := 25) (ls' := [(1, .int (iI 0)), (0, .ref 1)]) (st' := [.int (iI (-1))]) rfl ?_
    refine T_iret xr_121_25 xf_121.2.2 rfl ?_
    refine hQ _ _ ?_
    have h2748 := (n2746 503 (by decide)).trans (ha2727)
    exact Or.inl ⟨dr2724, rfl, hp2726, h2745, h2748, ((X_Fr.rf).tr (X_Fr.mono ⟨hf2728.1, hf2728.2⟩ (fun q hq => (by omega)))).tr (X_Fr.of n2746 e2747 (by omega))⟩
  · skip
    rw [hv2734]
    show X_T sc 121 (11, [(0, .ref 1)], [.int (iI 1)], S2722) _
    refine T_p xr_121_11 xn_121 (pc' := 12) (ls' := [(1, .int (iI 1)), (0, .ref 1)]) (st' := []) rfl ?_
    refine T_p xr_121_12 xn_121 (pc' := 13) (ls' := [(1, .int (iI 1)), (0, .ref 1)]) (st' := [.ref 1]) rfl ?_
    have h2749 := (hf2741.1 1 (by omega)).trans (hO1)
    refine T_get xr_121_13 h2749 rfl (v := .ref 2) rfl (pc' := 16) rfl ?_
    refine T_p xr_121_16 xn_121 (pc' := 17) (ls' := [(1, .int (iI 1)), (0, .ref 1)]) (st' := [.int (iI 0), .ref 2]) rfl ?_
    have h2750 := (hf2741.1 2 (by omega)).trans (hO2)
    refine T_put xr_121_17 h2750 rfl (Nat.le_of_ble_eq_true rfl) rfl (fs' := [.ref 3, .int (iI 0)]) rfl (pc' := 20) rfl (fun S2751 h2752 n2753 e2754 => ?_)
    refine T_p xr_121_20 xn_121 (pc' := 21) (ls' := [(1, .int (iI 1)), (0, .ref 1)]) (st' := [.int (iI 1)]) rfl ?_
    refine T_zif_net xr_121_21 (t := 26) rfl (by decide) ?_
    refine T_p xr_121_26 xn_121 (pc' := 27) (ls' := [(1, .int (iI 1)), (0, .ref 1)]) (st' := [.ref 1]) rfl ?_
    have h2755 := (n2753 1 (by decide)).trans (h2749)
    refine T_cv (S := S2751) (q := 1) xr_121_27 xf_130.1 xf_130.2.1 xn_130 (as := []) (r := []) rfl h2755 (Nat.le_of_ble_eq_true rfl) (Nat.le_of_ble_eq_true rfl) (pc' := 30) rfl (ls' := [(0, .ref 1)]) rfl ?_
    have h2756 := (n2753 511 (by decide)).trans ((hf2741.1 511 (by omega)).trans (hO511))
    have h2757 := (n2753 504 (by decide)).trans ((hf2741.1 504 (by omega)).trans (hO504))
    have h2758 := (n2753 527 (by decide)).trans ((hf2741.1 527 (by omega)).trans (hO527))
    refine T_mono (c_dropReading sc S2751 B B2 B fl nc rs re hgt h2755 h2756 h2757 h2758) (fun v2759 S2760 h2761 => ?_)
    rcases h2761 with ⟨hv2762, ho2763, ho2764, ho2765, hf2766⟩
    rw [hv2762]
    show X_T sc 121 (30, [(1, .int (iI 1)), (0, .ref 1)], [], S2760) _
    refine T_p xr_121_30 xn_121 (pc' := 31) (ls' := [(1, .int (iI 1)), (0, .ref 1)]) (st' := [.ref 1]) rfl ?_
    have h2767 := (hf2766.1 1 (by omega)).trans (h2755)
    refine T_get xr_121_31 h2767 rfl (v := .ref 501) rfl (pc' := 34) rfl ?_
    have h2768 := (hf2766.1 501 (by omega)).trans ((n2753 501 (by decide)).trans (ho2738))
    refine T_get xr_121_34 h2768 rfl (v := .int (iI n2729)) rfl (pc' := 37) rfl ?_
    refine T_iret xr_121_37 xf_121.2.2 rfl ?_
    refine hQ _ _ ?_
    have h2769 := (hf2766.1 2 (by omega)).trans (h2752)
    have h2770 := (hf2766.1 502 (by omega)).trans ((n2753 502 (by decide)).trans (ha2739))
    have h2771 := (hf2766.1 503 (by omega)).trans ((n2753 503 (by decide)).trans (ha2740))
    exact Or.inr ⟨n2729, z2730, t2731, ot2732, dr2733, rfl, hp2735, hp2736, hp2737, h2769, h2768, ho2763, ho2764, ho2765, h2770, h2771, (((X_Fr.rf).tr (X_Fr.mono ⟨hf2741.1, hf2741.2⟩ (fun q hq => (by omega)))).tr (X_Fr.of n2753 e2754 (by omega))).tr (X_Fr.mono ⟨hf2766.1, hf2766.2⟩ (fun q hq => (by omega)))⟩
set_option maxHeartbeats 1600000 in
theorem c_book (sc : X_Sc) (S : X_S) (B : Nat) (B2 : Nat) (B0 : Nat) (fl0 : Int) (fp0 : Int) (at0 : Int) (n0 : Int) (cur0 : Int) (so0 : Int → Int) (pl0 : Int → Int) (ct0 : Int → Int64) (rc2 : Int) (kc2 : Int) (wc2 : Int) (rn2 : Int → Int64) (lo2 : Int → Int) (kn2 : Int → Int64) (ab2 : Int → Int) (D2 : Int → Nat → Int → Int) (W2 : Int → Int → Int64) (tn : Int) (fl : Int) (nc : Int) (rs : Int) (re : Int) (hgt : Int) (len : Int) (tb : Int → Int) (hO1 : S.1 1 = .inr (10, [.ref 2, .ref B, .ref B2, .ref 496, .ref 501, .ref 504, .ref 511, .ref 517, .ref 527])) (hO2 : S.1 2 = .inr (7, [.ref 3, .int (iI len)])) (hO501 : S.1 501 = .inr (6, [.int (iI tn), .ref 502, .ref 503])) (hO511 : S.1 511 = .inr (1, [.ref B, .ref 501, .int (iI fl), .ref 512, .ref 513, .ref 514, .ref 515, .ref 516])) (hO504 : S.1 504 = .inr (5, [.int (iI nc), .ref 505, .ref 506, .ref 507, .ref 508, .ref 509, .ref 510])) (hO527 : S.1 527 = .inr (9, [.ref 501, .ref 504, .int (iI rs), .int (iI re), .ref 528, .ref 529, .int (iI hgt)])) (hB : (B = 4 ∧ B2 = 250) ∨ (B = 250 ∧ B2 = 4)) (hA3 : S.1 3 = .inl (.byte, 2000, .inl fun k : Nat => iI (tb (k : Int)))) (hl : 0 ≤ len ∧ len ≤ 2000) (hp0 : C_pa S B0 fl0 fp0) (hx0 : C_lx S at0 n0 cur0 so0 pl0 ct0) (hb2 : C_bk S B2 rc2 kc2 wc2 rn2 lo2 kn2 ab2) (hs2 : C_ws S B2 D2 W2) : X_T sc 115 (0, [(0, .ref 1)], [], S) (fun v S' => (∃ (n : Int) (so : Int → Int) (pl : Int → Int) (ct : Int → Int64) (c1 : Int) (rc1 : Int) (kc1 : Int) (wc1 : Int) (rn1 : Int → Int64) (lo1 : Int → Int) (kn1 : Int → Int64) (ab1 : Int → Int) (D1 : Int → Nat → Int → Int) (W1 : Int → Int → Int64) (D3 : Int → Nat → Int → Int), v = some (.int (iI wc1)) ∧ X_Txt tb len n so pl ct ∧ sp_lines n so ct 2001 (0, 0, 1, 0, rn2, lo2, X_ug kn2 0 (Int64.ofNat 6384748), X_ug ab2 0 1, D2, W2) = some (c1, rc1, kc1, wc1, rn1, lo1, kn1, ab1, D1, W1) ∧ X_Kok (c1, rc1, kc1, wc1, rn1, lo1, kn1, ab1, D1, W1) ∧ X_sD D1 D3 ∧ ((∀ w, 0 ≤ w → w < wc1 → ∀ e, X_hl (D1 w) (W1 w) e → X_tkn lo1 ab1 kc1 wc1 D1 W1 w e (D3 w 11 (D1 w 8 e)) (D3 w 10 (D1 w 8 e)))) ∧ C_bk S' B2 rc1 kc1 wc1 rn1 lo1 kn1 ab1 ∧ C_ws S' B2 D3 W1 ∧ ((∃ (fl fp : Int), C_pa S' B2 fl fp) ∧ (∃ (a1 a2 a3 : Int) (b1 b2 : Int → Int) (b3 : Int → Int64), C_lx S' a1 a2 a3 b1 b2 b3)) ∧ S'.1 1 = .inr (10, [.ref 2, .ref B2, .ref B, .ref 496, .ref 501, .ref 504, .ref 511, .ref 517, .ref 527]) ∧ S'.1 2 = .inr (7, [.ref 3, .int (iI 0)]) ∧ S'.1 501 = .inr (6, [.int (iI 0), .ref 502, .ref 503]) ∧ S'.1 511 = .inr (1, [.ref B2, .ref 501, .int (iI 0), .ref 512, .ref 513, .ref 514, .ref 515, .ref 516]) ∧ S'.1 504 = .inr (5, [.int (iI 0), .ref 505, .ref 506, .ref 507, .ref 508, .ref 509, .ref 510]) ∧ S'.1 527 = .inr (9, [.ref 501, .ref 504, .int (iI 0), .int (iI (-1)), .ref 528, .ref 529, .int (iI hgt)]) ∧ (X_Fr (fun q => q = 1 ∨ q = 2 ∨ (496 ≤ q ∧ q ≤ 501) ∨ q = 504 ∨ q = 511 ∨ q = 527 ∨ (B2 ≤ q ∧ q < B2 + 246)) S S')) ∨ (∃ (n : Int) (so : Int → Int) (pl : Int → Int) (ct : Int → Int64) (rc2x : Int) (kc2x : Int) (wc2x : Int) (rn2x : Int → Int64) (lo2x : Int → Int) (kn2x : Int → Int64) (ab2x : Int → Int) (D2x : Int → Nat → Int → Int) (W2x : Int → Int → Int64), v = some (.int (iI (-1))) ∧ X_Txt tb len n so pl ct ∧ sp_lines n so ct 2001 (0, 0, 1, 0, rn2, lo2, X_ug kn2 0 (Int64.ofNat 6384748), X_ug ab2 0 1, D2, W2) = none ∧ C_bk S' B2 rc2x kc2x wc2x rn2x lo2x kn2x ab2x ∧ C_ws S' B2 D2x W2x ∧ ((∃ (fl fp : Int), C_pa S' B2 fl fp) ∧ (∃ (a1 a2 a3 : Int) (b1 b2 : Int → Int) (b3 : Int → Int64), C_lx S' a1 a2 a3 b1 b2 b3)) ∧ S'.1 2 = .inr (7, [.ref 3, .int (iI 0)]) ∧ (X_Fr (fun q => q = 2 ∨ (496 ≤ q ∧ q ≤ 500) ∨ (B2 ≤ q ∧ q < B2 + 246)) S S'))) := by
  refine X_QI (fun Q hQ => ?_)
  refine T_p xr_115_0 xn_115 (pc' := 1) (ls' := [(0, .ref 1)]) (st' := [.ref 1]) rfl ?_
  refine T_get xr_115_1 hO1 rfl (v := .ref 496) rfl (pc' := 4) rfl ?_
  refine T_p xr_115_4 xn_115 (pc' := 5) (ls' := [(0, .ref 1)]) (st' := [.ref 1, .ref 496]) rfl ?_
  refine T_get xr_115_5 hO1 rfl (v := .ref B2) rfl (pc' := 8) rfl ?_
  refine T_cv (S := S) (q := 496) xr_115_8 xf_65.1 xf_65.2.1 xn_65 (as := [.ref B2]) (r := []) rfl hp0 (Nat.le_of_ble_eq_true rfl) (Nat.le_of_ble_eq_true rfl) (pc' := 11) rfl (ls' := [(0, .ref 496), (1, .ref B2)]) rfl ?_
  refine T_mono (c_parse sc S B2 B0 len tb fl0 fp0 at0 n0 cur0 so0 pl0 ct0 rc2 kc2 wc2 rn2 lo2 kn2 ab2 D2 W2 (by omega) ⟨hO2, hA3, by omega, by omega⟩ hp0 hx0 hb2 hs2) (fun v2772 S2773 h2774 => ?_)
  obtain ⟨n, so, pl, ct, at2775, hTx, h2774 | h2774, hfr2777⟩ := h2774
  · skip
    obtain ⟨hv2776, c1, rc1, kc1, wc1, rn1, lo1, kn1, ab1, D1, W1, D3, fp1, hsp, hKk, hsD, htk, hCK⟩ := h2774
    rw [hv2776]
    have hbk : C_bk S2773 B2 rc1 kc1 wc1 rn1 lo1 kn1 ab1 := hCK.2.2.1
    have hws : C_ws S2773 B2 D3 W1 := hCK.2.2.2.1
    have hwcr := hbk.2.2.2.2.2.2.2.2
    show X_T sc 115 (11, [(0, .ref 1)], [.int (iI 1)], S2773) _
    refine T_p xr_115_11 xn_115 (pc' := 12) (ls' := [(1, .int (iI 1)), (0, .ref 1)]) (st' := []) rfl ?_
    refine T_p xr_115_12 xn_115 (pc' := 13) (ls' := [(1, .int (iI 1)), (0, .ref 1)]) (st' := [.ref 1]) rfl ?_
    have h2778 := (hfr2777.1 1 (by omega)).trans (hO1)
    refine T_get xr_115_13 h2778 rfl (v := .ref 2) rfl (pc' := 16) rfl ?_
    refine T_p xr_115_16 xn_115 (pc' := 17) (ls' := [(1, .int (iI 1)), (0, .ref 1)]) (st' := [.int (iI 0), .ref 2]) rfl ?_
    have h2779 := (hfr2777.1 2 (by omega)).trans (hO2)
    refine T_put xr_115_17 h2779 rfl (Nat.le_of_ble_eq_true rfl) rfl (fs' := [.ref 3, .int (iI 0)]) rfl (pc' := 20) rfl (fun S2780 h2781 n2782 e2783 => ?_)
    refine T_p xr_115_20 xn_115 (pc' := 21) (ls' := [(1, .int (iI 1)), (0, .ref 1)]) (st' := [.int (iI 1)]) rfl ?_
    refine T_zif_net xr_115_21 (t := 26) rfl (by decide) ?_
    refine T_p xr_115_26 xn_115 (pc' := 27) (ls' := [(1, .int (iI 1)), (0, .ref 1)]) (st' := [.ref 1]) rfl ?_
    have h2784 := (n2782 1 (by decide)).trans (h2778)
    refine T_get xr_115_27 h2784 rfl (v := .ref B2) rfl (pc' := 30) rfl ?_
    refine T_p xr_115_30 xn_115 (pc' := 31) (ls' := [(2, .ref B2), (1, .int (iI 1)), (0, .ref 1)]) (st' := []) rfl ?_
    refine T_p xr_115_31 xn_115 (pc' := 32) (ls' := [(2, .ref B2), (1, .int (iI 1)), (0, .ref 1)]) (st' := [.ref 1]) rfl ?_
    refine T_p xr_115_32 xn_115 (pc' := 33) (ls' := [(2, .ref B2), (1, .int (iI 1)), (0, .ref 1)]) (st' := [.ref 1, .ref 1]) rfl ?_
    refine T_get xr_115_33 h2784 rfl (v := .ref B) rfl (pc' := 36) rfl ?_
    refine T_put xr_115_36 h2784 rfl (Nat.le_of_ble_eq_true rfl) rfl (fs' := [.ref 2, .ref B, .ref B, .ref 496, .ref 501, .ref 504, .ref 511, .ref 517, .ref 527]) rfl (pc' := 39) rfl (fun S2785 h2786 n2787 e2788 => ?_)
    refine T_p xr_115_39 xn_115 (pc' := 40) (ls' := [(2, .ref B2), (1, .int (iI 1)), (0, .ref 1)]) (st' := [.ref 1]) rfl ?_
    refine T_p xr_115_40 xn_115 (pc' := 41) (ls' := [(2, .ref B2), (1, .int (iI 1)), (0, .ref 1)]) (st' := [.ref B2, .ref 1]) rfl ?_
    refine T_put xr_115_41 h2786 rfl (Nat.le_of_ble_eq_true rfl) rfl (fs' := [.ref 2, .ref B2, .ref B, .ref 496, .ref 501, .ref 504, .ref 511, .ref 517, .ref 527]) rfl (pc' := 44) rfl (fun S2789 h2790 n2791 e2792 => ?_)
    refine T_p xr_115_44 xn_115 (pc' := 45) (ls' := [(2, .ref B2), (1, .int (iI 1)), (0, .ref 1)]) (st' := [.ref 1]) rfl ?_
    refine T_get xr_115_45 h2790 rfl (v := .ref 501) rfl (pc' := 48) rfl ?_
    refine T_p xr_115_48 xn_115 (pc' := 49) (ls' := [(2, .ref B2), (1, .int (iI 1)), (0, .ref 1)]) (st' := [.int (iI 0), .ref 501]) rfl ?_
    have h2793 := (n2791 501 (by decide)).trans ((n2787 501 (by decide)).trans ((n2782 501 (by decide)).trans ((hfr2777.1 501 (by omega)).trans (hO501))))
    refine T_put xr_115_49 h2793 rfl (Nat.le_of_ble_eq_true rfl) rfl (fs' := [.int (iI 0), .ref 502, .ref 503]) rfl (pc' := 52) rfl (fun S2794 h2795 n2796 e2797 => ?_)
    refine T_p xr_115_52 xn_115 (pc' := 53) (ls' := [(2, .ref B2), (1, .int (iI 1)), (0, .ref 1)]) (st' := [.ref 1]) rfl ?_
    have h2798 := (n2796 1 (by decide)).trans (h2790)
    refine T_cv (S := S2794) (q := 1) xr_115_53 xf_130.1 xf_130.2.1 xn_130 (as := []) (r := []) rfl h2798 (Nat.le_of_ble_eq_true rfl) (Nat.le_of_ble_eq_true rfl) (pc' := 56) rfl (ls' := [(0, .ref 1)]) rfl ?_
    have h2799 := (n2796 511 (by decide)).trans ((n2791 511 (by decide)).trans ((n2787 511 (by decide)).trans ((n2782 511 (by decide)).trans ((hfr2777.1 511 (by omega)).trans (hO511)))))
    have h2800 := (n2796 504 (by decide)).trans ((n2791 504 (by decide)).trans ((n2787 504 (by decide)).trans ((n2782 504 (by decide)).trans ((hfr2777.1 504 (by omega)).trans (hO504)))))
    have h2801 := (n2796 527 (by decide)).trans ((n2791 527 (by decide)).trans ((n2787 527 (by decide)).trans ((n2782 527 (by decide)).trans ((hfr2777.1 527 (by omega)).trans (hO527)))))
    refine T_mono (c_dropReading sc S2794 B2 B B fl nc rs re hgt h2798 h2799 h2800 h2801) (fun v2802 S2803 h2804 => ?_)
    rcases h2804 with ⟨hv2805, ho2806, ho2807, ho2808, hf2809⟩
    rw [hv2805]
    show X_T sc 115 (56, [(2, .ref B2), (1, .int (iI 1)), (0, .ref 1)], [], S2803) _
    refine T_p xr_115_56 xn_115 (pc' := 57) (ls' := [(2, .ref B2), (1, .int (iI 1)), (0, .ref 1)]) (st' := [.ref 1]) rfl ?_
    have h2810 := (hf2809.1 1 (by omega)).trans (h2798)
    refine T_get xr_115_57 h2810 rfl (v := .ref B2) rfl (pc' := 60) rfl ?_
    have h2811 := (hf2809.1 B2 (by omega)).trans ((n2796 B2 (by omega)).trans ((n2791 B2 (by omega)).trans ((n2787 B2 (by omega)).trans ((n2782 B2 (by omega)).trans (hbk.1)))))
    refine T_get xr_115_60 h2811 rfl (v := .int (iI wc1)) rfl (pc' := 63) rfl ?_
    refine T_iret xr_115_63 xf_115.2.2 rfl ?_
    refine hQ _ _ ?_
    have hfE : X_Fr (fun q => q = 1 ∨ q = 2 ∨ q = 501 ∨ q = 504 ∨ q = 511 ∨ q = 527) S2773 S2803 := (((((X_Fr.rf).tr (X_Fr.of n2782 e2783 (by omega))).tr (X_Fr.of n2787 e2788 (by omega))).tr (X_Fr.of n2791 e2792 (by omega))).tr (X_Fr.of n2796 e2797 (by omega))).tr (X_Fr.mono ⟨hf2809.1, hf2809.2⟩ (fun q hq => (by omega)))
    have h2812 := (hf2809.1 2 (by omega)).trans ((n2796 2 (by decide)).trans ((n2791 2 (by decide)).trans ((n2787 2 (by decide)).trans (h2781))))
    have h2813 := (hf2809.1 501 (by omega)).trans (h2795)
    exact Or.inl ⟨n, so, pl, ct, c1, rc1, kc1, wc1, rn1, lo1, kn1, ab1, D1, W1, D3, rfl, hTx, hsp, hKk, hsD, htk, (hbk.fr hfE (fun k hk => by omega)), (hws.fr hfE (fun k h1 h2 => by omega)), ⟨⟨_, _, (hfE.1 496 (by omega)).trans hCK.1⟩, ⟨_, _, _, _, _, _, (hfE.1 497 (by omega)).trans hCK.2.1.1, (hfE.1 498 (by omega)).trans hCK.2.1.2.1, (hfE.1 499 (by omega)).trans hCK.2.1.2.2.1, (hfE.1 500 (by omega)).trans hCK.2.1.2.2.2⟩⟩, h2810, h2812, h2813, ho2806, ho2807, ho2808, ((((((X_Fr.rf).tr (X_Fr.mono ⟨hfr2777.1, hfr2777.2⟩ (fun q hq => (by omega)))).tr (X_Fr.of n2782 e2783 (by omega))).tr (X_Fr.of n2787 e2788 (by omega))).tr (X_Fr.of n2791 e2792 (by omega))).tr (X_Fr.of n2796 e2797 (by omega))).tr (X_Fr.mono ⟨hf2809.1, hf2809.2⟩ (fun q hq => (by omega)))⟩
  · skip
    obtain ⟨hv2776, hsp, fl1, fp1, ⟨c1, rc1, kc1, wc1, rn1, lo1, kn1, ab1, D1, W1⟩, hfl1, hCK⟩ := h2774
    rw [hv2776]
    have hbk : C_bk S2773 B2 rc1 kc1 wc1 rn1 lo1 kn1 ab1 := hCK.2.2.1
    have hws : C_ws S2773 B2 D1 W1 := hCK.2.2.2.1
    show X_T sc 115 (11, [(0, .ref 1)], [.int (iI 0)], S2773) _
    refine T_p xr_115_11 xn_115 (pc' := 12) (ls' := [(1, .int (iI 0)), (0, .ref 1)]) (st' := []) rfl ?_
    refine T_p xr_115_12 xn_115 (pc' := 13) (ls' := [(1, .int (iI 0)), (0, .ref 1)]) (st' := [.ref 1]) rfl ?_
    have h2814 := (hfr2777.1 1 (by omega)).trans (hO1)
    refine T_get xr_115_13 h2814 rfl (v := .ref 2) rfl (pc' := 16) rfl ?_
    refine T_p xr_115_16 xn_115 (pc' := 17) (ls' := [(1, .int (iI 0)), (0, .ref 1)]) (st' := [.int (iI 0), .ref 2]) rfl ?_
    have h2815 := (hfr2777.1 2 (by omega)).trans (hO2)
    refine T_put xr_115_17 h2815 rfl (Nat.le_of_ble_eq_true rfl) rfl (fs' := [.ref 3, .int (iI 0)]) rfl (pc' := 20) rfl (fun S2816 h2817 n2818 e2819 => ?_)
    refine T_p xr_115_20 xn_115 (pc' := 21) (ls' := [(1, .int (iI 0)), (0, .ref 1)]) (st' := [.int (iI 0)]) rfl ?_
    refine T_zif_nef xr_115_21 (t := 26) (pc' := 24) rfl rfl (by decide) ?_
    refine T_p xr_115_24 xn_115 (pc' := 25) (ls' := [(1, .int (iI 0)), (0, .ref 1)]) (st' := [.int (iI (-1))]) rfl ?_
    refine T_iret xr_115_25 xf_115.2.2 rfl ?_
    refine hQ _ _ ?_
    have hfE : X_Fr (fun q => q = 1 ∨ q = 2 ∨ q = 501 ∨ q = 504 ∨ q = 511 ∨ q = 527) S2773 S2816 := (X_Fr.rf).tr (X_Fr.of n2818 e2819 (by omega))
    exact Or.inr ⟨n, so, pl, ct, rc1, kc1, wc1, rn1, lo1, kn1, ab1, D1, W1, rfl, hTx, hsp, (hbk.fr hfE (fun k hk => by omega)), (hws.fr hfE (fun k h1 h2 => by omega)), ⟨⟨_, _, (hfE.1 496 (by omega)).trans hCK.1⟩, ⟨_, _, _, _, _, _, (hfE.1 497 (by omega)).trans hCK.2.1.1, (hfE.1 498 (by omega)).trans hCK.2.1.2.1, (hfE.1 499 (by omega)).trans hCK.2.1.2.2.1, (hfE.1 500 (by omega)).trans hCK.2.1.2.2.2⟩⟩, h2817, ((X_Fr.rf).tr (X_Fr.mono ⟨hfr2777.1, hfr2777.2⟩ (fun q hq => (by omega)))).tr (X_Fr.of n2818 e2819 (by omega))⟩
