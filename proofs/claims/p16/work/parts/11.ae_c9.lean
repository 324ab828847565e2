section
theorem xr_72_0 : X_row 72 0 = some (0, (.aload_n 0, 1), (0, 0, 0)) := by decide +kernel
theorem xr_72_1 : X_row 72 1 = some (1, (.getfield 23, 3), (4, 0, 18)) := by decide +kernel
theorem xr_72_4 : X_row 72 4 = some (4, (.invokevirtual 39, 3), (48, 6, 0)) := by decide +kernel
theorem xr_72_7 : X_row 72 7 = some (7, (.iconst 2, 1), (0, 0, 0)) := by decide +kernel
theorem xr_72_8 : X_row 72 8 = some (8, (.if_icmp .eq 9, 3), (0, 0, 0)) := by decide +kernel
theorem xr_72_11 : X_row 72 11 = some (11, (.aload_n 0, 1), (0, 0, 0)) := by decide +kernel
theorem xr_72_12 : X_row 72 12 = some (12, (.invokevirtual 67, 3), (67, 12, 0)) := by decide +kernel
theorem xr_72_15 : X_row 72 15 = some (15, (.iconst (-1), 1), (0, 0, 0)) := by decide +kernel
theorem xr_72_16 : X_row 72 16 = some (16, (.ireturn, 1), (0, 0, 0)) := by decide +kernel
theorem xr_72_17 : X_row 72 17 = some (17, (.aload_n 0, 1), (0, 0, 0)) := by decide +kernel
theorem xr_72_18 : X_row 72 18 = some (18, (.aload_n 0, 1), (0, 0, 0)) := by decide +kernel
theorem xr_72_19 : X_row 72 19 = some (19, (.getfield 27, 3), (4, 1, 20)) := by decide +kernel
theorem xr_72_22 : X_row 72 22 = some (22, (.aload_n 0, 1), (0, 0, 0)) := by decide +kernel
theorem xr_72_23 : X_row 72 23 = some (23, (.getfield 23, 3), (4, 0, 18)) := by decide +kernel
theorem xr_72_26 : X_row 72 26 = some (26, (.invokevirtual 86, 3), (50, 20, 0)) := by decide +kernel
theorem xr_72_29 : X_row 72 29 = some (29, (.invokevirtual 90, 3), (5, 22, 0)) := by decide +kernel
theorem xr_72_32 : X_row 72 32 = some (32, (.invokevirtual 127, 3), (74, 32, 0)) := by decide +kernel
theorem xr_72_35 : X_row 72 35 = some (35, (.ireturn, 1), (0, 0, 0)) := by decide +kernel
theorem xr_73_0 : X_row 73 0 = some (0, (.aload_n 0, 1), (0, 0, 0)) := by decide +kernel
theorem xr_73_1 : X_row 73 1 = some (1, (.getfield 23, 3), (4, 0, 18)) := by decide +kernel
theorem xr_73_4 : X_row 73 4 = some (4, (.invokevirtual 39, 3), (48, 6, 0)) := by decide +kernel
theorem xr_73_7 : X_row 73 7 = some (7, (.iconst 2, 1), (0, 0, 0)) := by decide +kernel
theorem xr_73_8 : X_row 73 8 = some (8, (.if_icmp .eq 9, 3), (0, 0, 0)) := by decide +kernel
theorem xr_73_11 : X_row 73 11 = some (11, (.aload_n 0, 1), (0, 0, 0)) := by decide +kernel
theorem xr_73_12 : X_row 73 12 = some (12, (.invokevirtual 67, 3), (67, 12, 0)) := by decide +kernel
theorem xr_73_15 : X_row 73 15 = some (15, (.iconst (-1), 1), (0, 0, 0)) := by decide +kernel
theorem xr_73_16 : X_row 73 16 = some (16, (.ireturn, 1), (0, 0, 0)) := by decide +kernel
theorem xr_73_17 : X_row 73 17 = some (17, (.aload_n 0, 1), (0, 0, 0)) := by decide +kernel
theorem xr_73_18 : X_row 73 18 = some (18, (.aload_n 0, 1), (0, 0, 0)) := by decide +kernel
theorem xr_73_19 : X_row 73 19 = some (19, (.getfield 27, 3), (4, 1, 20)) := by decide +kernel
theorem xr_73_22 : X_row 73 22 = some (22, (.aload_n 0, 1), (0, 0, 0)) := by decide +kernel
theorem xr_73_23 : X_row 73 23 = some (23, (.getfield 23, 3), (4, 0, 18)) := by decide +kernel
theorem xr_73_26 : X_row 73 26 = some (26, (.invokevirtual 86, 3), (50, 20, 0)) := by decide +kernel
theorem xr_73_29 : X_row 73 29 = some (29, (.invokevirtual 115, 3), (6, 40, 0)) := by decide +kernel
theorem xr_73_32 : X_row 73 32 = some (32, (.invokevirtual 127, 3), (74, 32, 0)) := by decide +kernel
theorem xr_73_35 : X_row 73 35 = some (35, (.ireturn, 1), (0, 0, 0)) := by decide +kernel
theorem xr_74_0 : X_row 74 0 = some (0, (.iload_n 1, 1), (0, 0, 0)) := by decide +kernel
theorem xr_74_1 : X_row 74 1 = some (1, (.iconst (-1), 1), (0, 0, 0)) := by decide +kernel
theorem xr_74_2 : X_row 74 2 = some (2, (.if_icmp .ne 18, 3), (0, 0, 0)) := by decide +kernel
theorem xr_74_5 : X_row 74 5 = some (5, (.aload_n 0, 1), (0, 0, 0)) := by decide +kernel
theorem xr_74_6 : X_row 74 6 = some (6, (.iconst 3, 1), (0, 0, 0)) := by decide +kernel
theorem xr_74_7 : X_row 74 7 = some (7, (.aload_n 0, 1), (0, 0, 0)) := by decide +kernel
theorem xr_74_8 : X_row 74 8 = some (8, (.getfield 23, 3), (4, 0, 18)) := by decide +kernel
theorem xr_74_11 : X_row 74 11 = some (11, (.invokevirtual 73, 3), (49, 14, 0)) := by decide +kernel
theorem xr_74_14 : X_row 74 14 = some (14, (.invokevirtual 76, 3), (66, 16, 0)) := by decide +kernel
theorem xr_74_17 : X_row 74 17 = some (17, (.goto 10, 3), (0, 0, 0)) := by decide +kernel
theorem xr_74_20 : X_row 74 20 = some (20, (.aload_n 0, 1), (0, 0, 0)) := by decide +kernel
theorem xr_74_21 : X_row 74 21 = some (21, (.getfield 23, 3), (4, 0, 18)) := by decide +kernel
theorem xr_74_24 : X_row 74 24 = some (24, (.invokevirtual 80, 3), (52, 18, 0)) := by decide +kernel
theorem xr_74_27 : X_row 74 27 = some (27, (.iload_n 1, 1), (0, 0, 0)) := by decide +kernel
theorem xr_74_28 : X_row 74 28 = some (28, (.ireturn, 1), (0, 0, 0)) := by decide +kernel
theorem xn_72 : X_nL 72 = 1 := by decide +kernel
theorem xf_72 : X_na 72 = 0 ∧ X_ci 72 = 4 ∧ X_rt 72 = (some .int) := by decide +kernel
theorem xn_73 : X_nL 73 = 1 := by decide +kernel
theorem xf_73 : X_na 73 = 0 ∧ X_ci 73 = 4 ∧ X_rt 73 = (some .int) := by decide +kernel
theorem xn_74 : X_nL 74 = 2 := by decide +kernel
theorem xf_74 : X_na 74 = 1 ∧ X_ci 74 = 4 ∧ X_rt 74 = (some .int) := by decide +kernel
noncomputable def sp_tight (n : Int) (so : Int → Int) (ct : Int → Int64) : X_Kp → Option X_Kp
  | (c, rc, kc, wc, rn, lo, kn, ab, D, W) =>
    if so (X_av n c) = 2 then (if X_ix rn rc (ct (X_av n c)) = -1 then none else if so (X_av n (X_av n c)) = 2 then (if X_ix rn rc (ct (X_av n (X_av n c))) = -1 then none else
      if X_ix rn rc (ct (X_av n c)) = X_ix rn rc (ct (X_av n (X_av n c))) then none else
      @ite _ (X_bt (lo (X_ix rn rc (ct (X_av n (X_av n c))))) (X_ix rn rc (ct (X_av n c)))) (Classical.propDecidable _) none (
      if so (X_av n (X_av n (X_av n c))) = 59 then
        some (X_av n (X_av n (X_av n (X_av n c))), rc, kc, wc, rn, X_tf rc lo (X_ix rn rc (ct (X_av n c))) (X_ix rn rc (ct (X_av n (X_av n c)))), kn, ab, D, W) else none)) else none) else none
theorem c_refuse (sc : X_Sc) (S : X_S) (B : Nat) (fl fp at_ n cur : Int) (so pl : Int → Int) (ct : Int → Int64) (hp : C_pa S B fl fp) (hx : C_lx S at_ n cur so pl ct) (hcu : 0 ≤ cur ∧ cur < n ∧ n ≤ 2001) (hso : ∀ i, 0 ≤ i → i < n → 0 ≤ so i ∧ so i ≤ 255) : X_T sc 67 (0, [(0, .ref 496)], [], S) (fun v S' => v = none ∧ (∃ fl' fp', (¬ fl' = 0 ∧ 0 ≤ fl' ∧ fl' ≤ 5) ∧ C_pa S' B fl' fp') ∧ X_Fr (fun q => q = 496) S S') := by
  refine X_QI (fun Q hQ => ?_)
  refine T_p xr_67_0 xn_67 (pc' := 1) (ls' := [(0, .ref 496)]) (st' := [.ref 496]) rfl ?_
  refine T_p xr_67_1 xn_67 (pc' := 2) (ls' := [(0, .ref 496)]) (st' := [.ref 496, .ref 496]) rfl ?_
  refine T_get xr_67_2 hp rfl (v := .ref 497) rfl (pc' := 5) rfl ?_
  refine T_cv (S := S) (q := 497) xr_67_5 xf_48.1 xf_48.2.1 xn_48 (as := []) (r := [.ref 496]) rfl hx.1 (Nat.le_of_ble_eq_true rfl) (Nat.le_of_ble_eq_true rfl) (pc' := 8) rfl (ls' := [(0, .ref 497)]) rfl ?_
  refine T_mono (c_sort sc S at_ n cur so pl ct ⟨hx.1, hx.2.1, hx.2.2.1, hx.2.2.2⟩ (by omega)) (fun v878 S879 h877 => ?_)
  obtain ⟨h880, h881⟩ := h877
  rw [h880, h881]
  show X_T sc 67 (8, [(0, .ref 496)], [.int (iI (so cur)), .ref 496], S) _
  have hs882 := hso cur (by omega) (by omega)
  refine T_p xr_67_8 xn_67 (pc' := 9) (ls' := [(0, .ref 496)]) (st' := [.int (iI 1), .int (iI (so cur)), .ref 496]) rfl ?_
  refine T_zicmp_ne xr_67_9 (t := 16) (pc' := 12) rfl rfl (fun c883 => ?_) (fun c883 => ?_)
  · skip
    have c883 : ¬ (so cur) = 1 := c883
    refine T_p xr_67_16 xn_67 (pc' := 17) (ls' := [(0, .ref 496)]) (st' := [.int (iI 2), .ref 496]) rfl ?_
    refine T_p xr_67_17 xn_67 (pc' := 18) (ls' := [(0, .ref 496)]) (st' := [.ref 496, .int (iI 2), .ref 496]) rfl ?_
    refine T_get xr_67_18 hp rfl (v := .ref 497) rfl (pc' := 21) rfl ?_
    refine T_cv (S := S) (q := 497) xr_67_21 xf_49.1 xf_49.2.1 xn_49 (as := []) (r := [.int (iI 2), .ref 496]) rfl hx.1 (Nat.le_of_ble_eq_true rfl) (Nat.le_of_ble_eq_true rfl) (pc' := 24) rfl (ls' := [(0, .ref 497)]) rfl ?_
    refine T_mono (c_place sc S at_ n cur so pl ct ⟨hx.1, hx.2.1, hx.2.2.1, hx.2.2.2⟩ (by omega)) (fun v885 S886 h884 => ?_)
    obtain ⟨h887, h888⟩ := h884
    rw [h887, h888]
    show X_T sc 67 (24, [(0, .ref 496)], [.int (iI (pl cur)), .int (iI 2), .ref 496], S) _
    refine T_cv (S := S) (q := 496) xr_67_24 xf_66.1 xf_66.2.1 xn_66 (as := [.int (iI 2), .int (iI (pl cur))]) (r := []) rfl hp (Nat.le_of_ble_eq_true rfl) (Nat.le_of_ble_eq_true rfl) (pc' := 27) rfl (ls' := [(0, .ref 496), (1, .int (iI 2)), (2, .int (iI (pl cur)))]) rfl ?_
    refine T_p xr_66_0 xn_66 (pc' := 1) (ls' := [(0, .ref 496), (1, .int (iI 2)), (2, .int (iI (pl cur)))]) (st' := [.ref 496]) rfl ?_
    refine T_p xr_66_1 xn_66 (pc' := 2) (ls' := [(0, .ref 496), (1, .int (iI 2)), (2, .int (iI (pl cur)))]) (st' := [.int (iI 2), .ref 496]) rfl ?_
    refine T_put xr_66_2 hp rfl (Nat.le_of_ble_eq_true rfl) rfl (fs' := [.ref 497, .ref B, .int (iI 2), .int (iI fp)]) rfl (pc' := 5) rfl (fun S889 h890 n891 e892 => ?_)
    refine T_p xr_66_5 xn_66 (pc' := 6) (ls' := [(0, .ref 496), (1, .int (iI 2)), (2, .int (iI (pl cur)))]) (st' := [.ref 496]) rfl ?_
    refine T_p xr_66_6 xn_66 (pc' := 7) (ls' := [(0, .ref 496), (1, .int (iI 2)), (2, .int (iI (pl cur)))]) (st' := [.int (iI (pl cur)), .ref 496]) rfl ?_
    refine T_put xr_66_7 h890 rfl (Nat.le_of_ble_eq_true rfl) rfl (fs' := [.ref 497, .ref B, .int (iI 2), .int (iI (pl cur))]) rfl (pc' := 10) rfl (fun S893 h894 n895 e896 => ?_)
    refine T_vret xr_66_10 xf_66.2.2 ?_
    show X_T sc 67 (27, [(0, .ref 496)], [], S893) _
    refine T_vret xr_67_27 xf_67.2.2 ?_
    refine hQ _ _ ?_
    exact ⟨rfl, ⟨2, pl cur, by omega, h894⟩, ((X_Fr.rf).tr (X_Fr.of n891 e892 (by first | decide | exact ⟨Nat.le_add_right _ _, Nat.add_le_add_left (by decide) _⟩ | omega))).tr (X_Fr.of n895 e896 (by first | decide | exact ⟨Nat.le_add_right _ _, Nat.add_le_add_left (by decide) _⟩ | omega))⟩
  · skip
    have c883 : ¬ (¬ (so cur) = 1) := c883
    refine T_p xr_67_12 xn_67 (pc' := 13) (ls' := [(0, .ref 496)]) (st' := [.int (iI 1), .ref 496]) rfl ?_
    refine T_p xr_67_13 xn_67 (pc' := 17) (ls' := [(0, .ref 496)]) (st' := [.int (iI 1), .ref 496]) rfl ?_
    refine T_p xr_67_17 xn_67 (pc' := 18) (ls' := [(0, .ref 496)]) (st' := [.ref 496, .int (iI 1), .ref 496]) rfl ?_
    refine T_get xr_67_18 hp rfl (v := .ref 497) rfl (pc' := 21) rfl ?_
    refine T_cv (S := S) (q := 497) xr_67_21 xf_49.1 xf_49.2.1 xn_49 (as := []) (r := [.int (iI 1), .ref 496]) rfl hx.1 (Nat.le_of_ble_eq_true rfl) (Nat.le_of_ble_eq_true rfl) (pc' := 24) rfl (ls' := [(0, .ref 497)]) rfl ?_
    refine T_mono (c_place sc S at_ n cur so pl ct ⟨hx.1, hx.2.1, hx.2.2.1, hx.2.2.2⟩ (by omega)) (fun v898 S899 h897 => ?_)
    obtain ⟨h900, h901⟩ := h897
    rw [h900, h901]
    show X_T sc 67 (24, [(0, .ref 496)], [.int (iI (pl cur)), .int (iI 1), .ref 496], S) _
    refine T_cv (S := S) (q := 496) xr_67_24 xf_66.1 xf_66.2.1 xn_66 (as := [.int (iI 1), .int (iI (pl cur))]) (r := []) rfl hp (Nat.le_of_ble_eq_true rfl) (Nat.le_of_ble_eq_true rfl) (pc' := 27) rfl (ls' := [(0, .ref 496), (1, .int (iI 1)), (2, .int (iI (pl cur)))]) rfl ?_
    refine T_p xr_66_0 xn_66 (pc' := 1) (ls' := [(0, .ref 496), (1, .int (iI 1)), (2, .int (iI (pl cur)))]) (st' := [.ref 496]) rfl ?_
    refine T_p xr_66_1 xn_66 (pc' := 2) (ls' := [(0, .ref 496), (1, .int (iI 1)), (2, .int (iI (pl cur)))]) (st' := [.int (iI 1), .ref 496]) rfl ?_
    refine T_put xr_66_2 hp rfl (Nat.le_of_ble_eq_true rfl) rfl (fs' := [.ref 497, .ref B, .int (iI 1), .int (iI fp)]) rfl (pc' := 5) rfl (fun S902 h903 n904 e905 => ?_)
    refine T_p xr_66_5 xn_66 (pc' := 6) (ls' := [(0, .ref 496), (1, .int (iI 1)), (2, .int (iI (pl cur)))]) (st' := [.ref 496]) rfl ?_
    refine T_p xr_66_6 xn_66 (pc' := 7) (ls' := [(0, .ref 496), (1, .int (iI 1)), (2, .int (iI (pl cur)))]) (st' := [.int (iI (pl cur)), .ref 496]) rfl ?_
    refine T_put xr_66_7 h903 rfl (Nat.le_of_ble_eq_true rfl) rfl (fs' := [.ref 497, .ref B, .int (iI 1), .int (iI (pl cur))]) rfl (pc' := 10) rfl (fun S906 h907 n908 e909 => ?_)
    refine T_vret xr_66_10 xf_66.2.2 ?_
    show X_T sc 67 (27, [(0, .ref 496)], [], S906) _
    refine T_vret xr_67_27 xf_67.2.2 ?_
    refine hQ _ _ ?_
    exact ⟨rfl, ⟨1, pl cur, by omega, h907⟩, ((X_Fr.rf).tr (X_Fr.of n904 e905 (by first | decide | exact ⟨Nat.le_add_right _ _, Nat.add_le_add_left (by decide) _⟩ | omega))).tr (X_Fr.of n908 e909 (by first | decide | exact ⟨Nat.le_add_right _ _, Nat.add_le_add_left (by decide) _⟩ | omega))⟩
theorem c_pass (sc : X_Sc) (S : X_S) (B : Nat) (fl fp at_ n cur : Int) (so pl : Int → Int) (ct : Int → Int64) (s : Int) (hp : C_pa S B fl fp) (hx : C_lx S at_ n cur so pl ct) (hcu : 0 ≤ cur ∧ cur < n ∧ n ≤ 2001) (hso : ∀ i, 0 ≤ i → i < n → 0 ≤ so i ∧ so i ≤ 255) (hs_ : 0 ≤ s ∧ s ≤ 255) : X_T sc 68 (0, [(0, .ref 496), (1, .int (iI s))], [], S) (fun v S' => (v = some (.int (iI 1)) ∧ so cur = s ∧ C_pa S' B fl fp ∧ S'.1 497 = .inr (3, [.ref 2, .int (iI at_), .int (iI n), .ref 498, .ref 499, .ref 500, .int (iI (X_av n cur))]) ∧ X_Fr (fun q => q = 496 ∨ q = 497) S S') ∨ (v = some (.int (iI 0)) ∧ ¬ so cur = s ∧ (∃ fl' fp', (¬ fl' = 0 ∧ 0 ≤ fl' ∧ fl' ≤ 5) ∧ C_pa S' B fl' fp') ∧ S'.1 497 = .inr (3, [.ref 2, .int (iI at_), .int (iI n), .ref 498, .ref 499, .ref 500, .int (iI (cur))]) ∧ X_Fr (fun q => q = 496 ∨ q = 497) S S')) := by
  refine X_QI (fun Q hQ => ?_)
  refine T_p xr_68_0 xn_68 (pc' := 1) (ls' := [(0, .ref 496), (1, .int (iI s))]) (st' := [.ref 496]) rfl ?_
  refine T_get xr_68_1 hp rfl (v := .ref 497) rfl (pc' := 4) rfl ?_
  refine T_cv (S := S) (q := 497) xr_68_4 xf_48.1 xf_48.2.1 xn_48 (as := []) (r := []) rfl hx.1 (Nat.le_of_ble_eq_true rfl) (Nat.le_of_ble_eq_true rfl) (pc' := 7) rfl (ls' := [(0, .ref 497)]) rfl ?_
  refine T_mono (c_sort sc S at_ n cur so pl ct ⟨hx.1, hx.2.1, hx.2.2.1, hx.2.2.2⟩ (by omega)) (fun v911 S912 h910 => ?_)
  obtain ⟨h913, h914⟩ := h910
  rw [h913, h914]
  show X_T sc 68 (7, [(0, .ref 496), (1, .int (iI s))], [.int (iI (so cur))], S) _
  have hs915 := hso cur (by omega) (by omega)
  refine T_p xr_68_7 xn_68 (pc' := 8) (ls' := [(0, .ref 496), (1, .int (iI s))]) (st' := [.int (iI s), .int (iI (so cur))]) rfl ?_
  refine T_zicmp_eq xr_68_8 (t := 17) (pc' := 11) rfl rfl (fun c916 => ?_) (fun c916 => ?_)
  · skip
    have c916 : (so cur) = s := c916
    refine T_p xr_68_17 xn_68 (pc' := 18) (ls' := [(0, .ref 496), (1, .int (iI s))]) (st' := [.ref 496]) rfl ?_
    refine T_get xr_68_18 hp rfl (v := .ref 497) rfl (pc' := 21) rfl ?_
    refine T_cv (S := S) (q := 497) xr_68_21 xf_52.1 xf_52.2.1 xn_52 (as := []) (r := []) rfl hx.1 (Nat.le_of_ble_eq_true rfl) (Nat.le_of_ble_eq_true rfl) (pc' := 24) rfl (ls' := [(0, .ref 497)]) rfl ?_
    refine T_mono (c_advance sc S at_ n cur so pl ct ⟨hx.1, hx.2.1, hx.2.2.1, hx.2.2.2⟩ (by omega)) (fun v918 S919 h917 => ?_)
    obtain ⟨h920, h922, h921⟩ := h917
    rw [h920]
    show X_T sc 68 (24, [(0, .ref 496), (1, .int (iI s))], [], S919) _
    have hv923 := X_av_r (n := n) (c := cur) (by omega)
    refine T_p xr_68_24 xn_68 (pc' := 25) (ls' := [(0, .ref 496), (1, .int (iI s))]) (st' := [.int (iI 1)]) rfl ?_
    refine T_iret xr_68_25 xf_68.2.2 (by decide) ?_
    refine hQ _ _ ?_
    have h924 := (h921.1 496 (by first | decide | omega)).trans (hp)
    exact Or.inl ⟨rfl, by assumption, h924, h922, (X_Fr.rf).tr (X_Fr.mono ⟨h921.1, h921.2⟩ (fun q hq => (by omega)))⟩
  · skip
    have c916 : ¬ ((so cur) = s) := c916
    refine T_p xr_68_11 xn_68 (pc' := 12) (ls' := [(0, .ref 496), (1, .int (iI s))]) (st' := [.ref 496]) rfl ?_
    refine T_cv (S := S) (q := 496) xr_68_12 xf_67.1 xf_67.2.1 xn_67 (as := []) (r := []) rfl hp (Nat.le_of_ble_eq_true rfl) (Nat.le_of_ble_eq_true rfl) (pc' := 15) rfl (ls' := [(0, .ref 496)]) rfl ?_
    refine T_mono (c_refuse sc S B fl fp at_ n cur so pl ct hp ⟨hx.1, hx.2.1, hx.2.2.1, hx.2.2.2⟩ (by omega) hso) (fun v925 S926 h927 => ?_)
    obtain ⟨h928, ⟨fl929, fp930, hn931, hp932⟩, hf933⟩ := h927
    rw [h928]
    show X_T sc 68 (15, [(0, .ref 496), (1, .int (iI s))], [], S926) _
    refine T_p xr_68_15 xn_68 (pc' := 16) (ls' := [(0, .ref 496), (1, .int (iI s))]) (st' := [.int (iI 0)]) rfl ?_
    refine T_iret xr_68_16 xf_68.2.2 (by decide) ?_
    refine hQ _ _ ?_
    have h934 := (hf933.1 497 (by first | decide | omega)).trans (hx.1)
    exact Or.inr ⟨rfl, by assumption, ⟨_, _, by omega, hp932⟩, h934, (X_Fr.rf).tr (X_Fr.mono ⟨hf933.1, hf933.2⟩ (fun q hq => (by omega)))⟩
theorem c_passRank (sc : X_Sc) (S : X_S) (B : Nat) (fl fp at_ n cur : Int) (so pl : Int → Int) (ct : Int → Int64) (rc kc wc : Int) (rn : Int → Int64) (lo : Int → Int) (kn : Int → Int64) (ab : Int → Int) (hp : C_pa S B fl fp) (hx : C_lx S at_ n cur so pl ct) (hcu : 0 ≤ cur ∧ cur < n ∧ n ≤ 2001) (hso : ∀ i, 0 ≤ i → i < n → 0 ≤ so i ∧ so i ≤ 255) (hB : 4 ≤ B ∧ B + 246 ≤ 496) (hb : C_bk S B rc kc wc rn lo kn ab) : X_T sc 72 (0, [(0, .ref 496)], [], S) (fun v S' => (v = some (.int (iI (X_ix rn rc (ct cur)))) ∧ so cur = 2 ∧ ¬ X_ix rn rc (ct cur) = -1 ∧ (0 ≤ X_ix rn rc (ct cur) ∧ X_ix rn rc (ct cur) < rc) ∧ C_pa S' B fl fp ∧ S'.1 497 = .inr (3, [.ref 2, .int (iI at_), .int (iI n), .ref 498, .ref 499, .ref 500, .int (iI (X_av n cur))]) ∧ X_Fr (fun q => q = 496 ∨ q = 497) S S') ∨ (v = some (.int (iI (-1))) ∧ (¬ so cur = 2 ∨ X_ix rn rc (ct cur) = -1) ∧ (∃ fl' fp', (¬ fl' = 0 ∧ 0 ≤ fl' ∧ fl' ≤ 5) ∧ C_pa S' B fl' fp') ∧ S'.1 497 = .inr (3, [.ref 2, .int (iI at_), .int (iI n), .ref 498, .ref 499, .ref 500, .int (iI (cur))]) ∧ X_Fr (fun q => q = 496 ∨ q = 497) S S')) := by
  obtain ⟨hb0, hb1, hb2, hb3, hb4, ⟨f, hb5, hf⟩, ⟨hrc, hrcb⟩, ⟨hkc, hkcb⟩, ⟨hwc, hwcb⟩⟩ := id hb
  refine X_QI (fun Q hQ => ?_)
  refine T_p xr_72_0 xn_72 (pc' := 1) (ls' := [(0, .ref 496)]) (st' := [.ref 496]) rfl ?_
  refine T_get xr_72_1 hp rfl (v := .ref 497) rfl (pc' := 4) rfl ?_
  refine T_cv (S := S) (q := 497) xr_72_4 xf_48.1 xf_48.2.1 xn_48 (as := []) (r := []) rfl hx.1 (Nat.le_of_ble_eq_true rfl) (Nat.le_of_ble_eq_true rfl) (pc' := 7) rfl (ls' := [(0, .ref 497)]) rfl ?_
  refine T_mono (c_sort sc S at_ n cur so pl ct ⟨hx.1, hx.2.1, hx.2.2.1, hx.2.2.2⟩ (by omega)) (fun v936 S937 h935 => ?_)
  obtain ⟨h938, h939⟩ := h935
  rw [h938, h939]
  show X_T sc 72 (7, [(0, .ref 496)], [.int (iI (so cur))], S) _
  have hs940 := hso cur (by omega) (by omega)
  refine T_p xr_72_7 xn_72 (pc' := 8) (ls' := [(0, .ref 496)]) (st' := [.int (iI 2), .int (iI (so cur))]) rfl ?_
  refine T_zicmp_eq xr_72_8 (t := 17) (pc' := 11) rfl rfl (fun c941 => ?_) (fun c941 => ?_)
  · skip
    have c941 : (so cur) = 2 := c941
    refine T_p xr_72_17 xn_72 (pc' := 18) (ls' := [(0, .ref 496)]) (st' := [.ref 496]) rfl ?_
    refine T_p xr_72_18 xn_72 (pc' := 19) (ls' := [(0, .ref 496)]) (st' := [.ref 496, .ref 496]) rfl ?_
    refine T_get xr_72_19 hp rfl (v := .ref B) rfl (pc' := 22) rfl ?_
    refine T_p xr_72_22 xn_72 (pc' := 23) (ls' := [(0, .ref 496)]) (st' := [.ref 496, .ref B, .ref 496]) rfl ?_
    refine T_get xr_72_23 hp rfl (v := .ref 497) rfl (pc' := 26) rfl ?_
    refine T_cv (S := S) (q := 497) xr_72_26 xf_50.1 xf_50.2.1 xn_50 (as := []) (r := [.ref B, .ref 496]) rfl hx.1 (Nat.le_of_ble_eq_true rfl) (Nat.le_of_ble_eq_true rfl) (pc' := 29) rfl (ls' := [(0, .ref 497)]) rfl ?_
    refine T_mono (c_content sc S at_ n cur so pl ct ⟨hx.1, hx.2.1, hx.2.2.1, hx.2.2.2⟩ (by omega)) (fun v943 S944 h942 => ?_)
    obtain ⟨h945, h946⟩ := h942
    rw [h945, h946]
    show X_T sc 72 (29, [(0, .ref 496)], [.long (ct cur), .ref B, .ref 496], S) _
    refine T_cv (S := S) (q := B) xr_72_29 xf_5.1 xf_5.2.1 xn_5 (as := [.long (ct cur)]) (r := [.ref 496]) rfl hb0 (Nat.le_of_ble_eq_true rfl) (Nat.le_of_ble_eq_true rfl) (pc' := 32) rfl (ls' := [(0, .ref B), (1, .long (ct cur))]) rfl ?_
    refine T_mono (c_rankNamed sc S B rc kc wc rn lo kn ab (ct cur) ⟨hb0, hb1, hb2, hb3, hb4, ⟨f, hb5, hf⟩, ⟨by omega, by omega⟩, ⟨by omega, by omega⟩, ⟨by omega, by omega⟩⟩) (fun v947 S948 h949 => ?_)
    obtain ⟨r950, h951, hx952, h953⟩ := h949
    rw [h951, h953]
    have hr954 := X_Ix_r (by omega) hx952
    have hq955 := X_ix_e hx952
    show X_T sc 72 (32, [(0, .ref 496)], [.int (iI r950), .ref 496], S) _
    refine T_cv (S := S) (q := 496) xr_72_32 xf_74.1 xf_74.2.1 xn_74 (as := [.int (iI r950)]) (r := []) rfl hp (Nat.le_of_ble_eq_true rfl) (Nat.le_of_ble_eq_true rfl) (pc' := 35) rfl (ls' := [(0, .ref 496), (1, .int (iI r950))]) rfl ?_
    refine T_p xr_74_0 xn_74 (pc' := 1) (ls' := [(0, .ref 496), (1, .int (iI r950))]) (st' := [.int (iI r950)]) rfl ?_
    refine T_p xr_74_1 xn_74 (pc' := 2) (ls' := [(0, .ref 496), (1, .int (iI r950))]) (st' := [.int (iI (-1)), .int (iI r950)]) rfl ?_
    refine T_zicmp_ne xr_74_2 (t := 20) (pc' := 5) rfl rfl (fun c956 => ?_) (fun c956 => ?_)
    · skip
      have c956 : ¬ r950 = (-1) := c956
      refine T_p xr_74_20 xn_74 (pc' := 21) (ls' := [(0, .ref 496), (1, .int (iI r950))]) (st' := [.ref 496]) rfl ?_
      refine T_get xr_74_21 hp rfl (v := .ref 497) rfl (pc' := 24) rfl ?_
      refine T_cv (S := S) (q := 497) xr_74_24 xf_52.1 xf_52.2.1 xn_52 (as := []) (r := []) rfl hx.1 (Nat.le_of_ble_eq_true rfl) (Nat.le_of_ble_eq_true rfl) (pc' := 27) rfl (ls' := [(0, .ref 497)]) rfl ?_
      refine T_mono (c_advance sc S at_ n cur so pl ct ⟨hx.1, hx.2.1, hx.2.2.1, hx.2.2.2⟩ (by omega)) (fun v958 S959 h957 => ?_)
      obtain ⟨h960, h962, h961⟩ := h957
      rw [h960]
      show X_T sc 74 (27, [(0, .ref 496), (1, .int (iI r950))], [], S959) _
      have hv963 := X_av_r (n := n) (c := cur) (by omega)
      refine T_p xr_74_27 xn_74 (pc' := 28) (ls' := [(0, .ref 496), (1, .int (iI r950))]) (st' := [.int (iI r950)]) rfl ?_
      refine T_iret xr_74_28 xf_74.2.2 rfl ?_
      show X_T sc 72 (35, [(0, .ref 496)], [.int (iI r950)], S959) _
      refine T_iret xr_72_35 xf_72.2.2 rfl ?_
      refine hQ _ _ ?_
      have h964 := (h961.1 496 (by first | decide | omega)).trans (hp)
      exact Or.inl ⟨by subst_vars; rfl, by assumption, by omega, by omega, h964, h962, (X_Fr.rf).tr (X_Fr.mono ⟨h961.1, h961.2⟩ (fun q hq => (by omega)))⟩
    · skip
      have c956 : ¬ (¬ r950 = (-1)) := c956
      refine T_p xr_74_5 xn_74 (pc' := 6) (ls' := [(0, .ref 496), (1, .int (iI r950))]) (st' := [.ref 496]) rfl ?_
      refine T_p xr_74_6 xn_74 (pc' := 7) (ls' := [(0, .ref 496), (1, .int (iI r950))]) (st' := [.int (iI 3), .ref 496]) rfl ?_
      refine T_p xr_74_7 xn_74 (pc' := 8) (ls' := [(0, .ref 496), (1, .int (iI r950))]) (st' := [.ref 496, .int (iI 3), .ref 496]) rfl ?_
      refine T_get xr_74_8 hp rfl (v := .ref 497) rfl (pc' := 11) rfl ?_
      refine T_cv (S := S) (q := 497) xr_74_11 xf_49.1 xf_49.2.1 xn_49 (as := []) (r := [.int (iI 3), .ref 496]) rfl hx.1 (Nat.le_of_ble_eq_true rfl) (Nat.le_of_ble_eq_true rfl) (pc' := 14) rfl (ls' := [(0, .ref 497)]) rfl ?_
      refine T_mono (c_place sc S at_ n cur so pl ct ⟨hx.1, hx.2.1, hx.2.2.1, hx.2.2.2⟩ (by omega)) (fun v966 S967 h965 => ?_)
      obtain ⟨h968, h969⟩ := h965
      rw [h968, h969]
      show X_T sc 74 (14, [(0, .ref 496), (1, .int (iI r950))], [.int (iI (pl cur)), .int (iI 3), .ref 496], S) _
      refine T_cv (S := S) (q := 496) xr_74_14 xf_66.1 xf_66.2.1 xn_66 (as := [.int (iI 3), .int (iI (pl cur))]) (r := []) rfl hp (Nat.le_of_ble_eq_true rfl) (Nat.le_of_ble_eq_true rfl) (pc' := 17) rfl (ls' := [(0, .ref 496), (1, .int (iI 3)), (2, .int (iI (pl cur)))]) rfl ?_
      refine T_p xr_66_0 xn_66 (pc' := 1) (ls' := [(0, .ref 496), (1, .int (iI 3)), (2, .int (iI (pl cur)))]) (st' := [.ref 496]) rfl ?_
      refine T_p xr_66_1 xn_66 (pc' := 2) (ls' := [(0, .ref 496), (1, .int (iI 3)), (2, .int (iI (pl cur)))]) (st' := [.int (iI 3), .ref 496]) rfl ?_
      refine T_put xr_66_2 hp rfl (Nat.le_of_ble_eq_true rfl) rfl (fs' := [.ref 497, .ref B, .int (iI 3), .int (iI fp)]) rfl (pc' := 5) rfl (fun S970 h971 n972 e973 => ?_)
      refine T_p xr_66_5 xn_66 (pc' := 6) (ls' := [(0, .ref 496), (1, .int (iI 3)), (2, .int (iI (pl cur)))]) (st' := [.ref 496]) rfl ?_
      refine T_p xr_66_6 xn_66 (pc' := 7) (ls' := [(0, .ref 496), (1, .int (iI 3)), (2, .int (iI (pl cur)))]) (st' := [.int (iI (pl cur)), .ref 496]) rfl ?_
      refine T_put xr_66_7 h971 rfl (Nat.le_of_ble_eq_true rfl) rfl (fs' := [.ref 497, .ref B, .int (iI 3), .int (iI (pl cur))]) rfl (pc' := 10) rfl (fun S974 h975 n976 e977 => ?_)
      refine T_vret xr_66_10 xf_66.2.2 ?_
      show X_T sc 74 (17, [(0, .ref 496), (1, .int (iI r950))], [], S974) _
      refine T_p xr_74_17 xn_74 (pc' := 27) (ls' := [(0, .ref 496), (1, .int (iI r950))]) (st' := []) rfl ?_
      refine T_p xr_74_27 xn_74 (pc' := 28) (ls' := [(0, .ref 496), (1, .int (iI r950))]) (st' := [.int (iI r950)]) rfl ?_
      refine T_iret xr_74_28 xf_74.2.2 rfl ?_
      show X_T sc 72 (35, [(0, .ref 496)], [.int (iI r950)], S974) _
      refine T_iret xr_72_35 xf_72.2.2 rfl ?_
      refine hQ _ _ ?_
      have h978 := (n976 497 (by decide)).trans ((n972 497 (by decide)).trans (hx.1))
      exact Or.inr ⟨by rw [show r950 = -1 by omega], by first | exact Or.inl (by assumption) | exact Or.inr (by omega), ⟨_, _, by omega, h975⟩, h978, ((X_Fr.rf).tr (X_Fr.of n972 e973 (by first | decide | exact ⟨Nat.le_add_right _ _, Nat.add_le_add_left (by decide) _⟩ | omega))).tr (X_Fr.of n976 e977 (by first | decide | exact ⟨Nat.le_add_right _ _, Nat.add_le_add_left (by decide) _⟩ | omega))⟩
  · skip
    have c941 : ¬ ((so cur) = 2) := c941
    refine T_p xr_72_11 xn_72 (pc' := 12) (ls' := [(0, .ref 496)]) (st' := [.ref 496]) rfl ?_
    refine T_cv (S := S) (q := 496) xr_72_12 xf_67.1 xf_67.2.1 xn_67 (as := []) (r := []) rfl hp (Nat.le_of_ble_eq_true rfl) (Nat.le_of_ble_eq_true rfl) (pc' := 15) rfl (ls' := [(0, .ref 496)]) rfl ?_
    refine T_mono (c_refuse sc S B fl fp at_ n cur so pl ct hp ⟨hx.1, hx.2.1, hx.2.2.1, hx.2.2.2⟩ (by omega) hso) (fun v979 S980 h981 => ?_)
    obtain ⟨h982, ⟨fl983, fp984, hn985, hp986⟩, hf987⟩ := h981
    rw [h982]
    show X_T sc 72 (15, [(0, .ref 496)], [], S980) _
    refine T_p xr_72_15 xn_72 (pc' := 16) (ls' := [(0, .ref 496)]) (st' := [.int (iI (-1))]) rfl ?_
    refine T_iret xr_72_16 xf_72.2.2 rfl ?_
    refine hQ _ _ ?_
    have h988 := (hf987.1 497 (by first | decide | omega)).trans (hx.1)
    exact Or.inr ⟨rfl, by first | exact Or.inl (by assumption) | exact Or.inr (by omega), ⟨_, _, by omega, hp986⟩, h988, (X_Fr.rf).tr (X_Fr.mono ⟨hf987.1, hf987.2⟩ (fun q hq => (by omega)))⟩
theorem c_passKind (sc : X_Sc) (S : X_S) (B : Nat) (fl fp at_ n cur : Int) (so pl : Int → Int) (ct : Int → Int64) (rc kc wc : Int) (rn : Int → Int64) (lo : Int → Int) (kn : Int → Int64) (ab : Int → Int) (hp : C_pa S B fl fp) (hx : C_lx S at_ n cur so pl ct) (hcu : 0 ≤ cur ∧ cur < n ∧ n ≤ 2001) (hso : ∀ i, 0 ≤ i → i < n → 0 ≤ so i ∧ so i ≤ 255) (hB : 4 ≤ B ∧ B + 246 ≤ 496) (hb : C_bk S B rc kc wc rn lo kn ab) : X_T sc 73 (0, [(0, .ref 496)], [], S) (fun v S' => (v = some (.int (iI (X_ix kn kc (ct cur)))) ∧ so cur = 2 ∧ ¬ X_ix kn kc (ct cur) = -1 ∧ (0 ≤ X_ix kn kc (ct cur) ∧ X_ix kn kc (ct cur) < kc) ∧ C_pa S' B fl fp ∧ S'.1 497 = .inr (3, [.ref 2, .int (iI at_), .int (iI n), .ref 498, .ref 499, .ref 500, .int (iI (X_av n cur))]) ∧ X_Fr (fun q => q = 496 ∨ q = 497) S S') ∨ (v = some (.int (iI (-1))) ∧ (¬ so cur = 2 ∨ X_ix kn kc (ct cur) = -1) ∧ (∃ fl' fp', (¬ fl' = 0 ∧ 0 ≤ fl' ∧ fl' ≤ 5) ∧ C_pa S' B fl' fp') ∧ S'.1 497 = .inr (3, [.ref 2, .int (iI at_), .int (iI n), .ref 498, .ref 499, .ref 500, .int (iI (cur))]) ∧ X_Fr (fun q => q = 496 ∨ q = 497) S S')) := by
  obtain ⟨hb0, hb1, hb2, hb3, hb4, ⟨f, hb5, hf⟩, ⟨hrc, hrcb⟩, ⟨hkc, hkcb⟩, ⟨hwc, hwcb⟩⟩ := id hb
  refine X_QI (fun Q hQ => ?_)
  refine T_p xr_73_0 xn_73 (pc' := 1) (ls' := [(0, .ref 496)]) (st' := [.ref 496]) rfl ?_
  refine T_get xr_73_1 hp rfl (v := .ref 497) rfl (pc' := 4) rfl ?_
  refine T_cv (S := S) (q := 497) xr_73_4 xf_48.1 xf_48.2.1 xn_48 (as := []) (r := []) rfl hx.1 (Nat.le_of_ble_eq_true rfl) (Nat.le_of_ble_eq_true rfl) (pc' := 7) rfl (ls' := [(0, .ref 497)]) rfl ?_
  refine T_mono (c_sort sc S at_ n cur so pl ct ⟨hx.1, hx.2.1, hx.2.2.1, hx.2.2.2⟩ (by omega)) (fun v990 S991 h989 => ?_)
  obtain ⟨h992, h993⟩ := h989
  rw [h992, h993]
  show X_T sc 73 (7, [(0, .ref 496)], [.int (iI (so cur))], S) _
  have hs994 := hso cur (by omega) (by omega)
  refine T_p xr_73_7 xn_73 (pc' := 8) (ls' := [(0, .ref 496)]) (st' := [.int (iI 2), .int (iI (so cur))]) rfl ?_
  refine T_zicmp_eq xr_73_8 (t := 17) (pc' := 11) rfl rfl (fun c995 => ?_) (fun c995 => ?_)
  · skip
    have c995 : (so cur) = 2 := c995
    refine T_p xr_73_17 xn_73 (pc' := 18) (ls' := [(0, .ref 496)]) (st' := [.ref 496]) rfl ?_
    refine T_p xr_73_18 xn_73 (pc' := 19) (ls' := [(0, .ref 496)]) (st' := [.ref 496, .ref 496]) rfl ?_
    refine T_get xr_73_19 hp rfl (v := .ref B) rfl (pc' := 22) rfl ?_
    refine T_p xr_73_22 xn_73 (pc' := 23) (ls' := [(0, .ref 496)]) (st' := [.ref 496, .ref B, .ref 496]) rfl ?_
    refine T_get xr_73_23 hp rfl (v := .ref 497) rfl (pc' := 26) rfl ?_
    refine T_cv (S := S) (q := 497) xr_73_26 xf_50.1 xf_50.2.1 xn_50 (as := []) (r := [.ref B, .ref 496]) rfl hx.1 (Nat.le_of_ble_eq_true rfl) (Nat.le_of_ble_eq_true rfl) (pc' := 29) rfl (ls' := [(0, .ref 497)]) rfl ?_
    refine T_mono (c_content sc S at_ n cur so pl ct ⟨hx.1, hx.2.1, hx.2.2.1, hx.2.2.2⟩ (by omega)) (fun v997 S998 h996 => ?_)
    obtain ⟨h999, h1000⟩ := h996
    rw [h999, h1000]
    show X_T sc 73 (29, [(0, .ref 496)], [.long (ct cur), .ref B, .ref 496], S) _
    refine T_cv (S := S) (q := B) xr_73_29 xf_6.1 xf_6.2.1 xn_6 (as := [.long (ct cur)]) (r := [.ref 496]) rfl hb0 (Nat.le_of_ble_eq_true rfl) (Nat.le_of_ble_eq_true rfl) (pc' := 32) rfl (ls' := [(0, .ref B), (1, .long (ct cur))]) rfl ?_
    refine T_mono (c_kindNamed sc S B rc kc wc rn lo kn ab (ct cur) ⟨hb0, hb1, hb2, hb3, hb4, ⟨f, hb5, hf⟩, ⟨by omega, by omega⟩, ⟨by omega, by omega⟩, ⟨by omega, by omega⟩⟩) (fun v1001 S1002 h1003 => ?_)
    obtain ⟨r1004, h1005, hx1006, h1007⟩ := h1003
    rw [h1005, h1007]
    have hr1008 := X_Ix_r (by omega) hx1006
    have hq1009 := X_ix_e hx1006
    show X_T sc 73 (32, [(0, .ref 496)], [.int (iI r1004), .ref 496], S) _
    refine T_cv (S := S) (q := 496) xr_73_32 xf_74.1 xf_74.2.1 xn_74 (as := [.int (iI r1004)]) (r := []) rfl hp (Nat.le_of_ble_eq_true rfl) (Nat.le_of_ble_eq_true rfl) (pc' := 35) rfl (ls' := [(0, .ref 496), (1, .int (iI r1004))]) rfl ?_
    refine T_p xr_74_0 xn_74 (pc' := 1) (ls' := [(0, .ref 496), (1, .int (iI r1004))]) (st' := [.int (iI r1004)]) rfl ?_
    refine T_p xr_74_1 xn_74 (pc' := 2) (ls' := [(0, .ref 496), (1, .int (iI r1004))]) (st' := [.int (iI (-1)), .int (iI r1004)]) rfl ?_
    refine T_zicmp_ne xr_74_2 (t := 20) (pc' := 5) rfl rfl (fun c1010 => ?_) (fun c1010 => ?_)
    · skip
      have c1010 : ¬ r1004 = (-1) := c1010
      refine T_p xr_74_20 xn_74 (pc' := 21) (ls' := [(0, .ref 496), (1, .int (iI r1004))]) (st' := [.ref 496]) rfl ?_
      refine T_get xr_74_21 hp rfl (v := .ref 497) rfl (pc' := 24) rfl ?_
      refine T_cv (S := S) (q := 497) xr_74_24 xf_52.1 xf_52.2.1 xn_52 (as := []) (r := []) rfl hx.1 (Nat.le_of_ble_eq_true rfl) (Nat.le_of_ble_eq_true rfl) (pc' := 27) rfl (ls' := [(0, .ref 497)]) rfl ?_
      refine T_mono (c_advance sc S at_ n cur so pl ct ⟨hx.1, hx.2.1, hx.2.2.1, hx.2.2.2⟩ (by omega)) (fun v1012 S1013 h1011 => ?_)
      obtain ⟨h1014, h1016, h1015⟩ := h1011
      rw [h1014]
      show X_T sc 74 (27, [(0, .ref 496), (1, .int (iI r1004))], [], S1013) _
      have hv1017 := X_av_r (n := n) (c := cur) (by omega)
      refine T_p xr_74_27 xn_74 (pc' := 28) (ls' := [(0, .ref 496), (1, .int (iI r1004))]) (st' := [.int (iI r1004)]) rfl ?_
      refine T_iret xr_74_28 xf_74.2.2 rfl ?_
      show X_T sc 73 (35, [(0, .ref 496)], [.int (iI r1004)], S1013) _
      refine T_iret xr_73_35 xf_73.2.2 rfl ?_
      refine hQ _ _ ?_
      have h1018 := (h1015.1 496 (by first | decide | omega)).trans (hp)
      exact Or.inl ⟨by subst_vars; rfl, by assumption, by omega, by omega, h1018, h1016, (X_Fr.rf).tr (X_Fr.mono ⟨h1015.1, h1015.2⟩ (fun q hq => (by omega)))⟩
    · skip
      have c1010 : ¬ (¬ r1004 = (-1)) := c1010
      refine T_p xr_74_5 xn_74 (pc' := 6) (ls' := [(0, .ref 496), (1, .int (iI r1004))]) (st' := [.ref 496]) rfl ?_
      refine T_p xr_74_6 xn_74 (pc' := 7) (ls' := [(0, .ref 496), (1, .int (iI r1004))]) (st' := [.int (iI 3), .ref 496]) rfl ?_
      refine T_p xr_74_7 xn_74 (pc' := 8) (ls' := [(0, .ref 496), (1, .int (iI r1004))]) (st' := [.ref 496, .int (iI 3), .ref 496]) rfl ?_
      refine T_get xr_74_8 hp rfl (v := .ref 497) rfl (pc' := 11) rfl ?_
      refine T_cv (S := S) (q := 497) xr_74_11 xf_49.1 xf_49.2.1 xn_49 (as := []) (r := [.int (iI 3), .ref 496]) rfl hx.1 (Nat.le_of_ble_eq_true rfl) (Nat.le_of_ble_eq_true rfl) (pc' := 14) rfl (ls' := [(0, .ref 497)]) rfl ?_
      refine T_mono (c_place sc S at_ n cur so pl ct ⟨hx.1, hx.2.1, hx.2.2.1, hx.2.2.2⟩ (by omega)) (fun v1020 S1021 h1019 => ?_)
      obtain ⟨h1022, h1023⟩ := h1019
      rw [h1022, h1023]
      show X_T sc 74 (14, [(0, .ref 496), (1, .int (iI r1004))], [.int (iI (pl cur)), .int (iI 3), .ref 496], S) _
      refine T_cv (S := S) (q := 496) xr_74_14 xf_66.1 xf_66.2.1 xn_66 (as := [.int (iI 3), .int (iI (pl cur))]) (r := []) rfl hp (Nat.le_of_ble_eq_true rfl) (Nat.le_of_ble_eq_true rfl) (pc' := 17) rfl (ls' := [(0, .ref 496), (1, .int (iI 3)), (2, .int (iI (pl cur)))]) rfl ?_
      refine T_p xr_66_0 xn_66 (pc' := 1) (ls' := [(0, .ref 496), (1, .int (iI 3)), (2, .int (iI (pl cur)))]) (st' := [.ref 496]) rfl ?_
      refine T_p xr_66_1 xn_66 (pc' := 2) (ls' := [(0, .ref 496), (1, .int (iI 3)), (2, .int (iI (pl cur)))]) (st' := [.int (iI 3), .ref 496]) rfl ?_
      refine T_put xr_66_2 hp rfl (Nat.le_of_ble_eq_true rfl) rfl (fs' := [.ref 497, .ref B, .int (iI 3), .int (iI fp)]) rfl (pc' := 5) rfl (fun S1024 h1025 n1026 e1027 => ?_)
      refine T_p xr_66_5 xn_66 (pc' := 6) (ls' := [(0, .ref 496), (1, .int (iI 3)), (2, .int (iI (pl cur)))]) (st' := [.ref 496]) rfl ?_
      refine T_p xr_66_6 xn_66 (pc' := 7) (ls' := [(0, .ref 496), (1, .int (iI 3)), (2, .int (iI (pl cur)))]) (st' := [.int (iI (pl cur)), .ref 496]) rfl ?_
      refine T_put xr_66_7 h1025 rfl (Nat.le_of_ble_eq_true rfl) rfl (fs' := [.ref 497, .ref B, .int (iI 3), .int (iI (pl cur))]) rfl (pc' := 10) rfl (fun S1028 h1029 n1030 e1031 => ?_)
      refine T_vret xr_66_10 xf_66.2.2 ?_
      show X_T sc 74 (17, [(0, .ref 496), (1, .int (iI r1004))], [], S1028) _
      refine T_p xr_74_17 xn_74 (pc' := 27) (ls' := [(0, .ref 496), (1, .int (iI r1004))]) (st' := []) rfl ?_
      refine T_p xr_74_27 xn_74 (pc' := 28) (ls' := [(0, .ref 496), (1, .int (iI r1004))]) (st' := [.int (iI r1004)]) rfl ?_
      refine T_iret xr_74_28 xf_74.2.2 rfl ?_
      show X_T sc 73 (35, [(0, .ref 496)], [.int (iI r1004)], S1028) _
      refine T_iret xr_73_35 xf_73.2.2 rfl ?_
      refine hQ _ _ ?_
      have h1032 := (n1030 497 (by decide)).trans ((n1026 497 (by decide)).trans (hx.1))
      exact Or.inr ⟨by rw [show r1004 = -1 by omega], by first | exact Or.inl (by assumption) | exact Or.inr (by omega), ⟨_, _, by omega, h1029⟩, h1032, ((X_Fr.rf).tr (X_Fr.of n1026 e1027 (by first | decide | exact ⟨Nat.le_add_right _ _, Nat.add_le_add_left (by decide) _⟩ | omega))).tr (X_Fr.of n1030 e1031 (by first | decide | exact ⟨Nat.le_add_right _ _, Nat.add_le_add_left (by decide) _⟩ | omega))⟩
  · skip
    have c995 : ¬ ((so cur) = 2) := c995
    refine T_p xr_73_11 xn_73 (pc' := 12) (ls' := [(0, .ref 496)]) (st' := [.ref 496]) rfl ?_
    refine T_cv (S := S) (q := 496) xr_73_12 xf_67.1 xf_67.2.1 xn_67 (as := []) (r := []) rfl hp (Nat.le_of_ble_eq_true rfl) (Nat.le_of_ble_eq_true rfl) (pc' := 15) rfl (ls' := [(0, .ref 496)]) rfl ?_
    refine T_mono (c_refuse sc S B fl fp at_ n cur so pl ct hp ⟨hx.1, hx.2.1, hx.2.2.1, hx.2.2.2⟩ (by omega) hso) (fun v1033 S1034 h1035 => ?_)
    obtain ⟨h1036, ⟨fl1037, fp1038, hn1039, hp1040⟩, hf1041⟩ := h1035
    rw [h1036]
    show X_T sc 73 (15, [(0, .ref 496)], [], S1034) _
    refine T_p xr_73_15 xn_73 (pc' := 16) (ls' := [(0, .ref 496)]) (st' := [.int (iI (-1))]) rfl ?_
    refine T_iret xr_73_16 xf_73.2.2 rfl ?_
    refine hQ _ _ ?_
    have h1042 := (hf1041.1 497 (by first | decide | omega)).trans (hx.1)
    exact Or.inr ⟨rfl, by first | exact Or.inl (by assumption) | exact Or.inr (by omega), ⟨_, _, by omega, hp1040⟩, h1042, (X_Fr.rf).tr (X_Fr.mono ⟨hf1041.1, hf1041.2⟩ (fun q hq => (by omega)))⟩
end
section
theorem xr_70_0 : X_row 70 0 = some (0, (.aload_n 0, 1), (0, 0, 0)) := by decide +kernel
theorem xr_70_1 : X_row 70 1 = some (1, (.getfield 23, 3), (4, 0, 18)) := by decide +kernel
theorem xr_70_4 : X_row 70 4 = some (4, (.invokevirtual 80, 3), (52, 18, 0)) := by decide +kernel
theorem xr_70_7 : X_row 70 7 = some (7, (.aload_n 0, 1), (0, 0, 0)) := by decide +kernel
theorem xr_70_8 : X_row 70 8 = some (8, (.invokevirtual 102, 3), (72, 30, 0)) := by decide +kernel
theorem xr_70_11 : X_row 70 11 = some (11, (.istore_n 1, 1), (0, 0, 0)) := by decide +kernel
theorem xr_70_12 : X_row 70 12 = some (12, (.iload_n 1, 1), (0, 0, 0)) := by decide +kernel
theorem xr_70_13 : X_row 70 13 = some (13, (.iconst (-1), 1), (0, 0, 0)) := by decide +kernel
theorem xr_70_14 : X_row 70 14 = some (14, (.if_icmp .ne 4, 3), (0, 0, 0)) := by decide +kernel
theorem xr_70_17 : X_row 70 17 = some (17, (.return_, 1), (0, 0, 0)) := by decide +kernel
theorem xr_70_18 : X_row 70 18 = some (18, (.aload_n 0, 1), (0, 0, 0)) := by decide +kernel
theorem xr_70_19 : X_row 70 19 = some (19, (.getfield 23, 3), (4, 0, 18)) := by decide +kernel
theorem xr_70_22 : X_row 70 22 = some (22, (.invokevirtual 73, 3), (49, 14, 0)) := by decide +kernel
theorem xr_70_25 : X_row 70 25 = some (25, (.istore_n 2, 1), (0, 0, 0)) := by decide +kernel
theorem xr_70_26 : X_row 70 26 = some (26, (.aload_n 0, 1), (0, 0, 0)) := by decide +kernel
theorem xr_70_27 : X_row 70 27 = some (27, (.invokevirtual 102, 3), (72, 30, 0)) := by decide +kernel
theorem xr_70_30 : X_row 70 30 = some (30, (.istore_n 3, 1), (0, 0, 0)) := by decide +kernel
theorem xr_70_31 : X_row 70 31 = some (31, (.iload_n 3, 1), (0, 0, 0)) := by decide +kernel
theorem xr_70_32 : X_row 70 32 = some (32, (.iconst (-1), 1), (0, 0, 0)) := by decide +kernel
theorem xr_70_33 : X_row 70 33 = some (33, (.if_icmp .ne 4, 3), (0, 0, 0)) := by decide +kernel
theorem xr_70_36 : X_row 70 36 = some (36, (.return_, 1), (0, 0, 0)) := by decide +kernel
theorem xr_70_37 : X_row 70 37 = some (37, (.iload_n 1, 1), (0, 0, 0)) := by decide +kernel
theorem xr_70_38 : X_row 70 38 = some (38, (.iload_n 3, 1), (0, 0, 0)) := by decide +kernel
theorem xr_70_39 : X_row 70 39 = some (39, (.if_icmp .eq 15, 3), (0, 0, 0)) := by decide +kernel
theorem xr_70_42 : X_row 70 42 = some (42, (.aload_n 0, 1), (0, 0, 0)) := by decide +kernel
theorem xr_70_43 : X_row 70 43 = some (43, (.getfield 27, 3), (4, 1, 20)) := by decide +kernel
theorem xr_70_46 : X_row 70 46 = some (46, (.iload_n 3, 1), (0, 0, 0)) := by decide +kernel
theorem xr_70_47 : X_row 70 47 = some (47, (.iload_n 1, 1), (0, 0, 0)) := by decide +kernel
theorem xr_70_48 : X_row 70 48 = some (48, (.invokevirtual 105, 3), (11, 34, 0)) := by decide +kernel
theorem xr_70_51 : X_row 70 51 = some (51, (.ifCond .eq 10, 3), (0, 0, 0)) := by decide +kernel
theorem xr_70_54 : X_row 70 54 = some (54, (.aload_n 0, 1), (0, 0, 0)) := by decide +kernel
theorem xr_70_55 : X_row 70 55 = some (55, (.iconst 4, 1), (0, 0, 0)) := by decide +kernel
theorem xr_70_56 : X_row 70 56 = some (56, (.iload_n 2, 1), (0, 0, 0)) := by decide +kernel
theorem xr_70_57 : X_row 70 57 = some (57, (.invokevirtual 76, 3), (66, 16, 0)) := by decide +kernel
theorem xr_70_60 : X_row 70 60 = some (60, (.return_, 1), (0, 0, 0)) := by decide +kernel
theorem xr_70_61 : X_row 70 61 = some (61, (.aload_n 0, 1), (0, 0, 0)) := by decide +kernel
theorem xr_70_62 : X_row 70 62 = some (62, (.getfield 27, 3), (4, 1, 20)) := by decide +kernel
theorem xr_70_65 : X_row 70 65 = some (65, (.iload_n 1, 1), (0, 0, 0)) := by decide +kernel
theorem xr_70_66 : X_row 70 66 = some (66, (.iload_n 3, 1), (0, 0, 0)) := by decide +kernel
theorem xr_70_67 : X_row 70 67 = some (67, (.invokevirtual 109, 3), (10, 36, 0)) := by decide +kernel
theorem xr_70_70 : X_row 70 70 = some (70, (.aload_n 0, 1), (0, 0, 0)) := by decide +kernel
theorem xr_70_71 : X_row 70 71 = some (71, (.bipush 59, 2), (0, 0, 0)) := by decide +kernel
theorem xr_70_73 : X_row 70 73 = some (73, (.invokevirtual 98, 3), (68, 26, 0)) := by decide +kernel
theorem xr_70_76 : X_row 70 76 = some (76, (.pop, 1), (0, 0, 0)) := by decide +kernel
theorem xr_70_77 : X_row 70 77 = some (77, (.return_, 1), (0, 0, 0)) := by decide +kernel
theorem xr_71_0 : X_row 71 0 = some (0, (.aload_n 0, 1), (0, 0, 0)) := by decide +kernel
theorem xr_71_1 : X_row 71 1 = some (1, (.getfield 27, 3), (4, 1, 20)) := by decide +kernel
theorem xr_71_4 : X_row 71 4 = some (4, (.getfield 112, 3), (0, 1, 13)) := by decide +kernel
theorem xr_71_7 : X_row 71 7 = some (7, (.bipush 11, 2), (0, 0, 0)) := by decide +kernel
theorem xr_71_9 : X_row 71 9 = some (9, (.if_icmp .ne 8, 3), (0, 0, 0)) := by decide +kernel
theorem xr_71_12 : X_row 71 12 = some (12, (.aload_n 0, 1), (0, 0, 0)) := by decide +kernel
theorem xr_71_13 : X_row 71 13 = some (13, (.invokevirtual 67, 3), (67, 12, 0)) := by decide +kernel
theorem xr_71_16 : X_row 71 16 = some (16, (.return_, 1), (0, 0, 0)) := by decide +kernel
theorem xr_71_17 : X_row 71 17 = some (17, (.aload_n 0, 1), (0, 0, 0)) := by decide +kernel
theorem xr_71_18 : X_row 71 18 = some (18, (.getfield 23, 3), (4, 0, 18)) := by decide +kernel
theorem xr_71_21 : X_row 71 21 = some (21, (.invokevirtual 80, 3), (52, 18, 0)) := by decide +kernel
theorem xr_71_24 : X_row 71 24 = some (24, (.aload_n 0, 1), (0, 0, 0)) := by decide +kernel
theorem xr_71_25 : X_row 71 25 = some (25, (.getfield 23, 3), (4, 0, 18)) := by decide +kernel
theorem xr_71_28 : X_row 71 28 = some (28, (.invokevirtual 39, 3), (48, 6, 0)) := by decide +kernel
theorem xr_71_31 : X_row 71 31 = some (31, (.iconst 2, 1), (0, 0, 0)) := by decide +kernel
theorem xr_71_32 : X_row 71 32 = some (32, (.if_icmp .eq 8, 3), (0, 0, 0)) := by decide +kernel
theorem xr_71_35 : X_row 71 35 = some (35, (.aload_n 0, 1), (0, 0, 0)) := by decide +kernel
theorem xr_71_36 : X_row 71 36 = some (36, (.invokevirtual 67, 3), (67, 12, 0)) := by decide +kernel
theorem xr_71_39 : X_row 71 39 = some (39, (.return_, 1), (0, 0, 0)) := by decide +kernel
theorem xr_71_40 : X_row 71 40 = some (40, (.aload_n 0, 1), (0, 0, 0)) := by decide +kernel
theorem xr_71_41 : X_row 71 41 = some (41, (.getfield 27, 3), (4, 1, 20)) := by decide +kernel
theorem xr_71_44 : X_row 71 44 = some (44, (.aload_n 0, 1), (0, 0, 0)) := by decide +kernel
theorem xr_71_45 : X_row 71 45 = some (45, (.getfield 23, 3), (4, 0, 18)) := by decide +kernel
theorem xr_71_48 : X_row 71 48 = some (48, (.invokevirtual 86, 3), (50, 20, 0)) := by decide +kernel
theorem xr_71_51 : X_row 71 51 = some (51, (.invokevirtual 115, 3), (6, 40, 0)) := by decide +kernel
theorem xr_71_54 : X_row 71 54 = some (54, (.iconst (-1), 1), (0, 0, 0)) := by decide +kernel
theorem xr_71_55 : X_row 71 55 = some (55, (.if_icmp .eq 16, 3), (0, 0, 0)) := by decide +kernel
theorem xr_71_58 : X_row 71 58 = some (58, (.aload_n 0, 1), (0, 0, 0)) := by decide +kernel
theorem xr_71_59 : X_row 71 59 = some (59, (.iconst 3, 1), (0, 0, 0)) := by decide +kernel
theorem xr_71_60 : X_row 71 60 = some (60, (.aload_n 0, 1), (0, 0, 0)) := by decide +kernel
theorem xr_71_61 : X_row 71 61 = some (61, (.getfield 23, 3), (4, 0, 18)) := by decide +kernel
theorem xr_71_64 : X_row 71 64 = some (64, (.invokevirtual 73, 3), (49, 14, 0)) := by decide +kernel
theorem xr_71_67 : X_row 71 67 = some (67, (.invokevirtual 76, 3), (66, 16, 0)) := by decide +kernel
theorem xr_71_70 : X_row 71 70 = some (70, (.return_, 1), (0, 0, 0)) := by decide +kernel
theorem xr_71_71 : X_row 71 71 = some (71, (.aload_n 0, 1), (0, 0, 0)) := by decide +kernel
theorem xr_71_72 : X_row 71 72 = some (72, (.getfield 23, 3), (4, 0, 18)) := by decide +kernel
theorem xr_71_75 : X_row 71 75 = some (75, (.invokevirtual 86, 3), (50, 20, 0)) := by decide +kernel
theorem xr_71_78 : X_row 71 78 = some (78, (.lstore_n 1, 1), (0, 0, 0)) := by decide +kernel
theorem xr_71_79 : X_row 71 79 = some (79, (.iconst 0, 1), (0, 0, 0)) := by decide +kernel
theorem xr_71_80 : X_row 71 80 = some (80, (.istore_n 3, 1), (0, 0, 0)) := by decide +kernel
theorem xr_71_81 : X_row 71 81 = some (81, (.aload_n 0, 1), (0, 0, 0)) := by decide +kernel
theorem xr_71_82 : X_row 71 82 = some (82, (.getfield 23, 3), (4, 0, 18)) := by decide +kernel
theorem xr_71_85 : X_row 71 85 = some (85, (.invokevirtual 80, 3), (52, 18, 0)) := by decide +kernel
theorem xr_71_88 : X_row 71 88 = some (88, (.aload_n 0, 1), (0, 0, 0)) := by decide +kernel
theorem xr_71_89 : X_row 71 89 = some (89, (.getfield 23, 3), (4, 0, 18)) := by decide +kernel
theorem xr_71_92 : X_row 71 92 = some (92, (.ldc2_w 118, 3), (504363246962, 671, 0)) := by decide +kernel
theorem xr_71_95 : X_row 71 95 = some (95, (.invokevirtual 45, 3), (51, 8, 0)) := by decide +kernel
theorem xr_71_98 : X_row 71 98 = some (98, (.ifCond .eq 15, 3), (0, 0, 0)) := by decide +kernel
theorem xr_71_101 : X_row 71 101 = some (101, (.aload_n 0, 1), (0, 0, 0)) := by decide +kernel
theorem xr_71_102 : X_row 71 102 = some (102, (.getfield 23, 3), (4, 0, 18)) := by decide +kernel
theorem xr_71_105 : X_row 71 105 = some (105, (.invokevirtual 80, 3), (52, 18, 0)) := by decide +kernel
theorem xr_71_108 : X_row 71 108 = some (108, (.aload_n 0, 1), (0, 0, 0)) := by decide +kernel
theorem xr_71_109 : X_row 71 109 = some (109, (.invokevirtual 120, 3), (73, 42, 0)) := by decide +kernel
theorem xr_71_112 : X_row 71 112 = some (112, (.istore_n 3, 1), (0, 0, 0)) := by decide +kernel
theorem xr_71_113 : X_row 71 113 = some (113, (.iload_n 3, 1), (0, 0, 0)) := by decide +kernel
theorem xr_71_114 : X_row 71 114 = some (114, (.iconst (-1), 1), (0, 0, 0)) := by decide +kernel
theorem xr_71_115 : X_row 71 115 = some (115, (.if_icmp .eq 21, 3), (0, 0, 0)) := by decide +kernel
theorem xr_71_118 : X_row 71 118 = some (118, (.aload_n 0, 1), (0, 0, 0)) := by decide +kernel
theorem xr_71_119 : X_row 71 119 = some (119, (.bipush 59, 2), (0, 0, 0)) := by decide +kernel
theorem xr_71_121 : X_row 71 121 = some (121, (.invokevirtual 98, 3), (68, 26, 0)) := by decide +kernel
theorem xr_71_124 : X_row 71 124 = some (124, (.ifCond .eq 12, 3), (0, 0, 0)) := by decide +kernel
theorem xr_71_127 : X_row 71 127 = some (127, (.aload_n 0, 1), (0, 0, 0)) := by decide +kernel
theorem xr_71_128 : X_row 71 128 = some (128, (.getfield 27, 3), (4, 1, 20)) := by decide +kernel
theorem xr_71_131 : X_row 71 131 = some (131, (.lload_n 1, 1), (0, 0, 0)) := by decide +kernel
theorem xr_71_132 : X_row 71 132 = some (132, (.iload_n 3, 1), (0, 0, 0)) := by decide +kernel
theorem xr_71_133 : X_row 71 133 = some (133, (.invokevirtual 123, 3), (9, 44, 0)) := by decide +kernel
theorem xr_71_136 : X_row 71 136 = some (136, (.return_, 1), (0, 0, 0)) := by decide +kernel
theorem xn_70 : X_nL 70 = 4 := by decide +kernel
theorem xf_70 : X_na 70 = 0 ∧ X_ci 70 = 4 ∧ X_rt 70 = none := by decide +kernel
theorem xn_71 : X_nL 71 = 4 := by decide +kernel
theorem xf_71 : X_na 71 = 0 ∧ X_ci 71 = 4 ∧ X_rt 71 = none := by decide +kernel
theorem c_parseTighter (sc : X_Sc) (S : X_S) (B : Nat) (fp at_ n : Int) (so pl : Int → Int) (ct : Int → Int64) (cur rc kc wc : Int) (rn : Int → Int64) (lo : Int → Int) (kn : Int → Int64) (ab : Int → Int) (D : Int → Nat → Int → Int) (W : Int → Int → Int64)  (hB : 4 ≤ B ∧ B + 246 ≤ 496) (hn : n ≤ 2001) (hso : ∀ i, 0 ≤ i → i < n → 0 ≤ so i ∧ so i ≤ 255) (hK : C_K S B 0 fp at_ n so pl ct (cur, rc, kc, wc, rn, lo, kn, ab, D, W))  : X_T sc 70 (0, [(0, .ref 496)], [], S) (fun v S' => (∃ K, sp_tight n so ct (cur, rc, kc, wc, rn, lo, kn, ab, D, W) = some K ∧ ∃ fp', C_K S' B 0 fp' at_ n so pl ct K ∧ X_Fr (fun q => q = 496 ∨ q = 497 ∨ (B ≤ q ∧ q < B + 246)) S S') ∨ (sp_tight n so ct (cur, rc, kc, wc, rn, lo, kn, ab, D, W) = none ∧ ∃ fl' fp' K, (¬ fl' = 0 ∧ 0 ≤ fl' ∧ fl' ≤ 5) ∧ C_K S' B fl' fp' at_ n so pl ct K ∧ X_Fr (fun q => q = 496 ∨ q = 497 ∨ (B ≤ q ∧ q < B + 246)) S S')) := by
  obtain ⟨hp, hx, hb, hs, hcu⟩ := id hK
  simp only at hx hb hs hcu
  obtain ⟨hb0, hb1, hb2, hb3, hb4, ⟨f, hb5, hf⟩, ⟨hrc, hrcb⟩, ⟨hkc, hkcb⟩, ⟨hwc, hwcb⟩⟩ := id hb
  refine X_QI (fun Q hQ => ?_)
  refine T_p xr_70_0 xn_70 (pc' := 1) (ls' := [(0, .ref 496)]) (st' := [.ref 496]) rfl ?_
  refine T_get xr_70_1 hp rfl (v := .ref 497) rfl (pc' := 4) rfl ?_
  refine T_cv (S := S) (q := 497) xr_70_4 xf_52.1 xf_52.2.1 xn_52 (as := []) (r := []) rfl hx.1 (Nat.le_of_ble_eq_true rfl) (Nat.le_of_ble_eq_true rfl) (pc' := 7) rfl (ls' := [(0, .ref 497)]) rfl ?_
  refine T_mono (c_advance sc S at_ n cur so pl ct ⟨hx.1, hx.2.1, hx.2.2.1, hx.2.2.2⟩ (by omega)) (fun v1044 S1045 h1043 => ?_)
  obtain ⟨h1046, h1048, h1047⟩ := h1043
  rw [h1046]
  show X_T sc 70 (7, [(0, .ref 496)], [], S1045) _
  have hv1049 := X_av_r (n := n) (c := cur) (by omega)
  refine T_p xr_70_7 xn_70 (pc' := 8) (ls' := [(0, .ref 496)]) (st' := [.ref 496]) rfl ?_
  have h1050 := (h1047.1 496 (by first | decide | omega)).trans (hp)
  refine T_cv (S := S1045) (q := 496) xr_70_8 xf_72.1 xf_72.2.1 xn_72 (as := []) (r := []) rfl h1050 (Nat.le_of_ble_eq_true rfl) (Nat.le_of_ble_eq_true rfl) (pc' := 11) rfl (ls' := [(0, .ref 496)]) rfl ?_
  have h1051 := (h1047.1 498 (by first | decide | omega)).trans (hx.2.1)
  have h1052 := (h1047.1 499 (by first | decide | omega)).trans (hx.2.2.1)
  have h1053 := (h1047.1 500 (by first | decide | omega)).trans (hx.2.2.2)
  have h1054 := (h1047.1 B (by omega)).trans (hb0)
  have h1055 := (h1047.1 (B + 1) (by omega)).trans (hb1)
  have h1061 := (h1047.1 (B + 2) (by omega)).trans (hb2)
  have h1062 := (h1047.1 (B + 3) (by omega)).trans (hb3)
  have h1063 := (h1047.1 (B + 4) (by omega)).trans (hb4)
  have h1064 := (h1047.1 (B + 5) (by omega)).trans (hb5)
  have hb1065 : C_bk S1045 B rc kc wc rn lo kn ab := ⟨h1054, h1055, h1061, h1062, h1063, ⟨f, h1064, hf⟩, ⟨by omega, by omega⟩, ⟨by omega, by omega⟩, ⟨by omega, by omega⟩⟩
  refine T_mono (c_passRank sc S1045 B 0 fp at_ n (X_av n cur) so pl ct rc kc wc rn lo kn ab h1050 ⟨h1048, h1051, h1052, h1053⟩ (by omega) hso hB hb1065) (fun v1067 S1068 h1069 => ?_)
  rcases h1069 with ⟨h1056, h1057, h1058, h1059, hp1070, hl1071, hf1072⟩ | ⟨h1056, h1060, ⟨fl1073, fp1074, hn1075, hp1070⟩, hl1071, hf1072⟩
  · skip
    rw [h1056]
    have hv1066 := X_av_r (n := n) (c := (X_av n cur)) (by omega)
    show X_T sc 70 (11, [(0, .ref 496)], [.int (iI (X_ix rn rc (ct (X_av n cur))))], S1068) _
    refine T_p xr_70_11 xn_70 (pc' := 12) (ls' := [(1, .int (iI (X_ix rn rc (ct (X_av n cur))))), (0, .ref 496)]) (st' := []) rfl ?_
    refine T_p xr_70_12 xn_70 (pc' := 13) (ls' := [(1, .int (iI (X_ix rn rc (ct (X_av n cur))))), (0, .ref 496)]) (st' := [.int (iI (X_ix rn rc (ct (X_av n cur))))]) rfl ?_
    refine T_p xr_70_13 xn_70 (pc' := 14) (ls' := [(1, .int (iI (X_ix rn rc (ct (X_av n cur))))), (0, .ref 496)]) (st' := [.int (iI (-1)), .int (iI (X_ix rn rc (ct (X_av n cur))))]) rfl ?_
    refine T_zicmp_ne xr_70_14 (t := 18) (pc' := 17) rfl rfl (fun c1076 => ?_) (fun c1076 => ?_)
    · skip
      have c1076 : ¬ (X_ix rn rc (ct (X_av n cur))) = (-1) := c1076
      refine T_p xr_70_18 xn_70 (pc' := 19) (ls' := [(1, .int (iI (X_ix rn rc (ct (X_av n cur))))), (0, .ref 496)]) (st' := [.ref 496]) rfl ?_
      refine T_get xr_70_19 hp1070 rfl (v := .ref 497) rfl (pc' := 22) rfl ?_
      refine T_cv (S := S1068) (q := 497) xr_70_22 xf_49.1 xf_49.2.1 xn_49 (as := []) (r := []) rfl hl1071 (Nat.le_of_ble_eq_true rfl) (Nat.le_of_ble_eq_true rfl) (pc' := 25) rfl (ls' := [(0, .ref 497)]) rfl ?_
      have h1077 := (hf1072.1 498 (by first | decide | omega)).trans (h1051)
      have h1078 := (hf1072.1 499 (by first | decide | omega)).trans (h1052)
      have h1079 := (hf1072.1 500 (by first | decide | omega)).trans (h1053)
      refine T_mono (c_place sc S1068 at_ n (X_av n (X_av n cur)) so pl ct ⟨hl1071, h1077, h1078, h1079⟩ (by omega)) (fun v1081 S1082 h1080 => ?_)
      obtain ⟨h1083, h1084⟩ := h1080
      rw [h1083, h1084]
      show X_T sc 70 (25, [(1, .int (iI (X_ix rn rc (ct (X_av n cur))))), (0, .ref 496)], [.int (iI (pl (X_av n (X_av n cur))))], S1068) _
      refine T_p xr_70_25 xn_70 (pc' := 26) (ls' := [(2, .int (iI (pl (X_av n (X_av n cur))))), (1, .int (iI (X_ix rn rc (ct (X_av n cur))))), (0, .ref 496)]) (st' := []) rfl ?_
      refine T_p xr_70_26 xn_70 (pc' := 27) (ls' := [(2, .int (iI (pl (X_av n (X_av n cur))))), (1, .int (iI (X_ix rn rc (ct (X_av n cur))))), (0, .ref 496)]) (st' := [.ref 496]) rfl ?_
      refine T_cv (S := S1068) (q := 496) xr_70_27 xf_72.1 xf_72.2.1 xn_72 (as := []) (r := []) rfl hp1070 (Nat.le_of_ble_eq_true rfl) (Nat.le_of_ble_eq_true rfl) (pc' := 30) rfl (ls' := [(0, .ref 496)]) rfl ?_
      have h1085 := (hf1072.1 B (by omega)).trans (h1054)
      have h1086 := (hf1072.1 (B + 1) (by omega)).trans (h1055)
      have h1092 := (hf1072.1 (B + 2) (by omega)).trans (h1061)
      have h1093 := (hf1072.1 (B + 3) (by omega)).trans (h1062)
      have h1094 := (hf1072.1 (B + 4) (by omega)).trans (h1063)
      have h1095 := (hf1072.1 (B + 5) (by omega)).trans (h1064)
      have hb1096 : C_bk S1068 B rc kc wc rn lo kn ab := ⟨h1085, h1086, h1092, h1093, h1094, ⟨f, h1095, hf⟩, ⟨by omega, by omega⟩, ⟨by omega, by omega⟩, ⟨by omega, by omega⟩⟩
      refine T_mono (c_passRank sc S1068 B 0 fp at_ n (X_av n (X_av n cur)) so pl ct rc kc wc rn lo kn ab hp1070 ⟨hl1071, h1077, h1078, h1079⟩ (by omega) hso hB hb1096) (fun v1098 S1099 h1100 => ?_)
      rcases h1100 with ⟨h1087, h1088, h1089, h1090, hp1101, hl1102, hf1103⟩ | ⟨h1087, h1091, ⟨fl1104, fp1105, hn1106, hp1101⟩, hl1102, hf1103⟩
      · skip
        rw [h1087]
        have hv1097 := X_av_r (n := n) (c := (X_av n (X_av n cur))) (by omega)
        show X_T sc 70 (30, [(2, .int (iI (pl (X_av n (X_av n cur))))), (1, .int (iI (X_ix rn rc (ct (X_av n cur))))), (0, .ref 496)], [.int (iI (X_ix rn rc (ct (X_av n (X_av n cur)))))], S1099) _
        refine T_p xr_70_30 xn_70 (pc' := 31) (ls' := [(3, .int (iI (X_ix rn rc (ct (X_av n (X_av n cur)))))), (2, .int (iI (pl (X_av n (X_av n cur))))), (1, .int (iI (X_ix rn rc (ct (X_av n cur))))), (0, .ref 496)]) (st' := []) rfl ?_
        refine T_p xr_70_31 xn_70 (pc' := 32) (ls' := [(3, .int (iI (X_ix rn rc (ct (X_av n (X_av n cur)))))), (2, .int (iI (pl (X_av n (X_av n cur))))), (1, .int (iI (X_ix rn rc (ct (X_av n cur))))), (0, .ref 496)]) (st' := [.int (iI (X_ix rn rc (ct (X_av n (X_av n cur)))))]) rfl ?_
        refine T_p xr_70_32 xn_70 (pc' := 33) (ls' := [(3, .int (iI (X_ix rn rc (ct (X_av n (X_av n cur)))))), (2, .int (iI (pl (X_av n (X_av n cur))))), (1, .int (iI (X_ix rn rc (ct (X_av n cur))))), (0, .ref 496)]) (st' := [.int (iI (-1)), .int (iI (X_ix rn rc (ct (X_av n (X_av n cur)))))]) rfl ?_
        refine T_zicmp_ne xr_70_33 (t := 37) (pc' := 36) rfl rfl (fun c1107 => ?_) (fun c1107 => ?_)
        · skip
          have c1107 : ¬ (X_ix rn rc (ct (X_av n (X_av n cur)))) = (-1) := c1107
          refine T_p xr_70_37 xn_70 (pc' := 38) (ls' := [(3, .int (iI (X_ix rn rc (ct (X_av n (X_av n cur)))))), (2, .int (iI (pl (X_av n (X_av n cur))))), (1, .int (iI (X_ix rn rc (ct (X_av n cur))))), (0, .ref 496)]) (st' := [.int (iI (X_ix rn rc (ct (X_av n cur))))]) rfl ?_
          refine T_p xr_70_38 xn_70 (pc' := 39) (ls' := [(3, .int (iI (X_ix rn rc (ct (X_av n (X_av n cur)))))), (2, .int (iI (pl (X_av n (X_av n cur))))), (1, .int (iI (X_ix rn rc (ct (X_av n cur))))), (0, .ref 496)]) (st' := [.int (iI (X_ix rn rc (ct (X_av n (X_av n cur))))), .int (iI (X_ix rn rc (ct (X_av n cur))))]) rfl ?_
          refine T_zicmp_eq xr_70_39 (t := 54) (pc' := 42) rfl rfl (fun c1108 => ?_) (fun c1108 => ?_)
          · skip
            have c1108 : (X_ix rn rc (ct (X_av n cur))) = (X_ix rn rc (ct (X_av n (X_av n cur)))) := c1108
            refine T_p xr_70_54 xn_70 (pc' := 55) (ls' := [(3, .int (iI (X_ix rn rc (ct (X_av n (X_av n cur)))))), (2, .int (iI (pl (X_av n (X_av n cur))))), (1, .int (iI (X_ix rn rc (ct (X_av n cur))))), (0, .ref 496)]) (st' := [.ref 496]) rfl ?_
            refine T_p xr_70_55 xn_70 (pc' := 56) (ls' := [(3, .int (iI (X_ix rn rc (ct (X_av n (X_av n cur)))))), (2, .int (iI (pl (X_av n (X_av n cur))))), (1, .int (iI (X_ix rn rc (ct (X_av n cur))))), (0, .ref 496)]) (st' := [.int (iI 4), .ref 496]) rfl ?_
            refine T_p xr_70_56 xn_70 (pc' := 57) (ls' := [(3, .int (iI (X_ix rn rc (ct (X_av n (X_av n cur)))))), (2, .int (iI (pl (X_av n (X_av n cur))))), (1, .int (iI (X_ix rn rc (ct (X_av n cur))))), (0, .ref 496)]) (st' := [.int (iI (pl (X_av n (X_av n cur)))), .int (iI 4), .ref 496]) rfl ?_
            refine T_cv (S := S1099) (q := 496) xr_70_57 xf_66.1 xf_66.2.1 xn_66 (as := [.int (iI 4), .int (iI (pl (X_av n (X_av n cur))))]) (r := []) rfl hp1101 (Nat.le_of_ble_eq_true rfl) (Nat.le_of_ble_eq_true rfl) (pc' := 60) rfl (ls' := [(0, .ref 496), (1, .int (iI 4)), (2, .int (iI (pl (X_av n (X_av n cur)))))]) rfl ?_
            refine T_p xr_66_0 xn_66 (pc' := 1) (ls' := [(0, .ref 496), (1, .int (iI 4)), (2, .int (iI (pl (X_av n (X_av n cur)))))]) (st' := [.ref 496]) rfl ?_
            refine T_p xr_66_1 xn_66 (pc' := 2) (ls' := [(0, .ref 496), (1, .int (iI 4)), (2, .int (iI (pl (X_av n (X_av n cur)))))]) (st' := [.int (iI 4), .ref 496]) rfl ?_
            refine T_put xr_66_2 hp1101 rfl (Nat.le_of_ble_eq_true rfl) rfl (fs' := [.ref 497, .ref B, .int (iI 4), .int (iI fp)]) rfl (pc' := 5) rfl (fun S1109 h1110 n1111 e1112 => ?_)
            refine T_p xr_66_5 xn_66 (pc' := 6) (ls' := [(0, .ref 496), (1, .int (iI 4)), (2, .int (iI (pl (X_av n (X_av n cur)))))]) (st' := [.ref 496]) rfl ?_
            refine T_p xr_66_6 xn_66 (pc' := 7) (ls' := [(0, .ref 496), (1, .int (iI 4)), (2, .int (iI (pl (X_av n (X_av n cur)))))]) (st' := [.int (iI (pl (X_av n (X_av n cur)))), .ref 496]) rfl ?_
            refine T_put xr_66_7 h1110 rfl (Nat.le_of_ble_eq_true rfl) rfl (fs' := [.ref 497, .ref B, .int (iI 4), .int (iI (pl (X_av n (X_av n cur))))]) rfl (pc' := 10) rfl (fun S1113 h1114 n1115 e1116 => ?_)
            refine T_vret xr_66_10 xf_66.2.2 ?_
            show X_T sc 70 (60, [(3, .int (iI (X_ix rn rc (ct (X_av n (X_av n cur)))))), (2, .int (iI (pl (X_av n (X_av n cur))))), (1, .int (iI (X_ix rn rc (ct (X_av n cur))))), (0, .ref 496)], [], S1113) _
            refine T_vret xr_70_60 xf_70.2.2 ?_
            refine hQ _ _ ?_
            have h1117 := (n1115 B (by omega)).trans ((n1111 B (by omega)).trans ((hf1103.1 B (by omega)).trans (h1085)))
            have hs1118 : C_ws S1113 B D W := C_ws.fr (P := fun r => ¬ (B + 6 ≤ r ∧ r < B + 246)) hs ((((((X_Fr.rf).tr (X_Fr.mono ⟨h1047.1, h1047.2⟩ (fun q hq => (by omega)))).tr (X_Fr.mono ⟨hf1072.1, hf1072.2⟩ (fun q hq => (by omega)))).tr (X_Fr.mono ⟨hf1103.1, hf1103.2⟩ (fun q hq => (by omega)))).tr (X_Fr.of n1111 e1112 (by first | decide | exact ⟨Nat.le_add_right _ _, Nat.add_le_add_left (by decide) _⟩ | omega))).tr (X_Fr.of n1115 e1116 (by first | decide | exact ⟨Nat.le_add_right _ _, Nat.add_le_add_left (by decide) _⟩ | omega))) (fun k h1 h2 => by omega)
            have h1119 := (n1115 497 (by decide)).trans ((n1111 497 (by decide)).trans (hl1102))
            have h1120 := (n1115 (B + 1) (by first | exact (fun h => absurd (Nat.add_left_cancel h) (by decide)) | omega)).trans ((n1111 (B + 1) (by first | exact (fun h => absurd (Nat.add_left_cancel h) (by decide)) | omega)).trans ((hf1103.1 (B + 1) (by omega)).trans (h1086)))
            have h1121 := (n1115 (B + 2) (by first | exact (fun h => absurd (Nat.add_left_cancel h) (by decide)) | omega)).trans ((n1111 (B + 2) (by first | exact (fun h => absurd (Nat.add_left_cancel h) (by decide)) | omega)).trans ((hf1103.1 (B + 2) (by omega)).trans (h1092)))
            have h1122 := (n1115 (B + 3) (by first | exact (fun h => absurd (Nat.add_left_cancel h) (by decide)) | omega)).trans ((n1111 (B + 3) (by first | exact (fun h => absurd (Nat.add_left_cancel h) (by decide)) | omega)).trans ((hf1103.1 (B + 3) (by omega)).trans (h1093)))
            have h1123 := (n1115 (B + 4) (by first | exact (fun h => absurd (Nat.add_left_cancel h) (by decide)) | omega)).trans ((n1111 (B + 4) (by first | exact (fun h => absurd (Nat.add_left_cancel h) (by decide)) | omega)).trans ((hf1103.1 (B + 4) (by omega)).trans (h1094)))
            have h1126 := (n1115 (B + 5) (by first | exact (fun h => absurd (Nat.add_left_cancel h) (by decide)) | omega)).trans ((n1111 (B + 5) (by first | exact (fun h => absurd (Nat.add_left_cancel h) (by decide)) | omega)).trans ((hf1103.1 (B + 5) (by omega)).trans (h1095)))
            have h1127 := (n1115 498 (by decide)).trans ((n1111 498 (by decide)).trans ((hf1103.1 498 (by first | decide | omega)).trans (h1077)))
            have h1128 := (n1115 499 (by decide)).trans ((n1111 499 (by decide)).trans ((hf1103.1 499 (by first | decide | omega)).trans (h1078)))
            have h1129 := (n1115 500 (by decide)).trans ((n1111 500 (by decide)).trans ((hf1103.1 500 (by first | decide | omega)).trans (h1079)))
            have hb1124 : C_bk S1113 B rc kc wc rn lo kn ab := ⟨h1117, h1120, h1121, h1122, h1123, ⟨f, h1126, hf⟩, ⟨by omega, by omega⟩, ⟨by omega, by omega⟩, ⟨by omega, by omega⟩⟩
            have hc1125 : 0 ≤ (X_av n (X_av n (X_av n cur))) ∧ (X_av n (X_av n (X_av n cur))) < n := by omega
            refine Or.inr ⟨?_, 4, pl (X_av n (X_av n cur)), (X_av n (X_av n (X_av n cur)), rc, kc, wc, rn, lo, kn, ab, D, W), by omega, ⟨h1114, ⟨h1119, h1127, h1128, h1129⟩, hb1124, hs1118, hc1125⟩, (((((X_Fr.rf).tr (X_Fr.mono ⟨h1047.1, h1047.2⟩ (fun q hq => (by omega)))).tr (X_Fr.mono ⟨hf1072.1, hf1072.2⟩ (fun q hq => (by omega)))).tr (X_Fr.mono ⟨hf1103.1, hf1103.2⟩ (fun q hq => (by omega)))).tr (X_Fr.of n1111 e1112 (by first | decide | exact ⟨Nat.le_add_right _ _, Nat.add_le_add_left (by decide) _⟩ | omega))).tr (X_Fr.of n1115 e1116 (by first | decide | exact ⟨Nat.le_add_right _ _, Nat.add_le_add_left (by decide) _⟩ | omega))⟩
            simp only [sp_tight]
            subst_vars
            (repeat (first | rw [if_pos (by assumption)] | rw [if_neg (by assumption)]))
            all_goals first | rfl | ((repeat' split) <;> first | rfl | (exfalso; omega))
          · skip
            have c1108 : ¬ ((X_ix rn rc (ct (X_av n cur))) = (X_ix rn rc (ct (X_av n (X_av n cur))))) := c1108
            refine T_p xr_70_42 xn_70 (pc' := 43) (ls' := [(3, .int (iI (X_ix rn rc (ct (X_av n (X_av n cur)))))), (2, .int (iI (pl (X_av n (X_av n cur))))), (1, .int (iI (X_ix rn rc (ct (X_av n cur))))), (0, .ref 496)]) (st' := [.ref 496]) rfl ?_
            refine T_get xr_70_43 hp1101 rfl (v := .ref B) rfl (pc' := 46) rfl ?_
            refine T_p xr_70_46 xn_70 (pc' := 47) (ls' := [(3, .int (iI (X_ix rn rc (ct (X_av n (X_av n cur)))))), (2, .int (iI (pl (X_av n (X_av n cur))))), (1, .int (iI (X_ix rn rc (ct (X_av n cur))))), (0, .ref 496)]) (st' := [.int (iI (X_ix rn rc (ct (X_av n (X_av n cur))))), .ref B]) rfl ?_
            refine T_p xr_70_47 xn_70 (pc' := 48) (ls' := [(3, .int (iI (X_ix rn rc (ct (X_av n (X_av n cur)))))), (2, .int (iI (pl (X_av n (X_av n cur))))), (1, .int (iI (X_ix rn rc (ct (X_av n cur))))), (0, .ref 496)]) (st' := [.int (iI (X_ix rn rc (ct (X_av n cur)))), .int (iI (X_ix rn rc (ct (X_av n (X_av n cur))))), .ref B]) rfl ?_
            have h1130 := (hf1103.1 B (by omega)).trans (h1085)
            refine T_cv (S := S1099) (q := B) xr_70_48 xf_11.1 xf_11.2.1 xn_11 (as := [.int (iI (X_ix rn rc (ct (X_av n (X_av n cur))))), .int (iI (X_ix rn rc (ct (X_av n cur))))]) (r := []) rfl h1130 (Nat.le_of_ble_eq_true rfl) (Nat.le_of_ble_eq_true rfl) (pc' := 51) rfl (ls' := [(0, .ref B), (1, .int (iI (X_ix rn rc (ct (X_av n (X_av n cur)))))), (2, .int (iI (X_ix rn rc (ct (X_av n cur)))))]) rfl ?_
            have h1131 := (hf1103.1 (B + 1) (by omega)).trans (h1086)
            have h1132 := (hf1103.1 (B + 2) (by omega)).trans (h1092)
            have h1133 := (hf1103.1 (B + 3) (by omega)).trans (h1093)
            have h1134 := (hf1103.1 (B + 4) (by omega)).trans (h1094)
            have h1135 := (hf1103.1 (B + 5) (by omega)).trans (h1095)
            refine T_mono (c_isTighter sc S1099 B rc kc wc rn lo kn ab (X_ix rn rc (ct (X_av n (X_av n cur)))) (X_ix rn rc (ct (X_av n cur))) ⟨h1130, h1131, h1132, h1133, h1134, ⟨f, h1135, hf⟩, ⟨by omega, by omega⟩, ⟨by omega, by omega⟩, ⟨by omega, by omega⟩⟩ (by omega)) (fun v1137 S1138 h1136 => ?_)
            obtain ⟨h1139, h1140⟩ := h1136
            rw [h1139, h1140]
            show X_T sc 70 (51, [(3, .int (iI (X_ix rn rc (ct (X_av n (X_av n cur)))))), (2, .int (iI (pl (X_av n (X_av n cur))))), (1, .int (iI (X_ix rn rc (ct (X_av n cur))))), (0, .ref 496)], [.int (iI (bI (X_bt (lo (X_ix rn rc (ct (X_av n (X_av n cur))))) (X_ix rn rc (ct (X_av n cur))))))], S1099) _
            refine T_bif_eq xr_70_51 (t := 61) (pc' := 54) rfl rfl (fun c1141 => ?_) (fun c1141 => ?_)
            · skip
              have c1141 : ¬ (X_bt (lo (X_ix rn rc (ct (X_av n (X_av n cur))))) (X_ix rn rc (ct (X_av n cur)))) := c1141
              refine T_p xr_70_61 xn_70 (pc' := 62) (ls' := [(3, .int (iI (X_ix rn rc (ct (X_av n (X_av n cur)))))), (2, .int (iI (pl (X_av n (X_av n cur))))), (1, .int (iI (X_ix rn rc (ct (X_av n cur))))), (0, .ref 496)]) (st' := [.ref 496]) rfl ?_
              refine T_get xr_70_62 hp1101 rfl (v := .ref B) rfl (pc' := 65) rfl ?_
              refine T_p xr_70_65 xn_70 (pc' := 66) (ls' := [(3, .int (iI (X_ix rn rc (ct (X_av n (X_av n cur)))))), (2, .int (iI (pl (X_av n (X_av n cur))))), (1, .int (iI (X_ix rn rc (ct (X_av n cur))))), (0, .ref 496)]) (st' := [.int (iI (X_ix rn rc (ct (X_av n cur)))), .ref B]) rfl ?_
              refine T_p xr_70_66 xn_70 (pc' := 67) (ls' := [(3, .int (iI (X_ix rn rc (ct (X_av n (X_av n cur)))))), (2, .int (iI (pl (X_av n (X_av n cur))))), (1, .int (iI (X_ix rn rc (ct (X_av n cur))))), (0, .ref 496)]) (st' := [.int (iI (X_ix rn rc (ct (X_av n (X_av n cur))))), .int (iI (X_ix rn rc (ct (X_av n cur)))), .ref B]) rfl ?_
              refine T_cv (S := S1099) (q := B) xr_70_67 xf_10.1 xf_10.2.1 xn_10 (as := [.int (iI (X_ix rn rc (ct (X_av n cur)))), .int (iI (X_ix rn rc (ct (X_av n (X_av n cur)))))]) (r := []) rfl h1130 (Nat.le_of_ble_eq_true rfl) (Nat.le_of_ble_eq_true rfl) (pc' := 70) rfl (ls' := [(0, .ref B), (1, .int (iI (X_ix rn rc (ct (X_av n cur))))), (2, .int (iI (X_ix rn rc (ct (X_av n (X_av n cur))))))]) rfl ?_
              refine T_mono (c_setTighter sc S1099 B rc kc wc rn lo kn ab (X_ix rn rc (ct (X_av n cur))) (X_ix rn rc (ct (X_av n (X_av n cur)))) ⟨h1130, h1131, h1132, h1133, h1134, ⟨f, h1135, hf⟩, ⟨by omega, by omega⟩, ⟨by omega, by omega⟩, ⟨by omega, by omega⟩⟩ (by omega) (by omega)) (fun v1142 S1143 h1144 => ?_)
              obtain ⟨h1145, hb1146, h1147⟩ := h1144
              rw [h1145]
              show X_T sc 70 (70, [(3, .int (iI (X_ix rn rc (ct (X_av n (X_av n cur)))))), (2, .int (iI (pl (X_av n (X_av n cur))))), (1, .int (iI (X_ix rn rc (ct (X_av n cur))))), (0, .ref 496)], [], S1143) _
              refine T_p xr_70_70 xn_70 (pc' := 71) (ls' := [(3, .int (iI (X_ix rn rc (ct (X_av n (X_av n cur)))))), (2, .int (iI (pl (X_av n (X_av n cur))))), (1, .int (iI (X_ix rn rc (ct (X_av n cur))))), (0, .ref 496)]) (st' := [.ref 496]) rfl ?_
              refine T_p xr_70_71 xn_70 (pc' := 73) (ls' := [(3, .int (iI (X_ix rn rc (ct (X_av n (X_av n cur)))))), (2, .int (iI (pl (X_av n (X_av n cur))))), (1, .int (iI (X_ix rn rc (ct (X_av n cur))))), (0, .ref 496)]) (st' := [.int (iI 59), .ref 496]) rfl ?_
              have h1148 := (h1147.1 496 (by first | decide | omega)).trans (hp1101)
              refine T_cv (S := S1143) (q := 496) xr_70_73 xf_68.1 xf_68.2.1 xn_68 (as := [.int (iI 59)]) (r := []) rfl h1148 (Nat.le_of_ble_eq_true rfl) (Nat.le_of_ble_eq_true rfl) (pc' := 76) rfl (ls' := [(0, .ref 496), (1, .int (iI 59))]) rfl ?_
              have h1149 := (h1147.1 497 (by first | decide | omega)).trans (hl1102)
              have h1150 := (h1147.1 498 (by first | decide | omega)).trans ((hf1103.1 498 (by first | decide | omega)).trans (h1077))
              have h1151 := (h1147.1 499 (by first | decide | omega)).trans ((hf1103.1 499 (by first | decide | omega)).trans (h1078))
              have h1152 := (h1147.1 500 (by first | decide | omega)).trans ((hf1103.1 500 (by first | decide | omega)).trans (h1079))
              refine T_mono (c_pass sc S1143 B 0 fp at_ n (X_av n (X_av n (X_av n cur))) so pl ct 59 h1148 ⟨h1149, h1150, h1151, h1152⟩ (by omega) hso (by omega)) (fun v1156 S1157 h1158 => ?_)
              rcases h1158 with ⟨hv1153, hc1154, hp1159, hl1160, hf1161⟩ | ⟨hv1153, hc1154, ⟨fl1162, fp1163, hn1164, hp1159⟩, hl1160, hf1161⟩
              · skip
                rw [hv1153]
                have hv1155 := X_av_r (n := n) (c := (X_av n (X_av n (X_av n cur)))) (by omega)
                show X_T sc 70 (76, [(3, .int (iI (X_ix rn rc (ct (X_av n (X_av n cur)))))), (2, .int (iI (pl (X_av n (X_av n cur))))), (1, .int (iI (X_ix rn rc (ct (X_av n cur))))), (0, .ref 496)], [.int (iI 1)], S1157) _
                refine T_p xr_70_76 xn_70 (pc' := 77) (ls' := [(3, .int (iI (X_ix rn rc (ct (X_av n (X_av n cur)))))), (2, .int (iI (pl (X_av n (X_av n cur))))), (1, .int (iI (X_ix rn rc (ct (X_av n cur))))), (0, .ref 496)]) (st' := []) rfl ?_
                refine T_vret xr_70_77 xf_70.2.2 ?_
                refine hQ _ _ ?_
                have h1165 := (hf1161.1 B (by omega)).trans (hb1146.1)
                have hs1166 : C_ws S1157 B D W := C_ws.fr (P := fun r => ¬ (B + 6 ≤ r ∧ r < B + 246)) hs ((((((X_Fr.rf).tr (X_Fr.mono ⟨h1047.1, h1047.2⟩ (fun q hq => (by omega)))).tr (X_Fr.mono ⟨hf1072.1, hf1072.2⟩ (fun q hq => (by omega)))).tr (X_Fr.mono ⟨hf1103.1, hf1103.2⟩ (fun q hq => (by omega)))).tr (X_Fr.mono ⟨h1147.1, h1147.2⟩ (fun q hq => (by omega)))).tr (X_Fr.mono ⟨hf1161.1, hf1161.2⟩ (fun q hq => (by omega)))) (fun k h1 h2 => by omega)
                have h1167 := (hf1161.1 (B + 1) (by omega)).trans (hb1146.2.1)
                have h1168 := (hf1161.1 (B + 2) (by omega)).trans (hb1146.2.2.1)
                have h1169 := (hf1161.1 (B + 3) (by omega)).trans (hb1146.2.2.2.1)
                have h1170 := (hf1161.1 (B + 4) (by omega)).trans (hb1146.2.2.2.2.1)
                have h1173 := (hf1161.1 (B + 5) (by omega)).trans ((h1147.1 (B + 5) (by omega)).trans (h1135))
                have h1174 := (hf1161.1 498 (by first | decide | omega)).trans (h1150)
                have h1175 := (hf1161.1 499 (by first | decide | omega)).trans (h1151)
                have h1176 := (hf1161.1 500 (by first | decide | omega)).trans (h1152)
                have hb1171 : C_bk S1157 B rc kc wc rn (X_tf rc lo (X_ix rn rc (ct (X_av n cur))) (X_ix rn rc (ct (X_av n (X_av n cur))))) kn ab := ⟨h1165, h1167, h1168, h1169, h1170, ⟨f, h1173, hf⟩, ⟨by omega, by omega⟩, ⟨by omega, by omega⟩, ⟨by omega, by omega⟩⟩
                have hc1172 : 0 ≤ (X_av n (X_av n (X_av n (X_av n cur)))) ∧ (X_av n (X_av n (X_av n (X_av n cur)))) < n := by omega
                refine Or.inl ⟨(X_av n (X_av n (X_av n (X_av n cur))), rc, kc, wc, rn, (X_tf rc lo (X_ix rn rc (ct (X_av n cur))) (X_ix rn rc (ct (X_av n (X_av n cur))))), kn, ab, D, W), ?_, fp, ⟨hp1159, ⟨hl1160, h1174, h1175, h1176⟩, hb1171, hs1166, hc1172⟩, (((((X_Fr.rf).tr (X_Fr.mono ⟨h1047.1, h1047.2⟩ (fun q hq => (by omega)))).tr (X_Fr.mono ⟨hf1072.1, hf1072.2⟩ (fun q hq => (by omega)))).tr (X_Fr.mono ⟨hf1103.1, hf1103.2⟩ (fun q hq => (by omega)))).tr (X_Fr.mono ⟨h1147.1, h1147.2⟩ (fun q hq => (by omega)))).tr (X_Fr.mono ⟨hf1161.1, hf1161.2⟩ (fun q hq => (by omega)))⟩
                simp only [sp_tight]
                subst_vars
                (repeat (first | rw [if_pos (by assumption)] | rw [if_neg (by assumption)]))
                all_goals first | rfl | ((repeat' split) <;> first | rfl | (exfalso; omega))
              · skip
                rw [hv1153]
                show X_T sc 70 (76, [(3, .int (iI (X_ix rn rc (ct (X_av n (X_av n cur)))))), (2, .int (iI (pl (X_av n (X_av n cur))))), (1, .int (iI (X_ix rn rc (ct (X_av n cur))))), (0, .ref 496)], [.int (iI 0)], S1157) _
                refine T_p xr_70_76 xn_70 (pc' := 77) (ls' := [(3, .int (iI (X_ix rn rc (ct (X_av n (X_av n cur)))))), (2, .int (iI (pl (X_av n (X_av n cur))))), (1, .int (iI (X_ix rn rc (ct (X_av n cur))))), (0, .ref 496)]) (st' := []) rfl ?_
                refine T_vret xr_70_77 xf_70.2.2 ?_
                refine hQ _ _ ?_
                have h1177 := (hf1161.1 B (by omega)).trans (hb1146.1)
                have hs1178 : C_ws S1157 B D W := C_ws.fr (P := fun r => ¬ (B + 6 ≤ r ∧ r < B + 246)) hs ((((((X_Fr.rf).tr (X_Fr.mono ⟨h1047.1, h1047.2⟩ (fun q hq => (by omega)))).tr (X_Fr.mono ⟨hf1072.1, hf1072.2⟩ (fun q hq => (by omega)))).tr (X_Fr.mono ⟨hf1103.1, hf1103.2⟩ (fun q hq => (by omega)))).tr (X_Fr.mono ⟨h1147.1, h1147.2⟩ (fun q hq => (by omega)))).tr (X_Fr.mono ⟨hf1161.1, hf1161.2⟩ (fun q hq => (by omega)))) (fun k h1 h2 => by omega)
                have h1179 := (hf1161.1 (B + 1) (by omega)).trans (hb1146.2.1)
                have h1180 := (hf1161.1 (B + 2) (by omega)).trans (hb1146.2.2.1)
                have h1181 := (hf1161.1 (B + 3) (by omega)).trans (hb1146.2.2.2.1)
                have h1182 := (hf1161.1 (B + 4) (by omega)).trans (hb1146.2.2.2.2.1)
                have h1185 := (hf1161.1 (B + 5) (by omega)).trans ((h1147.1 (B + 5) (by omega)).trans (h1135))
                have h1186 := (hf1161.1 498 (by first | decide | omega)).trans (h1150)
                have h1187 := (hf1161.1 499 (by first | decide | omega)).trans (h1151)
                have h1188 := (hf1161.1 500 (by first | decide | omega)).trans (h1152)
                have hb1183 : C_bk S1157 B rc kc wc rn (X_tf rc lo (X_ix rn rc (ct (X_av n cur))) (X_ix rn rc (ct (X_av n (X_av n cur))))) kn ab := ⟨h1177, h1179, h1180, h1181, h1182, ⟨f, h1185, hf⟩, ⟨by omega, by omega⟩, ⟨by omega, by omega⟩, ⟨by omega, by omega⟩⟩
                have hc1184 : 0 ≤ (X_av n (X_av n (X_av n cur))) ∧ (X_av n (X_av n (X_av n cur))) < n := by omega
                refine Or.inr ⟨?_, fl1162, fp1163, ((X_av n (X_av n (X_av n cur))), rc, kc, wc, rn, (X_tf rc lo (X_ix rn rc (ct (X_av n cur))) (X_ix rn rc (ct (X_av n (X_av n cur))))), kn, ab, D, W), by omega, ⟨hp1159, ⟨hl1160, h1186, h1187, h1188⟩, hb1183, hs1178, hc1184⟩, (((((X_Fr.rf).tr (X_Fr.mono ⟨h1047.1, h1047.2⟩ (fun q hq => (by omega)))).tr (X_Fr.mono ⟨hf1072.1, hf1072.2⟩ (fun q hq => (by omega)))).tr (X_Fr.mono ⟨hf1103.1, hf1103.2⟩ (fun q hq => (by omega)))).tr (X_Fr.mono ⟨h1147.1, h1147.2⟩ (fun q hq => (by omega)))).tr (X_Fr.mono ⟨hf1161.1, hf1161.2⟩ (fun q hq => (by omega)))⟩
                simp only [sp_tight]
                subst_vars
                (repeat (first | rw [if_pos (by assumption)] | rw [if_neg (by assumption)]))
                all_goals first | rfl | ((repeat' split) <;> first | rfl | (exfalso; omega))
            · skip
              have c1141 : (X_bt (lo (X_ix rn rc (ct (X_av n (X_av n cur))))) (X_ix rn rc (ct (X_av n cur)))) := c1141
              refine T_p xr_70_54 xn_70 (pc' := 55) (ls' := [(3, .int (iI (X_ix rn rc (ct (X_av n (X_av n cur)))))), (2, .int (iI (pl (X_av n (X_av n cur))))), (1, .int (iI (X_ix rn rc (ct (X_av n cur))))), (0, .ref 496)]) (st' := [.ref 496]) rfl ?_
              refine T_p xr_70_55 xn_70 (pc' := 56) (ls' := [(3, .int (iI (X_ix rn rc (ct (X_av n (X_av n cur)))))), (2, .int (iI (pl (X_av n (X_av n cur))))), (1, .int (iI (X_ix rn rc (ct (X_av n cur))))), (0, .ref 496)]) (st' := [.int (iI 4), .ref 496]) rfl ?_
              refine T_p xr_70_56 xn_70 (pc' := 57) (ls' := [(3, .int (iI (X_ix rn rc (ct (X_av n (X_av n cur)))))), (2, .int (iI (pl (X_av n (X_av n cur))))), (1, .int (iI (X_ix rn rc (ct (X_av n cur))))), (0, .ref 496)]) (st' := [.int (iI (pl (X_av n (X_av n cur)))), .int (iI 4), .ref 496]) rfl ?_
              refine T_cv (S := S1099) (q := 496) xr_70_57 xf_66.1 xf_66.2.1 xn_66 (as := [.int (iI 4), .int (iI (pl (X_av n (X_av n cur))))]) (r := []) rfl hp1101 (Nat.le_of_ble_eq_true rfl) (Nat.le_of_ble_eq_true rfl) (pc' := 60) rfl (ls' := [(0, .ref 496), (1, .int (iI 4)), (2, .int (iI (pl (X_av n (X_av n cur)))))]) rfl ?_
              refine T_p xr_66_0 xn_66 (pc' := 1) (ls' := [(0, .ref 496), (1, .int (iI 4)), (2, .int (iI (pl (X_av n (X_av n cur)))))]) (st' := [.ref 496]) rfl ?_
              refine T_p xr_66_1 xn_66 (pc' := 2) (ls' := [(0, .ref 496), (1, .int (iI 4)), (2, .int (iI (pl (X_av n (X_av n cur)))))]) (st' := [.int (iI 4), .ref 496]) rfl ?_
              refine T_put xr_66_2 hp1101 rfl (Nat.le_of_ble_eq_true rfl) rfl (fs' := [.ref 497, .ref B, .int (iI 4), .int (iI fp)]) rfl (pc' := 5) rfl (fun S1189 h1190 n1191 e1192 => ?_)
              refine T_p xr_66_5 xn_66 (pc' := 6) (ls' := [(0, .ref 496), (1, .int (iI 4)), (2, .int (iI (pl (X_av n (X_av n cur)))))]) (st' := [.ref 496]) rfl ?_
              refine T_p xr_66_6 xn_66 (pc' := 7) (ls' := [(0, .ref 496), (1, .int (iI 4)), (2, .int (iI (pl (X_av n (X_av n cur)))))]) (st' := [.int (iI (pl (X_av n (X_av n cur)))), .ref 496]) rfl ?_
              refine T_put xr_66_7 h1190 rfl (Nat.le_of_ble_eq_true rfl) rfl (fs' := [.ref 497, .ref B, .int (iI 4), .int (iI (pl (X_av n (X_av n cur))))]) rfl (pc' := 10) rfl (fun S1193 h1194 n1195 e1196 => ?_)
              refine T_vret xr_66_10 xf_66.2.2 ?_
              show X_T sc 70 (60, [(3, .int (iI (X_ix rn rc (ct (X_av n (X_av n cur)))))), (2, .int (iI (pl (X_av n (X_av n cur))))), (1, .int (iI (X_ix rn rc (ct (X_av n cur))))), (0, .ref 496)], [], S1193) _
              refine T_vret xr_70_60 xf_70.2.2 ?_
              refine hQ _ _ ?_
              have h1197 := (n1195 B (by omega)).trans ((n1191 B (by omega)).trans (h1130))
              have hs1198 : C_ws S1193 B D W := C_ws.fr (P := fun r => ¬ (B + 6 ≤ r ∧ r < B + 246)) hs ((((((X_Fr.rf).tr (X_Fr.mono ⟨h1047.1, h1047.2⟩ (fun q hq => (by omega)))).tr (X_Fr.mono ⟨hf1072.1, hf1072.2⟩ (fun q hq => (by omega)))).tr (X_Fr.mono ⟨hf1103.1, hf1103.2⟩ (fun q hq => (by omega)))).tr (X_Fr.of n1191 e1192 (by first | decide | exact ⟨Nat.le_add_right _ _, Nat.add_le_add_left (by decide) _⟩ | omega))).tr (X_Fr.of n1195 e1196 (by first | decide | exact ⟨Nat.le_add_right _ _, Nat.add_le_add_left (by decide) _⟩ | omega))) (fun k h1 h2 => by omega)
              have h1199 := (n1195 497 (by decide)).trans ((n1191 497 (by decide)).trans (hl1102))
              have h1200 := (n1195 (B + 1) (by first | exact (fun h => absurd (Nat.add_left_cancel h) (by decide)) | omega)).trans ((n1191 (B + 1) (by first | exact (fun h => absurd (Nat.add_left_cancel h) (by decide)) | omega)).trans (h1131))
              have h1201 := (n1195 (B + 2) (by first | exact (fun h => absurd (Nat.add_left_cancel h) (by decide)) | omega)).trans ((n1191 (B + 2) (by first | exact (fun h => absurd (Nat.add_left_cancel h) (by decide)) | omega)).trans (h1132))
              have h1202 := (n1195 (B + 3) (by first | exact (fun h => absurd (Nat.add_left_cancel h) (by decide)) | omega)).trans ((n1191 (B + 3) (by first | exact (fun h => absurd (Nat.add_left_cancel h) (by decide)) | omega)).trans (h1133))
              have h1203 := (n1195 (B + 4) (by first | exact (fun h => absurd (Nat.add_left_cancel h) (by decide)) | omega)).trans ((n1191 (B + 4) (by first | exact (fun h => absurd (Nat.add_left_cancel h) (by decide)) | omega)).trans (h1134))
              have h1206 := (n1195 (B + 5) (by first | exact (fun h => absurd (Nat.add_left_cancel h) (by decide)) | omega)).trans ((n1191 (B + 5) (by first | exact (fun h => absurd (Nat.add_left_cancel h) (by decide)) | omega)).trans (h1135))
              have h1207 := (n1195 498 (by decide)).trans ((n1191 498 (by decide)).trans ((hf1103.1 498 (by first | decide | omega)).trans (h1077)))
              have h1208 := (n1195 499 (by decide)).trans ((n1191 499 (by decide)).trans ((hf1103.1 499 (by first | decide | omega)).trans (h1078)))
              have h1209 := (n1195 500 (by decide)).trans ((n1191 500 (by decide)).trans ((hf1103.1 500 (by first | decide | omega)).trans (h1079)))
              have hb1204 : C_bk S1193 B rc kc wc rn lo kn ab := ⟨h1197, h1200, h1201, h1202, h1203, ⟨f, h1206, hf⟩, ⟨by omega, by omega⟩, ⟨by omega, by omega⟩, ⟨by omega, by omega⟩⟩
              have hc1205 : 0 ≤ (X_av n (X_av n (X_av n cur))) ∧ (X_av n (X_av n (X_av n cur))) < n := by omega
              refine Or.inr ⟨?_, 4, pl (X_av n (X_av n cur)), (X_av n (X_av n (X_av n cur)), rc, kc, wc, rn, lo, kn, ab, D, W), by omega, ⟨h1194, ⟨h1199, h1207, h1208, h1209⟩, hb1204, hs1198, hc1205⟩, (((((X_Fr.rf).tr (X_Fr.mono ⟨h1047.1, h1047.2⟩ (fun q hq => (by omega)))).tr (X_Fr.mono ⟨hf1072.1, hf1072.2⟩ (fun q hq => (by omega)))).tr (X_Fr.mono ⟨hf1103.1, hf1103.2⟩ (fun q hq => (by omega)))).tr (X_Fr.of n1191 e1192 (by first | decide | exact ⟨Nat.le_add_right _ _, Nat.add_le_add_left (by decide) _⟩ | omega))).tr (X_Fr.of n1195 e1196 (by first | decide | exact ⟨Nat.le_add_right _ _, Nat.add_le_add_left (by decide) _⟩ | omega))⟩
              simp only [sp_tight]
              subst_vars
              (repeat (first | rw [if_pos (by assumption)] | rw [if_neg (by assumption)]))
              all_goals first | rfl | ((repeat' split) <;> first | rfl | (exfalso; omega))
        · skip
          have c1107 : ¬ (¬ (X_ix rn rc (ct (X_av n (X_av n cur)))) = (-1)) := c1107
          exact (show False by first | contradiction | omega).elim
      · skip
        rw [h1087]
        show X_T sc 70 (30, [(2, .int (iI (pl (X_av n (X_av n cur))))), (1, .int (iI (X_ix rn rc (ct (X_av n cur))))), (0, .ref 496)], [.int (iI (-1))], S1099) _
        refine T_p xr_70_30 xn_70 (pc' := 31) (ls' := [(3, .int (iI (-1))), (2, .int (iI (pl (X_av n (X_av n cur))))), (1, .int (iI (X_ix rn rc (ct (X_av n cur))))), (0, .ref 496)]) (st' := []) rfl ?_
        refine T_p xr_70_31 xn_70 (pc' := 32) (ls' := [(3, .int (iI (-1))), (2, .int (iI (pl (X_av n (X_av n cur))))), (1, .int (iI (X_ix rn rc (ct (X_av n cur))))), (0, .ref 496)]) (st' := [.int (iI (-1))]) rfl ?_
        refine T_p xr_70_32 xn_70 (pc' := 33) (ls' := [(3, .int (iI (-1))), (2, .int (iI (pl (X_av n (X_av n cur))))), (1, .int (iI (X_ix rn rc (ct (X_av n cur))))), (0, .ref 496)]) (st' := [.int (iI (-1)), .int (iI (-1))]) rfl ?_
        refine T_zicmp_nef xr_70_33 (t := 37) (pc' := 36) rfl rfl (by decide) ?_
        refine T_vret xr_70_36 xf_70.2.2 ?_
        refine hQ _ _ ?_
        have h1210 := (hf1103.1 B (by omega)).trans (h1085)
        have hs1211 : C_ws S1099 B D W := C_ws.fr (P := fun r => ¬ (B + 6 ≤ r ∧ r < B + 246)) hs ((((X_Fr.rf).tr (X_Fr.mono ⟨h1047.1, h1047.2⟩ (fun q hq => (by omega)))).tr (X_Fr.mono ⟨hf1072.1, hf1072.2⟩ (fun q hq => (by omega)))).tr (X_Fr.mono ⟨hf1103.1, hf1103.2⟩ (fun q hq => (by omega)))) (fun k h1 h2 => by omega)
        have h1212 := (hf1103.1 (B + 1) (by omega)).trans (h1086)
        have h1213 := (hf1103.1 (B + 2) (by omega)).trans (h1092)
        have h1214 := (hf1103.1 (B + 3) (by omega)).trans (h1093)
        have h1215 := (hf1103.1 (B + 4) (by omega)).trans (h1094)
        have h1218 := (hf1103.1 (B + 5) (by omega)).trans (h1095)
        have h1219 := (hf1103.1 498 (by first | decide | omega)).trans (h1077)
        have h1220 := (hf1103.1 499 (by first | decide | omega)).trans (h1078)
        have h1221 := (hf1103.1 500 (by first | decide | omega)).trans (h1079)
        have hb1216 : C_bk S1099 B rc kc wc rn lo kn ab := ⟨h1210, h1212, h1213, h1214, h1215, ⟨f, h1218, hf⟩, ⟨by omega, by omega⟩, ⟨by omega, by omega⟩, ⟨by omega, by omega⟩⟩
        have hc1217 : 0 ≤ (X_av n (X_av n cur)) ∧ (X_av n (X_av n cur)) < n := by omega
        refine Or.inr ⟨?_, fl1104, fp1105, ((X_av n (X_av n cur)), rc, kc, wc, rn, lo, kn, ab, D, W), by omega, ⟨hp1101, ⟨hl1102, h1219, h1220, h1221⟩, hb1216, hs1211, hc1217⟩, (((X_Fr.rf).tr (X_Fr.mono ⟨h1047.1, h1047.2⟩ (fun q hq => (by omega)))).tr (X_Fr.mono ⟨hf1072.1, hf1072.2⟩ (fun q hq => (by omega)))).tr (X_Fr.mono ⟨hf1103.1, hf1103.2⟩ (fun q hq => (by omega)))⟩
        simp only [sp_tight]
        subst_vars
        (repeat (first | rw [if_pos (by assumption)] | rw [if_neg (by assumption)]))
        all_goals first | rfl | ((repeat' split) <;> first | rfl | (exfalso; omega))
    · skip
      have c1076 : ¬ (¬ (X_ix rn rc (ct (X_av n cur))) = (-1)) := c1076
      exact (show False by first | contradiction | omega).elim
  · skip
    rw [h1056]
    show X_T sc 70 (11, [(0, .ref 496)], [.int (iI (-1))], S1068) _
    refine T_p xr_70_11 xn_70 (pc' := 12) (ls' := [(1, .int (iI (-1))), (0, .ref 496)]) (st' := []) rfl ?_
    refine T_p xr_70_12 xn_70 (pc' := 13) (ls' := [(1, .int (iI (-1))), (0, .ref 496)]) (st' := [.int (iI (-1))]) rfl ?_
    refine T_p xr_70_13 xn_70 (pc' := 14) (ls' := [(1, .int (iI (-1))), (0, .ref 496)]) (st' := [.int (iI (-1)), .int (iI (-1))]) rfl ?_
    refine T_zicmp_nef xr_70_14 (t := 18) (pc' := 17) rfl rfl (by decide) ?_
    refine T_vret xr_70_17 xf_70.2.2 ?_
    refine hQ _ _ ?_
    have h1222 := (hf1072.1 B (by omega)).trans (h1054)
    have hs1223 : C_ws S1068 B D W := C_ws.fr (P := fun r => ¬ (B + 6 ≤ r ∧ r < B + 246)) hs (((X_Fr.rf).tr (X_Fr.mono ⟨h1047.1, h1047.2⟩ (fun q hq => (by omega)))).tr (X_Fr.mono ⟨hf1072.1, hf1072.2⟩ (fun q hq => (by omega)))) (fun k h1 h2 => by omega)
    have h1224 := (hf1072.1 (B + 1) (by omega)).trans (h1055)
    have h1225 := (hf1072.1 (B + 2) (by omega)).trans (h1061)
    have h1226 := (hf1072.1 (B + 3) (by omega)).trans (h1062)
    have h1227 := (hf1072.1 (B + 4) (by omega)).trans (h1063)
    have h1230 := (hf1072.1 (B + 5) (by omega)).trans (h1064)
    have h1231 := (hf1072.1 498 (by first | decide | omega)).trans (h1051)
    have h1232 := (hf1072.1 499 (by first | decide | omega)).trans (h1052)
    have h1233 := (hf1072.1 500 (by first | decide | omega)).trans (h1053)
    have hb1228 : C_bk S1068 B rc kc wc rn lo kn ab := ⟨h1222, h1224, h1225, h1226, h1227, ⟨f, h1230, hf⟩, ⟨by omega, by omega⟩, ⟨by omega, by omega⟩, ⟨by omega, by omega⟩⟩
    have hc1229 : 0 ≤ (X_av n cur) ∧ (X_av n cur) < n := by omega
    refine Or.inr ⟨?_, fl1073, fp1074, ((X_av n cur), rc, kc, wc, rn, lo, kn, ab, D, W), by omega, ⟨hp1070, ⟨hl1071, h1231, h1232, h1233⟩, hb1228, hs1223, hc1229⟩, ((X_Fr.rf).tr (X_Fr.mono ⟨h1047.1, h1047.2⟩ (fun q hq => (by omega)))).tr (X_Fr.mono ⟨hf1072.1, hf1072.2⟩ (fun q hq => (by omega)))⟩
    simp only [sp_tight]
    subst_vars
    (repeat (first | rw [if_pos (by assumption)] | rw [if_neg (by assumption)]))
    all_goals first | rfl | ((repeat' split) <;> first | rfl | (exfalso; omega))
theorem c_parseKind (sc : X_Sc) (S : X_S) (B : Nat) (fp at_ n : Int) (so pl : Int → Int) (ct : Int → Int64) (cur rc kc wc : Int) (rn : Int → Int64) (lo : Int → Int) (kn : Int → Int64) (ab : Int → Int) (D : Int → Nat → Int → Int) (W : Int → Int → Int64)  (hB : 4 ≤ B ∧ B + 246 ≤ 496) (hn : n ≤ 2001) (hso : ∀ i, 0 ≤ i → i < n → 0 ≤ so i ∧ so i ≤ 255) (hK : C_K S B 0 fp at_ n so pl ct (cur, rc, kc, wc, rn, lo, kn, ab, D, W))  : X_T sc 71 (0, [(0, .ref 496)], [], S) (fun v S' => (∃ K, sp_kind n so ct (cur, rc, kc, wc, rn, lo, kn, ab, D, W) = some K ∧ ∃ fp', C_K S' B 0 fp' at_ n so pl ct K ∧ X_Fr (fun q => q = 496 ∨ q = 497 ∨ (B ≤ q ∧ q < B + 246)) S S') ∨ (sp_kind n so ct (cur, rc, kc, wc, rn, lo, kn, ab, D, W) = none ∧ ∃ fl' fp' K, (¬ fl' = 0 ∧ 0 ≤ fl' ∧ fl' ≤ 5) ∧ C_K S' B fl' fp' at_ n so pl ct K ∧ X_Fr (fun q => q = 496 ∨ q = 497 ∨ (B ≤ q ∧ q < B + 246)) S S')) := by
  obtain ⟨hp, hx, hb, hs, hcu⟩ := id hK
  simp only at hx hb hs hcu
  obtain ⟨hb0, hb1, hb2, hb3, hb4, ⟨f, hb5, hf⟩, ⟨hrc, hrcb⟩, ⟨hkc, hkcb⟩, ⟨hwc, hwcb⟩⟩ := id hb
  refine X_QI (fun Q hQ => ?_)
  refine T_p xr_71_0 xn_71 (pc' := 1) (ls' := [(0, .ref 496)]) (st' := [.ref 496]) rfl ?_
  refine T_get xr_71_1 hp rfl (v := .ref B) rfl (pc' := 4) rfl ?_
  refine T_get xr_71_4 hb0 rfl (v := .int (iI kc)) rfl (pc' := 7) rfl ?_
  refine T_p xr_71_7 xn_71 (pc' := 9) (ls' := [(0, .ref 496)]) (st' := [.int (iI 11), .int (iI kc)]) rfl ?_
  refine T_zicmp_ne xr_71_9 (t := 17) (pc' := 12) rfl rfl (fun c1234 => ?_) (fun c1234 => ?_)
  · skip
    have c1234 : ¬ kc = 11 := c1234
    refine T_p xr_71_17 xn_71 (pc' := 18) (ls' := [(0, .ref 496)]) (st' := [.ref 496]) rfl ?_
    refine T_get xr_71_18 hp rfl (v := .ref 497) rfl (pc' := 21) rfl ?_
    refine T_cv (S := S) (q := 497) xr_71_21 xf_52.1 xf_52.2.1 xn_52 (as := []) (r := []) rfl hx.1 (Nat.le_of_ble_eq_true rfl) (Nat.le_of_ble_eq_true rfl) (pc' := 24) rfl (ls' := [(0, .ref 497)]) rfl ?_
    refine T_mono (c_advance sc S at_ n cur so pl ct ⟨hx.1, hx.2.1, hx.2.2.1, hx.2.2.2⟩ (by omega)) (fun v1236 S1237 h1235 => ?_)
    obtain ⟨h1238, h1240, h1239⟩ := h1235
    rw [h1238]
    show X_T sc 71 (24, [(0, .ref 496)], [], S1237) _
    have hv1241 := X_av_r (n := n) (c := cur) (by omega)
    refine T_p xr_71_24 xn_71 (pc' := 25) (ls' := [(0, .ref 496)]) (st' := [.ref 496]) rfl ?_
    have h1242 := (h1239.1 496 (by first | decide | omega)).trans (hp)
    refine T_get xr_71_25 h1242 rfl (v := .ref 497) rfl (pc' := 28) rfl ?_
    refine T_cv (S := S1237) (q := 497) xr_71_28 xf_48.1 xf_48.2.1 xn_48 (as := []) (r := []) rfl h1240 (Nat.le_of_ble_eq_true rfl) (Nat.le_of_ble_eq_true rfl) (pc' := 31) rfl (ls' := [(0, .ref 497)]) rfl ?_
    have h1243 := (h1239.1 498 (by first | decide | omega)).trans (hx.2.1)
    have h1244 := (h1239.1 499 (by first | decide | omega)).trans (hx.2.2.1)
    have h1245 := (h1239.1 500 (by first | decide | omega)).trans (hx.2.2.2)
    refine T_mono (c_sort sc S1237 at_ n (X_av n cur) so pl ct ⟨h1240, h1243, h1244, h1245⟩ (by omega)) (fun v1247 S1248 h1246 => ?_)
    obtain ⟨h1249, h1250⟩ := h1246
    rw [h1249, h1250]
    show X_T sc 71 (31, [(0, .ref 496)], [.int (iI (so (X_av n cur)))], S1237) _
    have hs1251 := hso (X_av n cur) (by omega) (by omega)
    refine T_p xr_71_31 xn_71 (pc' := 32) (ls' := [(0, .ref 496)]) (st' := [.int (iI 2), .int (iI (so (X_av n cur)))]) rfl ?_
    refine T_zicmp_eq xr_71_32 (t := 40) (pc' := 35) rfl rfl (fun c1252 => ?_) (fun c1252 => ?_)
    · skip
      have c1252 : (so (X_av n cur)) = 2 := c1252
      refine T_p xr_71_40 xn_71 (pc' := 41) (ls' := [(0, .ref 496)]) (st' := [.ref 496]) rfl ?_
      refine T_get xr_71_41 h1242 rfl (v := .ref B) rfl (pc' := 44) rfl ?_
      refine T_p xr_71_44 xn_71 (pc' := 45) (ls' := [(0, .ref 496)]) (st' := [.ref 496, .ref B]) rfl ?_
      refine T_get xr_71_45 h1242 rfl (v := .ref 497) rfl (pc' := 48) rfl ?_
      refine T_cv (S := S1237) (q := 497) xr_71_48 xf_50.1 xf_50.2.1 xn_50 (as := []) (r := [.ref B]) rfl h1240 (Nat.le_of_ble_eq_true rfl) (Nat.le_of_ble_eq_true rfl) (pc' := 51) rfl (ls' := [(0, .ref 497)]) rfl ?_
      refine T_mono (c_content sc S1237 at_ n (X_av n cur) so pl ct ⟨h1240, h1243, h1244, h1245⟩ (by omega)) (fun v1254 S1255 h1253 => ?_)
      obtain ⟨h1256, h1257⟩ := h1253
      rw [h1256, h1257]
      show X_T sc 71 (51, [(0, .ref 496)], [.long (ct (X_av n cur)), .ref B], S1237) _
      have h1258 := (h1239.1 B (by omega)).trans (hb0)
      refine T_cv (S := S1237) (q := B) xr_71_51 xf_6.1 xf_6.2.1 xn_6 (as := [.long (ct (X_av n cur))]) (r := []) rfl h1258 (Nat.le_of_ble_eq_true rfl) (Nat.le_of_ble_eq_true rfl) (pc' := 54) rfl (ls' := [(0, .ref B), (1, .long (ct (X_av n cur)))]) rfl ?_
      have h1266 := (h1239.1 (B + 1) (by omega)).trans (hb1)
      have h1267 := (h1239.1 (B + 2) (by omega)).trans (hb2)
      have h1268 := (h1239.1 (B + 3) (by omega)).trans (hb3)
      have h1269 := (h1239.1 (B + 4) (by omega)).trans (hb4)
      have h1270 := (h1239.1 (B + 5) (by omega)).trans (hb5)
      refine T_mono (c_kindNamed sc S1237 B rc kc wc rn lo kn ab (ct (X_av n cur)) ⟨h1258, h1266, h1267, h1268, h1269, ⟨f, h1270, hf⟩, ⟨by omega, by omega⟩, ⟨by omega, by omega⟩, ⟨by omega, by omega⟩⟩) (fun v1259 S1260 h1261 => ?_)
      obtain ⟨r1262, h1263, hx1264, h1265⟩ := h1261
      rw [h1263, h1265]
      have hr1271 := X_Ix_r (by omega) hx1264
      have hq1272 := X_ix_e hx1264
      show X_T sc 71 (54, [(0, .ref 496)], [.int (iI r1262)], S1237) _
      refine T_p xr_71_54 xn_71 (pc' := 55) (ls' := [(0, .ref 496)]) (st' := [.int (iI (-1)), .int (iI r1262)]) rfl ?_
      refine T_zicmp_eq xr_71_55 (t := 71) (pc' := 58) rfl rfl (fun c1273 => ?_) (fun c1273 => ?_)
      · skip
        have c1273 : r1262 = (-1) := c1273
        refine T_p xr_71_71 xn_71 (pc' := 72) (ls' := [(0, .ref 496)]) (st' := [.ref 496]) rfl ?_
        refine T_get xr_71_72 h1242 rfl (v := .ref 497) rfl (pc' := 75) rfl ?_
        refine T_cv (S := S1237) (q := 497) xr_71_75 xf_50.1 xf_50.2.1 xn_50 (as := []) (r := []) rfl h1240 (Nat.le_of_ble_eq_true rfl) (Nat.le_of_ble_eq_true rfl) (pc' := 78) rfl (ls' := [(0, .ref 497)]) rfl ?_
        refine T_mono (c_content sc S1237 at_ n (X_av n cur) so pl ct ⟨h1240, h1243, h1244, h1245⟩ (by omega)) (fun v1275 S1276 h1274 => ?_)
        obtain ⟨h1277, h1278⟩ := h1274
        rw [h1277, h1278]
        show X_T sc 71 (78, [(0, .ref 496)], [.long (ct (X_av n cur))], S1237) _
        refine T_p xr_71_78 xn_71 (pc' := 79) (ls' := [(1, .long (ct (X_av n cur))), (0, .ref 496)]) (st' := []) rfl ?_
        refine T_p xr_71_79 xn_71 (pc' := 80) (ls' := [(1, .long (ct (X_av n cur))), (0, .ref 496)]) (st' := [.int (iI 0)]) rfl ?_
        refine T_p xr_71_80 xn_71 (pc' := 81) (ls' := [(3, .int (iI 0)), (1, .long (ct (X_av n cur))), (0, .ref 496)]) (st' := []) rfl ?_
        refine T_p xr_71_81 xn_71 (pc' := 82) (ls' := [(3, .int (iI 0)), (1, .long (ct (X_av n cur))), (0, .ref 496)]) (st' := [.ref 496]) rfl ?_
        refine T_get xr_71_82 h1242 rfl (v := .ref 497) rfl (pc' := 85) rfl ?_
        refine T_cv (S := S1237) (q := 497) xr_71_85 xf_52.1 xf_52.2.1 xn_52 (as := []) (r := []) rfl h1240 (Nat.le_of_ble_eq_true rfl) (Nat.le_of_ble_eq_true rfl) (pc' := 88) rfl (ls' := [(0, .ref 497)]) rfl ?_
        refine T_mono (c_advance sc S1237 at_ n (X_av n cur) so pl ct ⟨h1240, h1243, h1244, h1245⟩ (by omega)) (fun v1280 S1281 h1279 => ?_)
        obtain ⟨h1282, h1284, h1283⟩ := h1279
        rw [h1282]
        show X_T sc 71 (88, [(3, .int (iI 0)), (1, .long (ct (X_av n cur))), (0, .ref 496)], [], S1281) _
        have hv1285 := X_av_r (n := n) (c := (X_av n cur)) (by omega)
        refine T_p xr_71_88 xn_71 (pc' := 89) (ls' := [(3, .int (iI 0)), (1, .long (ct (X_av n cur))), (0, .ref 496)]) (st' := [.ref 496]) rfl ?_
        have h1286 := (h1283.1 496 (by first | decide | omega)).trans (h1242)
        refine T_get xr_71_89 h1286 rfl (v := .ref 497) rfl (pc' := 92) rfl ?_
        refine T_p xr_71_92 xn_71 (pc' := 95) (ls' := [(3, .int (iI 0)), (1, .long (ct (X_av n cur))), (0, .ref 496)]) (st' := [.long (Int64.ofNat 504363246962), .ref 497]) rfl ?_
        refine T_cv (S := S1281) (q := 497) xr_71_95 xf_51.1 xf_51.2.1 xn_51 (as := [.long (Int64.ofNat 504363246962)]) (r := []) rfl h1284 (Nat.le_of_ble_eq_true rfl) (Nat.le_of_ble_eq_true rfl) (pc' := 98) rfl (ls' := [(0, .ref 497), (1, .long (Int64.ofNat 504363246962))]) rfl ?_
        have h1287 := (h1283.1 498 (by first | decide | omega)).trans (h1243)
        have h1288 := (h1283.1 499 (by first | decide | omega)).trans (h1244)
        have h1289 := (h1283.1 500 (by first | decide | omega)).trans (h1245)
        refine T_mono (c_isKeyword sc S1281 at_ n (X_av n (X_av n cur)) so pl ct (Int64.ofNat 504363246962) ⟨h1284, h1287, h1288, h1289⟩ (by omega) hso) (fun v1291 S1292 h1290 => ?_)
        obtain ⟨h1293, h1294⟩ := h1290
        rw [h1293, h1294]
        show X_T sc 71 (98, [(3, .int (iI 0)), (1, .long (ct (X_av n cur))), (0, .ref 496)], [.int (iI (bI (so (X_av n (X_av n cur)) = 3 ∧ ct (X_av n (X_av n cur)) = (Int64.ofNat 504363246962))))], S1281) _
        refine T_bif_eq xr_71_98 (t := 113) (pc' := 101) rfl rfl (fun c1295 => ?_) (fun c1295 => ?_)
        · skip
          have c1295 : ¬ (so (X_av n (X_av n cur)) = 3 ∧ ct (X_av n (X_av n cur)) = (Int64.ofNat 504363246962)) := c1295
          refine T_p xr_71_113 xn_71 (pc' := 114) (ls' := [(3, .int (iI 0)), (1, .long (ct (X_av n cur))), (0, .ref 496)]) (st' := [.int (iI 0)]) rfl ?_
          refine T_p xr_71_114 xn_71 (pc' := 115) (ls' := [(3, .int (iI 0)), (1, .long (ct (X_av n cur))), (0, .ref 496)]) (st' := [.int (iI (-1)), .int (iI 0)]) rfl ?_
          refine T_zicmp_eqf xr_71_115 (t := 136) (pc' := 118) rfl rfl (by decide) ?_
          refine T_p xr_71_118 xn_71 (pc' := 119) (ls' := [(3, .int (iI 0)), (1, .long (ct (X_av n cur))), (0, .ref 496)]) (st' := [.ref 496]) rfl ?_
          refine T_p xr_71_119 xn_71 (pc' := 121) (ls' := [(3, .int (iI 0)), (1, .long (ct (X_av n cur))), (0, .ref 496)]) (st' := [.int (iI 59), .ref 496]) rfl ?_
          refine T_cv (S := S1281) (q := 496) xr_71_121 xf_68.1 xf_68.2.1 xn_68 (as := [.int (iI 59)]) (r := []) rfl h1286 (Nat.le_of_ble_eq_true rfl) (Nat.le_of_ble_eq_true rfl) (pc' := 124) rfl (ls' := [(0, .ref 496), (1, .int (iI 59))]) rfl ?_
          refine T_mono (c_pass sc S1281 B 0 fp at_ n (X_av n (X_av n cur)) so pl ct 59 h1286 ⟨h1284, h1287, h1288, h1289⟩ (by omega) hso (by omega)) (fun v1299 S1300 h1301 => ?_)
          rcases h1301 with ⟨hv1296, hc1297, hp1302, hl1303, hf1304⟩ | ⟨hv1296, hc1297, ⟨fl1305, fp1306, hn1307, hp1302⟩, hl1303, hf1304⟩
          · skip
            rw [hv1296]
            have hv1298 := X_av_r (n := n) (c := (X_av n (X_av n cur))) (by omega)
            show X_T sc 71 (124, [(3, .int (iI 0)), (1, .long (ct (X_av n cur))), (0, .ref 496)], [.int (iI 1)], S1300) _
            refine T_zif_eqf xr_71_124 (t := 136) (pc' := 127) rfl rfl (by decide) ?_
            refine T_p xr_71_127 xn_71 (pc' := 128) (ls' := [(3, .int (iI 0)), (1, .long (ct (X_av n cur))), (0, .ref 496)]) (st' := [.ref 496]) rfl ?_
            refine T_get xr_71_128 hp1302 rfl (v := .ref B) rfl (pc' := 131) rfl ?_
            refine T_p xr_71_131 xn_71 (pc' := 132) (ls' := [(3, .int (iI 0)), (1, .long (ct (X_av n cur))), (0, .ref 496)]) (st' := [.long (ct (X_av n cur)), .ref B]) rfl ?_
            refine T_p xr_71_132 xn_71 (pc' := 133) (ls' := [(3, .int (iI 0)), (1, .long (ct (X_av n cur))), (0, .ref 496)]) (st' := [.int (iI 0), .long (ct (X_av n cur)), .ref B]) rfl ?_
            have h1308 := (hf1304.1 B (by omega)).trans ((h1283.1 B (by omega)).trans (h1258))
            refine T_cv (S := S1300) (q := B) xr_71_133 xf_9.1 xf_9.2.1 xn_9 (as := [.long (ct (X_av n cur)), .int (iI 0)]) (r := []) rfl h1308 (Nat.le_of_ble_eq_true rfl) (Nat.le_of_ble_eq_true rfl) (pc' := 136) rfl (ls' := [(0, .ref B), (1, .long (ct (X_av n cur))), (3, .int (iI 0))]) rfl ?_
            have h1315 := (hf1304.1 (B + 1) (by omega)).trans ((h1283.1 (B + 1) (by omega)).trans (h1266))
            have h1316 := (hf1304.1 (B + 2) (by omega)).trans ((h1283.1 (B + 2) (by omega)).trans (h1267))
            have h1317 := (hf1304.1 (B + 3) (by omega)).trans ((h1283.1 (B + 3) (by omega)).trans (h1268))
            have h1318 := (hf1304.1 (B + 4) (by omega)).trans ((h1283.1 (B + 4) (by omega)).trans (h1269))
            have h1319 := (hf1304.1 (B + 5) (by omega)).trans ((h1283.1 (B + 5) (by omega)).trans (h1270))
            refine T_mono (c_addKind sc S1300 B rc kc wc rn lo kn ab (ct (X_av n cur)) 0 ⟨h1308, h1315, h1316, h1317, h1318, ⟨f, h1319, hf⟩, ⟨by omega, by omega⟩, ⟨by omega, by omega⟩, ⟨by omega, by omega⟩⟩ (by omega) (by omega)) (fun v1309 S1310 h1311 => ?_)
            obtain ⟨h1312, hb1313, h1314⟩ := h1311
            rw [h1312]
            show X_T sc 71 (136, [(3, .int (iI 0)), (1, .long (ct (X_av n cur))), (0, .ref 496)], [], S1310) _
            refine T_vret xr_71_136 xf_71.2.2 ?_
            refine hQ _ _ ?_
            have h1320 := (h1314.1 496 (by first | decide | omega)).trans (hp1302)
            have hs1321 : C_ws S1310 B D W := C_ws.fr (P := fun r => ¬ (B + 6 ≤ r ∧ r < B + 246)) hs (((((X_Fr.rf).tr (X_Fr.mono ⟨h1239.1, h1239.2⟩ (fun q hq => (by omega)))).tr (X_Fr.mono ⟨h1283.1, h1283.2⟩ (fun q hq => (by omega)))).tr (X_Fr.mono ⟨hf1304.1, hf1304.2⟩ (fun q hq => (by omega)))).tr (X_Fr.mono ⟨h1314.1, h1314.2⟩ (fun q hq => (by omega)))) (fun k h1 h2 => by omega)
            have h1322 := (h1314.1 497 (by first | decide | omega)).trans (hl1303)
            have h1325 := (h1314.1 (B + 5) (by omega)).trans (h1319)
            have h1326 := (h1314.1 498 (by first | decide | omega)).trans ((hf1304.1 498 (by first | decide | omega)).trans (h1287))
            have h1327 := (h1314.1 499 (by first | decide | omega)).trans ((hf1304.1 499 (by first | decide | omega)).trans (h1288))
            have h1328 := (h1314.1 500 (by first | decide | omega)).trans ((hf1304.1 500 (by first | decide | omega)).trans (h1289))
            have hb1323 : C_bk S1310 B rc (kc + 1) wc rn lo (X_ug kn kc (ct (X_av n cur))) (X_ug ab kc (X_bO (ab 0) (X_bS kc))) := ⟨hb1313.1, hb1313.2.1, hb1313.2.2.1, hb1313.2.2.2.1, hb1313.2.2.2.2.1, ⟨f, h1325, hf⟩, ⟨by omega, by omega⟩, ⟨by omega, by omega⟩, ⟨by omega, by omega⟩⟩
            have hc1324 : 0 ≤ (X_av n (X_av n (X_av n cur))) ∧ (X_av n (X_av n (X_av n cur))) < n := by omega
            refine Or.inl ⟨(X_av n (X_av n (X_av n cur)), rc, kc + 1, wc, rn, lo, (X_ug kn kc (ct (X_av n cur))), (X_ug ab kc (X_bO (ab 0) (X_bS kc))), D, W), ?_, fp, ⟨h1320, ⟨h1322, h1326, h1327, h1328⟩, hb1323, hs1321, hc1324⟩, ((((X_Fr.rf).tr (X_Fr.mono ⟨h1239.1, h1239.2⟩ (fun q hq => (by omega)))).tr (X_Fr.mono ⟨h1283.1, h1283.2⟩ (fun q hq => (by omega)))).tr (X_Fr.mono ⟨hf1304.1, hf1304.2⟩ (fun q hq => (by omega)))).tr (X_Fr.mono ⟨h1314.1, h1314.2⟩ (fun q hq => (by omega)))⟩
            simp only [sp_kind]
            subst_vars
            (repeat (first | rw [if_pos (by assumption)] | rw [if_neg (by assumption)]))
            all_goals first | rfl | ((repeat' split) <;> first | rfl | (exfalso; omega))
          · skip
            rw [hv1296]
            show X_T sc 71 (124, [(3, .int (iI 0)), (1, .long (ct (X_av n cur))), (0, .ref 496)], [.int (iI 0)], S1300) _
            refine T_zif_eqt xr_71_124 (t := 136) rfl (by decide) ?_
            refine T_vret xr_71_136 xf_71.2.2 ?_
            refine hQ _ _ ?_
            have h1329 := (hf1304.1 B (by omega)).trans ((h1283.1 B (by omega)).trans (h1258))
            have hs1330 : C_ws S1300 B D W := C_ws.fr (P := fun r => ¬ (B + 6 ≤ r ∧ r < B + 246)) hs ((((X_Fr.rf).tr (X_Fr.mono ⟨h1239.1, h1239.2⟩ (fun q hq => (by omega)))).tr (X_Fr.mono ⟨h1283.1, h1283.2⟩ (fun q hq => (by omega)))).tr (X_Fr.mono ⟨hf1304.1, hf1304.2⟩ (fun q hq => (by omega)))) (fun k h1 h2 => by omega)
            have h1331 := (hf1304.1 (B + 1) (by omega)).trans ((h1283.1 (B + 1) (by omega)).trans (h1266))
            have h1332 := (hf1304.1 (B + 2) (by omega)).trans ((h1283.1 (B + 2) (by omega)).trans (h1267))
            have h1333 := (hf1304.1 (B + 3) (by omega)).trans ((h1283.1 (B + 3) (by omega)).trans (h1268))
            have h1334 := (hf1304.1 (B + 4) (by omega)).trans ((h1283.1 (B + 4) (by omega)).trans (h1269))
            have h1337 := (hf1304.1 (B + 5) (by omega)).trans ((h1283.1 (B + 5) (by omega)).trans (h1270))
            have h1338 := (hf1304.1 498 (by first | decide | omega)).trans (h1287)
            have h1339 := (hf1304.1 499 (by first | decide | omega)).trans (h1288)
            have h1340 := (hf1304.1 500 (by first | decide | omega)).trans (h1289)
            have hb1335 : C_bk S1300 B rc kc wc rn lo kn ab := ⟨h1329, h1331, h1332, h1333, h1334, ⟨f, h1337, hf⟩, ⟨by omega, by omega⟩, ⟨by omega, by omega⟩, ⟨by omega, by omega⟩⟩
            have hc1336 : 0 ≤ (X_av n (X_av n cur)) ∧ (X_av n (X_av n cur)) < n := by omega
            refine Or.inr ⟨?_, fl1305, fp1306, ((X_av n (X_av n cur)), rc, kc, wc, rn, lo, kn, ab, D, W), by omega, ⟨hp1302, ⟨hl1303, h1338, h1339, h1340⟩, hb1335, hs1330, hc1336⟩, (((X_Fr.rf).tr (X_Fr.mono ⟨h1239.1, h1239.2⟩ (fun q hq => (by omega)))).tr (X_Fr.mono ⟨h1283.1, h1283.2⟩ (fun q hq => (by omega)))).tr (X_Fr.mono ⟨hf1304.1, hf1304.2⟩ (fun q hq => (by omega)))⟩
            simp only [sp_kind]
            subst_vars
            (repeat (first | rw [if_pos (by assumption)] | rw [if_neg (by assumption)]))
            all_goals first | rfl | ((repeat' split) <;> first | rfl | (exfalso; omega))
        · skip
          have c1295 : (so (X_av n (X_av n cur)) = 3 ∧ ct (X_av n (X_av n cur)) = (Int64.ofNat 504363246962)) := c1295
          refine T_p xr_71_101 xn_71 (pc' := 102) (ls' := [(3, .int (iI 0)), (1, .long (ct (X_av n cur))), (0, .ref 496)]) (st' := [.ref 496]) rfl ?_
          refine T_get xr_71_102 h1286 rfl (v := .ref 497) rfl (pc' := 105) rfl ?_
          refine T_cv (S := S1281) (q := 497) xr_71_105 xf_52.1 xf_52.2.1 xn_52 (as := []) (r := []) rfl h1284 (Nat.le_of_ble_eq_true rfl) (Nat.le_of_ble_eq_true rfl) (pc' := 108) rfl (ls' := [(0, .ref 497)]) rfl ?_
          refine T_mono (c_advance sc S1281 at_ n (X_av n (X_av n cur)) so pl ct ⟨h1284, h1287, h1288, h1289⟩ (by omega)) (fun v1342 S1343 h1341 => ?_)
          obtain ⟨h1344, h1346, h1345⟩ := h1341
          rw [h1344]
          show X_T sc 71 (108, [(3, .int (iI 0)), (1, .long (ct (X_av n cur))), (0, .ref 496)], [], S1343) _
          have hv1347 := X_av_r (n := n) (c := (X_av n (X_av n cur))) (by omega)
          refine T_p xr_71_108 xn_71 (pc' := 109) (ls' := [(3, .int (iI 0)), (1, .long (ct (X_av n cur))), (0, .ref 496)]) (st' := [.ref 496]) rfl ?_
          have h1348 := (h1345.1 496 (by first | decide | omega)).trans (h1286)
          refine T_cv (S := S1343) (q := 496) xr_71_109 xf_73.1 xf_73.2.1 xn_73 (as := []) (r := []) rfl h1348 (Nat.le_of_ble_eq_true rfl) (Nat.le_of_ble_eq_true rfl) (pc' := 112) rfl (ls' := [(0, .ref 496)]) rfl ?_
          have h1349 := (h1345.1 498 (by first | decide | omega)).trans (h1287)
          have h1350 := (h1345.1 499 (by first | decide | omega)).trans (h1288)
          have h1351 := (h1345.1 500 (by first | decide | omega)).trans (h1289)
          have h1352 := (h1345.1 B (by omega)).trans ((h1283.1 B (by omega)).trans (h1258))
          have h1353 := (h1345.1 (B + 3) (by omega)).trans ((h1283.1 (B + 3) (by omega)).trans (h1268))
          have h1359 := (h1345.1 (B + 1) (by omega)).trans ((h1283.1 (B + 1) (by omega)).trans (h1266))
          have h1360 := (h1345.1 (B + 2) (by omega)).trans ((h1283.1 (B + 2) (by omega)).trans (h1267))
          have h1361 := (h1345.1 (B + 4) (by omega)).trans ((h1283.1 (B + 4) (by omega)).trans (h1269))
          have h1362 := (h1345.1 (B + 5) (by omega)).trans ((h1283.1 (B + 5) (by omega)).trans (h1270))
          have hb1363 : C_bk S1343 B rc kc wc rn lo kn ab := ⟨h1352, h1359, h1360, h1353, h1361, ⟨f, h1362, hf⟩, ⟨by omega, by omega⟩, ⟨by omega, by omega⟩, ⟨by omega, by omega⟩⟩
          refine T_mono (c_passKind sc S1343 B 0 fp at_ n (X_av n (X_av n (X_av n cur))) so pl ct rc kc wc rn lo kn ab h1348 ⟨h1346, h1349, h1350, h1351⟩ (by omega) hso hB hb1363) (fun v1365 S1366 h1367 => ?_)
          rcases h1367 with ⟨h1354, h1355, h1356, h1357, hp1368, hl1369, hf1370⟩ | ⟨h1354, h1358, ⟨fl1371, fp1372, hn1373, hp1368⟩, hl1369, hf1370⟩
          · skip
            rw [h1354]
            have hv1364 := X_av_r (n := n) (c := (X_av n (X_av n (X_av n cur)))) (by omega)
            show X_T sc 71 (112, [(3, .int (iI 0)), (1, .long (ct (X_av n cur))), (0, .ref 496)], [.int (iI (X_ix kn kc (ct (X_av n (X_av n (X_av n cur))))))], S1366) _
            refine T_p xr_71_112 xn_71 (pc' := 113) (ls' := [(3, .int (iI (X_ix kn kc (ct (X_av n (X_av n (X_av n cur))))))), (1, .long (ct (X_av n cur))), (0, .ref 496)]) (st' := []) rfl ?_
            refine T_p xr_71_113 xn_71 (pc' := 114) (ls' := [(3, .int (iI (X_ix kn kc (ct (X_av n (X_av n (X_av n cur))))))), (1, .long (ct (X_av n cur))), (0, .ref 496)]) (st' := [.int (iI (X_ix kn kc (ct (X_av n (X_av n (X_av n cur))))))]) rfl ?_
            refine T_p xr_71_114 xn_71 (pc' := 115) (ls' := [(3, .int (iI (X_ix kn kc (ct (X_av n (X_av n (X_av n cur))))))), (1, .long (ct (X_av n cur))), (0, .ref 496)]) (st' := [.int (iI (-1)), .int (iI (X_ix kn kc (ct (X_av n (X_av n (X_av n cur))))))]) rfl ?_
            refine T_zicmp_eq xr_71_115 (t := 136) (pc' := 118) rfl rfl (fun c1374 => ?_) (fun c1374 => ?_)
            · skip
              have c1374 : (X_ix kn kc (ct (X_av n (X_av n (X_av n cur))))) = (-1) := c1374
              exact (show False by first | contradiction | omega).elim
            · skip
              have c1374 : ¬ ((X_ix kn kc (ct (X_av n (X_av n (X_av n cur))))) = (-1)) := c1374
              refine T_p xr_71_118 xn_71 (pc' := 119) (ls' := [(3, .int (iI (X_ix kn kc (ct (X_av n (X_av n (X_av n cur))))))), (1, .long (ct (X_av n cur))), (0, .ref 496)]) (st' := [.ref 496]) rfl ?_
              refine T_p xr_71_119 xn_71 (pc' := 121) (ls' := [(3, .int (iI (X_ix kn kc (ct (X_av n (X_av n (X_av n cur))))))), (1, .long (ct (X_av n cur))), (0, .ref 496)]) (st' := [.int (iI 59), .ref 496]) rfl ?_
              refine T_cv (S := S1366) (q := 496) xr_71_121 xf_68.1 xf_68.2.1 xn_68 (as := [.int (iI 59)]) (r := []) rfl hp1368 (Nat.le_of_ble_eq_true rfl) (Nat.le_of_ble_eq_true rfl) (pc' := 124) rfl (ls' := [(0, .ref 496), (1, .int (iI 59))]) rfl ?_
              have h1375 := (hf1370.1 498 (by first | decide | omega)).trans (h1349)
              have h1376 := (hf1370.1 499 (by first | decide | omega)).trans (h1350)
              have h1377 := (hf1370.1 500 (by first | decide | omega)).trans (h1351)
              refine T_mono (c_pass sc S1366 B 0 fp at_ n (X_av n (X_av n (X_av n (X_av n cur)))) so pl ct 59 hp1368 ⟨hl1369, h1375, h1376, h1377⟩ (by omega) hso (by omega)) (fun v1381 S1382 h1383 => ?_)
              rcases h1383 with ⟨hv1378, hc1379, hp1384, hl1385, hf1386⟩ | ⟨hv1378, hc1379, ⟨fl1387, fp1388, hn1389, hp1384⟩, hl1385, hf1386⟩
              · skip
                rw [hv1378]
                have hv1380 := X_av_r (n := n) (c := (X_av n (X_av n (X_av n (X_av n cur))))) (by omega)
                show X_T sc 71 (124, [(3, .int (iI (X_ix kn kc (ct (X_av n (X_av n (X_av n cur))))))), (1, .long (ct (X_av n cur))), (0, .ref 496)], [.int (iI 1)], S1382) _
                refine T_zif_eqf xr_71_124 (t := 136) (pc' := 127) rfl rfl (by decide) ?_
                refine T_p xr_71_127 xn_71 (pc' := 128) (ls' := [(3, .int (iI (X_ix kn kc (ct (X_av n (X_av n (X_av n cur))))))), (1, .long (ct (X_av n cur))), (0, .ref 496)]) (st' := [.ref 496]) rfl ?_
                refine T_get xr_71_128 hp1384 rfl (v := .ref B) rfl (pc' := 131) rfl ?_
                refine T_p xr_71_131 xn_71 (pc' := 132) (ls' := [(3, .int (iI (X_ix kn kc (ct (X_av n (X_av n (X_av n cur))))))), (1, .long (ct (X_av n cur))), (0, .ref 496)]) (st' := [.long (ct (X_av n cur)), .ref B]) rfl ?_
                refine T_p xr_71_132 xn_71 (pc' := 133) (ls' := [(3, .int (iI (X_ix kn kc (ct (X_av n (X_av n (X_av n cur))))))), (1, .long (ct (X_av n cur))), (0, .ref 496)]) (st' := [.int (iI (X_ix kn kc (ct (X_av n (X_av n (X_av n cur)))))), .long (ct (X_av n cur)), .ref B]) rfl ?_
                have h1390 := (hf1386.1 B (by omega)).trans ((hf1370.1 B (by omega)).trans (h1352))
                refine T_cv (S := S1382) (q := B) xr_71_133 xf_9.1 xf_9.2.1 xn_9 (as := [.long (ct (X_av n cur)), .int (iI (X_ix kn kc (ct (X_av n (X_av n (X_av n cur))))))]) (r := []) rfl h1390 (Nat.le_of_ble_eq_true rfl) (Nat.le_of_ble_eq_true rfl) (pc' := 136) rfl (ls' := [(0, .ref B), (1, .long (ct (X_av n cur))), (3, .int (iI (X_ix kn kc (ct (X_av n (X_av n (X_av n cur)))))))]) rfl ?_
                have h1397 := (hf1386.1 (B + 1) (by omega)).trans ((hf1370.1 (B + 1) (by omega)).trans (h1359))
                have h1398 := (hf1386.1 (B + 2) (by omega)).trans ((hf1370.1 (B + 2) (by omega)).trans (h1360))
                have h1399 := (hf1386.1 (B + 3) (by omega)).trans ((hf1370.1 (B + 3) (by omega)).trans (h1353))
                have h1400 := (hf1386.1 (B + 4) (by omega)).trans ((hf1370.1 (B + 4) (by omega)).trans (h1361))
                have h1401 := (hf1386.1 (B + 5) (by omega)).trans ((hf1370.1 (B + 5) (by omega)).trans (h1362))
                refine T_mono (c_addKind sc S1382 B rc kc wc rn lo kn ab (ct (X_av n cur)) (X_ix kn kc (ct (X_av n (X_av n (X_av n cur))))) ⟨h1390, h1397, h1398, h1399, h1400, ⟨f, h1401, hf⟩, ⟨by omega, by omega⟩, ⟨by omega, by omega⟩, ⟨by omega, by omega⟩⟩ (by omega) (by omega)) (fun v1391 S1392 h1393 => ?_)
                obtain ⟨h1394, hb1395, h1396⟩ := h1393
                rw [h1394]
                show X_T sc 71 (136, [(3, .int (iI (X_ix kn kc (ct (X_av n (X_av n (X_av n cur))))))), (1, .long (ct (X_av n cur))), (0, .ref 496)], [], S1392) _
                refine T_vret xr_71_136 xf_71.2.2 ?_
                refine hQ _ _ ?_
                have h1402 := (h1396.1 496 (by first | decide | omega)).trans (hp1384)
                have hs1403 : C_ws S1392 B D W := C_ws.fr (P := fun r => ¬ (B + 6 ≤ r ∧ r < B + 246)) hs (((((((X_Fr.rf).tr (X_Fr.mono ⟨h1239.1, h1239.2⟩ (fun q hq => (by omega)))).tr (X_Fr.mono ⟨h1283.1, h1283.2⟩ (fun q hq => (by omega)))).tr (X_Fr.mono ⟨h1345.1, h1345.2⟩ (fun q hq => (by omega)))).tr (X_Fr.mono ⟨hf1370.1, hf1370.2⟩ (fun q hq => (by omega)))).tr (X_Fr.mono ⟨hf1386.1, hf1386.2⟩ (fun q hq => (by omega)))).tr (X_Fr.mono ⟨h1396.1, h1396.2⟩ (fun q hq => (by omega)))) (fun k h1 h2 => by omega)
                have h1404 := (h1396.1 497 (by first | decide | omega)).trans (hl1385)
                have h1407 := (h1396.1 (B + 5) (by omega)).trans (h1401)
                have h1408 := (h1396.1 498 (by first | decide | omega)).trans ((hf1386.1 498 (by first | decide | omega)).trans (h1375))
                have h1409 := (h1396.1 499 (by first | decide | omega)).trans ((hf1386.1 499 (by first | decide | omega)).trans (h1376))
                have h1410 := (h1396.1 500 (by first | decide | omega)).trans ((hf1386.1 500 (by first | decide | omega)).trans (h1377))
                have hb1405 : C_bk S1392 B rc (kc + 1) wc rn lo (X_ug kn kc (ct (X_av n cur))) (X_ug ab kc (X_bO (ab (X_ix kn kc (ct (X_av n (X_av n (X_av n cur)))))) (X_bS kc))) := ⟨hb1395.1, hb1395.2.1, hb1395.2.2.1, hb1395.2.2.2.1, hb1395.2.2.2.2.1, ⟨f, h1407, hf⟩, ⟨by omega, by omega⟩, ⟨by omega, by omega⟩, ⟨by omega, by omega⟩⟩
                have hc1406 : 0 ≤ (X_av n (X_av n (X_av n (X_av n (X_av n cur))))) ∧ (X_av n (X_av n (X_av n (X_av n (X_av n cur))))) < n := by omega
                refine Or.inl ⟨(X_av n (X_av n (X_av n (X_av n (X_av n cur)))), rc, kc + 1, wc, rn, lo, (X_ug kn kc (ct (X_av n cur))), (X_ug ab kc (X_bO (ab (X_ix kn kc (ct (X_av n (X_av n (X_av n cur)))))) (X_bS kc))), D, W), ?_, fp, ⟨h1402, ⟨h1404, h1408, h1409, h1410⟩, hb1405, hs1403, hc1406⟩, ((((((X_Fr.rf).tr (X_Fr.mono ⟨h1239.1, h1239.2⟩ (fun q hq => (by omega)))).tr (X_Fr.mono ⟨h1283.1, h1283.2⟩ (fun q hq => (by omega)))).tr (X_Fr.mono ⟨h1345.1, h1345.2⟩ (fun q hq => (by omega)))).tr (X_Fr.mono ⟨hf1370.1, hf1370.2⟩ (fun q hq => (by omega)))).tr (X_Fr.mono ⟨hf1386.1, hf1386.2⟩ (fun q hq => (by omega)))).tr (X_Fr.mono ⟨h1396.1, h1396.2⟩ (fun q hq => (by omega)))⟩
                simp only [sp_kind]
                subst_vars
                (repeat (first | rw [if_pos (by assumption)] | rw [if_neg (by assumption)]))
                all_goals first | rfl | ((repeat' split) <;> first | rfl | (exfalso; omega))
              · skip
                rw [hv1378]
                show X_T sc 71 (124, [(3, .int (iI (X_ix kn kc (ct (X_av n (X_av n (X_av n cur))))))), (1, .long (ct (X_av n cur))), (0, .ref 496)], [.int (iI 0)], S1382) _
                refine T_zif_eqt xr_71_124 (t := 136) rfl (by decide) ?_
                refine T_vret xr_71_136 xf_71.2.2 ?_
                refine hQ _ _ ?_
                have h1411 := (hf1386.1 B (by omega)).trans ((hf1370.1 B (by omega)).trans (h1352))
                have hs1412 : C_ws S1382 B D W := C_ws.fr (P := fun r => ¬ (B + 6 ≤ r ∧ r < B + 246)) hs ((((((X_Fr.rf).tr (X_Fr.mono ⟨h1239.1, h1239.2⟩ (fun q hq => (by omega)))).tr (X_Fr.mono ⟨h1283.1, h1283.2⟩ (fun q hq => (by omega)))).tr (X_Fr.mono ⟨h1345.1, h1345.2⟩ (fun q hq => (by omega)))).tr (X_Fr.mono ⟨hf1370.1, hf1370.2⟩ (fun q hq => (by omega)))).tr (X_Fr.mono ⟨hf1386.1, hf1386.2⟩ (fun q hq => (by omega)))) (fun k h1 h2 => by omega)
                have h1413 := (hf1386.1 (B + 1) (by omega)).trans ((hf1370.1 (B + 1) (by omega)).trans (h1359))
                have h1414 := (hf1386.1 (B + 2) (by omega)).trans ((hf1370.1 (B + 2) (by omega)).trans (h1360))
                have h1415 := (hf1386.1 (B + 3) (by omega)).trans ((hf1370.1 (B + 3) (by omega)).trans (h1353))
                have h1416 := (hf1386.1 (B + 4) (by omega)).trans ((hf1370.1 (B + 4) (by omega)).trans (h1361))
                have h1419 := (hf1386.1 (B + 5) (by omega)).trans ((hf1370.1 (B + 5) (by omega)).trans (h1362))
                have h1420 := (hf1386.1 498 (by first | decide | omega)).trans (h1375)
                have h1421 := (hf1386.1 499 (by first | decide | omega)).trans (h1376)
                have h1422 := (hf1386.1 500 (by first | decide | omega)).trans (h1377)
                have hb1417 : C_bk S1382 B rc kc wc rn lo kn ab := ⟨h1411, h1413, h1414, h1415, h1416, ⟨f, h1419, hf⟩, ⟨by omega, by omega⟩, ⟨by omega, by omega⟩, ⟨by omega, by omega⟩⟩
                have hc1418 : 0 ≤ (X_av n (X_av n (X_av n (X_av n cur)))) ∧ (X_av n (X_av n (X_av n (X_av n cur)))) < n := by omega
                refine Or.inr ⟨?_, fl1387, fp1388, ((X_av n (X_av n (X_av n (X_av n cur)))), rc, kc, wc, rn, lo, kn, ab, D, W), by omega, ⟨hp1384, ⟨hl1385, h1420, h1421, h1422⟩, hb1417, hs1412, hc1418⟩, (((((X_Fr.rf).tr (X_Fr.mono ⟨h1239.1, h1239.2⟩ (fun q hq => (by omega)))).tr (X_Fr.mono ⟨h1283.1, h1283.2⟩ (fun q hq => (by omega)))).tr (X_Fr.mono ⟨h1345.1, h1345.2⟩ (fun q hq => (by omega)))).tr (X_Fr.mono ⟨hf1370.1, hf1370.2⟩ (fun q hq => (by omega)))).tr (X_Fr.mono ⟨hf1386.1, hf1386.2⟩ (fun q hq => (by omega)))⟩
                simp only [sp_kind]
                subst_vars
                (repeat (first | rw [if_pos (by assumption)] | rw [if_neg (by assumption)]))
                all_goals first | rfl | ((repeat' split) <;> first | rfl | (exfalso; omega))
          · skip
            rw [h1354]
            show X_T sc 71 (112, [(3, .int (iI 0)), (1, .long (ct (X_av n cur))), (0, .ref 496)], [.int (iI (-1))], S1366) _
            refine T_p xr_71_112 xn_71 (pc' := 113) (ls' := [(3, .int (iI (-1))), (1, .long (ct (X_av n cur))), (0, .ref 496)]) (st' := []) rfl ?_
            refine T_p xr_71_113 xn_71 (pc' := 114) (ls' := [(3, .int (iI (-1))), (1, .long (ct (X_av n cur))), (0, .ref 496)]) (st' := [.int (iI (-1))]) rfl ?_
            refine T_p xr_71_114 xn_71 (pc' := 115) (ls' := [(3, .int (iI (-1))), (1, .long (ct (X_av n cur))), (0, .ref 496)]) (st' := [.int (iI (-1)), .int (iI (-1))]) rfl ?_
            refine T_zicmp_eqt xr_71_115 (t := 136) rfl (by decide) ?_
            refine T_vret xr_71_136 xf_71.2.2 ?_
            refine hQ _ _ ?_
            have h1423 := (hf1370.1 B (by omega)).trans (h1352)
            have hs1424 : C_ws S1366 B D W := C_ws.fr (P := fun r => ¬ (B + 6 ≤ r ∧ r < B + 246)) hs (((((X_Fr.rf).tr (X_Fr.mono ⟨h1239.1, h1239.2⟩ (fun q hq => (by omega)))).tr (X_Fr.mono ⟨h1283.1, h1283.2⟩ (fun q hq => (by omega)))).tr (X_Fr.mono ⟨h1345.1, h1345.2⟩ (fun q hq => (by omega)))).tr (X_Fr.mono ⟨hf1370.1, hf1370.2⟩ (fun q hq => (by omega)))) (fun k h1 h2 => by omega)
            have h1425 := (hf1370.1 (B + 1) (by omega)).trans (h1359)
            have h1426 := (hf1370.1 (B + 2) (by omega)).trans (h1360)
            have h1427 := (hf1370.1 (B + 3) (by omega)).trans (h1353)
            have h1428 := (hf1370.1 (B + 4) (by omega)).trans (h1361)
            have h1431 := (hf1370.1 (B + 5) (by omega)).trans (h1362)
            have h1432 := (hf1370.1 498 (by first | decide | omega)).trans (h1349)
            have h1433 := (hf1370.1 499 (by first | decide | omega)).trans (h1350)
            have h1434 := (hf1370.1 500 (by first | decide | omega)).trans (h1351)
            have hb1429 : C_bk S1366 B rc kc wc rn lo kn ab := ⟨h1423, h1425, h1426, h1427, h1428, ⟨f, h1431, hf⟩, ⟨by omega, by omega⟩, ⟨by omega, by omega⟩, ⟨by omega, by omega⟩⟩
            have hc1430 : 0 ≤ (X_av n (X_av n (X_av n cur))) ∧ (X_av n (X_av n (X_av n cur))) < n := by omega
            refine Or.inr ⟨?_, fl1371, fp1372, ((X_av n (X_av n (X_av n cur))), rc, kc, wc, rn, lo, kn, ab, D, W), by omega, ⟨hp1368, ⟨hl1369, h1432, h1433, h1434⟩, hb1429, hs1424, hc1430⟩, ((((X_Fr.rf).tr (X_Fr.mono ⟨h1239.1, h1239.2⟩ (fun q hq => (by omega)))).tr (X_Fr.mono ⟨h1283.1, h1283.2⟩ (fun q hq => (by omega)))).tr (X_Fr.mono ⟨h1345.1, h1345.2⟩ (fun q hq => (by omega)))).tr (X_Fr.mono ⟨hf1370.1, hf1370.2⟩ (fun q hq => (by omega)))⟩
            simp only [sp_kind]
            subst_vars
            (repeat (first | rw [if_pos (by assumption)] | rw [if_neg (by assumption)]))
            all_goals first | rfl | ((repeat' split) <;> first | rfl | (exfalso; omega))
      · skip
        have c1273 : ¬ (r1262 = (-1)) := c1273
        refine T_p xr_71_58 xn_71 (pc' := 59) (ls' := [(0, .ref 496)]) (st' := [.ref 496]) rfl ?_
        refine T_p xr_71_59 xn_71 (pc' := 60) (ls' := [(0, .ref 496)]) (st' := [.int (iI 3), .ref 496]) rfl ?_
        refine T_p xr_71_60 xn_71 (pc' := 61) (ls' := [(0, .ref 496)]) (st' := [.ref 496, .int (iI 3), .ref 496]) rfl ?_
        refine T_get xr_71_61 h1242 rfl (v := .ref 497) rfl (pc' := 64) rfl ?_
        refine T_cv (S := S1237) (q := 497) xr_71_64 xf_49.1 xf_49.2.1 xn_49 (as := []) (r := [.int (iI 3), .ref 496]) rfl h1240 (Nat.le_of_ble_eq_true rfl) (Nat.le_of_ble_eq_true rfl) (pc' := 67) rfl (ls' := [(0, .ref 497)]) rfl ?_
        refine T_mono (c_place sc S1237 at_ n (X_av n cur) so pl ct ⟨h1240, h1243, h1244, h1245⟩ (by omega)) (fun v1436 S1437 h1435 => ?_)
        obtain ⟨h1438, h1439⟩ := h1435
        rw [h1438, h1439]
        show X_T sc 71 (67, [(0, .ref 496)], [.int (iI (pl (X_av n cur))), .int (iI 3), .ref 496], S1237) _
        refine T_cv (S := S1237) (q := 496) xr_71_67 xf_66.1 xf_66.2.1 xn_66 (as := [.int (iI 3), .int (iI (pl (X_av n cur)))]) (r := []) rfl h1242 (Nat.le_of_ble_eq_true rfl) (Nat.le_of_ble_eq_true rfl) (pc' := 70) rfl (ls' := [(0, .ref 496), (1, .int (iI 3)), (2, .int (iI (pl (X_av n cur))))]) rfl ?_
        refine T_p xr_66_0 xn_66 (pc' := 1) (ls' := [(0, .ref 496), (1, .int (iI 3)), (2, .int (iI (pl (X_av n cur))))]) (st' := [.ref 496]) rfl ?_
        refine T_p xr_66_1 xn_66 (pc' := 2) (ls' := [(0, .ref 496), (1, .int (iI 3)), (2, .int (iI (pl (X_av n cur))))]) (st' := [.int (iI 3), .ref 496]) rfl ?_
        refine T_put xr_66_2 h1242 rfl (Nat.le_of_ble_eq_true rfl) rfl (fs' := [.ref 497, .ref B, .int (iI 3), .int (iI fp)]) rfl (pc' := 5) rfl (fun S1440 h1441 n1442 e1443 => ?_)
        refine T_p xr_66_5 xn_66 (pc' := 6) (ls' := [(0, .ref 496), (1, .int (iI 3)), (2, .int (iI (pl (X_av n cur))))]) (st' := [.ref 496]) rfl ?_
        refine T_p xr_66_6 xn_66 (pc' := 7) (ls' := [(0, .ref 496), (1, .int (iI 3)), (2, .int (iI (pl (X_av n cur))))]) (st' := [.int (iI (pl (X_av n cur))), .ref 496]) rfl ?_
        refine T_put xr_66_7 h1441 rfl (Nat.le_of_ble_eq_true rfl) rfl (fs' := [.ref 497, .ref B, .int (iI 3), .int (iI (pl (X_av n cur)))]) rfl (pc' := 10) rfl (fun S1444 h1445 n1446 e1447 => ?_)
        refine T_vret xr_66_10 xf_66.2.2 ?_
        show X_T sc 71 (70, [(0, .ref 496)], [], S1444) _
        refine T_vret xr_71_70 xf_71.2.2 ?_
        refine hQ _ _ ?_
        have h1448 := (n1446 B (by omega)).trans ((n1442 B (by omega)).trans (h1258))
        have hs1449 : C_ws S1444 B D W := C_ws.fr (P := fun r => ¬ (B + 6 ≤ r ∧ r < B + 246)) hs ((((X_Fr.rf).tr (X_Fr.mono ⟨h1239.1, h1239.2⟩ (fun q hq => (by omega)))).tr (X_Fr.of n1442 e1443 (by first | decide | exact ⟨Nat.le_add_right _ _, Nat.add_le_add_left (by decide) _⟩ | omega))).tr (X_Fr.of n1446 e1447 (by first | decide | exact ⟨Nat.le_add_right _ _, Nat.add_le_add_left (by decide) _⟩ | omega))) (fun k h1 h2 => by omega)
        have h1450 := (n1446 497 (by decide)).trans ((n1442 497 (by decide)).trans (h1240))
        have h1451 := (n1446 (B + 1) (by first | exact (fun h => absurd (Nat.add_left_cancel h) (by decide)) | omega)).trans ((n1442 (B + 1) (by first | exact (fun h => absurd (Nat.add_left_cancel h) (by decide)) | omega)).trans (h1266))
        have h1452 := (n1446 (B + 2) (by first | exact (fun h => absurd (Nat.add_left_cancel h) (by decide)) | omega)).trans ((n1442 (B + 2) (by first | exact (fun h => absurd (Nat.add_left_cancel h) (by decide)) | omega)).trans (h1267))
        have h1453 := (n1446 (B + 3) (by first | exact (fun h => absurd (Nat.add_left_cancel h) (by decide)) | omega)).trans ((n1442 (B + 3) (by first | exact (fun h => absurd (Nat.add_left_cancel h) (by decide)) | omega)).trans (h1268))
        have h1454 := (n1446 (B + 4) (by first | exact (fun h => absurd (Nat.add_left_cancel h) (by decide)) | omega)).trans ((n1442 (B + 4) (by first | exact (fun h => absurd (Nat.add_left_cancel h) (by decide)) | omega)).trans (h1269))
        have h1457 := (n1446 (B + 5) (by first | exact (fun h => absurd (Nat.add_left_cancel h) (by decide)) | omega)).trans ((n1442 (B + 5) (by first | exact (fun h => absurd (Nat.add_left_cancel h) (by decide)) | omega)).trans (h1270))
        have h1458 := (n1446 498 (by decide)).trans ((n1442 498 (by decide)).trans (h1243))
        have h1459 := (n1446 499 (by decide)).trans ((n1442 499 (by decide)).trans (h1244))
        have h1460 := (n1446 500 (by decide)).trans ((n1442 500 (by decide)).trans (h1245))
        have hb1455 : C_bk S1444 B rc kc wc rn lo kn ab := ⟨h1448, h1451, h1452, h1453, h1454, ⟨f, h1457, hf⟩, ⟨by omega, by omega⟩, ⟨by omega, by omega⟩, ⟨by omega, by omega⟩⟩
        have hc1456 : 0 ≤ (X_av n cur) ∧ (X_av n cur) < n := by omega
        refine Or.inr ⟨?_, 3, pl (X_av n cur), (X_av n cur, rc, kc, wc, rn, lo, kn, ab, D, W), by omega, ⟨h1445, ⟨h1450, h1458, h1459, h1460⟩, hb1455, hs1449, hc1456⟩, (((X_Fr.rf).tr (X_Fr.mono ⟨h1239.1, h1239.2⟩ (fun q hq => (by omega)))).tr (X_Fr.of n1442 e1443 (by first | decide | exact ⟨Nat.le_add_right _ _, Nat.add_le_add_left (by decide) _⟩ | omega))).tr (X_Fr.of n1446 e1447 (by first | decide | exact ⟨Nat.le_add_right _ _, Nat.add_le_add_left (by decide) _⟩ | omega))⟩
        simp only [sp_kind]
        subst_vars
        (repeat (first | rw [if_pos (by assumption)] | rw [if_neg (by assumption)]))
        all_goals first | rfl | ((repeat' split) <;> first | rfl | (exfalso; omega))
    · skip
      have c1252 : ¬ ((so (X_av n cur)) = 2) := c1252
      refine T_p xr_71_35 xn_71 (pc' := 36) (ls' := [(0, .ref 496)]) (st' := [.ref 496]) rfl ?_
      refine T_cv (S := S1237) (q := 496) xr_71_36 xf_67.1 xf_67.2.1 xn_67 (as := []) (r := []) rfl h1242 (Nat.le_of_ble_eq_true rfl) (Nat.le_of_ble_eq_true rfl) (pc' := 39) rfl (ls' := [(0, .ref 496)]) rfl ?_
      refine T_mono (c_refuse sc S1237 B 0 fp at_ n (X_av n cur) so pl ct h1242 ⟨h1240, h1243, h1244, h1245⟩ (by omega) hso) (fun v1461 S1462 h1463 => ?_)
      obtain ⟨h1464, ⟨fl1465, fp1466, hn1467, hp1468⟩, hf1469⟩ := h1463
      rw [h1464]
      show X_T sc 71 (39, [(0, .ref 496)], [], S1462) _
      refine T_vret xr_71_39 xf_71.2.2 ?_
      refine hQ _ _ ?_
      have h1470 := (hf1469.1 B (by omega)).trans ((h1239.1 B (by omega)).trans (hb0))
      have hs1471 : C_ws S1462 B D W := C_ws.fr (P := fun r => ¬ (B + 6 ≤ r ∧ r < B + 246)) hs (((X_Fr.rf).tr (X_Fr.mono ⟨h1239.1, h1239.2⟩ (fun q hq => (by omega)))).tr (X_Fr.mono ⟨hf1469.1, hf1469.2⟩ (fun q hq => (by omega)))) (fun k h1 h2 => by omega)
      have h1472 := (hf1469.1 497 (by first | decide | omega)).trans (h1240)
      have h1473 := (hf1469.1 (B + 1) (by omega)).trans ((h1239.1 (B + 1) (by omega)).trans (hb1))
      have h1474 := (hf1469.1 (B + 2) (by omega)).trans ((h1239.1 (B + 2) (by omega)).trans (hb2))
      have h1475 := (hf1469.1 (B + 3) (by omega)).trans ((h1239.1 (B + 3) (by omega)).trans (hb3))
      have h1476 := (hf1469.1 (B + 4) (by omega)).trans ((h1239.1 (B + 4) (by omega)).trans (hb4))
      have h1479 := (hf1469.1 (B + 5) (by omega)).trans ((h1239.1 (B + 5) (by omega)).trans (hb5))
      have h1480 := (hf1469.1 498 (by first | decide | omega)).trans (h1243)
      have h1481 := (hf1469.1 499 (by first | decide | omega)).trans (h1244)
      have h1482 := (hf1469.1 500 (by first | decide | omega)).trans (h1245)
      have hb1477 : C_bk S1462 B rc kc wc rn lo kn ab := ⟨h1470, h1473, h1474, h1475, h1476, ⟨f, h1479, hf⟩, ⟨by omega, by omega⟩, ⟨by omega, by omega⟩, ⟨by omega, by omega⟩⟩
      have hc1478 : 0 ≤ (X_av n cur) ∧ (X_av n cur) < n := by omega
      refine Or.inr ⟨?_, fl1465, fp1466, (X_av n cur, rc, kc, wc, rn, lo, kn, ab, D, W), by omega, ⟨hp1468, ⟨h1472, h1480, h1481, h1482⟩, hb1477, hs1471, hc1478⟩, ((X_Fr.rf).tr (X_Fr.mono ⟨h1239.1, h1239.2⟩ (fun q hq => (by omega)))).tr (X_Fr.mono ⟨hf1469.1, hf1469.2⟩ (fun q hq => (by omega)))⟩
      simp only [sp_kind]
      subst_vars
      (repeat (first | rw [if_pos (by assumption)] | rw [if_neg (by assumption)]))
      all_goals first | rfl | ((repeat' split) <;> first | rfl | (exfalso; omega))
  · skip
    have c1234 : ¬ (¬ kc = 11) := c1234
    refine T_p xr_71_12 xn_71 (pc' := 13) (ls' := [(0, .ref 496)]) (st' := [.ref 496]) rfl ?_
    refine T_cv (S := S) (q := 496) xr_71_13 xf_67.1 xf_67.2.1 xn_67 (as := []) (r := []) rfl hp (Nat.le_of_ble_eq_true rfl) (Nat.le_of_ble_eq_true rfl) (pc' := 16) rfl (ls' := [(0, .ref 496)]) rfl ?_
    refine T_mono (c_refuse sc S B 0 fp at_ n cur so pl ct hp ⟨hx.1, hx.2.1, hx.2.2.1, hx.2.2.2⟩ (by omega) hso) (fun v1483 S1484 h1485 => ?_)
    obtain ⟨h1486, ⟨fl1487, fp1488, hn1489, hp1490⟩, hf1491⟩ := h1485
    rw [h1486]
    show X_T sc 71 (16, [(0, .ref 496)], [], S1484) _
    refine T_vret xr_71_16 xf_71.2.2 ?_
    refine hQ _ _ ?_
    have h1492 := (hf1491.1 B (by omega)).trans (hb0)
    have hs1493 : C_ws S1484 B D W := C_ws.fr (P := fun r => ¬ (B + 6 ≤ r ∧ r < B + 246)) hs ((X_Fr.rf).tr (X_Fr.mono ⟨hf1491.1, hf1491.2⟩ (fun q hq => (by omega)))) (fun k h1 h2 => by omega)
    have h1494 := (hf1491.1 497 (by first | decide | omega)).trans (hx.1)
    have h1495 := (hf1491.1 (B + 1) (by omega)).trans (hb1)
    have h1496 := (hf1491.1 (B + 2) (by omega)).trans (hb2)
    have h1497 := (hf1491.1 (B + 3) (by omega)).trans (hb3)
    have h1498 := (hf1491.1 (B + 4) (by omega)).trans (hb4)
    have h1501 := (hf1491.1 (B + 5) (by omega)).trans (hb5)
    have h1502 := (hf1491.1 498 (by first | decide | omega)).trans (hx.2.1)
    have h1503 := (hf1491.1 499 (by first | decide | omega)).trans (hx.2.2.1)
    have h1504 := (hf1491.1 500 (by first | decide | omega)).trans (hx.2.2.2)
    have hb1499 : C_bk S1484 B rc kc wc rn lo kn ab := ⟨h1492, h1495, h1496, h1497, h1498, ⟨f, h1501, hf⟩, ⟨by omega, by omega⟩, ⟨by omega, by omega⟩, ⟨by omega, by omega⟩⟩
    have hc1500 : 0 ≤ cur ∧ cur < n := by omega
    refine Or.inr ⟨?_, fl1487, fp1488, (cur, rc, kc, wc, rn, lo, kn, ab, D, W), by omega, ⟨hp1490, ⟨h1494, h1502, h1503, h1504⟩, hb1499, hs1493, hc1500⟩, (X_Fr.rf).tr (X_Fr.mono ⟨hf1491.1, hf1491.2⟩ (fun q hq => (by omega)))⟩
    simp only [sp_kind]
    subst_vars
    (repeat (first | rw [if_pos (by assumption)] | rw [if_neg (by assumption)]))
    all_goals first | rfl | ((repeat' split) <;> first | rfl | (exfalso; omega))
end
section
theorem xr_76_0 : X_row 76 0 = some (0, (.aload_n 0, 1), (0, 0, 0)) := by decide +kernel
theorem xr_76_1 : X_row 76 1 = some (1, (.getfield 23, 3), (4, 0, 18)) := by decide +kernel
theorem xr_76_4 : X_row 76 4 = some (4, (.ldc2_w 170, 3), (1818584692, 697, 0)) := by decide +kernel
theorem xr_76_7 : X_row 76 7 = some (7, (.invokevirtual 45, 3), (51, 8, 0)) := by decide +kernel
theorem xr_76_10 : X_row 76 10 = some (10, (.ifCond .eq 18, 3), (0, 0, 0)) := by decide +kernel
theorem xr_76_13 : X_row 76 13 = some (13, (.aload_n 1, 1), (0, 0, 0)) := by decide +kernel
theorem xr_76_14 : X_row 76 14 = some (14, (.iconst 1, 1), (0, 0, 0)) := by decide +kernel
theorem xr_76_15 : X_row 76 15 = some (15, (.putfield 154, 3), (8, 1, 1)) := by decide +kernel
theorem xr_76_18 : X_row 76 18 = some (18, (.aload_n 0, 1), (0, 0, 0)) := by decide +kernel
theorem xr_76_19 : X_row 76 19 = some (19, (.getfield 23, 3), (4, 0, 18)) := by decide +kernel
theorem xr_76_22 : X_row 76 22 = some (22, (.invokevirtual 80, 3), (52, 18, 0)) := by decide +kernel
theorem xr_76_25 : X_row 76 25 = some (25, (.goto 28, 3), (0, 0, 0)) := by decide +kernel
theorem xr_76_28 : X_row 76 28 = some (28, (.aload_n 0, 1), (0, 0, 0)) := by decide +kernel
theorem xr_76_29 : X_row 76 29 = some (29, (.getfield 23, 3), (4, 0, 18)) := by decide +kernel
theorem xr_76_32 : X_row 76 32 = some (32, (.ldc2_w 172, 3), (491394656372, 698, 0)) := by decide +kernel
theorem xr_76_35 : X_row 76 35 = some (35, (.invokevirtual 45, 3), (51, 8, 0)) := by decide +kernel
theorem xr_76_38 : X_row 76 38 = some (38, (.ifCond .eq 15, 3), (0, 0, 0)) := by decide +kernel
theorem xr_76_41 : X_row 76 41 = some (41, (.aload_n 1, 1), (0, 0, 0)) := by decide +kernel
theorem xr_76_42 : X_row 76 42 = some (42, (.iconst 2, 1), (0, 0, 0)) := by decide +kernel
theorem xr_76_43 : X_row 76 43 = some (43, (.putfield 154, 3), (8, 1, 1)) := by decide +kernel
theorem xr_76_46 : X_row 76 46 = some (46, (.aload_n 0, 1), (0, 0, 0)) := by decide +kernel
theorem xr_76_47 : X_row 76 47 = some (47, (.getfield 23, 3), (4, 0, 18)) := by decide +kernel
theorem xr_76_50 : X_row 76 50 = some (50, (.invokevirtual 80, 3), (52, 18, 0)) := by decide +kernel
theorem xr_76_53 : X_row 76 53 = some (53, (.return_, 1), (0, 0, 0)) := by decide +kernel
theorem xn_76 : X_nL 76 = 2 := by decide +kernel
theorem xf_76 : X_na 76 = 1 ∧ X_ci 76 = 4 ∧ X_rt 76 = none := by decide +kernel
theorem X_wr_0 {d : Nat → Int → Int} {z : Int} (h : X_wr d) (hz : 0 ≤ z ∧ z ≤ 11) : X_wr (X_wu d 0 (fun _ => z)) := ⟨hz, h.2⟩
theorem X_wr_1 {d : Nat → Int → Int} {z : Int} (h : X_wr d) (hz : 0 ≤ z ∧ z ≤ 2) : X_wr (X_wu d 1 (fun _ => z)) := ⟨h.1, hz, h.2.2⟩
theorem X_wr_2 {d : Nat → Int → Int} {z : Int} (h : X_wr d) (hz : -1 ≤ z ∧ z ≤ 10) : X_wr (X_wu d 2 (fun _ => z)) := ⟨h.1, h.2.1, hz, h.2.2.2⟩
theorem X_wr_3 {d : Nat → Int → Int} {z : Int} (h : X_wr d) (hz : 0 ≤ z ∧ z ≤ 8) : X_wr (X_wu d 3 (fun _ => z)) := ⟨h.1, h.2.1, h.2.2.1, hz, h.2.2.2.2⟩
theorem X_wr_4 {d : Nat → Int → Int} {z : Int} (h : X_wr d) (hz : 0 ≤ z ∧ z ≤ 4) : X_wr (X_wu d 4 (fun _ => z)) := ⟨h.1, h.2.1, h.2.2.1, h.2.2.2.1, hz, h.2.2.2.2.2⟩
theorem X_wr_5 {d : Nat → Int → Int} {z : Int} (h : X_wr d) (hz : -1 ≤ z ∧ z ≤ 30) : X_wr (X_wu d 5 (fun _ => z)) := ⟨h.1, h.2.1, h.2.2.1, h.2.2.2.1, h.2.2.2.2.1, hz, h.2.2.2.2.2.2⟩
theorem X_wr_8 {d : Nat → Int → Int} {g : Int → Int} (h : X_wr d) : X_wr (X_wu d 8 g) := h
theorem X_wr_9 {d : Nat → Int → Int} {g : Int → Int} (h : X_wr d) : X_wr (X_wu d 9 g) := h
theorem X_wr_12 {d : Nat → Int → Int} {g : Int → Int} (h : X_wr d) : X_wr (X_wu d 12 g) := h
theorem X_wr_13 {d : Nat → Int → Int} {g : Int → Int} (h : X_wr d) : X_wr (X_wu d 13 g) := h
def X_lnC (n : Int) (so : Int → Int) (ct : Int → Int64) (c : Int) : Int := if (so c = 3 ∧ ct c = Int64.ofNat 1818584692) ∨ (so c = 3 ∧ ct c = Int64.ofNat 491394656372) then X_av n c else c
def X_lnV (so : Int → Int) (ct : Int → Int64) (c l : Int) : Int := if so c = 3 ∧ ct c = Int64.ofNat 1818584692 then 1 else if so c = 3 ∧ ct c = Int64.ofNat 491394656372 then 2 else l
theorem X_lnC_r {n : Int} {so : Int → Int} {ct : Int → Int64} {c : Int} (h : 0 ≤ c ∧ c < n) : 0 ≤ X_lnC n so ct c ∧ X_lnC n so ct c < n := by
  unfold X_lnC
  split
  · exact X_av_r h
  · exact h
theorem X_lnV_r {so : Int → Int} {ct : Int → Int64} {c l : Int} (h : 0 ≤ l ∧ l ≤ 2) : 0 ≤ X_lnV so ct c l ∧ X_lnV so ct c l ≤ 2 := by
  unfold X_lnV
  split
  · omega
  · split <;> omega
theorem c_parseLean (sc : X_Sc) (S : X_S) (B : Nat) (fl fp at_ n cur : Int) (so pl : Int → Int) (ct : Int → Int64) (rc kc wc : Int) (rn : Int → Int64) (lo : Int → Int) (kn : Int → Int64) (ab : Int → Int) (a : Nat) (d : Nat → Int → Int) (q : Int → Int64) (hB : 4 ≤ B ∧ B + 246 ≤ 496) (ha : B + 6 ≤ a ∧ a + 7 < B + 246) (hp : C_pa S B fl fp) (hx : C_lx S at_ n cur so pl ct) (hcu : 0 ≤ cur ∧ cur < n ∧ n ≤ 2001) (hso : ∀ i, 0 ≤ i → i < n → 0 ≤ so i ∧ so i ≤ 255) (hb : C_bk S B rc kc wc rn lo kn ab) (hw : C_wd S a d q) (hr : X_wr d) : X_T sc 76 (0, [(0, .ref 496), (1, .ref a)], [], S) (fun v S' => v = none ∧ C_pa S' B fl fp ∧ S'.1 497 = .inr (3, [.ref 2, .int (iI at_), .int (iI n), .ref 498, .ref 499, .ref 500, .int (iI (X_lnC n so ct cur))]) ∧ C_wd S' a (X_wu d 1 (fun _ => X_lnV so ct cur (d 1 0))) q ∧ X_Fr (fun q => q = 496 ∨ q = 497 ∨ (a ≤ q ∧ q ≤ a + 7)) S S') := by
  obtain ⟨hb0, hb1, hb2, hb3, hb4, ⟨f, hb5, hf⟩, ⟨hrc, hrcb⟩, ⟨hkc, hkcb⟩, ⟨hwc, hwcb⟩⟩ := id hb
  obtain ⟨⟨hr0, hr0b⟩, ⟨hr1, hr1b⟩, ⟨hr2, hr2b⟩, ⟨hr3, hr3b⟩, ⟨hr4, hr4b⟩, ⟨hr5, hr5b⟩, ⟨hr6, hr6b⟩, ⟨hr7, hr7b⟩⟩ := id hr
  refine X_QI (fun Q hQ => ?_)
  refine T_p xr_76_0 xn_76 (pc' := 1) (ls' := [(0, .ref 496), (1, .ref a)]) (st' := [.ref 496]) rfl ?_
  refine T_get xr_76_1 hp rfl (v := .ref 497) rfl (pc' := 4) rfl ?_
  refine T_p xr_76_4 xn_76 (pc' := 7) (ls' := [(0, .ref 496), (1, .ref a)]) (st' := [.long (Int64.ofNat 1818584692), .ref 497]) rfl ?_
  refine T_cv (S := S) (q := 497) xr_76_7 xf_51.1 xf_51.2.1 xn_51 (as := [.long (Int64.ofNat 1818584692)]) (r := []) rfl hx.1 (Nat.le_of_ble_eq_true rfl) (Nat.le_of_ble_eq_true rfl) (pc' := 10) rfl (ls' := [(0, .ref 497), (1, .long (Int64.ofNat 1818584692))]) rfl ?_
  refine T_mono (c_isKeyword sc S at_ n cur so pl ct (Int64.ofNat 1818584692) ⟨hx.1, hx.2.1, hx.2.2.1, hx.2.2.2⟩ (by omega) hso) (fun v1506 S1507 h1505 => ?_)
  obtain ⟨h1508, h1509⟩ := h1505
  rw [h1508, h1509]
  show X_T sc 76 (10, [(0, .ref 496), (1, .ref a)], [.int (iI (bI (so cur = 3 ∧ ct cur = (Int64.ofNat 1818584692))))], S) _
  refine T_bif_eq xr_76_10 (t := 28) (pc' := 13) rfl rfl (fun c1510 => ?_) (fun c1510 => ?_)
  · skip
    have c1510 : ¬ (so cur = 3 ∧ ct cur = (Int64.ofNat 1818584692)) := c1510
    refine T_p xr_76_28 xn_76 (pc' := 29) (ls' := [(0, .ref 496), (1, .ref a)]) (st' := [.ref 496]) rfl ?_
    refine T_get xr_76_29 hp rfl (v := .ref 497) rfl (pc' := 32) rfl ?_
    refine T_p xr_76_32 xn_76 (pc' := 35) (ls' := [(0, .ref 496), (1, .ref a)]) (st' := [.long (Int64.ofNat 491394656372), .ref 497]) rfl ?_
    refine T_cv (S := S) (q := 497) xr_76_35 xf_51.1 xf_51.2.1 xn_51 (as := [.long (Int64.ofNat 491394656372)]) (r := []) rfl hx.1 (Nat.le_of_ble_eq_true rfl) (Nat.le_of_ble_eq_true rfl) (pc' := 38) rfl (ls' := [(0, .ref 497), (1, .long (Int64.ofNat 491394656372))]) rfl ?_
    refine T_mono (c_isKeyword sc S at_ n cur so pl ct (Int64.ofNat 491394656372) ⟨hx.1, hx.2.1, hx.2.2.1, hx.2.2.2⟩ (by omega) hso) (fun v1512 S1513 h1511 => ?_)
    obtain ⟨h1514, h1515⟩ := h1511
    rw [h1514, h1515]
    show X_T sc 76 (38, [(0, .ref 496), (1, .ref a)], [.int (iI (bI (so cur = 3 ∧ ct cur = (Int64.ofNat 491394656372))))], S) _
    refine T_bif_eq xr_76_38 (t := 53) (pc' := 41) rfl rfl (fun c1516 => ?_) (fun c1516 => ?_)
    · skip
      have c1516 : ¬ (so cur = 3 ∧ ct cur = (Int64.ofNat 491394656372)) := c1516
      refine T_vret xr_76_53 xf_76.2.2 ?_
      refine hQ _ _ ?_
      have e1 : X_lnC n so ct cur = cur := by
        unfold X_lnC
        first | rw [if_pos (Or.inl (by assumption))] | rw [if_pos (Or.inr (by assumption))] | rw [if_neg (by rintro (h | h) <;> contradiction)]
      have e2 : X_lnV so ct cur (d 1 0) = d 1 0 := by
        unfold X_lnV
        first | rw [if_pos (by assumption)] | rw [if_neg (by assumption), if_pos (by assumption)] | rw [if_neg (by assumption), if_neg (by assumption)]
      rw [e1, e2]
      exact ⟨rfl, hp, hx.1, ⟨hw.1, hw.2.1, hw.2.2.1, hw.2.2.2.1, hw.2.2.2.2.1, hw.2.2.2.2.2.1, hw.2.2.2.2.2.2.1, hw.2.2.2.2.2.2.2⟩, X_Fr.rf⟩
    · skip
      have c1516 : (so cur = 3 ∧ ct cur = (Int64.ofNat 491394656372)) := c1516
      refine T_p xr_76_41 xn_76 (pc' := 42) (ls' := [(0, .ref 496), (1, .ref a)]) (st' := [.ref a]) rfl ?_
      refine T_p xr_76_42 xn_76 (pc' := 43) (ls' := [(0, .ref 496), (1, .ref a)]) (st' := [.int (iI 2), .ref a]) rfl ?_
      refine T_put xr_76_43 hw.1 rfl (Nat.le_of_ble_eq_true rfl) rfl (fs' := [.int (iI (d 0 0)), .int (iI 2), .int (iI (d 2 0)), .int (iI (d 3 0)), .int (iI (d 4 0)), .int (iI (d 5 0)), .int (iI (d 6 0)), .int (iI (d 7 0)), .ref (a + 1), .ref (a + 2), .ref (a + 3), .ref (a + 4), .ref (a + 5), .ref (a + 6), .ref (a + 7)]) rfl (pc' := 46) rfl (fun S1517 h1518 n1519 e1520 => ?_)
      refine T_p xr_76_46 xn_76 (pc' := 47) (ls' := [(0, .ref 496), (1, .ref a)]) (st' := [.ref 496]) rfl ?_
      have h1521 := (n1519 496 (by omega)).trans (hp)
      refine T_get xr_76_47 h1521 rfl (v := .ref 497) rfl (pc' := 50) rfl ?_
      have h1522 := (n1519 497 (by omega)).trans (hx.1)
      refine T_cv (S := S1517) (q := 497) xr_76_50 xf_52.1 xf_52.2.1 xn_52 (as := []) (r := []) rfl h1522 (Nat.le_of_ble_eq_true rfl) (Nat.le_of_ble_eq_true rfl) (pc' := 53) rfl (ls' := [(0, .ref 497)]) rfl ?_
      have h1523 := (n1519 498 (by omega)).trans (hx.2.1)
      have h1524 := (n1519 499 (by omega)).trans (hx.2.2.1)
      have h1525 := (n1519 500 (by omega)).trans (hx.2.2.2)
      refine T_mono (c_advance sc S1517 at_ n cur so pl ct ⟨h1522, h1523, h1524, h1525⟩ (by omega)) (fun v1527 S1528 h1526 => ?_)
      obtain ⟨h1529, h1531, h1530⟩ := h1526
      rw [h1529]
      show X_T sc 76 (53, [(0, .ref 496), (1, .ref a)], [], S1528) _
      have hv1532 := X_av_r (n := n) (c := cur) (by omega)
      refine T_vret xr_76_53 xf_76.2.2 ?_
      refine hQ _ _ ?_
      have h1533 := (h1530.1 a (by omega)).trans (h1518)
      have e1 : X_lnC n so ct cur = X_av n cur := by
        unfold X_lnC
        first | rw [if_pos (Or.inl (by assumption))] | rw [if_pos (Or.inr (by assumption))] | rw [if_neg (by rintro (h | h) <;> contradiction)]
      have e2 : X_lnV so ct cur (d 1 0) = 2 := by
        unfold X_lnV
        first | rw [if_pos (by assumption)] | rw [if_neg (by assumption), if_pos (by assumption)] | rw [if_neg (by assumption), if_neg (by assumption)]
      have h1534 := (h1530.1 496 (by first | decide | omega)).trans (h1521)
      have h1535 := (h1530.1 (a + 1) (by omega)).trans ((n1519 (a + 1) (by first | exact (fun h => absurd (Nat.add_left_cancel h) (by decide)) | omega)).trans (hw.2.1))
      have h1536 := (h1530.1 (a + 2) (by omega)).trans ((n1519 (a + 2) (by first | exact (fun h => absurd (Nat.add_left_cancel h) (by decide)) | omega)).trans (hw.2.2.1))
      have h1537 := (h1530.1 (a + 3) (by omega)).trans ((n1519 (a + 3) (by first | exact (fun h => absurd (Nat.add_left_cancel h) (by decide)) | omega)).trans (hw.2.2.2.1))
      have h1538 := (h1530.1 (a + 4) (by omega)).trans ((n1519 (a + 4) (by first | exact (fun h => absurd (Nat.add_left_cancel h) (by decide)) | omega)).trans (hw.2.2.2.2.1))
      have h1539 := (h1530.1 (a + 5) (by omega)).trans ((n1519 (a + 5) (by first | exact (fun h => absurd (Nat.add_left_cancel h) (by decide)) | omega)).trans (hw.2.2.2.2.2.1))
      have h1540 := (h1530.1 (a + 6) (by omega)).trans ((n1519 (a + 6) (by first | exact (fun h => absurd (Nat.add_left_cancel h) (by decide)) | omega)).trans (hw.2.2.2.2.2.2.1))
      have h1541 := (h1530.1 (a + 7) (by omega)).trans ((n1519 (a + 7) (by first | exact (fun h => absurd (Nat.add_left_cancel h) (by decide)) | omega)).trans (hw.2.2.2.2.2.2.2))
      rw [e1, e2]
      exact ⟨rfl, h1534, h1531, ⟨h1533, h1535, h1536, h1537, h1538, h1539, h1540, h1541⟩, ((X_Fr.rf).tr (X_Fr.of n1519 e1520 (by first | decide | exact ⟨Nat.le_add_right _ _, Nat.add_le_add_left (by decide) _⟩ | omega))).tr (X_Fr.mono ⟨h1530.1, h1530.2⟩ (fun q hq => (by omega)))⟩
  · skip
    have c1510 : (so cur = 3 ∧ ct cur = (Int64.ofNat 1818584692)) := c1510
    refine T_p xr_76_13 xn_76 (pc' := 14) (ls' := [(0, .ref 496), (1, .ref a)]) (st' := [.ref a]) rfl ?_
    refine T_p xr_76_14 xn_76 (pc' := 15) (ls' := [(0, .ref 496), (1, .ref a)]) (st' := [.int (iI 1), .ref a]) rfl ?_
    refine T_put xr_76_15 hw.1 rfl (Nat.le_of_ble_eq_true rfl) rfl (fs' := [.int (iI (d 0 0)), .int (iI 1), .int (iI (d 2 0)), .int (iI (d 3 0)), .int (iI (d 4 0)), .int (iI (d 5 0)), .int (iI (d 6 0)), .int (iI (d 7 0)), .ref (a + 1), .ref (a + 2), .ref (a + 3), .ref (a + 4), .ref (a + 5), .ref (a + 6), .ref (a + 7)]) rfl (pc' := 18) rfl (fun S1542 h1543 n1544 e1545 => ?_)
    refine T_p xr_76_18 xn_76 (pc' := 19) (ls' := [(0, .ref 496), (1, .ref a)]) (st' := [.ref 496]) rfl ?_
    have h1546 := (n1544 496 (by omega)).trans (hp)
    refine T_get xr_76_19 h1546 rfl (v := .ref 497) rfl (pc' := 22) rfl ?_
    have h1547 := (n1544 497 (by omega)).trans (hx.1)
    refine T_cv (S := S1542) (q := 497) xr_76_22 xf_52.1 xf_52.2.1 xn_52 (as := []) (r := []) rfl h1547 (Nat.le_of_ble_eq_true rfl) (Nat.le_of_ble_eq_true rfl) (pc' := 25) rfl (ls' := [(0, .ref 497)]) rfl ?_
    have h1548 := (n1544 498 (by omega)).trans (hx.2.1)
    have h1549 := (n1544 499 (by omega)).trans (hx.2.2.1)
    have h1550 := (n1544 500 (by omega)).trans (hx.2.2.2)
    refine T_mono (c_advance sc S1542 at_ n cur so pl ct ⟨h1547, h1548, h1549, h1550⟩ (by omega)) (fun v1552 S1553 h1551 => ?_)
    obtain ⟨h1554, h1556, h1555⟩ := h1551
    rw [h1554]
    show X_T sc 76 (25, [(0, .ref 496), (1, .ref a)], [], S1553) _
    have hv1557 := X_av_r (n := n) (c := cur) (by omega)
    refine T_p xr_76_25 xn_76 (pc' := 53) (ls' := [(0, .ref 496), (1, .ref a)]) (st' := []) rfl ?_
    refine T_vret xr_76_53 xf_76.2.2 ?_
    refine hQ _ _ ?_
    have h1558 := (h1555.1 a (by omega)).trans (h1543)
    have e1 : X_lnC n so ct cur = X_av n cur := by
      unfold X_lnC
      first | rw [if_pos (Or.inl (by assumption))] | rw [if_pos (Or.inr (by assumption))] | rw [if_neg (by rintro (h | h) <;> contradiction)]
    have e2 : X_lnV so ct cur (d 1 0) = 1 := by
      unfold X_lnV
      first | rw [if_pos (by assumption)] | rw [if_neg (by assumption), if_pos (by assumption)] | rw [if_neg (by assumption), if_neg (by assumption)]
    have h1559 := (h1555.1 496 (by first | decide | omega)).trans (h1546)
    have h1560 := (h1555.1 (a + 1) (by omega)).trans ((n1544 (a + 1) (by first | exact (fun h => absurd (Nat.add_left_cancel h) (by decide)) | omega)).trans (hw.2.1))
    have h1561 := (h1555.1 (a + 2) (by omega)).trans ((n1544 (a + 2) (by first | exact (fun h => absurd (Nat.add_left_cancel h) (by decide)) | omega)).trans (hw.2.2.1))
    have h1562 := (h1555.1 (a + 3) (by omega)).trans ((n1544 (a + 3) (by first | exact (fun h => absurd (Nat.add_left_cancel h) (by decide)) | omega)).trans (hw.2.2.2.1))
    have h1563 := (h1555.1 (a + 4) (by omega)).trans ((n1544 (a + 4) (by first | exact (fun h => absurd (Nat.add_left_cancel h) (by decide)) | omega)).trans (hw.2.2.2.2.1))
    have h1564 := (h1555.1 (a + 5) (by omega)).trans ((n1544 (a + 5) (by first | exact (fun h => absurd (Nat.add_left_cancel h) (by decide)) | omega)).trans (hw.2.2.2.2.2.1))
    have h1565 := (h1555.1 (a + 6) (by omega)).trans ((n1544 (a + 6) (by first | exact (fun h => absurd (Nat.add_left_cancel h) (by decide)) | omega)).trans (hw.2.2.2.2.2.2.1))
    have h1566 := (h1555.1 (a + 7) (by omega)).trans ((n1544 (a + 7) (by first | exact (fun h => absurd (Nat.add_left_cancel h) (by decide)) | omega)).trans (hw.2.2.2.2.2.2.2))
    rw [e1, e2]
    exact ⟨rfl, h1559, h1556, ⟨h1558, h1560, h1561, h1562, h1563, h1564, h1565, h1566⟩, ((X_Fr.rf).tr (X_Fr.of n1544 e1545 (by first | decide | exact ⟨Nat.le_add_right _ _, Nat.add_le_add_left (by decide) _⟩ | omega))).tr (X_Fr.mono ⟨h1555.1, h1555.2⟩ (fun q hq => (by omega)))⟩
end
section
theorem xr_77_0 : X_row 77 0 = some (0, (.iconst 0, 1), (0, 0, 0)) := by decide +kernel
theorem xr_77_1 : X_row 77 1 = some (1, (.istore_n 2, 1), (0, 0, 0)) := by decide +kernel
theorem xr_77_2 : X_row 77 2 = some (2, (.iload_n 2, 1), (0, 0, 0)) := by decide +kernel
theorem xr_77_3 : X_row 77 3 = some (3, (.bipush 8, 2), (0, 0, 0)) := by decide +kernel
theorem xr_77_5 : X_row 77 5 = some (5, (.if_icmp .gt 164, 3), (0, 0, 0)) := by decide +kernel
theorem xr_77_8 : X_row 77 8 = some (8, (.aload_n 0, 1), (0, 0, 0)) := by decide +kernel
theorem xr_77_9 : X_row 77 9 = some (9, (.getfield 23, 3), (4, 0, 18)) := by decide +kernel
theorem xr_77_12 : X_row 77 12 = some (12, (.invokevirtual 39, 3), (48, 6, 0)) := by decide +kernel
theorem xr_77_15 : X_row 77 15 = some (15, (.bipush 61, 2), (0, 0, 0)) := by decide +kernel
theorem xr_77_17 : X_row 77 17 = some (17, (.if_icmp .eq 15, 3), (0, 0, 0)) := by decide +kernel
theorem xr_77_20 : X_row 77 20 = some (20, (.aload_n 0, 1), (0, 0, 0)) := by decide +kernel
theorem xr_77_21 : X_row 77 21 = some (21, (.getfield 23, 3), (4, 0, 18)) := by decide +kernel
theorem xr_77_24 : X_row 77 24 = some (24, (.invokevirtual 39, 3), (48, 6, 0)) := by decide +kernel
theorem xr_77_27 : X_row 77 27 = some (27, (.bipush 59, 2), (0, 0, 0)) := by decide +kernel
theorem xr_77_29 : X_row 77 29 = some (29, (.if_icmp .ne 5, 3), (0, 0, 0)) := by decide +kernel
theorem xr_77_32 : X_row 77 32 = some (32, (.iconst 1, 1), (0, 0, 0)) := by decide +kernel
theorem xr_77_33 : X_row 77 33 = some (33, (.ireturn, 1), (0, 0, 0)) := by decide +kernel
theorem xr_77_34 : X_row 77 34 = some (34, (.aload_n 0, 1), (0, 0, 0)) := by decide +kernel
theorem xr_77_35 : X_row 77 35 = some (35, (.getfield 23, 3), (4, 0, 18)) := by decide +kernel
theorem xr_77_38 : X_row 77 38 = some (38, (.invokevirtual 39, 3), (48, 6, 0)) := by decide +kernel
theorem xr_77_41 : X_row 77 41 = some (41, (.bipush 6, 2), (0, 0, 0)) := by decide +kernel
theorem xr_77_43 : X_row 77 43 = some (43, (.if_icmp .ne 16, 3), (0, 0, 0)) := by decide +kernel
theorem xr_77_46 : X_row 77 46 = some (46, (.aload_n 1, 1), (0, 0, 0)) := by decide +kernel
theorem xr_77_47 : X_row 77 47 = some (47, (.getfield 164, 3), (8, 3, 5)) := by decide +kernel
theorem xr_77_50 : X_row 77 50 = some (50, (.bipush 8, 2), (0, 0, 0)) := by decide +kernel
theorem xr_77_52 : X_row 77 52 = some (52, (.if_icmp .ge 7, 3), (0, 0, 0)) := by decide +kernel
theorem xr_77_55 : X_row 77 55 = some (55, (.iconst 1, 1), (0, 0, 0)) := by decide +kernel
theorem xr_77_56 : X_row 77 56 = some (56, (.goto 4, 3), (0, 0, 0)) := by decide +kernel
theorem xr_77_59 : X_row 77 59 = some (59, (.iconst 0, 1), (0, 0, 0)) := by decide +kernel
theorem xr_77_60 : X_row 77 60 = some (60, (.istore_n 3, 1), (0, 0, 0)) := by decide +kernel
theorem xr_77_61 : X_row 77 61 = some (61, (.aload_n 0, 1), (0, 0, 0)) := by decide +kernel
theorem xr_77_62 : X_row 77 62 = some (62, (.getfield 23, 3), (4, 0, 18)) := by decide +kernel
theorem xr_77_65 : X_row 77 65 = some (65, (.invokevirtual 39, 3), (48, 6, 0)) := by decide +kernel
theorem xr_77_68 : X_row 77 68 = some (68, (.bipush 95, 2), (0, 0, 0)) := by decide +kernel
theorem xr_77_70 : X_row 77 70 = some (70, (.if_icmp .ne 14, 3), (0, 0, 0)) := by decide +kernel
theorem xr_77_73 : X_row 77 73 = some (73, (.aload_n 1, 1), (0, 0, 0)) := by decide +kernel
theorem xr_77_74 : X_row 77 74 = some (74, (.invokevirtual 174, 3), (97, 54, 0)) := by decide +kernel
theorem xr_77_77 : X_row 77 77 = some (77, (.ifCond .eq 7, 3), (0, 0, 0)) := by decide +kernel
theorem xr_77_80 : X_row 77 80 = some (80, (.iconst 1, 1), (0, 0, 0)) := by decide +kernel
theorem xr_77_81 : X_row 77 81 = some (81, (.goto 4, 3), (0, 0, 0)) := by decide +kernel
theorem xr_77_84 : X_row 77 84 = some (84, (.iconst 0, 1), (0, 0, 0)) := by decide +kernel
theorem xr_77_85 : X_row 77 85 = some (85, (.istore 4, 2), (0, 0, 0)) := by decide +kernel
theorem xr_77_87 : X_row 77 87 = some (87, (.iload_n 3, 1), (0, 0, 0)) := by decide +kernel
theorem xr_77_88 : X_row 77 88 = some (88, (.ifCond .ne 11, 3), (0, 0, 0)) := by decide +kernel
theorem xr_77_91 : X_row 77 91 = some (91, (.iload 4, 2), (0, 0, 0)) := by decide +kernel
theorem xr_77_93 : X_row 77 93 = some (93, (.ifCond .ne 6, 3), (0, 0, 0)) := by decide +kernel
theorem xr_77_96 : X_row 77 96 = some (96, (.goto 73, 3), (0, 0, 0)) := by decide +kernel
theorem xr_77_99 : X_row 77 99 = some (99, (.aload_n 0, 1), (0, 0, 0)) := by decide +kernel
theorem xr_77_100 : X_row 77 100 = some (100, (.getfield 23, 3), (4, 0, 18)) := by decide +kernel
theorem xr_77_103 : X_row 77 103 = some (103, (.invokevirtual 86, 3), (50, 20, 0)) := by decide +kernel
theorem xr_77_106 : X_row 77 106 = some (106, (.lstore 5, 2), (0, 0, 0)) := by decide +kernel
theorem xr_77_108 : X_row 77 108 = some (108, (.aload_n 0, 1), (0, 0, 0)) := by decide +kernel
theorem xr_77_109 : X_row 77 109 = some (109, (.getfield 23, 3), (4, 0, 18)) := by decide +kernel
theorem xr_77_112 : X_row 77 112 = some (112, (.invokevirtual 80, 3), (52, 18, 0)) := by decide +kernel
theorem xr_77_115 : X_row 77 115 = some (115, (.iload_n 3, 1), (0, 0, 0)) := by decide +kernel
theorem xr_77_116 : X_row 77 116 = some (116, (.ifCond .eq 12, 3), (0, 0, 0)) := by decide +kernel
theorem xr_77_119 : X_row 77 119 = some (119, (.aload_n 1, 1), (0, 0, 0)) := by decide +kernel
theorem xr_77_120 : X_row 77 120 = some (120, (.lload 5, 2), (0, 0, 0)) := by decide +kernel
theorem xr_77_122 : X_row 77 122 = some (122, (.invokevirtual 177, 3), (96, 56, 0)) := by decide +kernel
theorem xr_77_125 : X_row 77 125 = some (125, (.goto 38, 3), (0, 0, 0)) := by decide +kernel
theorem xr_77_128 : X_row 77 128 = some (128, (.aload_n 0, 1), (0, 0, 0)) := by decide +kernel
theorem xr_77_129 : X_row 77 129 = some (129, (.getfield 23, 3), (4, 0, 18)) := by decide +kernel
theorem xr_77_132 : X_row 77 132 = some (132, (.invokevirtual 39, 3), (48, 6, 0)) := by decide +kernel
theorem xr_77_135 : X_row 77 135 = some (135, (.iconst 2, 1), (0, 0, 0)) := by decide +kernel
theorem xr_77_136 : X_row 77 136 = some (136, (.if_icmp .ne 10, 3), (0, 0, 0)) := by decide +kernel
theorem xr_77_139 : X_row 77 139 = some (139, (.aload_n 0, 1), (0, 0, 0)) := by decide +kernel
theorem xr_77_140 : X_row 77 140 = some (140, (.invokevirtual 120, 3), (73, 42, 0)) := by decide +kernel
theorem xr_77_143 : X_row 77 143 = some (143, (.goto 4, 3), (0, 0, 0)) := by decide +kernel
theorem xr_77_146 : X_row 77 146 = some (146, (.iconst 0, 1), (0, 0, 0)) := by decide +kernel
theorem xr_77_147 : X_row 77 147 = some (147, (.istore 7, 2), (0, 0, 0)) := by decide +kernel
theorem xr_77_149 : X_row 77 149 = some (149, (.iload 7, 2), (0, 0, 0)) := by decide +kernel
theorem xr_77_151 : X_row 77 151 = some (151, (.iconst (-1), 1), (0, 0, 0)) := by decide +kernel
theorem xr_77_152 : X_row 77 152 = some (152, (.if_icmp .ne 5, 3), (0, 0, 0)) := by decide +kernel
theorem xr_77_155 : X_row 77 155 = some (155, (.iconst 0, 1), (0, 0, 0)) := by decide +kernel
theorem xr_77_156 : X_row 77 156 = some (156, (.ireturn, 1), (0, 0, 0)) := by decide +kernel
theorem xr_77_157 : X_row 77 157 = some (157, (.aload_n 1, 1), (0, 0, 0)) := by decide +kernel
theorem xr_77_158 : X_row 77 158 = some (158, (.iload 7, 2), (0, 0, 0)) := by decide +kernel
theorem xr_77_160 : X_row 77 160 = some (160, (.invokevirtual 180, 3), (98, 58, 0)) := by decide +kernel
theorem xr_77_163 : X_row 77 163 = some (163, (.iinc 2 1, 3), (0, 0, 0)) := by decide +kernel
theorem xr_77_166 : X_row 77 166 = some (166, (.goto (-164), 3), (0, 0, 0)) := by decide +kernel
theorem xr_77_169 : X_row 77 169 = some (169, (.aload_n 0, 1), (0, 0, 0)) := by decide +kernel
theorem xr_77_170 : X_row 77 170 = some (170, (.invokevirtual 67, 3), (67, 12, 0)) := by decide +kernel
theorem xr_77_173 : X_row 77 173 = some (173, (.iconst 0, 1), (0, 0, 0)) := by decide +kernel
theorem xr_77_174 : X_row 77 174 = some (174, (.ireturn, 1), (0, 0, 0)) := by decide +kernel
theorem xn_77 : X_nL 77 = 8 := by decide +kernel
theorem xf_77 : X_na 77 = 1 ∧ X_ci 77 = 4 ∧ X_rt 77 = (some .boolean) := by decide +kernel
def X_aP (d : Nat → Int → Int) : Nat → Int → Int := X_wu d 3 (fun _ => d 3 0 + 1)
def X_aH (d : Nat → Int → Int) (k : Int) : Nat → Int → Int := X_wu (X_wu (X_wu (X_wu d 8 (X_ug (d 8) (d 3 0) (d 4 0))) 9 (X_ug (d 9) (d 4 0) k)) 3 (fun _ => d 3 0 + 1)) 4 (fun _ => d 4 0 + 1)
theorem X_wr_P {d : Nat → Int → Int} (h : X_wr d) (h3 : d 3 0 < 8) : X_wr (X_aP d) := X_wr_3 h (by have := h.2.2.2.1; omega)
theorem X_wr_H {d : Nat → Int → Int} {k : Int} (h : X_wr d) (h3 : d 3 0 < 8) (h4 : d 4 0 < 4) : X_wr (X_aH d k) := X_wr_4 (X_wr_3 (X_wr_9 (X_wr_8 h)) (by have := h.2.2.2.1; omega)) (by have := h.2.2.2.2.1; omega)
/-- a word's elements up to the = or ; behind them -/
noncomputable def sp_el (n : Int) (so : Int → Int) (ct : Int → Int64) (kn : Int → Int64) (kc : Int) : Nat → Int → (Nat → Int → Int) → (Int → Int64) → Option (Int × (Nat → Int → Int) × (Int → Int64))
  | 0, _, _, _ => none
  | k + 1, c, d, q => if so c = 61 then some (c, d, q) else if so c = 59 then some (c, d, q) else
    if so c = 6 ∧ d 3 0 < 8 then sp_el n so ct kn kc k (X_av n c) (X_aP d) (X_ug q (d 3 0) (ct c)) else
    @ite _ (so c = 95 ∧ (d 3 0 < 8 ∧ d 4 0 < 4 ∧ ¬ X_hl d q (d 3 0 - 1))) (Classical.propDecidable _)
      (if so (X_av n c) = 2 then (if X_ix kn kc (ct (X_av n c)) = -1 then none else sp_el n so ct kn kc k (X_av n (X_av n c)) (X_aH d (X_ix kn kc (ct (X_av n c)))) (X_ug q (d 3 0) 0)) else sp_el n so ct kn kc k (X_av n c) (X_aH d 0) (X_ug q (d 3 0) 0)) none
theorem sp_el_s {n : Int} {so : Int → Int} {ct : Int → Int64} {kn : Int → Int64} {kc i c : Int} {d : Nat → Int → Int} {q : Int → Int64} (h : 0 ≤ i ∧ i ≤ 8) : sp_el n so ct kn kc (9 - i).toNat c d q = if so c = 61 then some (c, d, q) else if so c = 59 then some (c, d, q) else
    if so c = 6 ∧ d 3 0 < 8 then sp_el n so ct kn kc (9 - (i + 1)).toNat (X_av n c) (X_aP d) (X_ug q (d 3 0) (ct c)) else
    @ite _ (so c = 95 ∧ (d 3 0 < 8 ∧ d 4 0 < 4 ∧ ¬ X_hl d q (d 3 0 - 1))) (Classical.propDecidable _)
      (if so (X_av n c) = 2 then (if X_ix kn kc (ct (X_av n c)) = -1 then none else sp_el n so ct kn kc (9 - (i + 1)).toNat (X_av n (X_av n c)) (X_aH d (X_ix kn kc (ct (X_av n c)))) (X_ug q (d 3 0) 0)) else sp_el n so ct kn kc (9 - (i + 1)).toNat (X_av n c) (X_aH d 0) (X_ug q (d 3 0) 0)) none := by
  rw [show (9 - i).toNat = (9 - (i + 1)).toNat + 1 by omega]
  rfl
theorem c_parseElements (sc : X_Sc) (S : X_S) (B : Nat) (fl fp at_ n cur : Int) (so pl : Int → Int) (ct : Int → Int64) (rc kc wc : Int) (rn : Int → Int64) (lo : Int → Int) (kn : Int → Int64) (ab : Int → Int) (a : Nat) (d : Nat → Int → Int) (q : Int → Int64) (hB : 4 ≤ B ∧ B + 246 ≤ 496) (ha : B + 6 ≤ a ∧ a + 7 < B + 246) (hp : C_pa S B fl fp) (hx : C_lx S at_ n cur so pl ct) (hcu : 0 ≤ cur ∧ cur < n ∧ n ≤ 2001) (hso : ∀ i, 0 ≤ i → i < n → 0 ≤ so i ∧ so i ≤ 255) (hb : C_bk S B rc kc wc rn lo kn ab) (hw : C_wd S a d q) (hr : X_wr d) : X_T sc 77 (0, [(0, .ref 496), (1, .ref a)], [], S) (fun v S' => (v = some (.int (iI 1)) ∧ ∃ c2 d2 q2, sp_el n so ct kn kc 9 cur d q = some (c2, d2, q2) ∧ C_pa S' B fl fp ∧ S'.1 497 = .inr (3, [.ref 2, .int (iI at_), .int (iI n), .ref 498, .ref 499, .ref 500, .int (iI (c2))]) ∧ (0 ≤ c2 ∧ c2 < n) ∧ C_wd S' a d2 q2 ∧ X_wr d2 ∧ X_Fr (fun q => q = 496 ∨ q = 497 ∨ (a ≤ q ∧ q ≤ a + 7)) S S') ∨ (v = some (.int (iI 0)) ∧ sp_el n so ct kn kc 9 cur d q = none ∧ (∃ fl' fp', (¬ fl' = 0 ∧ 0 ≤ fl' ∧ fl' ≤ 5) ∧ C_pa S' B fl' fp') ∧ (∃ c2 d2 q2, S'.1 497 = .inr (3, [.ref 2, .int (iI at_), .int (iI n), .ref 498, .ref 499, .ref 500, .int (iI (c2))]) ∧ (0 ≤ c2 ∧ c2 < n) ∧ C_wd S' a d2 q2 ∧ X_wr d2) ∧ X_Fr (fun q => q = 496 ∨ q = 497 ∨ (a ≤ q ∧ q ≤ a + 7)) S S')) := by
  obtain ⟨hb0, hb1, hb2, hb3, hb4, ⟨f, hb5, hf⟩, ⟨hrc, hrcb⟩, ⟨hkc, hkcb⟩, ⟨hwc, hwcb⟩⟩ := id hb
  obtain ⟨⟨hr0, hr0b⟩, ⟨hr1, hr1b⟩, ⟨hr2, hr2b⟩, ⟨hr3, hr3b⟩, ⟨hr4, hr4b⟩, ⟨hr5, hr5b⟩, ⟨hr6, hr6b⟩, ⟨hr7, hr7b⟩⟩ := id hr
  refine X_QI (fun Q hQ => ?_)
  refine T_p xr_77_0 xn_77 (pc' := 1) (ls' := [(0, .ref 496), (1, .ref a)]) (st' := [.int (iI 0)]) rfl ?_
  refine T_p xr_77_1 xn_77 (pc' := 2) (ls' := [(2, .int (iI 0)), (0, .ref 496), (1, .ref a)]) (st' := []) rfl ?_
  have L1567 : ∀ (m1569 : Nat) (S1572 : X_S) (i : Int) (c1 : Int) (d1 : Nat → Int → Int) (q1 : Int → Int64) (hp1 : S1572.1 496 = .inr (4, [.ref 497, .ref B, .int (iI fl), .int (iI fp)])) (hx1 : S1572.1 497 = .inr (3, [.ref 2, .int (iI at_), .int (iI n), .ref 498, .ref 499, .ref 500, .int (iI c1)])) (hw0 : S1572.1 a = .inr (8, [.int (iI (d1 0 0)), .int (iI (d1 1 0)), .int (iI (d1 2 0)), .int (iI (d1 3 0)), .int (iI (d1 4 0)), .int (iI (d1 5 0)), .int (iI (d1 6 0)), .int (iI (d1 7 0)), .ref (a + 1), .ref (a + 2), .ref (a + 3), .ref (a + 4), .ref (a + 5), .ref (a + 6), .ref (a + 7)])) (hw1 : S1572.1 (a + 1) = .inl (.long, 8, .inr (.inl fun k : Nat => q1 (k : Int)))) (hw2 : S1572.1 (a + 2) = .inl (.int, 8, .inl fun k : Nat => iI ((d1 8) (k : Int)))) (hw3 : S1572.1 (a + 3) = .inl (.int, 4, .inl fun k : Nat => iI ((d1 9) (k : Int)))) (hw4 : S1572.1 (a + 4) = .inl (.int, 4, .inl fun k : Nat => iI ((d1 10) (k : Int)))) (hw5 : S1572.1 (a + 5) = .inl (.int, 4, .inl fun k : Nat => iI ((d1 11) (k : Int)))) (hw6 : S1572.1 (a + 6) = .inl (.int, 30, .inl fun k : Nat => iI ((d1 12) (k : Int)))) (hw7 : S1572.1 (a + 7) = .inl (.int, 30, .inl fun k : Nat => iI ((d1 13) (k : Int)))) (hF1571 : X_Fr (fun q => q = 496 ∨ q = 497 ∨ (a ≤ q ∧ q ≤ a + 7)) S S1572) (hi : 0 ≤ i ∧ i ≤ 9) (hr1 : X_wr d1) (hc1 : 0 ≤ c1 ∧ c1 < n) (hR : sp_el n so ct kn kc (9 - i).toNat c1 d1 q1 = sp_el n so ct kn kc 9 cur d q) (hm1570 : 9 - i < m1569), X_T sc 77 (2, [(2, .int (iI i)), (0, .ref 496), (1, .ref a)], [], S1572) Q := by
    intro m1569
    induction m1569 with
    | zero =>
      intro S1572 i c1 d1 q1 hp1 hx1 hw0 hw1 hw2 hw3 hw4 hw5 hw6 hw7 hF1571 hi hr1 hc1 hR hm1570
      exact (show False by omega).elim
    | succ m1569 ih1568 =>
      intro S1572 i c1 d1 q1 hp1 hx1 hw0 hw1 hw2 hw3 hw4 hw5 hw6 hw7 hF1571 hi hr1 hc1 hR hm1570
      obtain ⟨⟨_, _⟩, ⟨_, _⟩, ⟨_, _⟩, ⟨_, _⟩, ⟨_, _⟩, ⟨_, _⟩, ⟨_, _⟩, ⟨_, _⟩⟩ := id hr1
      refine T_p xr_77_2 xn_77 (pc' := 3) (ls' := [(2, .int (iI i)), (0, .ref 496), (1, .ref a)]) (st' := [.int (iI i)]) rfl ?_
      refine T_p xr_77_3 xn_77 (pc' := 5) (ls' := [(2, .int (iI i)), (0, .ref 496), (1, .ref a)]) (st' := [.int (iI 8), .int (iI i)]) rfl ?_
      refine T_zicmp_gt xr_77_5 (t := 169) (pc' := 8) rfl rfl (fun c1573 => ?_) (fun c1573 => ?_)
      · skip
        have c1573 : 8 < i := c1573
        refine T_p xr_77_169 xn_77 (pc' := 170) (ls' := [(2, .int (iI i)), (0, .ref 496), (1, .ref a)]) (st' := [.ref 496]) rfl ?_
        refine T_cv (S := S1572) (q := 496) xr_77_170 xf_67.1 xf_67.2.1 xn_67 (as := []) (r := []) rfl hp1 (Nat.le_of_ble_eq_true rfl) (Nat.le_of_ble_eq_true rfl) (pc' := 173) rfl (ls' := [(0, .ref 496)]) rfl ?_
        have h1583 := (hF1571.1 498 (by first | decide | omega)).trans (hx.2.1)
        have h1584 := (hF1571.1 499 (by first | decide | omega)).trans (hx.2.2.1)
        have h1585 := (hF1571.1 500 (by first | decide | omega)).trans (hx.2.2.2)
        refine T_mono (c_refuse sc S1572 B fl fp at_ n c1 so pl ct hp1 ⟨hx1, h1583, h1584, h1585⟩ (by omega) hso) (fun v1574 S1575 h1576 => ?_)
        obtain ⟨h1577, ⟨fl1578, fp1579, hn1580, hp1581⟩, hf1582⟩ := h1576
        rw [h1577]
        show X_T sc 77 (173, [(2, .int (iI i)), (0, .ref 496), (1, .ref a)], [], S1575) _
        refine T_p xr_77_173 xn_77 (pc' := 174) (ls' := [(2, .int (iI i)), (0, .ref 496), (1, .ref a)]) (st' := [.int (iI 0)]) rfl ?_
        refine T_iret xr_77_174 xf_77.2.2 (by decide) ?_
        refine hQ _ _ ?_
        have h1586 := (hf1582.1 497 (by first | decide | omega)).trans (hx1)
        have h1587 := (hf1582.1 a (by omega)).trans (hw0)
        have h1588 := (hf1582.1 (a + 1) (by omega)).trans (hw1)
        have h1589 := (hf1582.1 (a + 2) (by omega)).trans (hw2)
        have h1590 := (hf1582.1 (a + 3) (by omega)).trans (hw3)
        have h1591 := (hf1582.1 (a + 4) (by omega)).trans (hw4)
        have h1592 := (hf1582.1 (a + 5) (by omega)).trans (hw5)
        have h1593 := (hf1582.1 (a + 6) (by omega)).trans (hw6)
        have h1594 := (hf1582.1 (a + 7) (by omega)).trans (hw7)
        refine Or.inr ⟨rfl, ?_, ⟨_, _, by omega, hp1581⟩, ⟨c1, d1, q1, h1586, by omega, ⟨h1587, h1588, h1589, h1590, h1591, h1592, h1593, h1594⟩, hr1⟩, ((X_Fr.rf).tr (X_Fr.mono ⟨hF1571.1, hF1571.2⟩ (fun q hq => (by omega)))).tr (X_Fr.mono ⟨hf1582.1, hf1582.2⟩ (fun q hq => (by omega)))⟩
        rw [← hR]
        first
          | (rw [sp_el_s (i := i) (by omega)]
             (repeat (first | rw [if_pos (by assumption)] | rw [if_neg (by assumption)]))
             all_goals first | rfl | ((repeat' split) <;> first | rfl | (exfalso; omega)))
          | (rw [show (9 - i).toNat = 0 by omega]; rfl)
      · skip
        have c1573 : ¬ (8 < i) := c1573
        refine T_p xr_77_8 xn_77 (pc' := 9) (ls' := [(2, .int (iI i)), (0, .ref 496), (1, .ref a)]) (st' := [.ref 496]) rfl ?_
        refine T_get xr_77_9 hp1 rfl (v := .ref 497) rfl (pc' := 12) rfl ?_
        refine T_cv (S := S1572) (q := 497) xr_77_12 xf_48.1 xf_48.2.1 xn_48 (as := []) (r := []) rfl hx1 (Nat.le_of_ble_eq_true rfl) (Nat.le_of_ble_eq_true rfl) (pc' := 15) rfl (ls' := [(0, .ref 497)]) rfl ?_
        have h1595 := (hF1571.1 498 (by first | decide | omega)).trans (hx.2.1)
        have h1596 := (hF1571.1 499 (by first | decide | omega)).trans (hx.2.2.1)
        have h1597 := (hF1571.1 500 (by first | decide | omega)).trans (hx.2.2.2)
        refine T_mono (c_sort sc S1572 at_ n c1 so pl ct ⟨hx1, h1595, h1596, h1597⟩ (by omega)) (fun v1599 S1600 h1598 => ?_)
        obtain ⟨h1601, h1602⟩ := h1598
        rw [h1601, h1602]
        show X_T sc 77 (15, [(2, .int (iI i)), (0, .ref 496), (1, .ref a)], [.int (iI (so c1))], S1572) _
        have hs1603 := hso c1 (by omega) (by omega)
        refine T_p xr_77_15 xn_77 (pc' := 17) (ls' := [(2, .int (iI i)), (0, .ref 496), (1, .ref a)]) (st' := [.int (iI 61), .int (iI (so c1))]) rfl ?_
        refine T_zicmp_eq xr_77_17 (t := 32) (pc' := 20) rfl rfl (fun c1604 => ?_) (fun c1604 => ?_)
        · skip
          have c1604 : (so c1) = 61 := c1604
          refine T_p xr_77_32 xn_77 (pc' := 33) (ls' := [(2, .int (iI i)), (0, .ref 496), (1, .ref a)]) (st' := [.int (iI 1)]) rfl ?_
          refine T_iret xr_77_33 xf_77.2.2 (by decide) ?_
          refine hQ _ _ ?_
          refine Or.inl ⟨rfl, c1, d1, q1, ?_, hp1, hx1, by omega, ⟨hw0, hw1, hw2, hw3, hw4, hw5, hw6, hw7⟩, hr1, (X_Fr.rf).tr (X_Fr.mono ⟨hF1571.1, hF1571.2⟩ (fun q hq => (by omega)))⟩
          rw [← hR, sp_el_s (i := i) (by omega)]
          (repeat (first | rw [if_pos (by assumption)] | rw [if_neg (by assumption)]))
          all_goals first | rfl | ((repeat' split) <;> first | rfl | (exfalso; omega))
        · skip
          have c1604 : ¬ ((so c1) = 61) := c1604
          refine T_p xr_77_20 xn_77 (pc' := 21) (ls' := [(2, .int (iI i)), (0, .ref 496), (1, .ref a)]) (st' := [.ref 496]) rfl ?_
          refine T_get xr_77_21 hp1 rfl (v := .ref 497) rfl (pc' := 24) rfl ?_
          refine T_cv (S := S1572) (q := 497) xr_77_24 xf_48.1 xf_48.2.1 xn_48 (as := []) (r := []) rfl hx1 (Nat.le_of_ble_eq_true rfl) (Nat.le_of_ble_eq_true rfl) (pc' := 27) rfl (ls' := [(0, .ref 497)]) rfl ?_
          refine T_mono (c_sort sc S1572 at_ n c1 so pl ct ⟨hx1, h1595, h1596, h1597⟩ (by omega)) (fun v1606 S1607 h1605 => ?_)
          obtain ⟨h1608, h1609⟩ := h1605
          rw [h1608, h1609]
          show X_T sc 77 (27, [(2, .int (iI i)), (0, .ref 496), (1, .ref a)], [.int (iI (so c1))], S1572) _
          have hs1610 := hso c1 (by omega) (by omega)
          refine T_p xr_77_27 xn_77 (pc' := 29) (ls' := [(2, .int (iI i)), (0, .ref 496), (1, .ref a)]) (st' := [.int (iI 59), .int (iI (so c1))]) rfl ?_
          refine T_zicmp_ne xr_77_29 (t := 34) (pc' := 32) rfl rfl (fun c1611 => ?_) (fun c1611 => ?_)
          · skip
            have c1611 : ¬ (so c1) = 59 := c1611
            have J1612 : X_T sc 77 (60, [(2, .int (iI i)), (0, .ref 496), (1, .ref a)], [.int (iI (bI (so c1 = 6 ∧ d1 3 0 < 8)))], S1572) Q := by
              refine T_p xr_77_60 xn_77 (pc' := 61) (ls' := [(3, .int (iI (bI (so c1 = 6 ∧ d1 3 0 < 8)))), (2, .int (iI i)), (0, .ref 496), (1, .ref a)]) (st' := []) rfl ?_
              have J1613 : X_T sc 77 (85, [(3, .int (iI (bI (so c1 = 6 ∧ d1 3 0 < 8)))), (2, .int (iI i)), (0, .ref 496), (1, .ref a)], [.int (iI (bI (so c1 = 95 ∧ (d1 3 0 < 8 ∧ d1 4 0 < 4 ∧ ¬ X_hl d1 q1 (d1 3 0 - 1)))))], S1572) Q := by
                refine T_p xr_77_85 xn_77 (pc' := 87) (ls' := [(4, .int (iI (bI (so c1 = 95 ∧ (d1 3 0 < 8 ∧ d1 4 0 < 4 ∧ ¬ X_hl d1 q1 (d1 3 0 - 1)))))), (3, .int (iI (bI (so c1 = 6 ∧ d1 3 0 < 8)))), (2, .int (iI i)), (0, .ref 496), (1, .ref a)]) (st' := []) rfl ?_
                refine T_p xr_77_87 xn_77 (pc' := 88) (ls' := [(4, .int (iI (bI (so c1 = 95 ∧ (d1 3 0 < 8 ∧ d1 4 0 < 4 ∧ ¬ X_hl d1 q1 (d1 3 0 - 1)))))), (3, .int (iI (bI (so c1 = 6 ∧ d1 3 0 < 8)))), (2, .int (iI i)), (0, .ref 496), (1, .ref a)]) (st' := [.int (iI (bI (so c1 = 6 ∧ d1 3 0 < 8)))]) rfl ?_
                refine T_bif_ne xr_77_88 (t := 99) (pc' := 91) rfl rfl (fun c1614 => ?_) (fun c1614 => ?_)
                · skip
                  have c1614 : (so c1 = 6 ∧ d1 3 0 < 8) := c1614
                  refine T_p xr_77_99 xn_77 (pc' := 100) (ls' := [(4, .int (iI (bI (so c1 = 95 ∧ (d1 3 0 < 8 ∧ d1 4 0 < 4 ∧ ¬ X_hl d1 q1 (d1 3 0 - 1)))))), (3, .int (iI (bI (so c1 = 6 ∧ d1 3 0 < 8)))), (2, .int (iI i)), (0, .ref 496), (1, .ref a)]) (st' := [.ref 496]) rfl ?_
                  refine T_get xr_77_100 hp1 rfl (v := .ref 497) rfl (pc' := 103) rfl ?_
                  refine T_cv (S := S1572) (q := 497) xr_77_103 xf_50.1 xf_50.2.1 xn_50 (as := []) (r := []) rfl hx1 (Nat.le_of_ble_eq_true rfl) (Nat.le_of_ble_eq_true rfl) (pc' := 106) rfl (ls' := [(0, .ref 497)]) rfl ?_
                  refine T_mono (c_content sc S1572 at_ n c1 so pl ct ⟨hx1, h1595, h1596, h1597⟩ (by omega)) (fun v1616 S1617 h1615 => ?_)
                  obtain ⟨h1618, h1619⟩ := h1615
                  rw [h1618, h1619]
                  show X_T sc 77 (106, [(4, .int (iI (bI (so c1 = 95 ∧ (d1 3 0 < 8 ∧ d1 4 0 < 4 ∧ ¬ X_hl d1 q1 (d1 3 0 - 1)))))), (3, .int (iI (bI (so c1 = 6 ∧ d1 3 0 < 8)))), (2, .int (iI i)), (0, .ref 496), (1, .ref a)], [.long (ct c1)], S1572) _
                  refine T_p xr_77_106 xn_77 (pc' := 108) (ls' := [(5, .long (ct c1)), (4, .int (iI (bI (so c1 = 95 ∧ (d1 3 0 < 8 ∧ d1 4 0 < 4 ∧ ¬ X_hl d1 q1 (d1 3 0 - 1)))))), (3, .int (iI (bI (so c1 = 6 ∧ d1 3 0 < 8)))), (2, .int (iI i)), (0, .ref 496), (1, .ref a)]) (st' := []) rfl ?_
                  refine T_p xr_77_108 xn_77 (pc' := 109) (ls' := [(5, .long (ct c1)), (4, .int (iI (bI (so c1 = 95 ∧ (d1 3 0 < 8 ∧ d1 4 0 < 4 ∧ ¬ X_hl d1 q1 (d1 3 0 - 1)))))), (3, .int (iI (bI (so c1 = 6 ∧ d1 3 0 < 8)))), (2, .int (iI i)), (0, .ref 496), (1, .ref a)]) (st' := [.ref 496]) rfl ?_
                  refine T_get xr_77_109 hp1 rfl (v := .ref 497) rfl (pc' := 112) rfl ?_
                  refine T_cv (S := S1572) (q := 497) xr_77_112 xf_52.1 xf_52.2.1 xn_52 (as := []) (r := []) rfl hx1 (Nat.le_of_ble_eq_true rfl) (Nat.le_of_ble_eq_true rfl) (pc' := 115) rfl (ls' := [(0, .ref 497)]) rfl ?_
                  refine T_mono (c_advance sc S1572 at_ n c1 so pl ct ⟨hx1, h1595, h1596, h1597⟩ (by omega)) (fun v1621 S1622 h1620 => ?_)
                  obtain ⟨h1623, h1625, h1624⟩ := h1620
                  rw [h1623]
                  show X_T sc 77 (115, [(5, .long (ct c1)), (4, .int (iI (bI (so c1 = 95 ∧ (d1 3 0 < 8 ∧ d1 4 0 < 4 ∧ ¬ X_hl d1 q1 (d1 3 0 - 1)))))), (3, .int (iI (bI (so c1 = 6 ∧ d1 3 0 < 8)))), (2, .int (iI i)), (0, .ref 496), (1, .ref a)], [], S1622) _
                  have hv1626 := X_av_r (n := n) (c := c1) (by omega)
                  refine T_p xr_77_115 xn_77 (pc' := 116) (ls' := [(5, .long (ct c1)), (4, .int (iI (bI (so c1 = 95 ∧ (d1 3 0 < 8 ∧ d1 4 0 < 4 ∧ ¬ X_hl d1 q1 (d1 3 0 - 1)))))), (3, .int (iI (bI (so c1 = 6 ∧ d1 3 0 < 8)))), (2, .int (iI i)), (0, .ref 496), (1, .ref a)]) (st' := [.int (iI (bI (so c1 = 6 ∧ d1 3 0 < 8)))]) rfl ?_
                  refine T_bif_eq xr_77_116 (t := 128) (pc' := 119) rfl rfl (fun c1627 => ?_) (fun c1627 => ?_)
                  · skip
                    have c1627 : ¬ (so c1 = 6 ∧ d1 3 0 < 8) := c1627
                    exact (show False by first | contradiction | omega).elim
                  · skip
                    have c1627 : (so c1 = 6 ∧ d1 3 0 < 8) := c1627
                    refine T_p xr_77_119 xn_77 (pc' := 120) (ls' := [(5, .long (ct c1)), (4, .int (iI (bI (so c1 = 95 ∧ (d1 3 0 < 8 ∧ d1 4 0 < 4 ∧ ¬ X_hl d1 q1 (d1 3 0 - 1)))))), (3, .int (iI (bI (so c1 = 6 ∧ d1 3 0 < 8)))), (2, .int (iI i)), (0, .ref 496), (1, .ref a)]) (st' := [.ref a]) rfl ?_
                    refine T_p xr_77_120 xn_77 (pc' := 122) (ls' := [(5, .long (ct c1)), (4, .int (iI (bI (so c1 = 95 ∧ (d1 3 0 < 8 ∧ d1 4 0 < 4 ∧ ¬ X_hl d1 q1 (d1 3 0 - 1)))))), (3, .int (iI (bI (so c1 = 6 ∧ d1 3 0 < 8)))), (2, .int (iI i)), (0, .ref 496), (1, .ref a)]) (st' := [.long (ct c1), .ref a]) rfl ?_
                    have h1628 := (h1624.1 a (by omega)).trans (hw0)
                    refine T_cv (S := S1622) (q := a) xr_77_122 xf_96.1 xf_96.2.1 xn_96 (as := [.long (ct c1)]) (r := []) rfl h1628 (Nat.le_of_ble_eq_true rfl) (Nat.le_of_ble_eq_true rfl) (pc' := 125) rfl (ls' := [(0, .ref a), (1, .long (ct c1))]) rfl ?_
                    have hr1635 : X_wr (X_aP d1) := X_wr_P hr1 (by omega)
                    have h1636 := (h1624.1 (a + 1) (by omega)).trans (hw1)
                    have h1637 := (h1624.1 (a + 2) (by omega)).trans (hw2)
                    have h1638 := (h1624.1 (a + 3) (by omega)).trans (hw3)
                    have h1639 := (h1624.1 (a + 4) (by omega)).trans (hw4)
                    have h1640 := (h1624.1 (a + 5) (by omega)).trans (hw5)
                    have h1641 := (h1624.1 (a + 6) (by omega)).trans (hw6)
                    have h1642 := (h1624.1 (a + 7) (by omega)).trans (hw7)
                    refine T_mono (c_addPart sc S1622 a d1 q1 (ct c1) ⟨h1628, h1636, h1637, h1638, h1639, h1640, h1641, h1642⟩ hr1 (by omega)) (fun v1629 S1630 h1631 => ?_)
                    obtain ⟨h1632, hw1633, hf1634⟩ := h1631
                    rw [h1632]
                    have hw1633 : C_wd S1630 a (X_aP d1) (X_ug q1 (d1 3 0) (ct c1)) := hw1633
                    show X_T sc 77 (125, [(5, .long (ct c1)), (4, .int (iI (bI (so c1 = 95 ∧ (d1 3 0 < 8 ∧ d1 4 0 < 4 ∧ ¬ X_hl d1 q1 (d1 3 0 - 1)))))), (3, .int (iI (bI (so c1 = 6 ∧ d1 3 0 < 8)))), (2, .int (iI i)), (0, .ref 496), (1, .ref a)], [], S1630) _
                    refine T_p xr_77_125 xn_77 (pc' := 163) (ls' := [(5, .long (ct c1)), (4, .int (iI (bI (so c1 = 95 ∧ (d1 3 0 < 8 ∧ d1 4 0 < 4 ∧ ¬ X_hl d1 q1 (d1 3 0 - 1)))))), (3, .int (iI (bI (so c1 = 6 ∧ d1 3 0 < 8)))), (2, .int (iI i)), (0, .ref 496), (1, .ref a)]) (st' := []) rfl ?_
                    refine T_ziinc xr_77_163 xn_77 (a := i) (z := i + 1) rfl (Nat.le_of_ble_eq_true rfl) (by omega) (ls' := [(2, .int (iI (i + 1))), (5, .long (ct c1)), (4, .int (iI (bI (so c1 = 95 ∧ (d1 3 0 < 8 ∧ d1 4 0 < 4 ∧ ¬ X_hl d1 q1 (d1 3 0 - 1)))))), (3, .int (iI (bI (so c1 = 6 ∧ d1 3 0 < 8)))), (0, .ref 496), (1, .ref a)]) rfl (pc' := 166) rfl ?_
                    refine T_p xr_77_166 xn_77 (pc' := 2) (ls' := [(2, .int (iI (i + 1))), (5, .long (ct c1)), (4, .int (iI (bI (so c1 = 95 ∧ (d1 3 0 < 8 ∧ d1 4 0 < 4 ∧ ¬ X_hl d1 q1 (d1 3 0 - 1)))))), (3, .int (iI (bI (so c1 = 6 ∧ d1 3 0 < 8)))), (0, .ref 496), (1, .ref a)]) (st' := []) rfl ?_
                    have h1643 := (hf1634.1 497 (by first | decide | omega)).trans (h1625)
                    have h1644 := (hf1634.1 496 (by first | decide | omega)).trans ((h1624.1 496 (by first | decide | omega)).trans (hp1))
                    refine T_sub (ls := [(2, .int (iI (i + 1))), (0, .ref 496), (1, .ref a)]) ⟨rfl, rfl, rfl, trivial⟩ rfl rfl ?_
                    exact ih1568 S1630 (i + 1) (X_av n c1) (X_aP d1) (X_ug q1 (d1 3 0) (ct c1)) h1644 h1643 hw1633.1 hw1633.2.1 hw1633.2.2.1 hw1633.2.2.2.1 hw1633.2.2.2.2.1 hw1633.2.2.2.2.2.1 hw1633.2.2.2.2.2.2.1 hw1633.2.2.2.2.2.2.2 (hF1571.tr (((X_Fr.rf).tr (X_Fr.mono ⟨h1624.1, h1624.2⟩ (fun q hq => (by omega)))).tr (X_Fr.mono ⟨hf1634.1, hf1634.2⟩ (fun q hq => (by omega))))) (by omega) hr1635 (by omega) (by
                          rw [← hR, sp_el_s (i := i) (by omega)]
                          (repeat (first | rw [if_pos (by assumption)] | rw [if_neg (by assumption)]))
                          all_goals rfl) (by omega)
                · skip
                  have c1614 : ¬ (so c1 = 6 ∧ d1 3 0 < 8) := c1614
                  refine T_p xr_77_91 xn_77 (pc' := 93) (ls' := [(4, .int (iI (bI (so c1 = 95 ∧ (d1 3 0 < 8 ∧ d1 4 0 < 4 ∧ ¬ X_hl d1 q1 (d1 3 0 - 1)))))), (3, .int (iI (bI (so c1 = 6 ∧ d1 3 0 < 8)))), (2, .int (iI i)), (0, .ref 496), (1, .ref a)]) (st' := [.int (iI (bI (so c1 = 95 ∧ (d1 3 0 < 8 ∧ d1 4 0 < 4 ∧ ¬ X_hl d1 q1 (d1 3 0 - 1)))))]) rfl ?_
                  refine T_bif_ne xr_77_93 (t := 99) (pc' := 96) rfl rfl (fun c1645 => ?_) (fun c1645 => ?_)
                  · skip
                    have c1645 : (so c1 = 95 ∧ (d1 3 0 < 8 ∧ d1 4 0 < 4 ∧ ¬ X_hl d1 q1 (d1 3 0 - 1))) := c1645
                    refine T_p xr_77_99 xn_77 (pc' := 100) (ls' := [(4, .int (iI (bI (so c1 = 95 ∧ (d1 3 0 < 8 ∧ d1 4 0 < 4 ∧ ¬ X_hl d1 q1 (d1 3 0 - 1)))))), (3, .int (iI (bI (so c1 = 6 ∧ d1 3 0 < 8)))), (2, .int (iI i)), (0, .ref 496), (1, .ref a)]) (st' := [.ref 496]) rfl ?_
                    refine T_get xr_77_100 hp1 rfl (v := .ref 497) rfl (pc' := 103) rfl ?_
                    refine T_cv (S := S1572) (q := 497) xr_77_103 xf_50.1 xf_50.2.1 xn_50 (as := []) (r := []) rfl hx1 (Nat.le_of_ble_eq_true rfl) (Nat.le_of_ble_eq_true rfl) (pc' := 106) rfl (ls' := [(0, .ref 497)]) rfl ?_
                    refine T_mono (c_content sc S1572 at_ n c1 so pl ct ⟨hx1, h1595, h1596, h1597⟩ (by omega)) (fun v1647 S1648 h1646 => ?_)
                    obtain ⟨h1649, h1650⟩ := h1646
                    rw [h1649, h1650]
                    show X_T sc 77 (106, [(4, .int (iI (bI (so c1 = 95 ∧ (d1 3 0 < 8 ∧ d1 4 0 < 4 ∧ ¬ X_hl d1 q1 (d1 3 0 - 1)))))), (3, .int (iI (bI (so c1 = 6 ∧ d1 3 0 < 8)))), (2, .int (iI i)), (0, .ref 496), (1, .ref a)], [.long (ct c1)], S1572) _
                    refine T_p xr_77_106 xn_77 (pc' := 108) (ls' := [(5, .long (ct c1)), (4, .int (iI (bI (so c1 = 95 ∧ (d1 3 0 < 8 ∧ d1 4 0 < 4 ∧ ¬ X_hl d1 q1 (d1 3 0 - 1)))))), (3, .int (iI (bI (so c1 = 6 ∧ d1 3 0 < 8)))), (2, .int (iI i)), (0, .ref 496), (1, .ref a)]) (st' := []) rfl ?_
                    refine T_p xr_77_108 xn_77 (pc' := 109) (ls' := [(5, .long (ct c1)), (4, .int (iI (bI (so c1 = 95 ∧ (d1 3 0 < 8 ∧ d1 4 0 < 4 ∧ ¬ X_hl d1 q1 (d1 3 0 - 1)))))), (3, .int (iI (bI (so c1 = 6 ∧ d1 3 0 < 8)))), (2, .int (iI i)), (0, .ref 496), (1, .ref a)]) (st' := [.ref 496]) rfl ?_
                    refine T_get xr_77_109 hp1 rfl (v := .ref 497) rfl (pc' := 112) rfl ?_
                    refine T_cv (S := S1572) (q := 497) xr_77_112 xf_52.1 xf_52.2.1 xn_52 (as := []) (r := []) rfl hx1 (Nat.le_of_ble_eq_true rfl) (Nat.le_of_ble_eq_true rfl) (pc' := 115) rfl (ls' := [(0, .ref 497)]) rfl ?_
                    refine T_mono (c_advance sc S1572 at_ n c1 so pl ct ⟨hx1, h1595, h1596, h1597⟩ (by omega)) (fun v1652 S1653 h1651 => ?_)
                    obtain ⟨h1654, h1656, h1655⟩ := h1651
                    rw [h1654]
                    show X_T sc 77 (115, [(5, .long (ct c1)), (4, .int (iI (bI (so c1 = 95 ∧ (d1 3 0 < 8 ∧ d1 4 0 < 4 ∧ ¬ X_hl d1 q1 (d1 3 0 - 1)))))), (3, .int (iI (bI (so c1 = 6 ∧ d1 3 0 < 8)))), (2, .int (iI i)), (0, .ref 496), (1, .ref a)], [], S1653) _
                    have hv1657 := X_av_r (n := n) (c := c1) (by omega)
                    refine T_p xr_77_115 xn_77 (pc' := 116) (ls' := [(5, .long (ct c1)), (4, .int (iI (bI (so c1 = 95 ∧ (d1 3 0 < 8 ∧ d1 4 0 < 4 ∧ ¬ X_hl d1 q1 (d1 3 0 - 1)))))), (3, .int (iI (bI (so c1 = 6 ∧ d1 3 0 < 8)))), (2, .int (iI i)), (0, .ref 496), (1, .ref a)]) (st' := [.int (iI (bI (so c1 = 6 ∧ d1 3 0 < 8)))]) rfl ?_
                    refine T_bif_eq xr_77_116 (t := 128) (pc' := 119) rfl rfl (fun c1658 => ?_) (fun c1658 => ?_)
                    · skip
                      have c1658 : ¬ (so c1 = 6 ∧ d1 3 0 < 8) := c1658
                      refine T_p xr_77_128 xn_77 (pc' := 129) (ls' := [(5, .long (ct c1)), (4, .int (iI (bI (so c1 = 95 ∧ (d1 3 0 < 8 ∧ d1 4 0 < 4 ∧ ¬ X_hl d1 q1 (d1 3 0 - 1)))))), (3, .int (iI (bI (so c1 = 6 ∧ d1 3 0 < 8)))), (2, .int (iI i)), (0, .ref 496), (1, .ref a)]) (st' := [.ref 496]) rfl ?_
                      have h1659 := (h1655.1 496 (by first | decide | omega)).trans (hp1)
                      refine T_get xr_77_129 h1659 rfl (v := .ref 497) rfl (pc' := 132) rfl ?_
                      refine T_cv (S := S1653) (q := 497) xr_77_132 xf_48.1 xf_48.2.1 xn_48 (as := []) (r := []) rfl h1656 (Nat.le_of_ble_eq_true rfl) (Nat.le_of_ble_eq_true rfl) (pc' := 135) rfl (ls' := [(0, .ref 497)]) rfl ?_
                      have h1660 := (h1655.1 498 (by first | decide | omega)).trans (h1595)
                      have h1661 := (h1655.1 499 (by first | decide | omega)).trans (h1596)
                      have h1662 := (h1655.1 500 (by first | decide | omega)).trans (h1597)
                      refine T_mono (c_sort sc S1653 at_ n (X_av n c1) so pl ct ⟨h1656, h1660, h1661, h1662⟩ (by omega)) (fun v1664 S1665 h1663 => ?_)
                      obtain ⟨h1666, h1667⟩ := h1663
                      rw [h1666, h1667]
                      show X_T sc 77 (135, [(5, .long (ct c1)), (4, .int (iI (bI (so c1 = 95 ∧ (d1 3 0 < 8 ∧ d1 4 0 < 4 ∧ ¬ X_hl d1 q1 (d1 3 0 - 1)))))), (3, .int (iI (bI (so c1 = 6 ∧ d1 3 0 < 8)))), (2, .int (iI i)), (0, .ref 496), (1, .ref a)], [.int (iI (so (X_av n c1)))], S1653) _
                      have hs1668 := hso (X_av n c1) (by omega) (by omega)
                      refine T_p xr_77_135 xn_77 (pc' := 136) (ls' := [(5, .long (ct c1)), (4, .int (iI (bI (so c1 = 95 ∧ (d1 3 0 < 8 ∧ d1 4 0 < 4 ∧ ¬ X_hl d1 q1 (d1 3 0 - 1)))))), (3, .int (iI (bI (so c1 = 6 ∧ d1 3 0 < 8)))), (2, .int (iI i)), (0, .ref 496), (1, .ref a)]) (st' := [.int (iI 2), .int (iI (so (X_av n c1)))]) rfl ?_
                      refine T_zicmp_ne xr_77_136 (t := 146) (pc' := 139) rfl rfl (fun c1669 => ?_) (fun c1669 => ?_)
                      · skip
                        have c1669 : ¬ (so (X_av n c1)) = 2 := c1669
                        refine T_p xr_77_146 xn_77 (pc' := 147) (ls' := [(5, .long (ct c1)), (4, .int (iI (bI (so c1 = 95 ∧ (d1 3 0 < 8 ∧ d1 4 0 < 4 ∧ ¬ X_hl d1 q1 (d1 3 0 - 1)))))), (3, .int (iI (bI (so c1 = 6 ∧ d1 3 0 < 8)))), (2, .int (iI i)), (0, .ref 496), (1, .ref a)]) (st' := [.int (iI 0)]) rfl ?_
                        refine T_p xr_77_147 xn_77 (pc' := 149) (ls' := [(7, .int (iI 0)), (5, .long (ct c1)), (4, .int (iI (bI (so c1 = 95 ∧ (d1 3 0 < 8 ∧ d1 4 0 < 4 ∧ ¬ X_hl d1 q1 (d1 3 0 - 1)))))), (3, .int (iI (bI (so c1 = 6 ∧ d1 3 0 < 8)))), (2, .int (iI i)), (0, .ref 496), (1, .ref a)]) (st' := []) rfl ?_
                        refine T_p xr_77_149 xn_77 (pc' := 151) (ls' := [(7, .int (iI 0)), (5, .long (ct c1)), (4, .int (iI (bI (so c1 = 95 ∧ (d1 3 0 < 8 ∧ d1 4 0 < 4 ∧ ¬ X_hl d1 q1 (d1 3 0 - 1)))))), (3, .int (iI (bI (so c1 = 6 ∧ d1 3 0 < 8)))), (2, .int (iI i)), (0, .ref 496), (1, .ref a)]) (st' := [.int (iI 0)]) rfl ?_
                        refine T_p xr_77_151 xn_77 (pc' := 152) (ls' := [(7, .int (iI 0)), (5, .long (ct c1)), (4, .int (iI (bI (so c1 = 95 ∧ (d1 3 0 < 8 ∧ d1 4 0 < 4 ∧ ¬ X_hl d1 q1 (d1 3 0 - 1)))))), (3, .int (iI (bI (so c1 = 6 ∧ d1 3 0 < 8)))), (2, .int (iI i)), (0, .ref 496), (1, .ref a)]) (st' := [.int (iI (-1)), .int (iI 0)]) rfl ?_
                        refine T_zicmp_net xr_77_152 (t := 157) rfl (by decide) ?_
                        refine T_p xr_77_157 xn_77 (pc' := 158) (ls' := [(7, .int (iI 0)), (5, .long (ct c1)), (4, .int (iI (bI (so c1 = 95 ∧ (d1 3 0 < 8 ∧ d1 4 0 < 4 ∧ ¬ X_hl d1 q1 (d1 3 0 - 1)))))), (3, .int (iI (bI (so c1 = 6 ∧ d1 3 0 < 8)))), (2, .int (iI i)), (0, .ref 496), (1, .ref a)]) (st' := [.ref a]) rfl ?_
                        refine T_p xr_77_158 xn_77 (pc' := 160) (ls' := [(7, .int (iI 0)), (5, .long (ct c1)), (4, .int (iI (bI (so c1 = 95 ∧ (d1 3 0 < 8 ∧ d1 4 0 < 4 ∧ ¬ X_hl d1 q1 (d1 3 0 - 1)))))), (3, .int (iI (bI (so c1 = 6 ∧ d1 3 0 < 8)))), (2, .int (iI i)), (0, .ref 496), (1, .ref a)]) (st' := [.int (iI 0), .ref a]) rfl ?_
                        have h1670 := (h1655.1 a (by omega)).trans (hw0)
                        refine T_cv (S := S1653) (q := a) xr_77_160 xf_98.1 xf_98.2.1 xn_98 (as := [.int (iI 0)]) (r := []) rfl h1670 (Nat.le_of_ble_eq_true rfl) (Nat.le_of_ble_eq_true rfl) (pc' := 163) rfl (ls' := [(0, .ref a), (1, .int (iI 0))]) rfl ?_
                        have hr1677 : X_wr (X_aH d1 0) := X_wr_H hr1 (by omega) (by omega)
                        have h1678 := (h1655.1 (a + 1) (by omega)).trans (hw1)
                        have h1679 := (h1655.1 (a + 2) (by omega)).trans (hw2)
                        have h1680 := (h1655.1 (a + 3) (by omega)).trans (hw3)
                        have h1681 := (h1655.1 (a + 4) (by omega)).trans (hw4)
                        have h1682 := (h1655.1 (a + 5) (by omega)).trans (hw5)
                        have h1683 := (h1655.1 (a + 6) (by omega)).trans (hw6)
                        have h1684 := (h1655.1 (a + 7) (by omega)).trans (hw7)
                        refine T_mono (c_addHole sc S1653 a d1 q1 0 ⟨h1670, h1678, h1679, h1680, h1681, h1682, h1683, h1684⟩ hr1 (by omega) (by omega)) (fun v1671 S1672 h1673 => ?_)
                        obtain ⟨h1674, hw1675, hf1676⟩ := h1673
                        rw [h1674]
                        have hw1675 : C_wd S1672 a (X_aH d1 0) (X_ug q1 (d1 3 0) 0) := hw1675
                        show X_T sc 77 (163, [(7, .int (iI 0)), (5, .long (ct c1)), (4, .int (iI (bI (so c1 = 95 ∧ (d1 3 0 < 8 ∧ d1 4 0 < 4 ∧ ¬ X_hl d1 q1 (d1 3 0 - 1)))))), (3, .int (iI (bI (so c1 = 6 ∧ d1 3 0 < 8)))), (2, .int (iI i)), (0, .ref 496), (1, .ref a)], [], S1672) _
                        refine T_ziinc xr_77_163 xn_77 (a := i) (z := i + 1) rfl (Nat.le_of_ble_eq_true rfl) (by omega) (ls' := [(2, .int (iI (i + 1))), (7, .int (iI 0)), (5, .long (ct c1)), (4, .int (iI (bI (so c1 = 95 ∧ (d1 3 0 < 8 ∧ d1 4 0 < 4 ∧ ¬ X_hl d1 q1 (d1 3 0 - 1)))))), (3, .int (iI (bI (so c1 = 6 ∧ d1 3 0 < 8)))), (0, .ref 496), (1, .ref a)]) rfl (pc' := 166) rfl ?_
                        refine T_p xr_77_166 xn_77 (pc' := 2) (ls' := [(2, .int (iI (i + 1))), (7, .int (iI 0)), (5, .long (ct c1)), (4, .int (iI (bI (so c1 = 95 ∧ (d1 3 0 < 8 ∧ d1 4 0 < 4 ∧ ¬ X_hl d1 q1 (d1 3 0 - 1)))))), (3, .int (iI (bI (so c1 = 6 ∧ d1 3 0 < 8)))), (0, .ref 496), (1, .ref a)]) (st' := []) rfl ?_
                        have h1685 := (hf1676.1 497 (by first | decide | omega)).trans (h1656)
                        have h1686 := (hf1676.1 496 (by first | decide | omega)).trans (h1659)
                        refine T_sub (ls := [(2, .int (iI (i + 1))), (0, .ref 496), (1, .ref a)]) ⟨rfl, rfl, rfl, trivial⟩ rfl rfl ?_
                        exact ih1568 S1672 (i + 1) (X_av n c1) (X_aH d1 0) (X_ug q1 (d1 3 0) 0) h1686 h1685 hw1675.1 hw1675.2.1 hw1675.2.2.1 hw1675.2.2.2.1 hw1675.2.2.2.2.1 hw1675.2.2.2.2.2.1 hw1675.2.2.2.2.2.2.1 hw1675.2.2.2.2.2.2.2 (hF1571.tr (((X_Fr.rf).tr (X_Fr.mono ⟨h1655.1, h1655.2⟩ (fun q hq => (by omega)))).tr (X_Fr.mono ⟨hf1676.1, hf1676.2⟩ (fun q hq => (by omega))))) (by omega) hr1677 (by omega) (by
                              rw [← hR, sp_el_s (i := i) (by omega)]
                              (repeat (first | rw [if_pos (by assumption)] | rw [if_neg (by assumption)]))
                              all_goals rfl) (by omega)
                      · skip
                        have c1669 : ¬ (¬ (so (X_av n c1)) = 2) := c1669
                        refine T_p xr_77_139 xn_77 (pc' := 140) (ls' := [(5, .long (ct c1)), (4, .int (iI (bI (so c1 = 95 ∧ (d1 3 0 < 8 ∧ d1 4 0 < 4 ∧ ¬ X_hl d1 q1 (d1 3 0 - 1)))))), (3, .int (iI (bI (so c1 = 6 ∧ d1 3 0 < 8)))), (2, .int (iI i)), (0, .ref 496), (1, .ref a)]) (st' := [.ref 496]) rfl ?_
                        refine T_cv (S := S1653) (q := 496) xr_77_140 xf_73.1 xf_73.2.1 xn_73 (as := []) (r := []) rfl h1659 (Nat.le_of_ble_eq_true rfl) (Nat.le_of_ble_eq_true rfl) (pc' := 143) rfl (ls' := [(0, .ref 496)]) rfl ?_
                        have h1687 := (h1655.1 B (by omega)).trans ((hF1571.1 B (by omega)).trans (hb0))
                        have h1688 := (h1655.1 (B + 3) (by omega)).trans ((hF1571.1 (B + 3) (by omega)).trans (hb3))
                        have h1694 := (h1655.1 (B + 1) (by omega)).trans ((hF1571.1 (B + 1) (by omega)).trans (hb1))
                        have h1695 := (h1655.1 (B + 2) (by omega)).trans ((hF1571.1 (B + 2) (by omega)).trans (hb2))
                        have h1696 := (h1655.1 (B + 4) (by omega)).trans ((hF1571.1 (B + 4) (by omega)).trans (hb4))
                        have h1697 := (h1655.1 (B + 5) (by omega)).trans ((hF1571.1 (B + 5) (by omega)).trans (hb5))
                        have hb1698 : C_bk S1653 B rc kc wc rn lo kn ab := ⟨h1687, h1694, h1695, h1688, h1696, ⟨f, h1697, hf⟩, ⟨by omega, by omega⟩, ⟨by omega, by omega⟩, ⟨by omega, by omega⟩⟩
                        refine T_mono (c_passKind sc S1653 B fl fp at_ n (X_av n c1) so pl ct rc kc wc rn lo kn ab h1659 ⟨h1656, h1660, h1661, h1662⟩ (by omega) hso hB hb1698) (fun v1700 S1701 h1702 => ?_)
                        rcases h1702 with ⟨h1689, h1690, h1691, h1692, hp1703, hl1704, hf1705⟩ | ⟨h1689, h1693, ⟨fl1706, fp1707, hn1708, hp1703⟩, hl1704, hf1705⟩
                        · skip
                          rw [h1689]
                          have hv1699 := X_av_r (n := n) (c := (X_av n c1)) (by omega)
                          show X_T sc 77 (143, [(5, .long (ct c1)), (4, .int (iI (bI (so c1 = 95 ∧ (d1 3 0 < 8 ∧ d1 4 0 < 4 ∧ ¬ X_hl d1 q1 (d1 3 0 - 1)))))), (3, .int (iI (bI (so c1 = 6 ∧ d1 3 0 < 8)))), (2, .int (iI i)), (0, .ref 496), (1, .ref a)], [.int (iI (X_ix kn kc (ct (X_av n c1))))], S1701) _
                          refine T_p xr_77_143 xn_77 (pc' := 147) (ls' := [(5, .long (ct c1)), (4, .int (iI (bI (so c1 = 95 ∧ (d1 3 0 < 8 ∧ d1 4 0 < 4 ∧ ¬ X_hl d1 q1 (d1 3 0 - 1)))))), (3, .int (iI (bI (so c1 = 6 ∧ d1 3 0 < 8)))), (2, .int (iI i)), (0, .ref 496), (1, .ref a)]) (st' := [.int (iI (X_ix kn kc (ct (X_av n c1))))]) rfl ?_
                          refine T_p xr_77_147 xn_77 (pc' := 149) (ls' := [(7, .int (iI (X_ix kn kc (ct (X_av n c1))))), (5, .long (ct c1)), (4, .int (iI (bI (so c1 = 95 ∧ (d1 3 0 < 8 ∧ d1 4 0 < 4 ∧ ¬ X_hl d1 q1 (d1 3 0 - 1)))))), (3, .int (iI (bI (so c1 = 6 ∧ d1 3 0 < 8)))), (2, .int (iI i)), (0, .ref 496), (1, .ref a)]) (st' := []) rfl ?_
                          refine T_p xr_77_149 xn_77 (pc' := 151) (ls' := [(7, .int (iI (X_ix kn kc (ct (X_av n c1))))), (5, .long (ct c1)), (4, .int (iI (bI (so c1 = 95 ∧ (d1 3 0 < 8 ∧ d1 4 0 < 4 ∧ ¬ X_hl d1 q1 (d1 3 0 - 1)))))), (3, .int (iI (bI (so c1 = 6 ∧ d1 3 0 < 8)))), (2, .int (iI i)), (0, .ref 496), (1, .ref a)]) (st' := [.int (iI (X_ix kn kc (ct (X_av n c1))))]) rfl ?_
                          refine T_p xr_77_151 xn_77 (pc' := 152) (ls' := [(7, .int (iI (X_ix kn kc (ct (X_av n c1))))), (5, .long (ct c1)), (4, .int (iI (bI (so c1 = 95 ∧ (d1 3 0 < 8 ∧ d1 4 0 < 4 ∧ ¬ X_hl d1 q1 (d1 3 0 - 1)))))), (3, .int (iI (bI (so c1 = 6 ∧ d1 3 0 < 8)))), (2, .int (iI i)), (0, .ref 496), (1, .ref a)]) (st' := [.int (iI (-1)), .int (iI (X_ix kn kc (ct (X_av n c1))))]) rfl ?_
                          refine T_zicmp_ne xr_77_152 (t := 157) (pc' := 155) rfl rfl (fun c1709 => ?_) (fun c1709 => ?_)
                          · skip
                            have c1709 : ¬ (X_ix kn kc (ct (X_av n c1))) = (-1) := c1709
                            refine T_p xr_77_157 xn_77 (pc' := 158) (ls' := [(7, .int (iI (X_ix kn kc (ct (X_av n c1))))), (5, .long (ct c1)), (4, .int (iI (bI (so c1 = 95 ∧ (d1 3 0 < 8 ∧ d1 4 0 < 4 ∧ ¬ X_hl d1 q1 (d1 3 0 - 1)))))), (3, .int (iI (bI (so c1 = 6 ∧ d1 3 0 < 8)))), (2, .int (iI i)), (0, .ref 496), (1, .ref a)]) (st' := [.ref a]) rfl ?_
                            refine T_p xr_77_158 xn_77 (pc' := 160) (ls' := [(7, .int (iI (X_ix kn kc (ct (X_av n c1))))), (5, .long (ct c1)), (4, .int (iI (bI (so c1 = 95 ∧ (d1 3 0 < 8 ∧ d1 4 0 < 4 ∧ ¬ X_hl d1 q1 (d1 3 0 - 1)))))), (3, .int (iI (bI (so c1 = 6 ∧ d1 3 0 < 8)))), (2, .int (iI i)), (0, .ref 496), (1, .ref a)]) (st' := [.int (iI (X_ix kn kc (ct (X_av n c1)))), .ref a]) rfl ?_
                            have h1710 := (hf1705.1 a (by omega)).trans ((h1655.1 a (by omega)).trans (hw0))
                            refine T_cv (S := S1701) (q := a) xr_77_160 xf_98.1 xf_98.2.1 xn_98 (as := [.int (iI (X_ix kn kc (ct (X_av n c1))))]) (r := []) rfl h1710 (Nat.le_of_ble_eq_true rfl) (Nat.le_of_ble_eq_true rfl) (pc' := 163) rfl (ls' := [(0, .ref a), (1, .int (iI (X_ix kn kc (ct (X_av n c1)))))]) rfl ?_
                            have hr1717 : X_wr (X_aH d1 (X_ix kn kc (ct (X_av n c1)))) := X_wr_H hr1 (by omega) (by omega)
                            have h1718 := (hf1705.1 (a + 1) (by omega)).trans ((h1655.1 (a + 1) (by omega)).trans (hw1))
                            have h1719 := (hf1705.1 (a + 2) (by omega)).trans ((h1655.1 (a + 2) (by omega)).trans (hw2))
                            have h1720 := (hf1705.1 (a + 3) (by omega)).trans ((h1655.1 (a + 3) (by omega)).trans (hw3))
                            have h1721 := (hf1705.1 (a + 4) (by omega)).trans ((h1655.1 (a + 4) (by omega)).trans (hw4))
                            have h1722 := (hf1705.1 (a + 5) (by omega)).trans ((h1655.1 (a + 5) (by omega)).trans (hw5))
                            have h1723 := (hf1705.1 (a + 6) (by omega)).trans ((h1655.1 (a + 6) (by omega)).trans (hw6))
                            have h1724 := (hf1705.1 (a + 7) (by omega)).trans ((h1655.1 (a + 7) (by omega)).trans (hw7))
                            refine T_mono (c_addHole sc S1701 a d1 q1 (X_ix kn kc (ct (X_av n c1))) ⟨h1710, h1718, h1719, h1720, h1721, h1722, h1723, h1724⟩ hr1 (by omega) (by omega)) (fun v1711 S1712 h1713 => ?_)
                            obtain ⟨h1714, hw1715, hf1716⟩ := h1713
                            rw [h1714]
                            have hw1715 : C_wd S1712 a (X_aH d1 (X_ix kn kc (ct (X_av n c1)))) (X_ug q1 (d1 3 0) 0) := hw1715
                            show X_T sc 77 (163, [(7, .int (iI (X_ix kn kc (ct (X_av n c1))))), (5, .long (ct c1)), (4, .int (iI (bI (so c1 = 95 ∧ (d1 3 0 < 8 ∧ d1 4 0 < 4 ∧ ¬ X_hl d1 q1 (d1 3 0 - 1)))))), (3, .int (iI (bI (so c1 = 6 ∧ d1 3 0 < 8)))), (2, .int (iI i)), (0, .ref 496), (1, .ref a)], [], S1712) _
                            refine T_ziinc xr_77_163 xn_77 (a := i) (z := i + 1) rfl (Nat.le_of_ble_eq_true rfl) (by omega) (ls' := [(2, .int (iI (i + 1))), (7, .int (iI (X_ix kn kc (ct (X_av n c1))))), (5, .long (ct c1)), (4, .int (iI (bI (so c1 = 95 ∧ (d1 3 0 < 8 ∧ d1 4 0 < 4 ∧ ¬ X_hl d1 q1 (d1 3 0 - 1)))))), (3, .int (iI (bI (so c1 = 6 ∧ d1 3 0 < 8)))), (0, .ref 496), (1, .ref a)]) rfl (pc' := 166) rfl ?_
                            refine T_p xr_77_166 xn_77 (pc' := 2) (ls' := [(2, .int (iI (i + 1))), (7, .int (iI (X_ix kn kc (ct (X_av n c1))))), (5, .long (ct c1)), (4, .int (iI (bI (so c1 = 95 ∧ (d1 3 0 < 8 ∧ d1 4 0 < 4 ∧ ¬ X_hl d1 q1 (d1 3 0 - 1)))))), (3, .int (iI (bI (so c1 = 6 ∧ d1 3 0 < 8)))), (0, .ref 496), (1, .ref a)]) (st' := []) rfl ?_
                            have h1725 := (hf1716.1 497 (by first | decide | omega)).trans (hl1704)
                            have h1726 := (hf1716.1 496 (by first | decide | omega)).trans (hp1703)
                            refine T_sub (ls := [(2, .int (iI (i + 1))), (0, .ref 496), (1, .ref a)]) ⟨rfl, rfl, rfl, trivial⟩ rfl rfl ?_
                            exact ih1568 S1712 (i + 1) (X_av n (X_av n c1)) (X_aH d1 (X_ix kn kc (ct (X_av n c1)))) (X_ug q1 (d1 3 0) 0) h1726 h1725 hw1715.1 hw1715.2.1 hw1715.2.2.1 hw1715.2.2.2.1 hw1715.2.2.2.2.1 hw1715.2.2.2.2.2.1 hw1715.2.2.2.2.2.2.1 hw1715.2.2.2.2.2.2.2 (hF1571.tr ((((X_Fr.rf).tr (X_Fr.mono ⟨h1655.1, h1655.2⟩ (fun q hq => (by omega)))).tr (X_Fr.mono ⟨hf1705.1, hf1705.2⟩ (fun q hq => (by omega)))).tr (X_Fr.mono ⟨hf1716.1, hf1716.2⟩ (fun q hq => (by omega))))) (by omega) hr1717 (by omega) (by
                                  rw [← hR, sp_el_s (i := i) (by omega)]
                                  (repeat (first | rw [if_pos (by assumption)] | rw [if_neg (by assumption)]))
                                  all_goals rfl) (by omega)
                          · skip
                            have c1709 : ¬ (¬ (X_ix kn kc (ct (X_av n c1))) = (-1)) := c1709
                            exact (show False by first | contradiction | omega).elim
                        · skip
                          rw [h1689]
                          show X_T sc 77 (143, [(5, .long (ct c1)), (4, .int (iI (bI (so c1 = 95 ∧ (d1 3 0 < 8 ∧ d1 4 0 < 4 ∧ ¬ X_hl d1 q1 (d1 3 0 - 1)))))), (3, .int (iI (bI (so c1 = 6 ∧ d1 3 0 < 8)))), (2, .int (iI i)), (0, .ref 496), (1, .ref a)], [.int (iI (-1))], S1701) _
                          refine T_p xr_77_143 xn_77 (pc' := 147) (ls' := [(5, .long (ct c1)), (4, .int (iI (bI (so c1 = 95 ∧ (d1 3 0 < 8 ∧ d1 4 0 < 4 ∧ ¬ X_hl d1 q1 (d1 3 0 - 1)))))), (3, .int (iI (bI (so c1 = 6 ∧ d1 3 0 < 8)))), (2, .int (iI i)), (0, .ref 496), (1, .ref a)]) (st' := [.int (iI (-1))]) rfl ?_
                          refine T_p xr_77_147 xn_77 (pc' := 149) (ls' := [(7, .int (iI (-1))), (5, .long (ct c1)), (4, .int (iI (bI (so c1 = 95 ∧ (d1 3 0 < 8 ∧ d1 4 0 < 4 ∧ ¬ X_hl d1 q1 (d1 3 0 - 1)))))), (3, .int (iI (bI (so c1 = 6 ∧ d1 3 0 < 8)))), (2, .int (iI i)), (0, .ref 496), (1, .ref a)]) (st' := []) rfl ?_
                          refine T_p xr_77_149 xn_77 (pc' := 151) (ls' := [(7, .int (iI (-1))), (5, .long (ct c1)), (4, .int (iI (bI (so c1 = 95 ∧ (d1 3 0 < 8 ∧ d1 4 0 < 4 ∧ ¬ X_hl d1 q1 (d1 3 0 - 1)))))), (3, .int (iI (bI (so c1 = 6 ∧ d1 3 0 < 8)))), (2, .int (iI i)), (0, .ref 496), (1, .ref a)]) (st' := [.int (iI (-1))]) rfl ?_
                          refine T_p xr_77_151 xn_77 (pc' := 152) (ls' := [(7, .int (iI (-1))), (5, .long (ct c1)), (4, .int (iI (bI (so c1 = 95 ∧ (d1 3 0 < 8 ∧ d1 4 0 < 4 ∧ ¬ X_hl d1 q1 (d1 3 0 - 1)))))), (3, .int (iI (bI (so c1 = 6 ∧ d1 3 0 < 8)))), (2, .int (iI i)), (0, .ref 496), (1, .ref a)]) (st' := [.int (iI (-1)), .int (iI (-1))]) rfl ?_
                          refine T_zicmp_nef xr_77_152 (t := 157) (pc' := 155) rfl rfl (by decide) ?_
                          refine T_p xr_77_155 xn_77 (pc' := 156) (ls' := [(7, .int (iI (-1))), (5, .long (ct c1)), (4, .int (iI (bI (so c1 = 95 ∧ (d1 3 0 < 8 ∧ d1 4 0 < 4 ∧ ¬ X_hl d1 q1 (d1 3 0 - 1)))))), (3, .int (iI (bI (so c1 = 6 ∧ d1 3 0 < 8)))), (2, .int (iI i)), (0, .ref 496), (1, .ref a)]) (st' := [.int (iI 0)]) rfl ?_
                          refine T_iret xr_77_156 xf_77.2.2 (by decide) ?_
                          refine hQ _ _ ?_
                          have h1727 := (hf1705.1 a (by omega)).trans ((h1655.1 a (by omega)).trans (hw0))
                          have h1728 := (hf1705.1 (a + 1) (by omega)).trans ((h1655.1 (a + 1) (by omega)).trans (hw1))
                          have h1729 := (hf1705.1 (a + 2) (by omega)).trans ((h1655.1 (a + 2) (by omega)).trans (hw2))
                          have h1730 := (hf1705.1 (a + 3) (by omega)).trans ((h1655.1 (a + 3) (by omega)).trans (hw3))
                          have h1731 := (hf1705.1 (a + 4) (by omega)).trans ((h1655.1 (a + 4) (by omega)).trans (hw4))
                          have h1732 := (hf1705.1 (a + 5) (by omega)).trans ((h1655.1 (a + 5) (by omega)).trans (hw5))
                          have h1733 := (hf1705.1 (a + 6) (by omega)).trans ((h1655.1 (a + 6) (by omega)).trans (hw6))
                          have h1734 := (hf1705.1 (a + 7) (by omega)).trans ((h1655.1 (a + 7) (by omega)).trans (hw7))
                          refine Or.inr ⟨rfl, ?_, ⟨_, _, by omega, hp1703⟩, ⟨(X_av n c1), d1, q1, hl1704, by omega, ⟨h1727, h1728, h1729, h1730, h1731, h1732, h1733, h1734⟩, hr1⟩, (((X_Fr.rf).tr (X_Fr.mono ⟨hF1571.1, hF1571.2⟩ (fun q hq => (by omega)))).tr (X_Fr.mono ⟨h1655.1, h1655.2⟩ (fun q hq => (by omega)))).tr (X_Fr.mono ⟨hf1705.1, hf1705.2⟩ (fun q hq => (by omega)))⟩
                          rw [← hR]
                          first
                            | (rw [sp_el_s (i := i) (by omega)]
                               (repeat (first | rw [if_pos (by assumption)] | rw [if_neg (by assumption)]))
                               all_goals first | rfl | ((repeat' split) <;> first | rfl | (exfalso; omega)))
                            | (rw [show (9 - i).toNat = 0 by omega]; rfl)
                    · skip
                      have c1658 : (so c1 = 6 ∧ d1 3 0 < 8) := c1658
                      exact (show False by first | contradiction | omega).elim
                  · skip
                    have c1645 : ¬ (so c1 = 95 ∧ (d1 3 0 < 8 ∧ d1 4 0 < 4 ∧ ¬ X_hl d1 q1 (d1 3 0 - 1))) := c1645
                    refine T_p xr_77_96 xn_77 (pc' := 169) (ls' := [(4, .int (iI (bI (so c1 = 95 ∧ (d1 3 0 < 8 ∧ d1 4 0 < 4 ∧ ¬ X_hl d1 q1 (d1 3 0 - 1)))))), (3, .int (iI (bI (so c1 = 6 ∧ d1 3 0 < 8)))), (2, .int (iI i)), (0, .ref 496), (1, .ref a)]) (st' := []) rfl ?_
                    refine T_p xr_77_169 xn_77 (pc' := 170) (ls' := [(4, .int (iI (bI (so c1 = 95 ∧ (d1 3 0 < 8 ∧ d1 4 0 < 4 ∧ ¬ X_hl d1 q1 (d1 3 0 - 1)))))), (3, .int (iI (bI (so c1 = 6 ∧ d1 3 0 < 8)))), (2, .int (iI i)), (0, .ref 496), (1, .ref a)]) (st' := [.ref 496]) rfl ?_
                    refine T_cv (S := S1572) (q := 496) xr_77_170 xf_67.1 xf_67.2.1 xn_67 (as := []) (r := []) rfl hp1 (Nat.le_of_ble_eq_true rfl) (Nat.le_of_ble_eq_true rfl) (pc' := 173) rfl (ls' := [(0, .ref 496)]) rfl ?_
                    refine T_mono (c_refuse sc S1572 B fl fp at_ n c1 so pl ct hp1 ⟨hx1, h1595, h1596, h1597⟩ (by omega) hso) (fun v1735 S1736 h1737 => ?_)
                    obtain ⟨h1738, ⟨fl1739, fp1740, hn1741, hp1742⟩, hf1743⟩ := h1737
                    rw [h1738]
                    show X_T sc 77 (173, [(4, .int (iI (bI (so c1 = 95 ∧ (d1 3 0 < 8 ∧ d1 4 0 < 4 ∧ ¬ X_hl d1 q1 (d1 3 0 - 1)))))), (3, .int (iI (bI (so c1 = 6 ∧ d1 3 0 < 8)))), (2, .int (iI i)), (0, .ref 496), (1, .ref a)], [], S1736) _
                    refine T_p xr_77_173 xn_77 (pc' := 174) (ls' := [(4, .int (iI (bI (so c1 = 95 ∧ (d1 3 0 < 8 ∧ d1 4 0 < 4 ∧ ¬ X_hl d1 q1 (d1 3 0 - 1)))))), (3, .int (iI (bI (so c1 = 6 ∧ d1 3 0 < 8)))), (2, .int (iI i)), (0, .ref 496), (1, .ref a)]) (st' := [.int (iI 0)]) rfl ?_
                    refine T_iret xr_77_174 xf_77.2.2 (by decide) ?_
                    refine hQ _ _ ?_
                    have h1744 := (hf1743.1 497 (by first | decide | omega)).trans (hx1)
                    have h1745 := (hf1743.1 a (by omega)).trans (hw0)
                    have h1746 := (hf1743.1 (a + 1) (by omega)).trans (hw1)
                    have h1747 := (hf1743.1 (a + 2) (by omega)).trans (hw2)
                    have h1748 := (hf1743.1 (a + 3) (by omega)).trans (hw3)
                    have h1749 := (hf1743.1 (a + 4) (by omega)).trans (hw4)
                    have h1750 := (hf1743.1 (a + 5) (by omega)).trans (hw5)
                    have h1751 := (hf1743.1 (a + 6) (by omega)).trans (hw6)
                    have h1752 := (hf1743.1 (a + 7) (by omega)).trans (hw7)
                    refine Or.inr ⟨rfl, ?_, ⟨_, _, by omega, hp1742⟩, ⟨c1, d1, q1, h1744, by omega, ⟨h1745, h1746, h1747, h1748, h1749, h1750, h1751, h1752⟩, hr1⟩, ((X_Fr.rf).tr (X_Fr.mono ⟨hF1571.1, hF1571.2⟩ (fun q hq => (by omega)))).tr (X_Fr.mono ⟨hf1743.1, hf1743.2⟩ (fun q hq => (by omega)))⟩
                    rw [← hR]
                    first
                      | (rw [sp_el_s (i := i) (by omega)]
                         (repeat (first | rw [if_pos (by assumption)] | rw [if_neg (by assumption)]))
                         all_goals first | rfl | ((repeat' split) <;> first | rfl | (exfalso; omega)))
                      | (rw [show (9 - i).toNat = 0 by omega]; rfl)
              refine T_p xr_77_61 xn_77 (pc' := 62) (ls' := [(3, .int (iI (bI (so c1 = 6 ∧ d1 3 0 < 8)))), (2, .int (iI i)), (0, .ref 496), (1, .ref a)]) (st' := [.ref 496]) rfl ?_
              refine T_get xr_77_62 hp1 rfl (v := .ref 497) rfl (pc' := 65) rfl ?_
              refine T_cv (S := S1572) (q := 497) xr_77_65 xf_48.1 xf_48.2.1 xn_48 (as := []) (r := []) rfl hx1 (Nat.le_of_ble_eq_true rfl) (Nat.le_of_ble_eq_true rfl) (pc' := 68) rfl (ls' := [(0, .ref 497)]) rfl ?_
              refine T_mono (c_sort sc S1572 at_ n c1 so pl ct ⟨hx1, h1595, h1596, h1597⟩ (by omega)) (fun v1754 S1755 h1753 => ?_)
              obtain ⟨h1756, h1757⟩ := h1753
              rw [h1756, h1757]
              show X_T sc 77 (68, [(3, .int (iI (bI (so c1 = 6 ∧ d1 3 0 < 8)))), (2, .int (iI i)), (0, .ref 496), (1, .ref a)], [.int (iI (so c1))], S1572) _
              have hs1758 := hso c1 (by omega) (by omega)
              refine T_p xr_77_68 xn_77 (pc' := 70) (ls' := [(3, .int (iI (bI (so c1 = 6 ∧ d1 3 0 < 8)))), (2, .int (iI i)), (0, .ref 496), (1, .ref a)]) (st' := [.int (iI 95), .int (iI (so c1))]) rfl ?_
              refine T_zicmp_ne xr_77_70 (t := 84) (pc' := 73) rfl rfl (fun c1759 => ?_) (fun c1759 => ?_)
              · skip
                have c1759 : ¬ (so c1) = 95 := c1759
                refine T_p xr_77_84 xn_77 (pc' := 85) (ls' := [(3, .int (iI (bI (so c1 = 6 ∧ d1 3 0 < 8)))), (2, .int (iI i)), (0, .ref 496), (1, .ref a)]) (st' := [.int (iI 0)]) rfl ?_
                refine T_ie (y := iI (bI (so c1 = 95 ∧ (d1 3 0 < 8 ∧ d1 4 0 < 4 ∧ ¬ X_hl d1 q1 (d1 3 0 - 1))))) (by rw [bI_f (by rintro ⟨h1, h2⟩; first | omega | contradiction)]) ?_
                exact J1613
              · skip
                have c1759 : ¬ (¬ (so c1) = 95) := c1759
                refine T_p xr_77_73 xn_77 (pc' := 74) (ls' := [(3, .int (iI (bI (so c1 = 6 ∧ d1 3 0 < 8)))), (2, .int (iI i)), (0, .ref 496), (1, .ref a)]) (st' := [.ref a]) rfl ?_
                refine T_cv (S := S1572) (q := a) xr_77_74 xf_97.1 xf_97.2.1 xn_97 (as := []) (r := []) rfl hw0 (Nat.le_of_ble_eq_true rfl) (Nat.le_of_ble_eq_true rfl) (pc' := 77) rfl (ls' := [(0, .ref a)]) rfl ?_
                refine T_mono (c_mayTakeHole sc S1572 a d1 q1 ⟨hw0, hw1, hw2, hw3, hw4, hw5, hw6, hw7⟩ hr1) (fun v1761 S1762 h1760 => ?_)
                obtain ⟨h1763, h1764⟩ := h1760
                rw [h1763, h1764]
                show X_T sc 77 (77, [(3, .int (iI (bI (so c1 = 6 ∧ d1 3 0 < 8)))), (2, .int (iI i)), (0, .ref 496), (1, .ref a)], [.int (iI (bI (d1 3 0 < 8 ∧ d1 4 0 < 4 ∧ ¬ X_hl d1 q1 (d1 3 0 - 1))))], S1572) _
                refine T_bif_eq xr_77_77 (t := 84) (pc' := 80) rfl rfl (fun c1765 => ?_) (fun c1765 => ?_)
                · skip
                  have c1765 : ¬ (d1 3 0 < 8 ∧ d1 4 0 < 4 ∧ ¬ X_hl d1 q1 (d1 3 0 - 1)) := c1765
                  refine T_p xr_77_84 xn_77 (pc' := 85) (ls' := [(3, .int (iI (bI (so c1 = 6 ∧ d1 3 0 < 8)))), (2, .int (iI i)), (0, .ref 496), (1, .ref a)]) (st' := [.int (iI 0)]) rfl ?_
                  refine T_ie (y := iI (bI (so c1 = 95 ∧ (d1 3 0 < 8 ∧ d1 4 0 < 4 ∧ ¬ X_hl d1 q1 (d1 3 0 - 1))))) (by rw [bI_f (by rintro ⟨h1, h2⟩; first | omega | contradiction)]) ?_
                  exact J1613
                · skip
                  have c1765 : (d1 3 0 < 8 ∧ d1 4 0 < 4 ∧ ¬ X_hl d1 q1 (d1 3 0 - 1)) := c1765
                  refine T_p xr_77_80 xn_77 (pc' := 81) (ls' := [(3, .int (iI (bI (so c1 = 6 ∧ d1 3 0 < 8)))), (2, .int (iI i)), (0, .ref 496), (1, .ref a)]) (st' := [.int (iI 1)]) rfl ?_
                  refine T_p xr_77_81 xn_77 (pc' := 85) (ls' := [(3, .int (iI (bI (so c1 = 6 ∧ d1 3 0 < 8)))), (2, .int (iI i)), (0, .ref 496), (1, .ref a)]) (st' := [.int (iI 1)]) rfl ?_
                  refine T_ie (y := iI (bI (so c1 = 95 ∧ (d1 3 0 < 8 ∧ d1 4 0 < 4 ∧ ¬ X_hl d1 q1 (d1 3 0 - 1))))) (by rw [bI_t (by exact ⟨by omega, by assumption⟩)]) ?_
                  exact J1613
            refine T_p xr_77_34 xn_77 (pc' := 35) (ls' := [(2, .int (iI i)), (0, .ref 496), (1, .ref a)]) (st' := [.ref 496]) rfl ?_
            refine T_get xr_77_35 hp1 rfl (v := .ref 497) rfl (pc' := 38) rfl ?_
            refine T_cv (S := S1572) (q := 497) xr_77_38 xf_48.1 xf_48.2.1 xn_48 (as := []) (r := []) rfl hx1 (Nat.le_of_ble_eq_true rfl) (Nat.le_of_ble_eq_true rfl) (pc' := 41) rfl (ls' := [(0, .ref 497)]) rfl ?_
            refine T_mono (c_sort sc S1572 at_ n c1 so pl ct ⟨hx1, h1595, h1596, h1597⟩ (by omega)) (fun v1767 S1768 h1766 => ?_)
            obtain ⟨h1769, h1770⟩ := h1766
            rw [h1769, h1770]
            show X_T sc 77 (41, [(2, .int (iI i)), (0, .ref 496), (1, .ref a)], [.int (iI (so c1))], S1572) _
            have hs1771 := hso c1 (by omega) (by omega)
            refine T_p xr_77_41 xn_77 (pc' := 43) (ls' := [(2, .int (iI i)), (0, .ref 496), (1, .ref a)]) (st' := [.int (iI 6), .int (iI (so c1))]) rfl ?_
            refine T_zicmp_ne xr_77_43 (t := 59) (pc' := 46) rfl rfl (fun c1772 => ?_) (fun c1772 => ?_)
            · skip
              have c1772 : ¬ (so c1) = 6 := c1772
              refine T_p xr_77_59 xn_77 (pc' := 60) (ls' := [(2, .int (iI i)), (0, .ref 496), (1, .ref a)]) (st' := [.int (iI 0)]) rfl ?_
              refine T_ie (y := iI (bI (so c1 = 6 ∧ d1 3 0 < 8))) (by rw [bI_f (by rintro ⟨h1, h2⟩; omega)]) ?_
              exact J1612
            · skip
              have c1772 : ¬ (¬ (so c1) = 6) := c1772
              refine T_p xr_77_46 xn_77 (pc' := 47) (ls' := [(2, .int (iI i)), (0, .ref 496), (1, .ref a)]) (st' := [.ref a]) rfl ?_
              refine T_get xr_77_47 hw0 rfl (v := .int (iI (d1 3 0))) rfl (pc' := 50) rfl ?_
              refine T_p xr_77_50 xn_77 (pc' := 52) (ls' := [(2, .int (iI i)), (0, .ref 496), (1, .ref a)]) (st' := [.int (iI 8), .int (iI (d1 3 0))]) rfl ?_
              refine T_zicmp_ge xr_77_52 (t := 59) (pc' := 55) rfl rfl (fun c1773 => ?_) (fun c1773 => ?_)
              · skip
                have c1773 : 8 ≤ (d1 3 0) := c1773
                refine T_p xr_77_59 xn_77 (pc' := 60) (ls' := [(2, .int (iI i)), (0, .ref 496), (1, .ref a)]) (st' := [.int (iI 0)]) rfl ?_
                refine T_ie (y := iI (bI (so c1 = 6 ∧ d1 3 0 < 8))) (by rw [bI_f (by rintro ⟨h1, h2⟩; omega)]) ?_
                exact J1612
              · skip
                have c1773 : ¬ (8 ≤ (d1 3 0)) := c1773
                refine T_p xr_77_55 xn_77 (pc' := 56) (ls' := [(2, .int (iI i)), (0, .ref 496), (1, .ref a)]) (st' := [.int (iI 1)]) rfl ?_
                refine T_p xr_77_56 xn_77 (pc' := 60) (ls' := [(2, .int (iI i)), (0, .ref 496), (1, .ref a)]) (st' := [.int (iI 1)]) rfl ?_
                refine T_ie (y := iI (bI (so c1 = 6 ∧ d1 3 0 < 8))) (by rw [bI_t (by exact ⟨by omega, by omega⟩)]) ?_
                exact J1612
          · skip
            have c1611 : ¬ (¬ (so c1) = 59) := c1611
            refine T_p xr_77_32 xn_77 (pc' := 33) (ls' := [(2, .int (iI i)), (0, .ref 496), (1, .ref a)]) (st' := [.int (iI 1)]) rfl ?_
            refine T_iret xr_77_33 xf_77.2.2 (by decide) ?_
            refine hQ _ _ ?_
            refine Or.inl ⟨rfl, c1, d1, q1, ?_, hp1, hx1, by omega, ⟨hw0, hw1, hw2, hw3, hw4, hw5, hw6, hw7⟩, hr1, (X_Fr.rf).tr (X_Fr.mono ⟨hF1571.1, hF1571.2⟩ (fun q hq => (by omega)))⟩
            rw [← hR, sp_el_s (i := i) (by omega)]
            (repeat (first | rw [if_pos (by assumption)] | rw [if_neg (by assumption)]))
            all_goals first | rfl | ((repeat' split) <;> first | rfl | (exfalso; omega))
  exact L1567 ((9 : Int) + 1).toNat S 0 cur d q hp hx.1 hw.1 hw.2.1 hw.2.2.1 hw.2.2.2.1 hw.2.2.2.2.1 hw.2.2.2.2.2.1 hw.2.2.2.2.2.2.1 hw.2.2.2.2.2.2.2 ((X_Fr.rf)) (by omega) hr (by omega) rfl (by omega)
end
section
theorem xr_79_0 : X_row 79 0 = some (0, (.aload_n 0, 1), (0, 0, 0)) := by decide +kernel
theorem xr_79_1 : X_row 79 1 = some (1, (.getfield 23, 3), (4, 0, 18)) := by decide +kernel
theorem xr_79_4 : X_row 79 4 = some (4, (.invokevirtual 73, 3), (49, 14, 0)) := by decide +kernel
theorem xr_79_7 : X_row 79 7 = some (7, (.istore_n 3, 1), (0, 0, 0)) := by decide +kernel
theorem xr_79_8 : X_row 79 8 = some (8, (.aload_n 0, 1), (0, 0, 0)) := by decide +kernel
theorem xr_79_9 : X_row 79 9 = some (9, (.invokevirtual 190, 3), (80, 66, 0)) := by decide +kernel
theorem xr_79_12 : X_row 79 12 = some (12, (.ifCond .eq 7, 3), (0, 0, 0)) := by decide +kernel
theorem xr_79_15 : X_row 79 15 = some (15, (.iconst 4, 1), (0, 0, 0)) := by decide +kernel
theorem xr_79_16 : X_row 79 16 = some (16, (.goto 10, 3), (0, 0, 0)) := by decide +kernel
theorem xr_79_19 : X_row 79 19 = some (19, (.aload_n 0, 1), (0, 0, 0)) := by decide +kernel
theorem xr_79_20 : X_row 79 20 = some (20, (.getfield 23, 3), (4, 0, 18)) := by decide +kernel
theorem xr_79_23 : X_row 79 23 = some (23, (.invokevirtual 39, 3), (48, 6, 0)) := by decide +kernel
theorem xr_79_26 : X_row 79 26 = some (26, (.istore 4, 2), (0, 0, 0)) := by decide +kernel
theorem xr_79_28 : X_row 79 28 = some (28, (.iload 4, 2), (0, 0, 0)) := by decide +kernel
theorem xr_79_30 : X_row 79 30 = some (30, (.bipush 64, 2), (0, 0, 0)) := by decide +kernel
theorem xr_79_32 : X_row 79 32 = some (32, (.if_icmp .ne 27, 3), (0, 0, 0)) := by decide +kernel
theorem xr_79_35 : X_row 79 35 = some (35, (.aload_n 0, 1), (0, 0, 0)) := by decide +kernel
theorem xr_79_36 : X_row 79 36 = some (36, (.getfield 23, 3), (4, 0, 18)) := by decide +kernel
theorem xr_79_39 : X_row 79 39 = some (39, (.invokevirtual 80, 3), (52, 18, 0)) := by decide +kernel
theorem xr_79_42 : X_row 79 42 = some (42, (.aload_n 0, 1), (0, 0, 0)) := by decide +kernel
theorem xr_79_43 : X_row 79 43 = some (43, (.getfield 23, 3), (4, 0, 18)) := by decide +kernel
theorem xr_79_46 : X_row 79 46 = some (46, (.invokevirtual 39, 3), (48, 6, 0)) := by decide +kernel
theorem xr_79_49 : X_row 79 49 = some (49, (.iconst 5, 1), (0, 0, 0)) := by decide +kernel
theorem xr_79_50 : X_row 79 50 = some (50, (.if_icmp .eq 29, 3), (0, 0, 0)) := by decide +kernel
theorem xr_79_53 : X_row 79 53 = some (53, (.aload_n 0, 1), (0, 0, 0)) := by decide +kernel
theorem xr_79_54 : X_row 79 54 = some (54, (.invokevirtual 67, 3), (67, 12, 0)) := by decide +kernel
theorem xr_79_57 : X_row 79 57 = some (57, (.iconst (-1), 1), (0, 0, 0)) := by decide +kernel
theorem xr_79_58 : X_row 79 58 = some (58, (.ireturn, 1), (0, 0, 0)) := by decide +kernel
theorem xr_79_59 : X_row 79 59 = some (59, (.iload 4, 2), (0, 0, 0)) := by decide +kernel
theorem xr_79_61 : X_row 79 61 = some (61, (.iconst 4, 1), (0, 0, 0)) := by decide +kernel
theorem xr_79_62 : X_row 79 62 = some (62, (.if_icmp .eq 17, 3), (0, 0, 0)) := by decide +kernel
theorem xr_79_65 : X_row 79 65 = some (65, (.iload 4, 2), (0, 0, 0)) := by decide +kernel
theorem xr_79_67 : X_row 79 67 = some (67, (.invokestatic 193, 3), (81, 68, 0)) := by decide +kernel
theorem xr_79_70 : X_row 79 70 = some (70, (.ifCond .ne 9, 3), (0, 0, 0)) := by decide +kernel
theorem xr_79_73 : X_row 79 73 = some (73, (.aload_n 0, 1), (0, 0, 0)) := by decide +kernel
theorem xr_79_74 : X_row 79 74 = some (74, (.invokevirtual 67, 3), (67, 12, 0)) := by decide +kernel
theorem xr_79_77 : X_row 79 77 = some (77, (.iconst (-1), 1), (0, 0, 0)) := by decide +kernel
theorem xr_79_78 : X_row 79 78 = some (78, (.ireturn, 1), (0, 0, 0)) := by decide +kernel
theorem xr_79_79 : X_row 79 79 = some (79, (.aload_n 0, 1), (0, 0, 0)) := by decide +kernel
theorem xr_79_80 : X_row 79 80 = some (80, (.getfield 23, 3), (4, 0, 18)) := by decide +kernel
theorem xr_79_83 : X_row 79 83 = some (83, (.invokevirtual 86, 3), (50, 20, 0)) := by decide +kernel
theorem xr_79_86 : X_row 79 86 = some (86, (.l2i, 1), (0, 0, 0)) := by decide +kernel
theorem xr_79_87 : X_row 79 87 = some (87, (.istore 5, 2), (0, 0, 0)) := by decide +kernel
theorem xr_79_89 : X_row 79 89 = some (89, (.iload 4, 2), (0, 0, 0)) := by decide +kernel
theorem xr_79_91 : X_row 79 91 = some (91, (.bipush 64, 2), (0, 0, 0)) := by decide +kernel
theorem xr_79_93 : X_row 79 93 = some (93, (.if_icmp .ne 22, 3), (0, 0, 0)) := by decide +kernel
theorem xr_79_96 : X_row 79 96 = some (96, (.iload 5, 2), (0, 0, 0)) := by decide +kernel
theorem xr_79_98 : X_row 79 98 = some (98, (.iconst 1, 1), (0, 0, 0)) := by decide +kernel
theorem xr_79_99 : X_row 79 99 = some (99, (.if_icmp .lt 12, 3), (0, 0, 0)) := by decide +kernel
theorem xr_79_102 : X_row 79 102 = some (102, (.iload 5, 2), (0, 0, 0)) := by decide +kernel
theorem xr_79_104 : X_row 79 104 = some (104, (.aload_n 1, 1), (0, 0, 0)) := by decide +kernel
theorem xr_79_105 : X_row 79 105 = some (105, (.getfield 161, 3), (8, 4, 7)) := by decide +kernel
theorem xr_79_108 : X_row 79 108 = some (108, (.if_icmp .le 7, 3), (0, 0, 0)) := by decide +kernel
theorem xr_79_111 : X_row 79 111 = some (111, (.iconst 1, 1), (0, 0, 0)) := by decide +kernel
theorem xr_79_112 : X_row 79 112 = some (112, (.goto 4, 3), (0, 0, 0)) := by decide +kernel
theorem xr_79_115 : X_row 79 115 = some (115, (.iconst 0, 1), (0, 0, 0)) := by decide +kernel
theorem xr_79_116 : X_row 79 116 = some (116, (.istore 6, 2), (0, 0, 0)) := by decide +kernel
theorem xr_79_118 : X_row 79 118 = some (118, (.iload 4, 2), (0, 0, 0)) := by decide +kernel
theorem xr_79_120 : X_row 79 120 = some (120, (.invokestatic 193, 3), (81, 68, 0)) := by decide +kernel
theorem xr_79_123 : X_row 79 123 = some (123, (.ifCond .ne 13, 3), (0, 0, 0)) := by decide +kernel
theorem xr_79_126 : X_row 79 126 = some (126, (.iload_n 2, 1), (0, 0, 0)) := by decide +kernel
theorem xr_79_127 : X_row 79 127 = some (127, (.bipush 16, 2), (0, 0, 0)) := by decide +kernel
theorem xr_79_129 : X_row 79 129 = some (129, (.if_icmp .ne 7, 3), (0, 0, 0)) := by decide +kernel
theorem xr_79_132 : X_row 79 132 = some (132, (.iconst 1, 1), (0, 0, 0)) := by decide +kernel
theorem xr_79_133 : X_row 79 133 = some (133, (.goto 4, 3), (0, 0, 0)) := by decide +kernel
theorem xr_79_136 : X_row 79 136 = some (136, (.iconst 0, 1), (0, 0, 0)) := by decide +kernel
theorem xr_79_137 : X_row 79 137 = some (137, (.istore 7, 2), (0, 0, 0)) := by decide +kernel
theorem xr_79_139 : X_row 79 139 = some (139, (.iload 4, 2), (0, 0, 0)) := by decide +kernel
theorem xr_79_141 : X_row 79 141 = some (141, (.invokestatic 193, 3), (81, 68, 0)) := by decide +kernel
theorem xr_79_144 : X_row 79 144 = some (144, (.ifCond .eq 12, 3), (0, 0, 0)) := by decide +kernel
theorem xr_79_147 : X_row 79 147 = some (147, (.iload_n 2, 1), (0, 0, 0)) := by decide +kernel
theorem xr_79_148 : X_row 79 148 = some (148, (.iconst 2, 1), (0, 0, 0)) := by decide +kernel
theorem xr_79_149 : X_row 79 149 = some (149, (.if_icmp .ge 7, 3), (0, 0, 0)) := by decide +kernel
theorem xr_79_152 : X_row 79 152 = some (152, (.iconst 1, 1), (0, 0, 0)) := by decide +kernel
theorem xr_79_153 : X_row 79 153 = some (153, (.goto 4, 3), (0, 0, 0)) := by decide +kernel
theorem xr_79_156 : X_row 79 156 = some (156, (.iconst 0, 1), (0, 0, 0)) := by decide +kernel
theorem xr_79_157 : X_row 79 157 = some (157, (.istore 8, 2), (0, 0, 0)) := by decide +kernel
theorem xr_79_159 : X_row 79 159 = some (159, (.iload 6, 2), (0, 0, 0)) := by decide +kernel
theorem xr_79_161 : X_row 79 161 = some (161, (.ifCond .ne 13, 3), (0, 0, 0)) := by decide +kernel
theorem xr_79_164 : X_row 79 164 = some (164, (.iload 7, 2), (0, 0, 0)) := by decide +kernel
theorem xr_79_166 : X_row 79 166 = some (166, (.ifCond .ne 8, 3), (0, 0, 0)) := by decide +kernel
theorem xr_79_169 : X_row 79 169 = some (169, (.iload 8, 2), (0, 0, 0)) := by decide +kernel
theorem xr_79_171 : X_row 79 171 = some (171, (.ifCond .eq 11, 3), (0, 0, 0)) := by decide +kernel
theorem xr_79_174 : X_row 79 174 = some (174, (.aload_n 0, 1), (0, 0, 0)) := by decide +kernel
theorem xr_79_175 : X_row 79 175 = some (175, (.iconst 5, 1), (0, 0, 0)) := by decide +kernel
theorem xr_79_176 : X_row 79 176 = some (176, (.iload_n 3, 1), (0, 0, 0)) := by decide +kernel
theorem xr_79_177 : X_row 79 177 = some (177, (.invokevirtual 76, 3), (66, 16, 0)) := by decide +kernel
theorem xr_79_180 : X_row 79 180 = some (180, (.iconst (-1), 1), (0, 0, 0)) := by decide +kernel
theorem xr_79_181 : X_row 79 181 = some (181, (.ireturn, 1), (0, 0, 0)) := by decide +kernel
theorem xr_79_182 : X_row 79 182 = some (182, (.aload_n 1, 1), (0, 0, 0)) := by decide +kernel
theorem xr_79_183 : X_row 79 183 = some (183, (.iload 4, 2), (0, 0, 0)) := by decide +kernel
theorem xr_79_185 : X_row 79 185 = some (185, (.iload 5, 2), (0, 0, 0)) := by decide +kernel
theorem xr_79_187 : X_row 79 187 = some (187, (.invokevirtual 196, 3), (99, 70, 0)) := by decide +kernel
theorem xr_79_190 : X_row 79 190 = some (190, (.aload_n 0, 1), (0, 0, 0)) := by decide +kernel
theorem xr_79_191 : X_row 79 191 = some (191, (.getfield 23, 3), (4, 0, 18)) := by decide +kernel
theorem xr_79_194 : X_row 79 194 = some (194, (.invokevirtual 80, 3), (52, 18, 0)) := by decide +kernel
theorem xr_79_197 : X_row 79 197 = some (197, (.iload 4, 2), (0, 0, 0)) := by decide +kernel
theorem xr_79_199 : X_row 79 199 = some (199, (.invokestatic 193, 3), (81, 68, 0)) := by decide +kernel
theorem xr_79_202 : X_row 79 202 = some (202, (.ifCond .eq 9, 3), (0, 0, 0)) := by decide +kernel
theorem xr_79_205 : X_row 79 205 = some (205, (.iload_n 2, 1), (0, 0, 0)) := by decide +kernel
theorem xr_79_206 : X_row 79 206 = some (206, (.iconst 1, 1), (0, 0, 0)) := by decide +kernel
theorem xr_79_207 : X_row 79 207 = some (207, (.isub, 1), (0, 0, 0)) := by decide +kernel
theorem xr_79_208 : X_row 79 208 = some (208, (.goto 6, 3), (0, 0, 0)) := by decide +kernel
theorem xr_79_211 : X_row 79 211 = some (211, (.iload_n 2, 1), (0, 0, 0)) := by decide +kernel
theorem xr_79_212 : X_row 79 212 = some (212, (.iconst 1, 1), (0, 0, 0)) := by decide +kernel
theorem xr_79_213 : X_row 79 213 = some (213, (.iadd, 1), (0, 0, 0)) := by decide +kernel
theorem xr_79_214 : X_row 79 214 = some (214, (.ireturn, 1), (0, 0, 0)) := by decide +kernel
theorem xr_80_0 : X_row 80 0 = some (0, (.aload_n 0, 1), (0, 0, 0)) := by decide +kernel
theorem xr_80_1 : X_row 80 1 = some (1, (.getfield 23, 3), (4, 0, 18)) := by decide +kernel
theorem xr_80_4 : X_row 80 4 = some (4, (.invokevirtual 39, 3), (48, 6, 0)) := by decide +kernel
theorem xr_80_7 : X_row 80 7 = some (7, (.iconst 4, 1), (0, 0, 0)) := by decide +kernel
theorem xr_80_8 : X_row 80 8 = some (8, (.if_icmp .eq 14, 3), (0, 0, 0)) := by decide +kernel
theorem xr_80_11 : X_row 80 11 = some (11, (.aload_n 0, 1), (0, 0, 0)) := by decide +kernel
theorem xr_80_12 : X_row 80 12 = some (12, (.getfield 23, 3), (4, 0, 18)) := by decide +kernel
theorem xr_80_15 : X_row 80 15 = some (15, (.invokevirtual 39, 3), (48, 6, 0)) := by decide +kernel
theorem xr_80_18 : X_row 80 18 = some (18, (.iconst 5, 1), (0, 0, 0)) := by decide +kernel
theorem xr_80_19 : X_row 80 19 = some (19, (.if_icmp .ne 7, 3), (0, 0, 0)) := by decide +kernel
theorem xr_80_22 : X_row 80 22 = some (22, (.iconst 1, 1), (0, 0, 0)) := by decide +kernel
theorem xr_80_23 : X_row 80 23 = some (23, (.goto 4, 3), (0, 0, 0)) := by decide +kernel
theorem xr_80_26 : X_row 80 26 = some (26, (.iconst 0, 1), (0, 0, 0)) := by decide +kernel
theorem xr_80_27 : X_row 80 27 = some (27, (.ireturn, 1), (0, 0, 0)) := by decide +kernel
theorem xr_81_0 : X_row 81 0 = some (0, (.iload_n 0, 1), (0, 0, 0)) := by decide +kernel
theorem xr_81_1 : X_row 81 1 = some (1, (.bipush 43, 2), (0, 0, 0)) := by decide +kernel
theorem xr_81_3 : X_row 81 3 = some (3, (.if_icmp .eq 33, 3), (0, 0, 0)) := by decide +kernel
theorem xr_81_6 : X_row 81 6 = some (6, (.iload_n 0, 1), (0, 0, 0)) := by decide +kernel
theorem xr_81_7 : X_row 81 7 = some (7, (.bipush 45, 2), (0, 0, 0)) := by decide +kernel
theorem xr_81_9 : X_row 81 9 = some (9, (.if_icmp .eq 27, 3), (0, 0, 0)) := by decide +kernel
theorem xr_81_12 : X_row 81 12 = some (12, (.iload_n 0, 1), (0, 0, 0)) := by decide +kernel
theorem xr_81_13 : X_row 81 13 = some (13, (.bipush 42, 2), (0, 0, 0)) := by decide +kernel
theorem xr_81_15 : X_row 81 15 = some (15, (.if_icmp .eq 21, 3), (0, 0, 0)) := by decide +kernel
theorem xr_81_18 : X_row 81 18 = some (18, (.iload_n 0, 1), (0, 0, 0)) := by decide +kernel
theorem xr_81_19 : X_row 81 19 = some (19, (.bipush 47, 2), (0, 0, 0)) := by decide +kernel
theorem xr_81_21 : X_row 81 21 = some (21, (.if_icmp .eq 15, 3), (0, 0, 0)) := by decide +kernel
theorem xr_81_24 : X_row 81 24 = some (24, (.iload_n 0, 1), (0, 0, 0)) := by decide +kernel
theorem xr_81_25 : X_row 81 25 = some (25, (.bipush 37, 2), (0, 0, 0)) := by decide +kernel
theorem xr_81_27 : X_row 81 27 = some (27, (.if_icmp .eq 9, 3), (0, 0, 0)) := by decide +kernel
theorem xr_81_30 : X_row 81 30 = some (30, (.iload_n 0, 1), (0, 0, 0)) := by decide +kernel
theorem xr_81_31 : X_row 81 31 = some (31, (.bipush 60, 2), (0, 0, 0)) := by decide +kernel
theorem xr_81_33 : X_row 81 33 = some (33, (.if_icmp .ne 7, 3), (0, 0, 0)) := by decide +kernel
theorem xr_81_36 : X_row 81 36 = some (36, (.iconst 1, 1), (0, 0, 0)) := by decide +kernel
theorem xr_81_37 : X_row 81 37 = some (37, (.goto 4, 3), (0, 0, 0)) := by decide +kernel
theorem xr_81_40 : X_row 81 40 = some (40, (.iconst 0, 1), (0, 0, 0)) := by decide +kernel
theorem xr_81_41 : X_row 81 41 = some (41, (.ireturn, 1), (0, 0, 0)) := by decide +kernel
theorem xn_79 : X_nL 79 = 9 := by decide +kernel
theorem xf_79 : X_na 79 = 2 ∧ X_ci 79 = 4 ∧ X_rt 79 = (some .int) := by decide +kernel
theorem xn_80 : X_nL 80 = 1 := by decide +kernel
theorem xf_80 : X_na 80 = 0 ∧ X_ci 80 = 4 ∧ X_rt 80 = (some .boolean) := by decide +kernel
theorem xn_81 : X_nL 81 = 1 := by decide +kernel
theorem xf_81 : X_na 81 = 1 ∧ X_ci 81 = 4 ∧ X_rt 81 = (some .boolean) := by decide +kernel
def X_isOp (s : Int) : Prop := s = 43 ∨ s = 45 ∨ s = 42 ∨ s = 47 ∨ s = 37 ∨ s = 60
def X_vl (ct : Int → Int64) (c : Int) : Int := ((ct c : Int64).toInt32).toInt
theorem X_vl_r (ct : Int → Int64) (c : Int) : -2147483648 ≤ X_vl ct c ∧ X_vl ct c ≤ 2147483647 := iI_rng _
def X_aS (d : Nat → Int → Int) (s y : Int) : Nat → Int → Int := X_wu (X_wu (X_wu d 12 (X_ug (d 12) (d 5 0) s)) 13 (X_ug (d 13) (d 5 0) y)) 5 (fun _ => d 5 0 + 1)
theorem X_wr_S {d : Nat → Int → Int} {s y : Int} (h : X_wr d) (h5 : 0 ≤ d 5 0 ∧ d 5 0 < 30) : X_wr (X_aS d s y) := X_wr_5 (X_wr_13 (X_wr_12 h)) (by omega)
/-- a step: its sign, its number; the token behind it is looked at next -/
noncomputable def sp_stF (n : Int) (c s v : Int) (d : Nat → Int → Int) (pile : Int) : Option (Int × (Nat → Int → Int) × Int) :=
  if s = 64 ∧ (v < 1 ∨ d 4 0 < v) then none else
    @ite _ (¬ X_isOp s ∧ pile = 16) (Classical.propDecidable _) none (@ite _ (X_isOp s ∧ pile < 2) (Classical.propDecidable _) none
      (some (X_av n c, X_aS d s v, @ite _ (X_isOp s) (Classical.propDecidable _) (pile - 1) (pile + 1))))
noncomputable def sp_step (n : Int) (so : Int → Int) (ct : Int → Int64) (c : Int) (d : Nat → Int → Int) (pile : Int) : Option (Int × (Nat → Int → Int) × Int) :=
  if so c = 4 ∨ so c = 5 then sp_stF n c 4 (X_vl ct c) d pile else
    if so c = 64 then (if so (X_av n c) = 5 then sp_stF n (X_av n c) (so c) (X_vl ct (X_av n c)) d pile else none) else
      @ite _ (X_isOp (so c)) (Classical.propDecidable _) (sp_stF n c (so c) (X_vl ct c) d pile) none
theorem c_isOperation (sc : X_Sc) (S : X_S) (s : Int) (hs : 0 ≤ s ∧ s ≤ 255) : X_T sc 81 (0, [(0, .int (iI s))], [], S) (fun v S' => v = some (.int (iI (bI (X_isOp s)))) ∧ S' = S) := by
  refine X_QI (fun Q hQ => ?_)
  refine T_p xr_81_0 xn_81 (pc' := 1) (ls' := [(0, .int (iI s))]) (st' := [.int (iI s)]) rfl ?_
  refine T_p xr_81_1 xn_81 (pc' := 3) (ls' := [(0, .int (iI s))]) (st' := [.int (iI 43), .int (iI s)]) rfl ?_
  refine T_zicmp_eq xr_81_3 (t := 36) (pc' := 6) rfl rfl (fun c1774 => ?_) (fun c1774 => ?_)
  · skip
    have c1774 : s = 43 := c1774
    refine T_p xr_81_36 xn_81 (pc' := 37) (ls' := [(0, .int (iI s))]) (st' := [.int (iI 1)]) rfl ?_
    refine T_p xr_81_37 xn_81 (pc' := 41) (ls' := [(0, .int (iI s))]) (st' := [.int (iI 1)]) rfl ?_
    refine T_iret xr_81_41 xf_81.2.2 (by decide) ?_
    refine hQ _ _ ?_
    exact ⟨by rw [bI_t (by unfold X_isOp; omega)], rfl⟩
  · skip
    have c1774 : ¬ (s = 43) := c1774
    refine T_p xr_81_6 xn_81 (pc' := 7) (ls' := [(0, .int (iI s))]) (st' := [.int (iI s)]) rfl ?_
    refine T_p xr_81_7 xn_81 (pc' := 9) (ls' := [(0, .int (iI s))]) (st' := [.int (iI 45), .int (iI s)]) rfl ?_
    refine T_zicmp_eq xr_81_9 (t := 36) (pc' := 12) rfl rfl (fun c1775 => ?_) (fun c1775 => ?_)
    · skip
      have c1775 : s = 45 := c1775
      refine T_p xr_81_36 xn_81 (pc' := 37) (ls' := [(0, .int (iI s))]) (st' := [.int (iI 1)]) rfl ?_
      refine T_p xr_81_37 xn_81 (pc' := 41) (ls' := [(0, .int (iI s))]) (st' := [.int (iI 1)]) rfl ?_
      refine T_iret xr_81_41 xf_81.2.2 (by decide) ?_
      refine hQ _ _ ?_
      exact ⟨by rw [bI_t (by unfold X_isOp; omega)], rfl⟩
    · skip
      have c1775 : ¬ (s = 45) := c1775
      refine T_p xr_81_12 xn_81 (pc' := 13) (ls' := [(0, .int (iI s))]) (st' := [.int (iI s)]) rfl ?_
      refine T_p xr_81_13 xn_81 (pc' := 15) (ls' := [(0, .int (iI s))]) (st' := [.int (iI 42), .int (iI s)]) rfl ?_
      refine T_zicmp_eq xr_81_15 (t := 36) (pc' := 18) rfl rfl (fun c1776 => ?_) (fun c1776 => ?_)
      · skip
        have c1776 : s = 42 := c1776
        refine T_p xr_81_36 xn_81 (pc' := 37) (ls' := [(0, .int (iI s))]) (st' := [.int (iI 1)]) rfl ?_
        refine T_p xr_81_37 xn_81 (pc' := 41) (ls' := [(0, .int (iI s))]) (st' := [.int (iI 1)]) rfl ?_
        refine T_iret xr_81_41 xf_81.2.2 (by decide) ?_
        refine hQ _ _ ?_
        exact ⟨by rw [bI_t (by unfold X_isOp; omega)], rfl⟩
      · skip
        have c1776 : ¬ (s = 42) := c1776
        refine T_p xr_81_18 xn_81 (pc' := 19) (ls' := [(0, .int (iI s))]) (st' := [.int (iI s)]) rfl ?_
        refine T_p xr_81_19 xn_81 (pc' := 21) (ls' := [(0, .int (iI s))]) (st' := [.int (iI 47), .int (iI s)]) rfl ?_
        refine T_zicmp_eq xr_81_21 (t := 36) (pc' := 24) rfl rfl (fun c1777 => ?_) (fun c1777 => ?_)
        · skip
          have c1777 : s = 47 := c1777
          refine T_p xr_81_36 xn_81 (pc' := 37) (ls' := [(0, .int (iI s))]) (st' := [.int (iI 1)]) rfl ?_
          refine T_p xr_81_37 xn_81 (pc' := 41) (ls' := [(0, .int (iI s))]) (st' := [.int (iI 1)]) rfl ?_
          refine T_iret xr_81_41 xf_81.2.2 (by decide) ?_
          refine hQ _ _ ?_
          exact ⟨by rw [bI_t (by unfold X_isOp; omega)], rfl⟩
        · skip
          have c1777 : ¬ (s = 47) := c1777
          refine T_p xr_81_24 xn_81 (pc' := 25) (ls' := [(0, .int (iI s))]) (st' := [.int (iI s)]) rfl ?_
          refine T_p xr_81_25 xn_81 (pc' := 27) (ls' := [(0, .int (iI s))]) (st' := [.int (iI 37), .int (iI s)]) rfl ?_
          refine T_zicmp_eq xr_81_27 (t := 36) (pc' := 30) rfl rfl (fun c1778 => ?_) (fun c1778 => ?_)
          · skip
            have c1778 : s = 37 := c1778
            refine T_p xr_81_36 xn_81 (pc' := 37) (ls' := [(0, .int (iI s))]) (st' := [.int (iI 1)]) rfl ?_
            refine T_p xr_81_37 xn_81 (pc' := 41) (ls' := [(0, .int (iI s))]) (st' := [.int (iI 1)]) rfl ?_
            refine T_iret xr_81_41 xf_81.2.2 (by decide) ?_
            refine hQ _ _ ?_
            exact ⟨by rw [bI_t (by unfold X_isOp; omega)], rfl⟩
          · skip
            have c1778 : ¬ (s = 37) := c1778
            refine T_p xr_81_30 xn_81 (pc' := 31) (ls' := [(0, .int (iI s))]) (st' := [.int (iI s)]) rfl ?_
            refine T_p xr_81_31 xn_81 (pc' := 33) (ls' := [(0, .int (iI s))]) (st' := [.int (iI 60), .int (iI s)]) rfl ?_
            refine T_zicmp_ne xr_81_33 (t := 40) (pc' := 36) rfl rfl (fun c1779 => ?_) (fun c1779 => ?_)
            · skip
              have c1779 : ¬ s = 60 := c1779
              refine T_p xr_81_40 xn_81 (pc' := 41) (ls' := [(0, .int (iI s))]) (st' := [.int (iI 0)]) rfl ?_
              refine T_iret xr_81_41 xf_81.2.2 (by decide) ?_
              refine hQ _ _ ?_
              exact ⟨by rw [bI_f (by unfold X_isOp; omega)], rfl⟩
            · skip
              have c1779 : ¬ (¬ s = 60) := c1779
              refine T_p xr_81_36 xn_81 (pc' := 37) (ls' := [(0, .int (iI s))]) (st' := [.int (iI 1)]) rfl ?_
              refine T_p xr_81_37 xn_81 (pc' := 41) (ls' := [(0, .int (iI s))]) (st' := [.int (iI 1)]) rfl ?_
              refine T_iret xr_81_41 xf_81.2.2 (by decide) ?_
              refine hQ _ _ ?_
              exact ⟨by rw [bI_t (by unfold X_isOp; omega)], rfl⟩
theorem c_isNumber (sc : X_Sc) (S : X_S) (B : Nat) (fl fp at_ n cur : Int) (so pl : Int → Int) (ct : Int → Int64) (hp : C_pa S B fl fp) (hx : C_lx S at_ n cur so pl ct) (hcu : 0 ≤ cur ∧ cur < n ∧ n ≤ 2001) (hso : ∀ i, 0 ≤ i → i < n → 0 ≤ so i ∧ so i ≤ 255) : X_T sc 80 (0, [(0, .ref 496)], [], S) (fun v S' => v = some (.int (iI (bI (so cur = 4 ∨ so cur = 5)))) ∧ S' = S) := by
  refine X_QI (fun Q hQ => ?_)
  refine T_p xr_80_0 xn_80 (pc' := 1) (ls' := [(0, .ref 496)]) (st' := [.ref 496]) rfl ?_
  refine T_get xr_80_1 hp rfl (v := .ref 497) rfl (pc' := 4) rfl ?_
  refine T_cv (S := S) (q := 497) xr_80_4 xf_48.1 xf_48.2.1 xn_48 (as := []) (r := []) rfl hx.1 (Nat.le_of_ble_eq_true rfl) (Nat.le_of_ble_eq_true rfl) (pc' := 7) rfl (ls' := [(0, .ref 497)]) rfl ?_
  refine T_mono (c_sort sc S at_ n cur so pl ct ⟨hx.1, hx.2.1, hx.2.2.1, hx.2.2.2⟩ (by omega)) (fun v1781 S1782 h1780 => ?_)
  obtain ⟨h1783, h1784⟩ := h1780
  rw [h1783, h1784]
  show X_T sc 80 (7, [(0, .ref 496)], [.int (iI (so cur))], S) _
  have hs1785 := hso cur (by omega) (by omega)
  refine T_p xr_80_7 xn_80 (pc' := 8) (ls' := [(0, .ref 496)]) (st' := [.int (iI 4), .int (iI (so cur))]) rfl ?_
  refine T_zicmp_eq xr_80_8 (t := 22) (pc' := 11) rfl rfl (fun c1786 => ?_) (fun c1786 => ?_)
  · skip
    have c1786 : (so cur) = 4 := c1786
    refine T_p xr_80_22 xn_80 (pc' := 23) (ls' := [(0, .ref 496)]) (st' := [.int (iI 1)]) rfl ?_
    refine T_p xr_80_23 xn_80 (pc' := 27) (ls' := [(0, .ref 496)]) (st' := [.int (iI 1)]) rfl ?_
    refine T_iret xr_80_27 xf_80.2.2 (by decide) ?_
    refine hQ _ _ ?_
    exact ⟨by rw [bI_t (by omega)], rfl⟩
  · skip
    have c1786 : ¬ ((so cur) = 4) := c1786
    refine T_p xr_80_11 xn_80 (pc' := 12) (ls' := [(0, .ref 496)]) (st' := [.ref 496]) rfl ?_
    refine T_get xr_80_12 hp rfl (v := .ref 497) rfl (pc' := 15) rfl ?_
    refine T_cv (S := S) (q := 497) xr_80_15 xf_48.1 xf_48.2.1 xn_48 (as := []) (r := []) rfl hx.1 (Nat.le_of_ble_eq_true rfl) (Nat.le_of_ble_eq_true rfl) (pc' := 18) rfl (ls' := [(0, .ref 497)]) rfl ?_
    refine T_mono (c_sort sc S at_ n cur so pl ct ⟨hx.1, hx.2.1, hx.2.2.1, hx.2.2.2⟩ (by omega)) (fun v1788 S1789 h1787 => ?_)
    obtain ⟨h1790, h1791⟩ := h1787
    rw [h1790, h1791]
    show X_T sc 80 (18, [(0, .ref 496)], [.int (iI (so cur))], S) _
    have hs1792 := hso cur (by omega) (by omega)
    refine T_p xr_80_18 xn_80 (pc' := 19) (ls' := [(0, .ref 496)]) (st' := [.int (iI 5), .int (iI (so cur))]) rfl ?_
    refine T_zicmp_ne xr_80_19 (t := 26) (pc' := 22) rfl rfl (fun c1793 => ?_) (fun c1793 => ?_)
    · skip
      have c1793 : ¬ (so cur) = 5 := c1793
      refine T_p xr_80_26 xn_80 (pc' := 27) (ls' := [(0, .ref 496)]) (st' := [.int (iI 0)]) rfl ?_
      refine T_iret xr_80_27 xf_80.2.2 (by decide) ?_
      refine hQ _ _ ?_
      exact ⟨by rw [bI_f (by omega)], rfl⟩
    · skip
      have c1793 : ¬ (¬ (so cur) = 5) := c1793
      refine T_p xr_80_22 xn_80 (pc' := 23) (ls' := [(0, .ref 496)]) (st' := [.int (iI 1)]) rfl ?_
      refine T_p xr_80_23 xn_80 (pc' := 27) (ls' := [(0, .ref 496)]) (st' := [.int (iI 1)]) rfl ?_
      refine T_iret xr_80_27 xf_80.2.2 (by decide) ?_
      refine hQ _ _ ?_
      exact ⟨by rw [bI_t (by omega)], rfl⟩
theorem c_parseStep (sc : X_Sc) (S : X_S) (B : Nat) (fl fp at_ n cur : Int) (so pl : Int → Int) (ct : Int → Int64) (rc kc wc : Int) (rn : Int → Int64) (lo : Int → Int) (kn : Int → Int64) (ab : Int → Int) (a : Nat) (d : Nat → Int → Int) (q : Int → Int64) (pile : Int) (hB : 4 ≤ B ∧ B + 246 ≤ 496) (ha : B + 6 ≤ a ∧ a + 7 < B + 246) (hp : C_pa S B fl fp) (hx : C_lx S at_ n cur so pl ct) (hcu : 0 ≤ cur ∧ cur < n ∧ n ≤ 2001) (hso : ∀ i, 0 ≤ i → i < n → 0 ≤ so i ∧ so i ≤ 255) (hb : C_bk S B rc kc wc rn lo kn ab) (hw : C_wd S a d q) (hr : X_wr d) (hpi : 0 ≤ pile ∧ pile ≤ 16) (h5 : 0 ≤ d 5 0 ∧ d 5 0 < 30) : X_T sc 79 (0, [(0, .ref 496), (1, .ref a), (2, .int (iI pile))], [], S) (fun v S' => (∃ c2 d2 p2, v = some (.int (iI p2)) ∧ sp_step n so ct cur d pile = some (c2, d2, p2) ∧ C_pa S' B fl fp ∧ S'.1 497 = .inr (3, [.ref 2, .int (iI at_), .int (iI n), .ref 498, .ref 499, .ref 500, .int (iI (c2))]) ∧ (0 ≤ c2 ∧ c2 < n) ∧ C_wd S' a d2 q ∧ X_wr d2 ∧ X_Fr (fun q => q = 496 ∨ q = 497 ∨ (a ≤ q ∧ q ≤ a + 7)) S S') ∨ (v = some (.int (iI (-1))) ∧ sp_step n so ct cur d pile = none ∧ (∃ fl' fp', (¬ fl' = 0 ∧ 0 ≤ fl' ∧ fl' ≤ 5) ∧ C_pa S' B fl' fp') ∧ (∃ c2, S'.1 497 = .inr (3, [.ref 2, .int (iI at_), .int (iI n), .ref 498, .ref 499, .ref 500, .int (iI (c2))]) ∧ (0 ≤ c2 ∧ c2 < n)) ∧ C_wd S' a d q ∧ X_Fr (fun q => q = 496 ∨ q = 497 ∨ (a ≤ q ∧ q ≤ a + 7)) S S')) := by
  obtain ⟨hb0, hb1, hb2, hb3, hb4, ⟨f, hb5, hf⟩, ⟨hrc, hrcb⟩, ⟨hkc, hkcb⟩, ⟨hwc, hwcb⟩⟩ := id hb
  obtain ⟨⟨hr0, hr0b⟩, ⟨hr1, hr1b⟩, ⟨hr2, hr2b⟩, ⟨hr3, hr3b⟩, ⟨hr4, hr4b⟩, ⟨hr5, hr5b⟩, ⟨hr6, hr6b⟩, ⟨hr7, hr7b⟩⟩ := id hr
  have hop4 : ¬ (X_isOp 4) := by unfold X_isOp; omega
  refine X_QI (fun Q hQ => ?_)
  refine T_p xr_79_0 xn_79 (pc' := 1) (ls' := [(0, .ref 496), (1, .ref a), (2, .int (iI pile))]) (st' := [.ref 496]) rfl ?_
  refine T_get xr_79_1 hp rfl (v := .ref 497) rfl (pc' := 4) rfl ?_
  refine T_cv (S := S) (q := 497) xr_79_4 xf_49.1 xf_49.2.1 xn_49 (as := []) (r := []) rfl hx.1 (Nat.le_of_ble_eq_true rfl) (Nat.le_of_ble_eq_true rfl) (pc' := 7) rfl (ls' := [(0, .ref 497)]) rfl ?_
  refine T_mono (c_place sc S at_ n cur so pl ct ⟨hx.1, hx.2.1, hx.2.2.1, hx.2.2.2⟩ (by omega)) (fun v1795 S1796 h1794 => ?_)
  obtain ⟨h1797, h1798⟩ := h1794
  rw [h1797, h1798]
  show X_T sc 79 (7, [(0, .ref 496), (1, .ref a), (2, .int (iI pile))], [.int (iI (pl cur))], S) _
  refine T_p xr_79_7 xn_79 (pc' := 8) (ls' := [(3, .int (iI (pl cur))), (0, .ref 496), (1, .ref a), (2, .int (iI pile))]) (st' := []) rfl ?_
  refine T_p xr_79_8 xn_79 (pc' := 9) (ls' := [(3, .int (iI (pl cur))), (0, .ref 496), (1, .ref a), (2, .int (iI pile))]) (st' := [.ref 496]) rfl ?_
  refine T_cv (S := S) (q := 496) xr_79_9 xf_80.1 xf_80.2.1 xn_80 (as := []) (r := []) rfl hp (Nat.le_of_ble_eq_true rfl) (Nat.le_of_ble_eq_true rfl) (pc' := 12) rfl (ls' := [(0, .ref 496)]) rfl ?_
  refine T_mono (c_isNumber sc S B fl fp at_ n cur so pl ct hp ⟨hx.1, hx.2.1, hx.2.2.1, hx.2.2.2⟩ (by omega) hso) (fun v1800 S1801 h1799 => ?_)
  obtain ⟨h1802, h1803⟩ := h1799
  rw [h1802, h1803]
  show X_T sc 79 (12, [(3, .int (iI (pl cur))), (0, .ref 496), (1, .ref a), (2, .int (iI pile))], [.int (iI (bI (so cur = 4 ∨ so cur = 5)))], S) _
  refine T_bif_eq xr_79_12 (t := 19) (pc' := 15) rfl rfl (fun c1804 => ?_) (fun c1804 => ?_)
  · skip
    have c1804 : ¬ (so cur = 4 ∨ so cur = 5) := c1804
    refine T_p xr_79_19 xn_79 (pc' := 20) (ls' := [(3, .int (iI (pl cur))), (0, .ref 496), (1, .ref a), (2, .int (iI pile))]) (st' := [.ref 496]) rfl ?_
    refine T_get xr_79_20 hp rfl (v := .ref 497) rfl (pc' := 23) rfl ?_
    refine T_cv (S := S) (q := 497) xr_79_23 xf_48.1 xf_48.2.1 xn_48 (as := []) (r := []) rfl hx.1 (Nat.le_of_ble_eq_true rfl) (Nat.le_of_ble_eq_true rfl) (pc' := 26) rfl (ls' := [(0, .ref 497)]) rfl ?_
    refine T_mono (c_sort sc S at_ n cur so pl ct ⟨hx.1, hx.2.1, hx.2.2.1, hx.2.2.2⟩ (by omega)) (fun v1806 S1807 h1805 => ?_)
    obtain ⟨h1808, h1809⟩ := h1805
    rw [h1808, h1809]
    show X_T sc 79 (26, [(3, .int (iI (pl cur))), (0, .ref 496), (1, .ref a), (2, .int (iI pile))], [.int (iI (so cur))], S) _
    have hs1810 := hso cur (by omega) (by omega)
    refine T_p xr_79_26 xn_79 (pc' := 28) (ls' := [(4, .int (iI (so cur))), (3, .int (iI (pl cur))), (0, .ref 496), (1, .ref a), (2, .int (iI pile))]) (st' := []) rfl ?_
    refine T_p xr_79_28 xn_79 (pc' := 30) (ls' := [(4, .int (iI (so cur))), (3, .int (iI (pl cur))), (0, .ref 496), (1, .ref a), (2, .int (iI pile))]) (st' := [.int (iI (so cur))]) rfl ?_
    refine T_p xr_79_30 xn_79 (pc' := 32) (ls' := [(4, .int (iI (so cur))), (3, .int (iI (pl cur))), (0, .ref 496), (1, .ref a), (2, .int (iI pile))]) (st' := [.int (iI 64), .int (iI (so cur))]) rfl ?_
    refine T_zicmp_ne xr_79_32 (t := 59) (pc' := 35) rfl rfl (fun c1811 => ?_) (fun c1811 => ?_)
    · skip
      have c1811 : ¬ (so cur) = 64 := c1811
      refine T_p xr_79_59 xn_79 (pc' := 61) (ls' := [(4, .int (iI (so cur))), (3, .int (iI (pl cur))), (0, .ref 496), (1, .ref a), (2, .int (iI pile))]) (st' := [.int (iI (so cur))]) rfl ?_
      refine T_p xr_79_61 xn_79 (pc' := 62) (ls' := [(4, .int (iI (so cur))), (3, .int (iI (pl cur))), (0, .ref 496), (1, .ref a), (2, .int (iI pile))]) (st' := [.int (iI 4), .int (iI (so cur))]) rfl ?_
      refine T_zicmp_eq xr_79_62 (t := 79) (pc' := 65) rfl rfl (fun c1812 => ?_) (fun c1812 => ?_)
      · skip
        have c1812 : (so cur) = 4 := c1812
        refine T_p xr_79_79 xn_79 (pc' := 80) (ls' := [(4, .int (iI (so cur))), (3, .int (iI (pl cur))), (0, .ref 496), (1, .ref a), (2, .int (iI pile))]) (st' := [.ref 496]) rfl ?_
        refine T_get xr_79_80 hp rfl (v := .ref 497) rfl (pc' := 83) rfl ?_
        refine T_cv (S := S) (q := 497) xr_79_83 xf_50.1 xf_50.2.1 xn_50 (as := []) (r := []) rfl hx.1 (Nat.le_of_ble_eq_true rfl) (Nat.le_of_ble_eq_true rfl) (pc' := 86) rfl (ls' := [(0, .ref 497)]) rfl ?_
        refine T_mono (c_content sc S at_ n cur so pl ct ⟨hx.1, hx.2.1, hx.2.2.1, hx.2.2.2⟩ (by omega)) (fun v1814 S1815 h1813 => ?_)
        obtain ⟨h1816, h1817⟩ := h1813
        rw [h1816, h1817]
        show X_T sc 79 (86, [(4, .int (iI (so cur))), (3, .int (iI (pl cur))), (0, .ref 496), (1, .ref a), (2, .int (iI pile))], [.long (ct cur)], S) _
        refine T_zop xr_79_86 (pc' := 87) rfl (z := ((ct cur : Int64).toInt32).toInt) (iI_of _) ?_
        refine T_ie (y := iI (X_vl ct cur)) rfl ?_
        have hv1818 := X_vl_r ct cur
        refine T_p xr_79_87 xn_79 (pc' := 89) (ls' := [(5, .int (iI (X_vl ct cur))), (4, .int (iI (so cur))), (3, .int (iI (pl cur))), (0, .ref 496), (1, .ref a), (2, .int (iI pile))]) (st' := []) rfl ?_
        have J1819 : X_T sc 79 (116, [(5, .int (iI (X_vl ct cur))), (4, .int (iI (so cur))), (3, .int (iI (pl cur))), (0, .ref 496), (1, .ref a), (2, .int (iI pile))], [.int (iI (bI ((so cur) = 64 ∧ (X_vl ct cur < 1 ∨ d 4 0 < X_vl ct cur))))], S) Q := by
          refine T_p xr_79_116 xn_79 (pc' := 118) (ls' := [(6, .int (iI (bI ((so cur) = 64 ∧ (X_vl ct cur < 1 ∨ d 4 0 < X_vl ct cur))))), (5, .int (iI (X_vl ct cur))), (4, .int (iI (so cur))), (3, .int (iI (pl cur))), (0, .ref 496), (1, .ref a), (2, .int (iI pile))]) (st' := []) rfl ?_
          have J1820 : X_T sc 79 (137, [(6, .int (iI (bI ((so cur) = 64 ∧ (X_vl ct cur < 1 ∨ d 4 0 < X_vl ct cur))))), (5, .int (iI (X_vl ct cur))), (4, .int (iI (so cur))), (3, .int (iI (pl cur))), (0, .ref 496), (1, .ref a), (2, .int (iI pile))], [.int (iI (bI (¬ X_isOp (so cur) ∧ pile = 16)))], S) Q := by
            refine T_p xr_79_137 xn_79 (pc' := 139) (ls' := [(7, .int (iI (bI (¬ X_isOp (so cur) ∧ pile = 16)))), (6, .int (iI (bI ((so cur) = 64 ∧ (X_vl ct cur < 1 ∨ d 4 0 < X_vl ct cur))))), (5, .int (iI (X_vl ct cur))), (4, .int (iI (so cur))), (3, .int (iI (pl cur))), (0, .ref 496), (1, .ref a), (2, .int (iI pile))]) (st' := []) rfl ?_
            have J1821 : X_T sc 79 (157, [(7, .int (iI (bI (¬ X_isOp (so cur) ∧ pile = 16)))), (6, .int (iI (bI ((so cur) = 64 ∧ (X_vl ct cur < 1 ∨ d 4 0 < X_vl ct cur))))), (5, .int (iI (X_vl ct cur))), (4, .int (iI (so cur))), (3, .int (iI (pl cur))), (0, .ref 496), (1, .ref a), (2, .int (iI pile))], [.int (iI (bI (X_isOp (so cur) ∧ pile < 2)))], S) Q := by
              refine T_p xr_79_157 xn_79 (pc' := 159) (ls' := [(8, .int (iI (bI (X_isOp (so cur) ∧ pile < 2)))), (7, .int (iI (bI (¬ X_isOp (so cur) ∧ pile = 16)))), (6, .int (iI (bI ((so cur) = 64 ∧ (X_vl ct cur < 1 ∨ d 4 0 < X_vl ct cur))))), (5, .int (iI (X_vl ct cur))), (4, .int (iI (so cur))), (3, .int (iI (pl cur))), (0, .ref 496), (1, .ref a), (2, .int (iI pile))]) (st' := []) rfl ?_
              refine T_p xr_79_159 xn_79 (pc' := 161) (ls' := [(8, .int (iI (bI (X_isOp (so cur) ∧ pile < 2)))), (7, .int (iI (bI (¬ X_isOp (so cur) ∧ pile = 16)))), (6, .int (iI (bI ((so cur) = 64 ∧ (X_vl ct cur < 1 ∨ d 4 0 < X_vl ct cur))))), (5, .int (iI (X_vl ct cur))), (4, .int (iI (so cur))), (3, .int (iI (pl cur))), (0, .ref 496), (1, .ref a), (2, .int (iI pile))]) (st' := [.int (iI (bI ((so cur) = 64 ∧ (X_vl ct cur < 1 ∨ d 4 0 < X_vl ct cur))))]) rfl ?_
              refine T_bif_ne xr_79_161 (t := 174) (pc' := 164) rfl rfl (fun c1822 => ?_) (fun c1822 => ?_)
              · skip
                have c1822 : ((so cur) = 64 ∧ (X_vl ct cur < 1 ∨ d 4 0 < X_vl ct cur)) := c1822
                refine T_p xr_79_174 xn_79 (pc' := 175) (ls' := [(8, .int (iI (bI (X_isOp (so cur) ∧ pile < 2)))), (7, .int (iI (bI (¬ X_isOp (so cur) ∧ pile = 16)))), (6, .int (iI (bI ((so cur) = 64 ∧ (X_vl ct cur < 1 ∨ d 4 0 < X_vl ct cur))))), (5, .int (iI (X_vl ct cur))), (4, .int (iI (so cur))), (3, .int (iI (pl cur))), (0, .ref 496), (1, .ref a), (2, .int (iI pile))]) (st' := [.ref 496]) rfl ?_
                refine T_p xr_79_175 xn_79 (pc' := 176) (ls' := [(8, .int (iI (bI (X_isOp (so cur) ∧ pile < 2)))), (7, .int (iI (bI (¬ X_isOp (so cur) ∧ pile = 16)))), (6, .int (iI (bI ((so cur) = 64 ∧ (X_vl ct cur < 1 ∨ d 4 0 < X_vl ct cur))))), (5, .int (iI (X_vl ct cur))), (4, .int (iI (so cur))), (3, .int (iI (pl cur))), (0, .ref 496), (1, .ref a), (2, .int (iI pile))]) (st' := [.int (iI 5), .ref 496]) rfl ?_
                refine T_p xr_79_176 xn_79 (pc' := 177) (ls' := [(8, .int (iI (bI (X_isOp (so cur) ∧ pile < 2)))), (7, .int (iI (bI (¬ X_isOp (so cur) ∧ pile = 16)))), (6, .int (iI (bI ((so cur) = 64 ∧ (X_vl ct cur < 1 ∨ d 4 0 < X_vl ct cur))))), (5, .int (iI (X_vl ct cur))), (4, .int (iI (so cur))), (3, .int (iI (pl cur))), (0, .ref 496), (1, .ref a), (2, .int (iI pile))]) (st' := [.int (iI (pl cur)), .int (iI 5), .ref 496]) rfl ?_
                refine T_cv (S := S) (q := 496) xr_79_177 xf_66.1 xf_66.2.1 xn_66 (as := [.int (iI 5), .int (iI (pl cur))]) (r := []) rfl hp (Nat.le_of_ble_eq_true rfl) (Nat.le_of_ble_eq_true rfl) (pc' := 180) rfl (ls' := [(0, .ref 496), (1, .int (iI 5)), (2, .int (iI (pl cur)))]) rfl ?_
                refine T_p xr_66_0 xn_66 (pc' := 1) (ls' := [(0, .ref 496), (1, .int (iI 5)), (2, .int (iI (pl cur)))]) (st' := [.ref 496]) rfl ?_
                refine T_p xr_66_1 xn_66 (pc' := 2) (ls' := [(0, .ref 496), (1, .int (iI 5)), (2, .int (iI (pl cur)))]) (st' := [.int (iI 5), .ref 496]) rfl ?_
                refine T_put xr_66_2 hp rfl (Nat.le_of_ble_eq_true rfl) rfl (fs' := [.ref 497, .ref B, .int (iI 5), .int (iI fp)]) rfl (pc' := 5) rfl (fun S1823 h1824 n1825 e1826 => ?_)
                refine T_p xr_66_5 xn_66 (pc' := 6) (ls' := [(0, .ref 496), (1, .int (iI 5)), (2, .int (iI (pl cur)))]) (st' := [.ref 496]) rfl ?_
                refine T_p xr_66_6 xn_66 (pc' := 7) (ls' := [(0, .ref 496), (1, .int (iI 5)), (2, .int (iI (pl cur)))]) (st' := [.int (iI (pl cur)), .ref 496]) rfl ?_
                refine T_put xr_66_7 h1824 rfl (Nat.le_of_ble_eq_true rfl) rfl (fs' := [.ref 497, .ref B, .int (iI 5), .int (iI (pl cur))]) rfl (pc' := 10) rfl (fun S1827 h1828 n1829 e1830 => ?_)
                refine T_vret xr_66_10 xf_66.2.2 ?_
                show X_T sc 79 (180, [(8, .int (iI (bI (X_isOp (so cur) ∧ pile < 2)))), (7, .int (iI (bI (¬ X_isOp (so cur) ∧ pile = 16)))), (6, .int (iI (bI ((so cur) = 64 ∧ (X_vl ct cur < 1 ∨ d 4 0 < X_vl ct cur))))), (5, .int (iI (X_vl ct cur))), (4, .int (iI (so cur))), (3, .int (iI (pl cur))), (0, .ref 496), (1, .ref a), (2, .int (iI pile))], [], S1827) _
                refine T_p xr_79_180 xn_79 (pc' := 181) (ls' := [(8, .int (iI (bI (X_isOp (so cur) ∧ pile < 2)))), (7, .int (iI (bI (¬ X_isOp (so cur) ∧ pile = 16)))), (6, .int (iI (bI ((so cur) = 64 ∧ (X_vl ct cur < 1 ∨ d 4 0 < X_vl ct cur))))), (5, .int (iI (X_vl ct cur))), (4, .int (iI (so cur))), (3, .int (iI (pl cur))), (0, .ref 496), (1, .ref a), (2, .int (iI pile))]) (st' := [.int (iI (-1))]) rfl ?_
                refine T_iret xr_79_181 xf_79.2.2 rfl ?_
                refine hQ _ _ ?_
                have h1831 := (n1829 497 (by decide)).trans ((n1825 497 (by decide)).trans (hx.1))
                have h1832 := (n1829 a (by omega)).trans ((n1825 a (by omega)).trans (hw.1))
                have h1833 := (n1829 (a + 1) (by first | exact (fun h => absurd (Nat.add_left_cancel h) (by decide)) | omega)).trans ((n1825 (a + 1) (by first | exact (fun h => absurd (Nat.add_left_cancel h) (by decide)) | omega)).trans (hw.2.1))
                have h1834 := (n1829 (a + 2) (by first | exact (fun h => absurd (Nat.add_left_cancel h) (by decide)) | omega)).trans ((n1825 (a + 2) (by first | exact (fun h => absurd (Nat.add_left_cancel h) (by decide)) | omega)).trans (hw.2.2.1))
                have h1835 := (n1829 (a + 3) (by first | exact (fun h => absurd (Nat.add_left_cancel h) (by decide)) | omega)).trans ((n1825 (a + 3) (by first | exact (fun h => absurd (Nat.add_left_cancel h) (by decide)) | omega)).trans (hw.2.2.2.1))
                have h1836 := (n1829 (a + 4) (by first | exact (fun h => absurd (Nat.add_left_cancel h) (by decide)) | omega)).trans ((n1825 (a + 4) (by first | exact (fun h => absurd (Nat.add_left_cancel h) (by decide)) | omega)).trans (hw.2.2.2.2.1))
                have h1837 := (n1829 (a + 5) (by first | exact (fun h => absurd (Nat.add_left_cancel h) (by decide)) | omega)).trans ((n1825 (a + 5) (by first | exact (fun h => absurd (Nat.add_left_cancel h) (by decide)) | omega)).trans (hw.2.2.2.2.2.1))
                have h1838 := (n1829 (a + 6) (by first | exact (fun h => absurd (Nat.add_left_cancel h) (by decide)) | omega)).trans ((n1825 (a + 6) (by first | exact (fun h => absurd (Nat.add_left_cancel h) (by decide)) | omega)).trans (hw.2.2.2.2.2.2.1))
                have h1839 := (n1829 (a + 7) (by first | exact (fun h => absurd (Nat.add_left_cancel h) (by decide)) | omega)).trans ((n1825 (a + 7) (by first | exact (fun h => absurd (Nat.add_left_cancel h) (by decide)) | omega)).trans (hw.2.2.2.2.2.2.2))
                refine Or.inr ⟨rfl, ?_, ⟨_, _, by omega, h1828⟩, ⟨cur, h1831, by omega⟩, ⟨h1832, h1833, h1834, h1835, h1836, h1837, h1838, h1839⟩, ((X_Fr.rf).tr (X_Fr.of n1825 e1826 (by first | decide | exact ⟨Nat.le_add_right _ _, Nat.add_le_add_left (by decide) _⟩ | omega))).tr (X_Fr.of n1829 e1830 (by first | decide | exact ⟨Nat.le_add_right _ _, Nat.add_le_add_left (by decide) _⟩ | omega))⟩
                unfold sp_step sp_stF
                (repeat (first | rw [if_pos (by assumption)] | rw [if_neg (by assumption)]))
                all_goals first | rfl | ((repeat' split) <;> first | rfl | (exfalso; omega))
              · skip
                have c1822 : ¬ ((so cur) = 64 ∧ (X_vl ct cur < 1 ∨ d 4 0 < X_vl ct cur)) := c1822
                refine T_p xr_79_164 xn_79 (pc' := 166) (ls' := [(8, .int (iI (bI (X_isOp (so cur) ∧ pile < 2)))), (7, .int (iI (bI (¬ X_isOp (so cur) ∧ pile = 16)))), (6, .int (iI (bI ((so cur) = 64 ∧ (X_vl ct cur < 1 ∨ d 4 0 < X_vl ct cur))))), (5, .int (iI (X_vl ct cur))), (4, .int (iI (so cur))), (3, .int (iI (pl cur))), (0, .ref 496), (1, .ref a), (2, .int (iI pile))]) (st' := [.int (iI (bI (¬ X_isOp (so cur) ∧ pile = 16)))]) rfl ?_
                refine T_bif_ne xr_79_166 (t := 174) (pc' := 169) rfl rfl (fun c1840 => ?_) (fun c1840 => ?_)
                · skip
                  have c1840 : (¬ X_isOp (so cur) ∧ pile = 16) := c1840
                  refine T_p xr_79_174 xn_79 (pc' := 175) (ls' := [(8, .int (iI (bI (X_isOp (so cur) ∧ pile < 2)))), (7, .int (iI (bI (¬ X_isOp (so cur) ∧ pile = 16)))), (6, .int (iI (bI ((so cur) = 64 ∧ (X_vl ct cur < 1 ∨ d 4 0 < X_vl ct cur))))), (5, .int (iI (X_vl ct cur))), (4, .int (iI (so cur))), (3, .int (iI (pl cur))), (0, .ref 496), (1, .ref a), (2, .int (iI pile))]) (st' := [.ref 496]) rfl ?_
                  refine T_p xr_79_175 xn_79 (pc' := 176) (ls' := [(8, .int (iI (bI (X_isOp (so cur) ∧ pile < 2)))), (7, .int (iI (bI (¬ X_isOp (so cur) ∧ pile = 16)))), (6, .int (iI (bI ((so cur) = 64 ∧ (X_vl ct cur < 1 ∨ d 4 0 < X_vl ct cur))))), (5, .int (iI (X_vl ct cur))), (4, .int (iI (so cur))), (3, .int (iI (pl cur))), (0, .ref 496), (1, .ref a), (2, .int (iI pile))]) (st' := [.int (iI 5), .ref 496]) rfl ?_
                  refine T_p xr_79_176 xn_79 (pc' := 177) (ls' := [(8, .int (iI (bI (X_isOp (so cur) ∧ pile < 2)))), (7, .int (iI (bI (¬ X_isOp (so cur) ∧ pile = 16)))), (6, .int (iI (bI ((so cur) = 64 ∧ (X_vl ct cur < 1 ∨ d 4 0 < X_vl ct cur))))), (5, .int (iI (X_vl ct cur))), (4, .int (iI (so cur))), (3, .int (iI (pl cur))), (0, .ref 496), (1, .ref a), (2, .int (iI pile))]) (st' := [.int (iI (pl cur)), .int (iI 5), .ref 496]) rfl ?_
                  refine T_cv (S := S) (q := 496) xr_79_177 xf_66.1 xf_66.2.1 xn_66 (as := [.int (iI 5), .int (iI (pl cur))]) (r := []) rfl hp (Nat.le_of_ble_eq_true rfl) (Nat.le_of_ble_eq_true rfl) (pc' := 180) rfl (ls' := [(0, .ref 496), (1, .int (iI 5)), (2, .int (iI (pl cur)))]) rfl ?_
                  refine T_p xr_66_0 xn_66 (pc' := 1) (ls' := [(0, .ref 496), (1, .int (iI 5)), (2, .int (iI (pl cur)))]) (st' := [.ref 496]) rfl ?_
                  refine T_p xr_66_1 xn_66 (pc' := 2) (ls' := [(0, .ref 496), (1, .int (iI 5)), (2, .int (iI (pl cur)))]) (st' := [.int (iI 5), .ref 496]) rfl ?_
                  refine T_put xr_66_2 hp rfl (Nat.le_of_ble_eq_true rfl) rfl (fs' := [.ref 497, .ref B, .int (iI 5), .int (iI fp)]) rfl (pc' := 5) rfl (fun S1841 h1842 n1843 e1844 => ?_)
                  refine T_p xr_66_5 xn_66 (pc' := 6) (ls' := [(0, .ref 496), (1, .int (iI 5)), (2, .int (iI (pl cur)))]) (st' := [.ref 496]) rfl ?_
                  refine T_p xr_66_6 xn_66 (pc' := 7) (ls' := [(0, .ref 496), (1, .int (iI 5)), (2, .int (iI (pl cur)))]) (st' := [.int (iI (pl cur)), .ref 496]) rfl ?_
                  refine T_put xr_66_7 h1842 rfl (Nat.le_of_ble_eq_true rfl) rfl (fs' := [.ref 497, .ref B, .int (iI 5), .int (iI (pl cur))]) rfl (pc' := 10) rfl (fun S1845 h1846 n1847 e1848 => ?_)
                  refine T_vret xr_66_10 xf_66.2.2 ?_
                  show X_T sc 79 (180, [(8, .int (iI (bI (X_isOp (so cur) ∧ pile < 2)))), (7, .int (iI (bI (¬ X_isOp (so cur) ∧ pile = 16)))), (6, .int (iI (bI ((so cur) = 64 ∧ (X_vl ct cur < 1 ∨ d 4 0 < X_vl ct cur))))), (5, .int (iI (X_vl ct cur))), (4, .int (iI (so cur))), (3, .int (iI (pl cur))), (0, .ref 496), (1, .ref a), (2, .int (iI pile))], [], S1845) _
                  refine T_p xr_79_180 xn_79 (pc' := 181) (ls' := [(8, .int (iI (bI (X_isOp (so cur) ∧ pile < 2)))), (7, .int (iI (bI (¬ X_isOp (so cur) ∧ pile = 16)))), (6, .int (iI (bI ((so cur) = 64 ∧ (X_vl ct cur < 1 ∨ d 4 0 < X_vl ct cur))))), (5, .int (iI (X_vl ct cur))), (4, .int (iI (so cur))), (3, .int (iI (pl cur))), (0, .ref 496), (1, .ref a), (2, .int (iI pile))]) (st' := [.int (iI (-1))]) rfl ?_
                  refine T_iret xr_79_181 xf_79.2.2 rfl ?_
                  refine hQ _ _ ?_
                  have h1849 := (n1847 497 (by decide)).trans ((n1843 497 (by decide)).trans (hx.1))
                  have h1850 := (n1847 a (by omega)).trans ((n1843 a (by omega)).trans (hw.1))
                  have h1851 := (n1847 (a + 1) (by first | exact (fun h => absurd (Nat.add_left_cancel h) (by decide)) | omega)).trans ((n1843 (a + 1) (by first | exact (fun h => absurd (Nat.add_left_cancel h) (by decide)) | omega)).trans (hw.2.1))
                  have h1852 := (n1847 (a + 2) (by first | exact (fun h => absurd (Nat.add_left_cancel h) (by decide)) | omega)).trans ((n1843 (a + 2) (by first | exact (fun h => absurd (Nat.add_left_cancel h) (by decide)) | omega)).trans (hw.2.2.1))
                  have h1853 := (n1847 (a + 3) (by first | exact (fun h => absurd (Nat.add_left_cancel h) (by decide)) | omega)).trans ((n1843 (a + 3) (by first | exact (fun h => absurd (Nat.add_left_cancel h) (by decide)) | omega)).trans (hw.2.2.2.1))
                  have h1854 := (n1847 (a + 4) (by first | exact (fun h => absurd (Nat.add_left_cancel h) (by decide)) | omega)).trans ((n1843 (a + 4) (by first | exact (fun h => absurd (Nat.add_left_cancel h) (by decide)) | omega)).trans (hw.2.2.2.2.1))
                  have h1855 := (n1847 (a + 5) (by first | exact (fun h => absurd (Nat.add_left_cancel h) (by decide)) | omega)).trans ((n1843 (a + 5) (by first | exact (fun h => absurd (Nat.add_left_cancel h) (by decide)) | omega)).trans (hw.2.2.2.2.2.1))
                  have h1856 := (n1847 (a + 6) (by first | exact (fun h => absurd (Nat.add_left_cancel h) (by decide)) | omega)).trans ((n1843 (a + 6) (by first | exact (fun h => absurd (Nat.add_left_cancel h) (by decide)) | omega)).trans (hw.2.2.2.2.2.2.1))
                  have h1857 := (n1847 (a + 7) (by first | exact (fun h => absurd (Nat.add_left_cancel h) (by decide)) | omega)).trans ((n1843 (a + 7) (by first | exact (fun h => absurd (Nat.add_left_cancel h) (by decide)) | omega)).trans (hw.2.2.2.2.2.2.2))
                  refine Or.inr ⟨rfl, ?_, ⟨_, _, by omega, h1846⟩, ⟨cur, h1849, by omega⟩, ⟨h1850, h1851, h1852, h1853, h1854, h1855, h1856, h1857⟩, ((X_Fr.rf).tr (X_Fr.of n1843 e1844 (by first | decide | exact ⟨Nat.le_add_right _ _, Nat.add_le_add_left (by decide) _⟩ | omega))).tr (X_Fr.of n1847 e1848 (by first | decide | exact ⟨Nat.le_add_right _ _, Nat.add_le_add_left (by decide) _⟩ | omega))⟩
                  unfold sp_step sp_stF
                  (repeat (first | rw [if_pos (by assumption)] | rw [if_neg (by assumption)]))
                  all_goals first | rfl | ((repeat' split) <;> first | rfl | (exfalso; omega))
                · skip
                  have c1840 : ¬ (¬ X_isOp (so cur) ∧ pile = 16) := c1840
                  refine T_p xr_79_169 xn_79 (pc' := 171) (ls' := [(8, .int (iI (bI (X_isOp (so cur) ∧ pile < 2)))), (7, .int (iI (bI (¬ X_isOp (so cur) ∧ pile = 16)))), (6, .int (iI (bI ((so cur) = 64 ∧ (X_vl ct cur < 1 ∨ d 4 0 < X_vl ct cur))))), (5, .int (iI (X_vl ct cur))), (4, .int (iI (so cur))), (3, .int (iI (pl cur))), (0, .ref 496), (1, .ref a), (2, .int (iI pile))]) (st' := [.int (iI (bI (X_isOp (so cur) ∧ pile < 2)))]) rfl ?_
                  refine T_bif_eq xr_79_171 (t := 182) (pc' := 174) rfl rfl (fun c1858 => ?_) (fun c1858 => ?_)
                  · skip
                    have c1858 : ¬ (X_isOp (so cur) ∧ pile < 2) := c1858
                    refine T_p xr_79_182 xn_79 (pc' := 183) (ls' := [(8, .int (iI (bI (X_isOp (so cur) ∧ pile < 2)))), (7, .int (iI (bI (¬ X_isOp (so cur) ∧ pile = 16)))), (6, .int (iI (bI ((so cur) = 64 ∧ (X_vl ct cur < 1 ∨ d 4 0 < X_vl ct cur))))), (5, .int (iI (X_vl ct cur))), (4, .int (iI (so cur))), (3, .int (iI (pl cur))), (0, .ref 496), (1, .ref a), (2, .int (iI pile))]) (st' := [.ref a]) rfl ?_
                    refine T_p xr_79_183 xn_79 (pc' := 185) (ls' := [(8, .int (iI (bI (X_isOp (so cur) ∧ pile < 2)))), (7, .int (iI (bI (¬ X_isOp (so cur) ∧ pile = 16)))), (6, .int (iI (bI ((so cur) = 64 ∧ (X_vl ct cur < 1 ∨ d 4 0 < X_vl ct cur))))), (5, .int (iI (X_vl ct cur))), (4, .int (iI (so cur))), (3, .int (iI (pl cur))), (0, .ref 496), (1, .ref a), (2, .int (iI pile))]) (st' := [.int (iI (so cur)), .ref a]) rfl ?_
                    refine T_p xr_79_185 xn_79 (pc' := 187) (ls' := [(8, .int (iI (bI (X_isOp (so cur) ∧ pile < 2)))), (7, .int (iI (bI (¬ X_isOp (so cur) ∧ pile = 16)))), (6, .int (iI (bI ((so cur) = 64 ∧ (X_vl ct cur < 1 ∨ d 4 0 < X_vl ct cur))))), (5, .int (iI (X_vl ct cur))), (4, .int (iI (so cur))), (3, .int (iI (pl cur))), (0, .ref 496), (1, .ref a), (2, .int (iI pile))]) (st' := [.int (iI (X_vl ct cur)), .int (iI (so cur)), .ref a]) rfl ?_
                    refine T_cv (S := S) (q := a) xr_79_187 xf_99.1 xf_99.2.1 xn_99 (as := [.int (iI (so cur)), .int (iI (X_vl ct cur))]) (r := []) rfl hw.1 (Nat.le_of_ble_eq_true rfl) (Nat.le_of_ble_eq_true rfl) (pc' := 190) rfl (ls' := [(0, .ref a), (1, .int (iI (so cur))), (2, .int (iI (X_vl ct cur)))]) rfl ?_
                    have hr1865 : X_wr (X_aS d (so cur) (X_vl ct cur)) := X_wr_S hr (by omega)
                    refine T_mono (c_addStep sc S a d q (so cur) (X_vl ct cur) ⟨hw.1, hw.2.1, hw.2.2.1, hw.2.2.2.1, hw.2.2.2.2.1, hw.2.2.2.2.2.1, hw.2.2.2.2.2.2.1, hw.2.2.2.2.2.2.2⟩ hr (by omega)) (fun v1859 S1860 h1861 => ?_)
                    obtain ⟨h1862, hw1863, hf1864⟩ := h1861
                    rw [h1862]
                    have hw1863 : C_wd S1860 a (X_aS d (so cur) (X_vl ct cur)) q := hw1863
                    show X_T sc 79 (190, [(8, .int (iI (bI (X_isOp (so cur) ∧ pile < 2)))), (7, .int (iI (bI (¬ X_isOp (so cur) ∧ pile = 16)))), (6, .int (iI (bI ((so cur) = 64 ∧ (X_vl ct cur < 1 ∨ d 4 0 < X_vl ct cur))))), (5, .int (iI (X_vl ct cur))), (4, .int (iI (so cur))), (3, .int (iI (pl cur))), (0, .ref 496), (1, .ref a), (2, .int (iI pile))], [], S1860) _
                    refine T_p xr_79_190 xn_79 (pc' := 191) (ls' := [(8, .int (iI (bI (X_isOp (so cur) ∧ pile < 2)))), (7, .int (iI (bI (¬ X_isOp (so cur) ∧ pile = 16)))), (6, .int (iI (bI ((so cur) = 64 ∧ (X_vl ct cur < 1 ∨ d 4 0 < X_vl ct cur))))), (5, .int (iI (X_vl ct cur))), (4, .int (iI (so cur))), (3, .int (iI (pl cur))), (0, .ref 496), (1, .ref a), (2, .int (iI pile))]) (st' := [.ref 496]) rfl ?_
                    have h1866 := (hf1864.1 496 (by first | decide | omega)).trans (hp)
                    refine T_get xr_79_191 h1866 rfl (v := .ref 497) rfl (pc' := 194) rfl ?_
                    have h1867 := (hf1864.1 497 (by first | decide | omega)).trans (hx.1)
                    refine T_cv (S := S1860) (q := 497) xr_79_194 xf_52.1 xf_52.2.1 xn_52 (as := []) (r := []) rfl h1867 (Nat.le_of_ble_eq_true rfl) (Nat.le_of_ble_eq_true rfl) (pc' := 197) rfl (ls' := [(0, .ref 497)]) rfl ?_
                    have h1868 := (hf1864.1 498 (by first | decide | omega)).trans (hx.2.1)
                    have h1869 := (hf1864.1 499 (by first | decide | omega)).trans (hx.2.2.1)
                    have h1870 := (hf1864.1 500 (by first | decide | omega)).trans (hx.2.2.2)
                    refine T_mono (c_advance sc S1860 at_ n cur so pl ct ⟨h1867, h1868, h1869, h1870⟩ (by omega)) (fun v1872 S1873 h1871 => ?_)
                    obtain ⟨h1874, h1876, h1875⟩ := h1871
                    rw [h1874]
                    show X_T sc 79 (197, [(8, .int (iI (bI (X_isOp (so cur) ∧ pile < 2)))), (7, .int (iI (bI (¬ X_isOp (so cur) ∧ pile = 16)))), (6, .int (iI (bI ((so cur) = 64 ∧ (X_vl ct cur < 1 ∨ d 4 0 < X_vl ct cur))))), (5, .int (iI (X_vl ct cur))), (4, .int (iI (so cur))), (3, .int (iI (pl cur))), (0, .ref 496), (1, .ref a), (2, .int (iI pile))], [], S1873) _
                    have hv1877 := X_av_r (n := n) (c := cur) (by omega)
                    refine T_p xr_79_197 xn_79 (pc' := 199) (ls' := [(8, .int (iI (bI (X_isOp (so cur) ∧ pile < 2)))), (7, .int (iI (bI (¬ X_isOp (so cur) ∧ pile = 16)))), (6, .int (iI (bI ((so cur) = 64 ∧ (X_vl ct cur < 1 ∨ d 4 0 < X_vl ct cur))))), (5, .int (iI (X_vl ct cur))), (4, .int (iI (so cur))), (3, .int (iI (pl cur))), (0, .ref 496), (1, .ref a), (2, .int (iI pile))]) (st' := [.int (iI (so cur))]) rfl ?_
                    refine T_cs xr_79_199 (by decide) xf_81.1 xn_81 (as := [.int (iI (so cur))]) (r := []) rfl (Nat.le_of_ble_eq_true rfl) (Nat.le_of_ble_eq_true rfl) (pc' := 202) rfl (ls' := [(0, .int (iI (so cur)))]) rfl ?_
                    refine T_mono (c_isOperation sc S1873 (so cur) (by omega)) (fun v1879 S1880 h1878 => ?_)
                    obtain ⟨h1881, h1882⟩ := h1878
                    rw [h1881, h1882]
                    show X_T sc 79 (202, [(8, .int (iI (bI (X_isOp (so cur) ∧ pile < 2)))), (7, .int (iI (bI (¬ X_isOp (so cur) ∧ pile = 16)))), (6, .int (iI (bI ((so cur) = 64 ∧ (X_vl ct cur < 1 ∨ d 4 0 < X_vl ct cur))))), (5, .int (iI (X_vl ct cur))), (4, .int (iI (so cur))), (3, .int (iI (pl cur))), (0, .ref 496), (1, .ref a), (2, .int (iI pile))], [.int (iI (bI (X_isOp (so cur))))], S1873) _
                    refine T_bif_eq xr_79_202 (t := 211) (pc' := 205) rfl rfl (fun c1883 => ?_) (fun c1883 => ?_)
                    · skip
                      have c1883 : ¬ (X_isOp (so cur)) := c1883
                      refine T_p xr_79_211 xn_79 (pc' := 212) (ls' := [(8, .int (iI (bI (X_isOp (so cur) ∧ pile < 2)))), (7, .int (iI (bI (¬ X_isOp (so cur) ∧ pile = 16)))), (6, .int (iI (bI ((so cur) = 64 ∧ (X_vl ct cur < 1 ∨ d 4 0 < X_vl ct cur))))), (5, .int (iI (X_vl ct cur))), (4, .int (iI (so cur))), (3, .int (iI (pl cur))), (0, .ref 496), (1, .ref a), (2, .int (iI pile))]) (st' := [.int (iI pile)]) rfl ?_
                      refine T_p xr_79_212 xn_79 (pc' := 213) (ls' := [(8, .int (iI (bI (X_isOp (so cur) ∧ pile < 2)))), (7, .int (iI (bI (¬ X_isOp (so cur) ∧ pile = 16)))), (6, .int (iI (bI ((so cur) = 64 ∧ (X_vl ct cur < 1 ∨ d 4 0 < X_vl ct cur))))), (5, .int (iI (X_vl ct cur))), (4, .int (iI (so cur))), (3, .int (iI (pl cur))), (0, .ref 496), (1, .ref a), (2, .int (iI pile))]) (st' := [.int (iI 1), .int (iI pile)]) rfl ?_
                      refine T_ziadd xr_79_213 (z := pile + 1) rfl (pc' := 214) rfl ?_
                      refine T_iret xr_79_214 xf_79.2.2 rfl ?_
                      refine hQ _ _ ?_
                      have h1884 := (h1875.1 496 (by first | decide | omega)).trans (h1866)
                      have h1885 := (h1875.1 a (by omega)).trans (hw1863.1)
                      have h1886 := (h1875.1 (a + 1) (by omega)).trans (hw1863.2.1)
                      have h1887 := (h1875.1 (a + 2) (by omega)).trans (hw1863.2.2.1)
                      have h1888 := (h1875.1 (a + 3) (by omega)).trans (hw1863.2.2.2.1)
                      have h1889 := (h1875.1 (a + 4) (by omega)).trans (hw1863.2.2.2.2.1)
                      have h1890 := (h1875.1 (a + 5) (by omega)).trans (hw1863.2.2.2.2.2.1)
                      have h1891 := (h1875.1 (a + 6) (by omega)).trans (hw1863.2.2.2.2.2.2.1)
                      have h1892 := (h1875.1 (a + 7) (by omega)).trans (hw1863.2.2.2.2.2.2.2)
                      refine Or.inl ⟨X_av n cur, X_aS d (so cur) (X_vl ct cur), pile + 1, rfl, ?_, h1884, h1876, by omega, ⟨h1885, h1886, h1887, h1888, h1889, h1890, h1891, h1892⟩, hr1865, ((X_Fr.rf).tr (X_Fr.mono ⟨hf1864.1, hf1864.2⟩ (fun q hq => (by omega)))).tr (X_Fr.mono ⟨h1875.1, h1875.2⟩ (fun q hq => (by omega)))⟩
                      unfold sp_step sp_stF
                      (repeat (first | rw [if_pos (by assumption)] | rw [if_neg (by assumption)]))
                      all_goals first | rfl | ((repeat' split) <;> first | rfl | (exfalso; omega))
                    · skip
                      have c1883 : (X_isOp (so cur)) := c1883
                      refine T_p xr_79_205 xn_79 (pc' := 206) (ls' := [(8, .int (iI (bI (X_isOp (so cur) ∧ pile < 2)))), (7, .int (iI (bI (¬ X_isOp (so cur) ∧ pile = 16)))), (6, .int (iI (bI ((so cur) = 64 ∧ (X_vl ct cur < 1 ∨ d 4 0 < X_vl ct cur))))), (5, .int (iI (X_vl ct cur))), (4, .int (iI (so cur))), (3, .int (iI (pl cur))), (0, .ref 496), (1, .ref a), (2, .int (iI pile))]) (st' := [.int (iI pile)]) rfl ?_
                      refine T_p xr_79_206 xn_79 (pc' := 207) (ls' := [(8, .int (iI (bI (X_isOp (so cur) ∧ pile < 2)))), (7, .int (iI (bI (¬ X_isOp (so cur) ∧ pile = 16)))), (6, .int (iI (bI ((so cur) = 64 ∧ (X_vl ct cur < 1 ∨ d 4 0 < X_vl ct cur))))), (5, .int (iI (X_vl ct cur))), (4, .int (iI (so cur))), (3, .int (iI (pl cur))), (0, .ref 496), (1, .ref a), (2, .int (iI pile))]) (st' := [.int (iI 1), .int (iI pile)]) rfl ?_
                      refine T_zisub xr_79_207 (z := pile - 1) rfl (pc' := 208) rfl ?_
                      refine T_p xr_79_208 xn_79 (pc' := 214) (ls' := [(8, .int (iI (bI (X_isOp (so cur) ∧ pile < 2)))), (7, .int (iI (bI (¬ X_isOp (so cur) ∧ pile = 16)))), (6, .int (iI (bI ((so cur) = 64 ∧ (X_vl ct cur < 1 ∨ d 4 0 < X_vl ct cur))))), (5, .int (iI (X_vl ct cur))), (4, .int (iI (so cur))), (3, .int (iI (pl cur))), (0, .ref 496), (1, .ref a), (2, .int (iI pile))]) (st' := [.int (iI (pile - 1))]) rfl ?_
                      refine T_iret xr_79_214 xf_79.2.2 rfl ?_
                      refine hQ _ _ ?_
                      have h1893 := (h1875.1 496 (by first | decide | omega)).trans (h1866)
                      have h1894 := (h1875.1 a (by omega)).trans (hw1863.1)
                      have h1895 := (h1875.1 (a + 1) (by omega)).trans (hw1863.2.1)
                      have h1896 := (h1875.1 (a + 2) (by omega)).trans (hw1863.2.2.1)
                      have h1897 := (h1875.1 (a + 3) (by omega)).trans (hw1863.2.2.2.1)
                      have h1898 := (h1875.1 (a + 4) (by omega)).trans (hw1863.2.2.2.2.1)
                      have h1899 := (h1875.1 (a + 5) (by omega)).trans (hw1863.2.2.2.2.2.1)
                      have h1900 := (h1875.1 (a + 6) (by omega)).trans (hw1863.2.2.2.2.2.2.1)
                      have h1901 := (h1875.1 (a + 7) (by omega)).trans (hw1863.2.2.2.2.2.2.2)
                      refine Or.inl ⟨X_av n cur, X_aS d (so cur) (X_vl ct cur), pile - 1, rfl, ?_, h1893, h1876, by omega, ⟨h1894, h1895, h1896, h1897, h1898, h1899, h1900, h1901⟩, hr1865, ((X_Fr.rf).tr (X_Fr.mono ⟨hf1864.1, hf1864.2⟩ (fun q hq => (by omega)))).tr (X_Fr.mono ⟨h1875.1, h1875.2⟩ (fun q hq => (by omega)))⟩
                      unfold sp_step sp_stF
                      (repeat (first | rw [if_pos (by assumption)] | rw [if_neg (by assumption)]))
                      all_goals first | rfl | ((repeat' split) <;> first | rfl | (exfalso; omega))
                  · skip
                    have c1858 : (X_isOp (so cur) ∧ pile < 2) := c1858
                    refine T_p xr_79_174 xn_79 (pc' := 175) (ls' := [(8, .int (iI (bI (X_isOp (so cur) ∧ pile < 2)))), (7, .int (iI (bI (¬ X_isOp (so cur) ∧ pile = 16)))), (6, .int (iI (bI ((so cur) = 64 ∧ (X_vl ct cur < 1 ∨ d 4 0 < X_vl ct cur))))), (5, .int (iI (X_vl ct cur))), (4, .int (iI (so cur))), (3, .int (iI (pl cur))), (0, .ref 496), (1, .ref a), (2, .int (iI pile))]) (st' := [.ref 496]) rfl ?_
                    refine T_p xr_79_175 xn_79 (pc' := 176) (ls' := [(8, .int (iI (bI (X_isOp (so cur) ∧ pile < 2)))), (7, .int (iI (bI (¬ X_isOp (so cur) ∧ pile = 16)))), (6, .int (iI (bI ((so cur) = 64 ∧ (X_vl ct cur < 1 ∨ d 4 0 < X_vl ct cur))))), (5, .int (iI (X_vl ct cur))), (4, .int (iI (so cur))), (3, .int (iI (pl cur))), (0, .ref 496), (1, .ref a), (2, .int (iI pile))]) (st' := [.int (iI 5), .ref 496]) rfl ?_
                    refine T_p xr_79_176 xn_79 (pc' := 177) (ls' := [(8, .int (iI (bI (X_isOp (so cur) ∧ pile < 2)))), (7, .int (iI (bI (¬ X_isOp (so cur) ∧ pile = 16)))), (6, .int (iI (bI ((so cur) = 64 ∧ (X_vl ct cur < 1 ∨ d 4 0 < X_vl ct cur))))), (5, .int (iI (X_vl ct cur))), (4, .int (iI (so cur))), (3, .int (iI (pl cur))), (0, .ref 496), (1, .ref a), (2, .int (iI pile))]) (st' := [.int (iI (pl cur)), .int (iI 5), .ref 496]) rfl ?_
                    refine T_cv (S := S) (q := 496) xr_79_177 xf_66.1 xf_66.2.1 xn_66 (as := [.int (iI 5), .int (iI (pl cur))]) (r := []) rfl hp (Nat.le_of_ble_eq_true rfl) (Nat.le_of_ble_eq_true rfl) (pc' := 180) rfl (ls' := [(0, .ref 496), (1, .int (iI 5)), (2, .int (iI (pl cur)))]) rfl ?_
                    refine T_p xr_66_0 xn_66 (pc' := 1) (ls' := [(0, .ref 496), (1, .int (iI 5)), (2, .int (iI (pl cur)))]) (st' := [.ref 496]) rfl ?_
                    refine T_p xr_66_1 xn_66 (pc' := 2) (ls' := [(0, .ref 496), (1, .int (iI 5)), (2, .int (iI (pl cur)))]) (st' := [.int (iI 5), .ref 496]) rfl ?_
                    refine T_put xr_66_2 hp rfl (Nat.le_of_ble_eq_true rfl) rfl (fs' := [.ref 497, .ref B, .int (iI 5), .int (iI fp)]) rfl (pc' := 5) rfl (fun S1902 h1903 n1904 e1905 => ?_)
                    refine T_p xr_66_5 xn_66 (pc' := 6) (ls' := [(0, .ref 496), (1, .int (iI 5)), (2, .int (iI (pl cur)))]) (st' := [.ref 496]) rfl ?_
                    refine T_p xr_66_6 xn_66 (pc' := 7) (ls' := [(0, .ref 496), (1, .int (iI 5)), (2, .int (iI (pl cur)))]) (st' := [.int (iI (pl cur)), .ref 496]) rfl ?_
                    refine T_put xr_66_7 h1903 rfl (Nat.le_of_ble_eq_true rfl) rfl (fs' := [.ref 497, .ref B, .int (iI 5), .int (iI (pl cur))]) rfl (pc' := 10) rfl (fun S1906 h1907 n1908 e1909 => ?_)
                    refine T_vret xr_66_10 xf_66.2.2 ?_
                    show X_T sc 79 (180, [(8, .int (iI (bI (X_isOp (so cur) ∧ pile < 2)))), (7, .int (iI (bI (¬ X_isOp (so cur) ∧ pile = 16)))), (6, .int (iI (bI ((so cur) = 64 ∧ (X_vl ct cur < 1 ∨ d 4 0 < X_vl ct cur))))), (5, .int (iI (X_vl ct cur))), (4, .int (iI (so cur))), (3, .int (iI (pl cur))), (0, .ref 496), (1, .ref a), (2, .int (iI pile))], [], S1906) _
                    refine T_p xr_79_180 xn_79 (pc' := 181) (ls' := [(8, .int (iI (bI (X_isOp (so cur) ∧ pile < 2)))), (7, .int (iI (bI (¬ X_isOp (so cur) ∧ pile = 16)))), (6, .int (iI (bI ((so cur) = 64 ∧ (X_vl ct cur < 1 ∨ d 4 0 < X_vl ct cur))))), (5, .int (iI (X_vl ct cur))), (4, .int (iI (so cur))), (3, .int (iI (pl cur))), (0, .ref 496), (1, .ref a), (2, .int (iI pile))]) (st' := [.int (iI (-1))]) rfl ?_
                    refine T_iret xr_79_181 xf_79.2.2 rfl ?_
                    refine hQ _ _ ?_
                    have h1910 := (n1908 497 (by decide)).trans ((n1904 497 (by decide)).trans (hx.1))
                    have h1911 := (n1908 a (by omega)).trans ((n1904 a (by omega)).trans (hw.1))
                    have h1912 := (n1908 (a + 1) (by first | exact (fun h => absurd (Nat.add_left_cancel h) (by decide)) | omega)).trans ((n1904 (a + 1) (by first | exact (fun h => absurd (Nat.add_left_cancel h) (by decide)) | omega)).trans (hw.2.1))
                    have h1913 := (n1908 (a + 2) (by first | exact (fun h => absurd (Nat.add_left_cancel h) (by decide)) | omega)).trans ((n1904 (a + 2) (by first | exact (fun h => absurd (Nat.add_left_cancel h) (by decide)) | omega)).trans (hw.2.2.1))
                    have h1914 := (n1908 (a + 3) (by first | exact (fun h => absurd (Nat.add_left_cancel h) (by decide)) | omega)).trans ((n1904 (a + 3) (by first | exact (fun h => absurd (Nat.add_left_cancel h) (by decide)) | omega)).trans (hw.2.2.2.1))
                    have h1915 := (n1908 (a + 4) (by first | exact (fun h => absurd (Nat.add_left_cancel h) (by decide)) | omega)).trans ((n1904 (a + 4) (by first | exact (fun h => absurd (Nat.add_left_cancel h) (by decide)) | omega)).trans (hw.2.2.2.2.1))
                    have h1916 := (n1908 (a + 5) (by first | exact (fun h => absurd (Nat.add_left_cancel h) (by decide)) | omega)).trans ((n1904 (a + 5) (by first | exact (fun h => absurd (Nat.add_left_cancel h) (by decide)) | omega)).trans (hw.2.2.2.2.2.1))
                    have h1917 := (n1908 (a + 6) (by first | exact (fun h => absurd (Nat.add_left_cancel h) (by decide)) | omega)).trans ((n1904 (a + 6) (by first | exact (fun h => absurd (Nat.add_left_cancel h) (by decide)) | omega)).trans (hw.2.2.2.2.2.2.1))
                    have h1918 := (n1908 (a + 7) (by first | exact (fun h => absurd (Nat.add_left_cancel h) (by decide)) | omega)).trans ((n1904 (a + 7) (by first | exact (fun h => absurd (Nat.add_left_cancel h) (by decide)) | omega)).trans (hw.2.2.2.2.2.2.2))
                    refine Or.inr ⟨rfl, ?_, ⟨_, _, by omega, h1907⟩, ⟨cur, h1910, by omega⟩, ⟨h1911, h1912, h1913, h1914, h1915, h1916, h1917, h1918⟩, ((X_Fr.rf).tr (X_Fr.of n1904 e1905 (by first | decide | exact ⟨Nat.le_add_right _ _, Nat.add_le_add_left (by decide) _⟩ | omega))).tr (X_Fr.of n1908 e1909 (by first | decide | exact ⟨Nat.le_add_right _ _, Nat.add_le_add_left (by decide) _⟩ | omega))⟩
                    unfold sp_step sp_stF
                    (repeat (first | rw [if_pos (by assumption)] | rw [if_neg (by assumption)]))
                    all_goals first | rfl | ((repeat' split) <;> first | rfl | (exfalso; omega))
            refine T_p xr_79_139 xn_79 (pc' := 141) (ls' := [(7, .int (iI (bI (¬ X_isOp (so cur) ∧ pile = 16)))), (6, .int (iI (bI ((so cur) = 64 ∧ (X_vl ct cur < 1 ∨ d 4 0 < X_vl ct cur))))), (5, .int (iI (X_vl ct cur))), (4, .int (iI (so cur))), (3, .int (iI (pl cur))), (0, .ref 496), (1, .ref a), (2, .int (iI pile))]) (st' := [.int (iI (so cur))]) rfl ?_
            refine T_cs xr_79_141 (by decide) xf_81.1 xn_81 (as := [.int (iI (so cur))]) (r := []) rfl (Nat.le_of_ble_eq_true rfl) (Nat.le_of_ble_eq_true rfl) (pc' := 144) rfl (ls' := [(0, .int (iI (so cur)))]) rfl ?_
            refine T_mono (c_isOperation sc S (so cur) (by omega)) (fun v1920 S1921 h1919 => ?_)
            obtain ⟨h1922, h1923⟩ := h1919
            rw [h1922, h1923]
            show X_T sc 79 (144, [(7, .int (iI (bI (¬ X_isOp (so cur) ∧ pile = 16)))), (6, .int (iI (bI ((so cur) = 64 ∧ (X_vl ct cur < 1 ∨ d 4 0 < X_vl ct cur))))), (5, .int (iI (X_vl ct cur))), (4, .int (iI (so cur))), (3, .int (iI (pl cur))), (0, .ref 496), (1, .ref a), (2, .int (iI pile))], [.int (iI (bI (X_isOp (so cur))))], S) _
            refine T_bif_eq xr_79_144 (t := 156) (pc' := 147) rfl rfl (fun c1924 => ?_) (fun c1924 => ?_)
            · skip
              have c1924 : ¬ (X_isOp (so cur)) := c1924
              refine T_p xr_79_156 xn_79 (pc' := 157) (ls' := [(7, .int (iI (bI (¬ X_isOp (so cur) ∧ pile = 16)))), (6, .int (iI (bI ((so cur) = 64 ∧ (X_vl ct cur < 1 ∨ d 4 0 < X_vl ct cur))))), (5, .int (iI (X_vl ct cur))), (4, .int (iI (so cur))), (3, .int (iI (pl cur))), (0, .ref 496), (1, .ref a), (2, .int (iI pile))]) (st' := [.int (iI 0)]) rfl ?_
              refine T_ie (y := iI (bI (X_isOp (so cur) ∧ pile < 2))) (by rw [bI_f (by rintro ⟨h1, h2⟩; first | omega | contradiction)]) ?_
              exact J1821
            · skip
              have c1924 : (X_isOp (so cur)) := c1924
              refine T_p xr_79_147 xn_79 (pc' := 148) (ls' := [(7, .int (iI (bI (¬ X_isOp (so cur) ∧ pile = 16)))), (6, .int (iI (bI ((so cur) = 64 ∧ (X_vl ct cur < 1 ∨ d 4 0 < X_vl ct cur))))), (5, .int (iI (X_vl ct cur))), (4, .int (iI (so cur))), (3, .int (iI (pl cur))), (0, .ref 496), (1, .ref a), (2, .int (iI pile))]) (st' := [.int (iI pile)]) rfl ?_
              refine T_p xr_79_148 xn_79 (pc' := 149) (ls' := [(7, .int (iI (bI (¬ X_isOp (so cur) ∧ pile = 16)))), (6, .int (iI (bI ((so cur) = 64 ∧ (X_vl ct cur < 1 ∨ d 4 0 < X_vl ct cur))))), (5, .int (iI (X_vl ct cur))), (4, .int (iI (so cur))), (3, .int (iI (pl cur))), (0, .ref 496), (1, .ref a), (2, .int (iI pile))]) (st' := [.int (iI 2), .int (iI pile)]) rfl ?_
              refine T_zicmp_ge xr_79_149 (t := 156) (pc' := 152) rfl rfl (fun c1925 => ?_) (fun c1925 => ?_)
              · skip
                have c1925 : 2 ≤ pile := c1925
                refine T_p xr_79_156 xn_79 (pc' := 157) (ls' := [(7, .int (iI (bI (¬ X_isOp (so cur) ∧ pile = 16)))), (6, .int (iI (bI ((so cur) = 64 ∧ (X_vl ct cur < 1 ∨ d 4 0 < X_vl ct cur))))), (5, .int (iI (X_vl ct cur))), (4, .int (iI (so cur))), (3, .int (iI (pl cur))), (0, .ref 496), (1, .ref a), (2, .int (iI pile))]) (st' := [.int (iI 0)]) rfl ?_
                refine T_ie (y := iI (bI (X_isOp (so cur) ∧ pile < 2))) (by rw [bI_f (by rintro ⟨h1, h2⟩; first | omega | contradiction)]) ?_
                exact J1821
              · skip
                have c1925 : ¬ (2 ≤ pile) := c1925
                refine T_p xr_79_152 xn_79 (pc' := 153) (ls' := [(7, .int (iI (bI (¬ X_isOp (so cur) ∧ pile = 16)))), (6, .int (iI (bI ((so cur) = 64 ∧ (X_vl ct cur < 1 ∨ d 4 0 < X_vl ct cur))))), (5, .int (iI (X_vl ct cur))), (4, .int (iI (so cur))), (3, .int (iI (pl cur))), (0, .ref 496), (1, .ref a), (2, .int (iI pile))]) (st' := [.int (iI 1)]) rfl ?_
                refine T_p xr_79_153 xn_79 (pc' := 157) (ls' := [(7, .int (iI (bI (¬ X_isOp (so cur) ∧ pile = 16)))), (6, .int (iI (bI ((so cur) = 64 ∧ (X_vl ct cur < 1 ∨ d 4 0 < X_vl ct cur))))), (5, .int (iI (X_vl ct cur))), (4, .int (iI (so cur))), (3, .int (iI (pl cur))), (0, .ref 496), (1, .ref a), (2, .int (iI pile))]) (st' := [.int (iI 1)]) rfl ?_
                refine T_ie (y := iI (bI (X_isOp (so cur) ∧ pile < 2))) (by rw [bI_t (by exact ⟨by assumption, by omega⟩)]) ?_
                exact J1821
          refine T_p xr_79_118 xn_79 (pc' := 120) (ls' := [(6, .int (iI (bI ((so cur) = 64 ∧ (X_vl ct cur < 1 ∨ d 4 0 < X_vl ct cur))))), (5, .int (iI (X_vl ct cur))), (4, .int (iI (so cur))), (3, .int (iI (pl cur))), (0, .ref 496), (1, .ref a), (2, .int (iI pile))]) (st' := [.int (iI (so cur))]) rfl ?_
          refine T_cs xr_79_120 (by decide) xf_81.1 xn_81 (as := [.int (iI (so cur))]) (r := []) rfl (Nat.le_of_ble_eq_true rfl) (Nat.le_of_ble_eq_true rfl) (pc' := 123) rfl (ls' := [(0, .int (iI (so cur)))]) rfl ?_
          refine T_mono (c_isOperation sc S (so cur) (by omega)) (fun v1927 S1928 h1926 => ?_)
          obtain ⟨h1929, h1930⟩ := h1926
          rw [h1929, h1930]
          show X_T sc 79 (123, [(6, .int (iI (bI ((so cur) = 64 ∧ (X_vl ct cur < 1 ∨ d 4 0 < X_vl ct cur))))), (5, .int (iI (X_vl ct cur))), (4, .int (iI (so cur))), (3, .int (iI (pl cur))), (0, .ref 496), (1, .ref a), (2, .int (iI pile))], [.int (iI (bI (X_isOp (so cur))))], S) _
          refine T_bif_ne xr_79_123 (t := 136) (pc' := 126) rfl rfl (fun c1931 => ?_) (fun c1931 => ?_)
          · skip
            have c1931 : (X_isOp (so cur)) := c1931
            refine T_p xr_79_136 xn_79 (pc' := 137) (ls' := [(6, .int (iI (bI ((so cur) = 64 ∧ (X_vl ct cur < 1 ∨ d 4 0 < X_vl ct cur))))), (5, .int (iI (X_vl ct cur))), (4, .int (iI (so cur))), (3, .int (iI (pl cur))), (0, .ref 496), (1, .ref a), (2, .int (iI pile))]) (st' := [.int (iI 0)]) rfl ?_
            refine T_ie (y := iI (bI (¬ X_isOp (so cur) ∧ pile = 16))) (by rw [bI_f (by rintro ⟨h1, h2⟩; first | omega | contradiction)]) ?_
            exact J1820
          · skip
            have c1931 : ¬ (X_isOp (so cur)) := c1931
            refine T_p xr_79_126 xn_79 (pc' := 127) (ls' := [(6, .int (iI (bI ((so cur) = 64 ∧ (X_vl ct cur < 1 ∨ d 4 0 < X_vl ct cur))))), (5, .int (iI (X_vl ct cur))), (4, .int (iI (so cur))), (3, .int (iI (pl cur))), (0, .ref 496), (1, .ref a), (2, .int (iI pile))]) (st' := [.int (iI pile)]) rfl ?_
            refine T_p xr_79_127 xn_79 (pc' := 129) (ls' := [(6, .int (iI (bI ((so cur) = 64 ∧ (X_vl ct cur < 1 ∨ d 4 0 < X_vl ct cur))))), (5, .int (iI (X_vl ct cur))), (4, .int (iI (so cur))), (3, .int (iI (pl cur))), (0, .ref 496), (1, .ref a), (2, .int (iI pile))]) (st' := [.int (iI 16), .int (iI pile)]) rfl ?_
            refine T_zicmp_ne xr_79_129 (t := 136) (pc' := 132) rfl rfl (fun c1932 => ?_) (fun c1932 => ?_)
            · skip
              have c1932 : ¬ pile = 16 := c1932
              refine T_p xr_79_136 xn_79 (pc' := 137) (ls' := [(6, .int (iI (bI ((so cur) = 64 ∧ (X_vl ct cur < 1 ∨ d 4 0 < X_vl ct cur))))), (5, .int (iI (X_vl ct cur))), (4, .int (iI (so cur))), (3, .int (iI (pl cur))), (0, .ref 496), (1, .ref a), (2, .int (iI pile))]) (st' := [.int (iI 0)]) rfl ?_
              refine T_ie (y := iI (bI (¬ X_isOp (so cur) ∧ pile = 16))) (by rw [bI_f (by rintro ⟨h1, h2⟩; first | omega | contradiction)]) ?_
              exact J1820
            · skip
              have c1932 : ¬ (¬ pile = 16) := c1932
              refine T_p xr_79_132 xn_79 (pc' := 133) (ls' := [(6, .int (iI (bI ((so cur) = 64 ∧ (X_vl ct cur < 1 ∨ d 4 0 < X_vl ct cur))))), (5, .int (iI (X_vl ct cur))), (4, .int (iI (so cur))), (3, .int (iI (pl cur))), (0, .ref 496), (1, .ref a), (2, .int (iI pile))]) (st' := [.int (iI 1)]) rfl ?_
              refine T_p xr_79_133 xn_79 (pc' := 137) (ls' := [(6, .int (iI (bI ((so cur) = 64 ∧ (X_vl ct cur < 1 ∨ d 4 0 < X_vl ct cur))))), (5, .int (iI (X_vl ct cur))), (4, .int (iI (so cur))), (3, .int (iI (pl cur))), (0, .ref 496), (1, .ref a), (2, .int (iI pile))]) (st' := [.int (iI 1)]) rfl ?_
              refine T_ie (y := iI (bI (¬ X_isOp (so cur) ∧ pile = 16))) (by rw [bI_t (by exact ⟨by assumption, by omega⟩)]) ?_
              exact J1820
        refine T_p xr_79_89 xn_79 (pc' := 91) (ls' := [(5, .int (iI (X_vl ct cur))), (4, .int (iI (so cur))), (3, .int (iI (pl cur))), (0, .ref 496), (1, .ref a), (2, .int (iI pile))]) (st' := [.int (iI (so cur))]) rfl ?_
        refine T_p xr_79_91 xn_79 (pc' := 93) (ls' := [(5, .int (iI (X_vl ct cur))), (4, .int (iI (so cur))), (3, .int (iI (pl cur))), (0, .ref 496), (1, .ref a), (2, .int (iI pile))]) (st' := [.int (iI 64), .int (iI (so cur))]) rfl ?_
        refine T_zicmp_ne xr_79_93 (t := 115) (pc' := 96) rfl rfl (fun c1933 => ?_) (fun c1933 => ?_)
        · skip
          have c1933 : ¬ (so cur) = 64 := c1933
          refine T_p xr_79_115 xn_79 (pc' := 116) (ls' := [(5, .int (iI (X_vl ct cur))), (4, .int (iI (so cur))), (3, .int (iI (pl cur))), (0, .ref 496), (1, .ref a), (2, .int (iI pile))]) (st' := [.int (iI 0)]) rfl ?_
          refine T_ie (y := iI (bI ((so cur) = 64 ∧ (X_vl ct cur < 1 ∨ d 4 0 < X_vl ct cur)))) (by rw [bI_f (by rintro ⟨h1, h2⟩; omega)]) ?_
          exact J1819
        · skip
          have c1933 : ¬ (¬ (so cur) = 64) := c1933
          exact (show False by first | contradiction | omega).elim
      · skip
        have c1812 : ¬ ((so cur) = 4) := c1812
        refine T_p xr_79_65 xn_79 (pc' := 67) (ls' := [(4, .int (iI (so cur))), (3, .int (iI (pl cur))), (0, .ref 496), (1, .ref a), (2, .int (iI pile))]) (st' := [.int (iI (so cur))]) rfl ?_
        refine T_cs xr_79_67 (by decide) xf_81.1 xn_81 (as := [.int (iI (so cur))]) (r := []) rfl (Nat.le_of_ble_eq_true rfl) (Nat.le_of_ble_eq_true rfl) (pc' := 70) rfl (ls' := [(0, .int (iI (so cur)))]) rfl ?_
        refine T_mono (c_isOperation sc S (so cur) (by omega)) (fun v1935 S1936 h1934 => ?_)
        obtain ⟨h1937, h1938⟩ := h1934
        rw [h1937, h1938]
        show X_T sc 79 (70, [(4, .int (iI (so cur))), (3, .int (iI (pl cur))), (0, .ref 496), (1, .ref a), (2, .int (iI pile))], [.int (iI (bI (X_isOp (so cur))))], S) _
        refine T_bif_ne xr_79_70 (t := 79) (pc' := 73) rfl rfl (fun c1939 => ?_) (fun c1939 => ?_)
        · skip
          have c1939 : (X_isOp (so cur)) := c1939
          refine T_p xr_79_79 xn_79 (pc' := 80) (ls' := [(4, .int (iI (so cur))), (3, .int (iI (pl cur))), (0, .ref 496), (1, .ref a), (2, .int (iI pile))]) (st' := [.ref 496]) rfl ?_
          refine T_get xr_79_80 hp rfl (v := .ref 497) rfl (pc' := 83) rfl ?_
          refine T_cv (S := S) (q := 497) xr_79_83 xf_50.1 xf_50.2.1 xn_50 (as := []) (r := []) rfl hx.1 (Nat.le_of_ble_eq_true rfl) (Nat.le_of_ble_eq_true rfl) (pc' := 86) rfl (ls' := [(0, .ref 497)]) rfl ?_
          refine T_mono (c_content sc S at_ n cur so pl ct ⟨hx.1, hx.2.1, hx.2.2.1, hx.2.2.2⟩ (by omega)) (fun v1941 S1942 h1940 => ?_)
          obtain ⟨h1943, h1944⟩ := h1940
          rw [h1943, h1944]
          show X_T sc 79 (86, [(4, .int (iI (so cur))), (3, .int (iI (pl cur))), (0, .ref 496), (1, .ref a), (2, .int (iI pile))], [.long (ct cur)], S) _
          refine T_zop xr_79_86 (pc' := 87) rfl (z := ((ct cur : Int64).toInt32).toInt) (iI_of _) ?_
          refine T_ie (y := iI (X_vl ct cur)) rfl ?_
          have hv1945 := X_vl_r ct cur
          refine T_p xr_79_87 xn_79 (pc' := 89) (ls' := [(5, .int (iI (X_vl ct cur))), (4, .int (iI (so cur))), (3, .int (iI (pl cur))), (0, .ref 496), (1, .ref a), (2, .int (iI pile))]) (st' := []) rfl ?_
          have J1946 : X_T sc 79 (116, [(5, .int (iI (X_vl ct cur))), (4, .int (iI (so cur))), (3, .int (iI (pl cur))), (0, .ref 496), (1, .ref a), (2, .int (iI pile))], [.int (iI (bI ((so cur) = 64 ∧ (X_vl ct cur < 1 ∨ d 4 0 < X_vl ct cur))))], S) Q := by
            refine T_p xr_79_116 xn_79 (pc' := 118) (ls' := [(6, .int (iI (bI ((so cur) = 64 ∧ (X_vl ct cur < 1 ∨ d 4 0 < X_vl ct cur))))), (5, .int (iI (X_vl ct cur))), (4, .int (iI (so cur))), (3, .int (iI (pl cur))), (0, .ref 496), (1, .ref a), (2, .int (iI pile))]) (st' := []) rfl ?_
            have J1947 : X_T sc 79 (137, [(6, .int (iI (bI ((so cur) = 64 ∧ (X_vl ct cur < 1 ∨ d 4 0 < X_vl ct cur))))), (5, .int (iI (X_vl ct cur))), (4, .int (iI (so cur))), (3, .int (iI (pl cur))), (0, .ref 496), (1, .ref a), (2, .int (iI pile))], [.int (iI (bI (¬ X_isOp (so cur) ∧ pile = 16)))], S) Q := by
              refine T_p xr_79_137 xn_79 (pc' := 139) (ls' := [(7, .int (iI (bI (¬ X_isOp (so cur) ∧ pile = 16)))), (6, .int (iI (bI ((so cur) = 64 ∧ (X_vl ct cur < 1 ∨ d 4 0 < X_vl ct cur))))), (5, .int (iI (X_vl ct cur))), (4, .int (iI (so cur))), (3, .int (iI (pl cur))), (0, .ref 496), (1, .ref a), (2, .int (iI pile))]) (st' := []) rfl ?_
              have J1948 : X_T sc 79 (157, [(7, .int (iI (bI (¬ X_isOp (so cur) ∧ pile = 16)))), (6, .int (iI (bI ((so cur) = 64 ∧ (X_vl ct cur < 1 ∨ d 4 0 < X_vl ct cur))))), (5, .int (iI (X_vl ct cur))), (4, .int (iI (so cur))), (3, .int (iI (pl cur))), (0, .ref 496), (1, .ref a), (2, .int (iI pile))], [.int (iI (bI (X_isOp (so cur) ∧ pile < 2)))], S) Q := by
                refine T_p xr_79_157 xn_79 (pc' := 159) (ls' := [(8, .int (iI (bI (X_isOp (so cur) ∧ pile < 2)))), (7, .int (iI (bI (¬ X_isOp (so cur) ∧ pile = 16)))), (6, .int (iI (bI ((so cur) = 64 ∧ (X_vl ct cur < 1 ∨ d 4 0 < X_vl ct cur))))), (5, .int (iI (X_vl ct cur))), (4, .int (iI (so cur))), (3, .int (iI (pl cur))), (0, .ref 496), (1, .ref a), (2, .int (iI pile))]) (st' := []) rfl ?_
                refine T_p xr_79_159 xn_79 (pc' := 161) (ls' := [(8, .int (iI (bI (X_isOp (so cur) ∧ pile < 2)))), (7, .int (iI (bI (¬ X_isOp (so cur) ∧ pile = 16)))), (6, .int (iI (bI ((so cur) = 64 ∧ (X_vl ct cur < 1 ∨ d 4 0 < X_vl ct cur))))), (5, .int (iI (X_vl ct cur))), (4, .int (iI (so cur))), (3, .int (iI (pl cur))), (0, .ref 496), (1, .ref a), (2, .int (iI pile))]) (st' := [.int (iI (bI ((so cur) = 64 ∧ (X_vl ct cur < 1 ∨ d 4 0 < X_vl ct cur))))]) rfl ?_
                refine T_bif_ne xr_79_161 (t := 174) (pc' := 164) rfl rfl (fun c1949 => ?_) (fun c1949 => ?_)
                · skip
                  have c1949 : ((so cur) = 64 ∧ (X_vl ct cur < 1 ∨ d 4 0 < X_vl ct cur)) := c1949
                  refine T_p xr_79_174 xn_79 (pc' := 175) (ls' := [(8, .int (iI (bI (X_isOp (so cur) ∧ pile < 2)))), (7, .int (iI (bI (¬ X_isOp (so cur) ∧ pile = 16)))), (6, .int (iI (bI ((so cur) = 64 ∧ (X_vl ct cur < 1 ∨ d 4 0 < X_vl ct cur))))), (5, .int (iI (X_vl ct cur))), (4, .int (iI (so cur))), (3, .int (iI (pl cur))), (0, .ref 496), (1, .ref a), (2, .int (iI pile))]) (st' := [.ref 496]) rfl ?_
                  refine T_p xr_79_175 xn_79 (pc' := 176) (ls' := [(8, .int (iI (bI (X_isOp (so cur) ∧ pile < 2)))), (7, .int (iI (bI (¬ X_isOp (so cur) ∧ pile = 16)))), (6, .int (iI (bI ((so cur) = 64 ∧ (X_vl ct cur < 1 ∨ d 4 0 < X_vl ct cur))))), (5, .int (iI (X_vl ct cur))), (4, .int (iI (so cur))), (3, .int (iI (pl cur))), (0, .ref 496), (1, .ref a), (2, .int (iI pile))]) (st' := [.int (iI 5), .ref 496]) rfl ?_
                  refine T_p xr_79_176 xn_79 (pc' := 177) (ls' := [(8, .int (iI (bI (X_isOp (so cur) ∧ pile < 2)))), (7, .int (iI (bI (¬ X_isOp (so cur) ∧ pile = 16)))), (6, .int (iI (bI ((so cur) = 64 ∧ (X_vl ct cur < 1 ∨ d 4 0 < X_vl ct cur))))), (5, .int (iI (X_vl ct cur))), (4, .int (iI (so cur))), (3, .int (iI (pl cur))), (0, .ref 496), (1, .ref a), (2, .int (iI pile))]) (st' := [.int (iI (pl cur)), .int (iI 5), .ref 496]) rfl ?_
                  refine T_cv (S := S) (q := 496) xr_79_177 xf_66.1 xf_66.2.1 xn_66 (as := [.int (iI 5), .int (iI (pl cur))]) (r := []) rfl hp (Nat.le_of_ble_eq_true rfl) (Nat.le_of_ble_eq_true rfl) (pc' := 180) rfl (ls' := [(0, .ref 496), (1, .int (iI 5)), (2, .int (iI (pl cur)))]) rfl ?_
                  refine T_p xr_66_0 xn_66 (pc' := 1) (ls' := [(0, .ref 496), (1, .int (iI 5)), (2, .int (iI (pl cur)))]) (st' := [.ref 496]) rfl ?_
                  refine T_p xr_66_1 xn_66 (pc' := 2) (ls' := [(0, .ref 496), (1, .int (iI 5)), (2, .int (iI (pl cur)))]) (st' := [.int (iI 5), .ref 496]) rfl ?_
                  refine T_put xr_66_2 hp rfl (Nat.le_of_ble_eq_true rfl) rfl (fs' := [.ref 497, .ref B, .int (iI 5), .int (iI fp)]) rfl (pc' := 5) rfl (fun S1950 h1951 n1952 e1953 => ?_)
                  refine T_p xr_66_5 xn_66 (pc' := 6) (ls' := [(0, .ref 496), (1, .int (iI 5)), (2, .int (iI (pl cur)))]) (st' := [.ref 496]) rfl ?_
                  refine T_p xr_66_6 xn_66 (pc' := 7) (ls' := [(0, .ref 496), (1, .int (iI 5)), (2, .int (iI (pl cur)))]) (st' := [.int (iI (pl cur)), .ref 496]) rfl ?_
                  refine T_put xr_66_7 h1951 rfl (Nat.le_of_ble_eq_true rfl) rfl (fs' := [.ref 497, .ref B, .int (iI 5), .int (iI (pl cur))]) rfl (pc' := 10) rfl (fun S1954 h1955 n1956 e1957 => ?_)
                  refine T_vret xr_66_10 xf_66.2.2 ?_
                  show X_T sc 79 (180, [(8, .int (iI (bI (X_isOp (so cur) ∧ pile < 2)))), (7, .int (iI (bI (¬ X_isOp (so cur) ∧ pile = 16)))), (6, .int (iI (bI ((so cur) = 64 ∧ (X_vl ct cur < 1 ∨ d 4 0 < X_vl ct cur))))), (5, .int (iI (X_vl ct cur))), (4, .int (iI (so cur))), (3, .int (iI (pl cur))), (0, .ref 496), (1, .ref a), (2, .int (iI pile))], [], S1954) _
                  refine T_p xr_79_180 xn_79 (pc' := 181) (ls' := [(8, .int (iI (bI (X_isOp (so cur) ∧ pile < 2)))), (7, .int (iI (bI (¬ X_isOp (so cur) ∧ pile = 16)))), (6, .int (iI (bI ((so cur) = 64 ∧ (X_vl ct cur < 1 ∨ d 4 0 < X_vl ct cur))))), (5, .int (iI (X_vl ct cur))), (4, .int (iI (so cur))), (3, .int (iI (pl cur))), (0, .ref 496), (1, .ref a), (2, .int (iI pile))]) (st' := [.int (iI (-1))]) rfl ?_
                  refine T_iret xr_79_181 xf_79.2.2 rfl ?_
                  refine hQ _ _ ?_
                  have h1958 := (n1956 497 (by decide)).trans ((n1952 497 (by decide)).trans (hx.1))
                  have h1959 := (n1956 a (by omega)).trans ((n1952 a (by omega)).trans (hw.1))
                  have h1960 := (n1956 (a + 1) (by first | exact (fun h => absurd (Nat.add_left_cancel h) (by decide)) | omega)).trans ((n1952 (a + 1) (by first | exact (fun h => absurd (Nat.add_left_cancel h) (by decide)) | omega)).trans (hw.2.1))
                  have h1961 := (n1956 (a + 2) (by first | exact (fun h => absurd (Nat.add_left_cancel h) (by decide)) | omega)).trans ((n1952 (a + 2) (by first | exact (fun h => absurd (Nat.add_left_cancel h) (by decide)) | omega)).trans (hw.2.2.1))
                  have h1962 := (n1956 (a + 3) (by first | exact (fun h => absurd (Nat.add_left_cancel h) (by decide)) | omega)).trans ((n1952 (a + 3) (by first | exact (fun h => absurd (Nat.add_left_cancel h) (by decide)) | omega)).trans (hw.2.2.2.1))
                  have h1963 := (n1956 (a + 4) (by first | exact (fun h => absurd (Nat.add_left_cancel h) (by decide)) | omega)).trans ((n1952 (a + 4) (by first | exact (fun h => absurd (Nat.add_left_cancel h) (by decide)) | omega)).trans (hw.2.2.2.2.1))
                  have h1964 := (n1956 (a + 5) (by first | exact (fun h => absurd (Nat.add_left_cancel h) (by decide)) | omega)).trans ((n1952 (a + 5) (by first | exact (fun h => absurd (Nat.add_left_cancel h) (by decide)) | omega)).trans (hw.2.2.2.2.2.1))
                  have h1965 := (n1956 (a + 6) (by first | exact (fun h => absurd (Nat.add_left_cancel h) (by decide)) | omega)).trans ((n1952 (a + 6) (by first | exact (fun h => absurd (Nat.add_left_cancel h) (by decide)) | omega)).trans (hw.2.2.2.2.2.2.1))
                  have h1966 := (n1956 (a + 7) (by first | exact (fun h => absurd (Nat.add_left_cancel h) (by decide)) | omega)).trans ((n1952 (a + 7) (by first | exact (fun h => absurd (Nat.add_left_cancel h) (by decide)) | omega)).trans (hw.2.2.2.2.2.2.2))
                  refine Or.inr ⟨rfl, ?_, ⟨_, _, by omega, h1955⟩, ⟨cur, h1958, by omega⟩, ⟨h1959, h1960, h1961, h1962, h1963, h1964, h1965, h1966⟩, ((X_Fr.rf).tr (X_Fr.of n1952 e1953 (by first | decide | exact ⟨Nat.le_add_right _ _, Nat.add_le_add_left (by decide) _⟩ | omega))).tr (X_Fr.of n1956 e1957 (by first | decide | exact ⟨Nat.le_add_right _ _, Nat.add_le_add_left (by decide) _⟩ | omega))⟩
                  unfold sp_step sp_stF
                  (repeat (first | rw [if_pos (by assumption)] | rw [if_neg (by assumption)]))
                  all_goals first | rfl | ((repeat' split) <;> first | rfl | (exfalso; omega))
                · skip
                  have c1949 : ¬ ((so cur) = 64 ∧ (X_vl ct cur < 1 ∨ d 4 0 < X_vl ct cur)) := c1949
                  refine T_p xr_79_164 xn_79 (pc' := 166) (ls' := [(8, .int (iI (bI (X_isOp (so cur) ∧ pile < 2)))), (7, .int (iI (bI (¬ X_isOp (so cur) ∧ pile = 16)))), (6, .int (iI (bI ((so cur) = 64 ∧ (X_vl ct cur < 1 ∨ d 4 0 < X_vl ct cur))))), (5, .int (iI (X_vl ct cur))), (4, .int (iI (so cur))), (3, .int (iI (pl cur))), (0, .ref 496), (1, .ref a), (2, .int (iI pile))]) (st' := [.int (iI (bI (¬ X_isOp (so cur) ∧ pile = 16)))]) rfl ?_
                  refine T_bif_ne xr_79_166 (t := 174) (pc' := 169) rfl rfl (fun c1967 => ?_) (fun c1967 => ?_)
                  · skip
                    have c1967 : (¬ X_isOp (so cur) ∧ pile = 16) := c1967
                    refine T_p xr_79_174 xn_79 (pc' := 175) (ls' := [(8, .int (iI (bI (X_isOp (so cur) ∧ pile < 2)))), (7, .int (iI (bI (¬ X_isOp (so cur) ∧ pile = 16)))), (6, .int (iI (bI ((so cur) = 64 ∧ (X_vl ct cur < 1 ∨ d 4 0 < X_vl ct cur))))), (5, .int (iI (X_vl ct cur))), (4, .int (iI (so cur))), (3, .int (iI (pl cur))), (0, .ref 496), (1, .ref a), (2, .int (iI pile))]) (st' := [.ref 496]) rfl ?_
                    refine T_p xr_79_175 xn_79 (pc' := 176) (ls' := [(8, .int (iI (bI (X_isOp (so cur) ∧ pile < 2)))), (7, .int (iI (bI (¬ X_isOp (so cur) ∧ pile = 16)))), (6, .int (iI (bI ((so cur) = 64 ∧ (X_vl ct cur < 1 ∨ d 4 0 < X_vl ct cur))))), (5, .int (iI (X_vl ct cur))), (4, .int (iI (so cur))), (3, .int (iI (pl cur))), (0, .ref 496), (1, .ref a), (2, .int (iI pile))]) (st' := [.int (iI 5), .ref 496]) rfl ?_
                    refine T_p xr_79_176 xn_79 (pc' := 177) (ls' := [(8, .int (iI (bI (X_isOp (so cur) ∧ pile < 2)))), (7, .int (iI (bI (¬ X_isOp (so cur) ∧ pile = 16)))), (6, .int (iI (bI ((so cur) = 64 ∧ (X_vl ct cur < 1 ∨ d 4 0 < X_vl ct cur))))), (5, .int (iI (X_vl ct cur))), (4, .int (iI (so cur))), (3, .int (iI (pl cur))), (0, .ref 496), (1, .ref a), (2, .int (iI pile))]) (st' := [.int (iI (pl cur)), .int (iI 5), .ref 496]) rfl ?_
                    refine T_cv (S := S) (q := 496) xr_79_177 xf_66.1 xf_66.2.1 xn_66 (as := [.int (iI 5), .int (iI (pl cur))]) (r := []) rfl hp (Nat.le_of_ble_eq_true rfl) (Nat.le_of_ble_eq_true rfl) (pc' := 180) rfl (ls' := [(0, .ref 496), (1, .int (iI 5)), (2, .int (iI (pl cur)))]) rfl ?_
                    refine T_p xr_66_0 xn_66 (pc' := 1) (ls' := [(0, .ref 496), (1, .int (iI 5)), (2, .int (iI (pl cur)))]) (st' := [.ref 496]) rfl ?_
                    refine T_p xr_66_1 xn_66 (pc' := 2) (ls' := [(0, .ref 496), (1, .int (iI 5)), (2, .int (iI (pl cur)))]) (st' := [.int (iI 5), .ref 496]) rfl ?_
                    refine T_put xr_66_2 hp rfl (Nat.le_of_ble_eq_true rfl) rfl (fs' := [.ref 497, .ref B, .int (iI 5), .int (iI fp)]) rfl (pc' := 5) rfl (fun S1968 h1969 n1970 e1971 => ?_)
                    refine T_p xr_66_5 xn_66 (pc' := 6) (ls' := [(0, .ref 496), (1, .int (iI 5)), (2, .int (iI (pl cur)))]) (st' := [.ref 496]) rfl ?_
                    refine T_p xr_66_6 xn_66 (pc' := 7) (ls' := [(0, .ref 496), (1, .int (iI 5)), (2, .int (iI (pl cur)))]) (st' := [.int (iI (pl cur)), .ref 496]) rfl ?_
                    refine T_put xr_66_7 h1969 rfl (Nat.le_of_ble_eq_true rfl) rfl (fs' := [.ref 497, .ref B, .int (iI 5), .int (iI (pl cur))]) rfl (pc' := 10) rfl (fun S1972 h1973 n1974 e1975 => ?_)
                    refine T_vret xr_66_10 xf_66.2.2 ?_
                    show X_T sc 79 (180, [(8, .int (iI (bI (X_isOp (so cur) ∧ pile < 2)))), (7, .int (iI (bI (¬ X_isOp (so cur) ∧ pile = 16)))), (6, .int (iI (bI ((so cur) = 64 ∧ (X_vl ct cur < 1 ∨ d 4 0 < X_vl ct cur))))), (5, .int (iI (X_vl ct cur))), (4, .int (iI (so cur))), (3, .int (iI (pl cur))), (0, .ref 496), (1, .ref a), (2, .int (iI pile))], [], S1972) _
                    refine T_p xr_79_180 xn_79 (pc' := 181) (ls' := [(8, .int (iI (bI (X_isOp (so cur) ∧ pile < 2)))), (7, .int (iI (bI (¬ X_isOp (so cur) ∧ pile = 16)))), (6, .int (iI (bI ((so cur) = 64 ∧ (X_vl ct cur < 1 ∨ d 4 0 < X_vl ct cur))))), (5, .int (iI (X_vl ct cur))), (4, .int (iI (so cur))), (3, .int (iI (pl cur))), (0, .ref 496), (1, .ref a), (2, .int (iI pile))]) (st' := [.int (iI (-1))]) rfl ?_
                    refine T_iret xr_79_181 xf_79.2.2 rfl ?_
                    refine hQ _ _ ?_
                    have h1976 := (n1974 497 (by decide)).trans ((n1970 497 (by decide)).trans (hx.1))
                    have h1977 := (n1974 a (by omega)).trans ((n1970 a (by omega)).trans (hw.1))
                    have h1978 := (n1974 (a + 1) (by first | exact (fun h => absurd (Nat.add_left_cancel h) (by decide)) | omega)).trans ((n1970 (a + 1) (by first | exact (fun h => absurd (Nat.add_left_cancel h) (by decide)) | omega)).trans (hw.2.1))
                    have h1979 := (n1974 (a + 2) (by first | exact (fun h => absurd (Nat.add_left_cancel h) (by decide)) | omega)).trans ((n1970 (a + 2) (by first | exact (fun h => absurd (Nat.add_left_cancel h) (by decide)) | omega)).trans (hw.2.2.1))
                    have h1980 := (n1974 (a + 3) (by first | exact (fun h => absurd (Nat.add_left_cancel h) (by decide)) | omega)).trans ((n1970 (a + 3) (by first | exact (fun h => absurd (Nat.add_left_cancel h) (by decide)) | omega)).trans (hw.2.2.2.1))
                    have h1981 := (n1974 (a + 4) (by first | exact (fun h => absurd (Nat.add_left_cancel h) (by decide)) | omega)).trans ((n1970 (a + 4) (by first | exact (fun h => absurd (Nat.add_left_cancel h) (by decide)) | omega)).trans (hw.2.2.2.2.1))
                    have h1982 := (n1974 (a + 5) (by first | exact (fun h => absurd (Nat.add_left_cancel h) (by decide)) | omega)).trans ((n1970 (a + 5) (by first | exact (fun h => absurd (Nat.add_left_cancel h) (by decide)) | omega)).trans (hw.2.2.2.2.2.1))
                    have h1983 := (n1974 (a + 6) (by first | exact (fun h => absurd (Nat.add_left_cancel h) (by decide)) | omega)).trans ((n1970 (a + 6) (by first | exact (fun h => absurd (Nat.add_left_cancel h) (by decide)) | omega)).trans (hw.2.2.2.2.2.2.1))
                    have h1984 := (n1974 (a + 7) (by first | exact (fun h => absurd (Nat.add_left_cancel h) (by decide)) | omega)).trans ((n1970 (a + 7) (by first | exact (fun h => absurd (Nat.add_left_cancel h) (by decide)) | omega)).trans (hw.2.2.2.2.2.2.2))
                    refine Or.inr ⟨rfl, ?_, ⟨_, _, by omega, h1973⟩, ⟨cur, h1976, by omega⟩, ⟨h1977, h1978, h1979, h1980, h1981, h1982, h1983, h1984⟩, ((X_Fr.rf).tr (X_Fr.of n1970 e1971 (by first | decide | exact ⟨Nat.le_add_right _ _, Nat.add_le_add_left (by decide) _⟩ | omega))).tr (X_Fr.of n1974 e1975 (by first | decide | exact ⟨Nat.le_add_right _ _, Nat.add_le_add_left (by decide) _⟩ | omega))⟩
                    unfold sp_step sp_stF
                    (repeat (first | rw [if_pos (by assumption)] | rw [if_neg (by assumption)]))
                    all_goals first | rfl | ((repeat' split) <;> first | rfl | (exfalso; omega))
                  · skip
                    have c1967 : ¬ (¬ X_isOp (so cur) ∧ pile = 16) := c1967
                    refine T_p xr_79_169 xn_79 (pc' := 171) (ls' := [(8, .int (iI (bI (X_isOp (so cur) ∧ pile < 2)))), (7, .int (iI (bI (¬ X_isOp (so cur) ∧ pile = 16)))), (6, .int (iI (bI ((so cur) = 64 ∧ (X_vl ct cur < 1 ∨ d 4 0 < X_vl ct cur))))), (5, .int (iI (X_vl ct cur))), (4, .int (iI (so cur))), (3, .int (iI (pl cur))), (0, .ref 496), (1, .ref a), (2, .int (iI pile))]) (st' := [.int (iI (bI (X_isOp (so cur) ∧ pile < 2)))]) rfl ?_
                    refine T_bif_eq xr_79_171 (t := 182) (pc' := 174) rfl rfl (fun c1985 => ?_) (fun c1985 => ?_)
                    · skip
                      have c1985 : ¬ (X_isOp (so cur) ∧ pile < 2) := c1985
                      refine T_p xr_79_182 xn_79 (pc' := 183) (ls' := [(8, .int (iI (bI (X_isOp (so cur) ∧ pile < 2)))), (7, .int (iI (bI (¬ X_isOp (so cur) ∧ pile = 16)))), (6, .int (iI (bI ((so cur) = 64 ∧ (X_vl ct cur < 1 ∨ d 4 0 < X_vl ct cur))))), (5, .int (iI (X_vl ct cur))), (4, .int (iI (so cur))), (3, .int (iI (pl cur))), (0, .ref 496), (1, .ref a), (2, .int (iI pile))]) (st' := [.ref a]) rfl ?_
                      refine T_p xr_79_183 xn_79 (pc' := 185) (ls' := [(8, .int (iI (bI (X_isOp (so cur) ∧ pile < 2)))), (7, .int (iI (bI (¬ X_isOp (so cur) ∧ pile = 16)))), (6, .int (iI (bI ((so cur) = 64 ∧ (X_vl ct cur < 1 ∨ d 4 0 < X_vl ct cur))))), (5, .int (iI (X_vl ct cur))), (4, .int (iI (so cur))), (3, .int (iI (pl cur))), (0, .ref 496), (1, .ref a), (2, .int (iI pile))]) (st' := [.int (iI (so cur)), .ref a]) rfl ?_
                      refine T_p xr_79_185 xn_79 (pc' := 187) (ls' := [(8, .int (iI (bI (X_isOp (so cur) ∧ pile < 2)))), (7, .int (iI (bI (¬ X_isOp (so cur) ∧ pile = 16)))), (6, .int (iI (bI ((so cur) = 64 ∧ (X_vl ct cur < 1 ∨ d 4 0 < X_vl ct cur))))), (5, .int (iI (X_vl ct cur))), (4, .int (iI (so cur))), (3, .int (iI (pl cur))), (0, .ref 496), (1, .ref a), (2, .int (iI pile))]) (st' := [.int (iI (X_vl ct cur)), .int (iI (so cur)), .ref a]) rfl ?_
                      refine T_cv (S := S) (q := a) xr_79_187 xf_99.1 xf_99.2.1 xn_99 (as := [.int (iI (so cur)), .int (iI (X_vl ct cur))]) (r := []) rfl hw.1 (Nat.le_of_ble_eq_true rfl) (Nat.le_of_ble_eq_true rfl) (pc' := 190) rfl (ls' := [(0, .ref a), (1, .int (iI (so cur))), (2, .int (iI (X_vl ct cur)))]) rfl ?_
                      have hr1992 : X_wr (X_aS d (so cur) (X_vl ct cur)) := X_wr_S hr (by omega)
                      refine T_mono (c_addStep sc S a d q (so cur) (X_vl ct cur) ⟨hw.1, hw.2.1, hw.2.2.1, hw.2.2.2.1, hw.2.2.2.2.1, hw.2.2.2.2.2.1, hw.2.2.2.2.2.2.1, hw.2.2.2.2.2.2.2⟩ hr (by omega)) (fun v1986 S1987 h1988 => ?_)
                      obtain ⟨h1989, hw1990, hf1991⟩ := h1988
                      rw [h1989]
                      have hw1990 : C_wd S1987 a (X_aS d (so cur) (X_vl ct cur)) q := hw1990
                      show X_T sc 79 (190, [(8, .int (iI (bI (X_isOp (so cur) ∧ pile < 2)))), (7, .int (iI (bI (¬ X_isOp (so cur) ∧ pile = 16)))), (6, .int (iI (bI ((so cur) = 64 ∧ (X_vl ct cur < 1 ∨ d 4 0 < X_vl ct cur))))), (5, .int (iI (X_vl ct cur))), (4, .int (iI (so cur))), (3, .int (iI (pl cur))), (0, .ref 496), (1, .ref a), (2, .int (iI pile))], [], S1987) _
                      refine T_p xr_79_190 xn_79 (pc' := 191) (ls' := [(8, .int (iI (bI (X_isOp (so cur) ∧ pile < 2)))), (7, .int (iI (bI (¬ X_isOp (so cur) ∧ pile = 16)))), (6, .int (iI (bI ((so cur) = 64 ∧ (X_vl ct cur < 1 ∨ d 4 0 < X_vl ct cur))))), (5, .int (iI (X_vl ct cur))), (4, .int (iI (so cur))), (3, .int (iI (pl cur))), (0, .ref 496), (1, .ref a), (2, .int (iI pile))]) (st' := [.ref 496]) rfl ?_
                      have h1993 := (hf1991.1 496 (by first | decide | omega)).trans (hp)
                      refine T_get xr_79_191 h1993 rfl (v := .ref 497) rfl (pc' := 194) rfl ?_
                      have h1994 := (hf1991.1 497 (by first | decide | omega)).trans (hx.1)
                      refine T_cv (S := S1987) (q := 497) xr_79_194 xf_52.1 xf_52.2.1 xn_52 (as := []) (r := []) rfl h1994 (Nat.le_of_ble_eq_true rfl) (Nat.le_of_ble_eq_true rfl) (pc' := 197) rfl (ls' := [(0, .ref 497)]) rfl ?_
                      have h1995 := (hf1991.1 498 (by first | decide | omega)).trans (hx.2.1)
                      have h1996 := (hf1991.1 499 (by first | decide | omega)).trans (hx.2.2.1)
                      have h1997 := (hf1991.1 500 (by first | decide | omega)).trans (hx.2.2.2)
                      refine T_mono (c_advance sc S1987 at_ n cur so pl ct ⟨h1994, h1995, h1996, h1997⟩ (by omega)) (fun v1999 S2000 h1998 => ?_)
                      obtain ⟨h2001, h2003, h2002⟩ := h1998
                      rw [h2001]
                      show X_T sc 79 (197, [(8, .int (iI (bI (X_isOp (so cur) ∧ pile < 2)))), (7, .int (iI (bI (¬ X_isOp (so cur) ∧ pile = 16)))), (6, .int (iI (bI ((so cur) = 64 ∧ (X_vl ct cur < 1 ∨ d 4 0 < X_vl ct cur))))), (5, .int (iI (X_vl ct cur))), (4, .int (iI (so cur))), (3, .int (iI (pl cur))), (0, .ref 496), (1, .ref a), (2, .int (iI pile))], [], S2000) _
                      have hv2004 := X_av_r (n := n) (c := cur) (by omega)
                      refine T_p xr_79_197 xn_79 (pc' := 199) (ls' := [(8, .int (iI (bI (X_isOp (so cur) ∧ pile < 2)))), (7, .int (iI (bI (¬ X_isOp (so cur) ∧ pile = 16)))), (6, .int (iI (bI ((so cur) = 64 ∧ (X_vl ct cur < 1 ∨ d 4 0 < X_vl ct cur))))), (5, .int (iI (X_vl ct cur))), (4, .int (iI (so cur))), (3, .int (iI (pl cur))), (0, .ref 496), (1, .ref a), (2, .int (iI pile))]) (st' := [.int (iI (so cur))]) rfl ?_
                      refine T_cs xr_79_199 (by decide) xf_81.1 xn_81 (as := [.int (iI (so cur))]) (r := []) rfl (Nat.le_of_ble_eq_true rfl) (Nat.le_of_ble_eq_true rfl) (pc' := 202) rfl (ls' := [(0, .int (iI (so cur)))]) rfl ?_
                      refine T_mono (c_isOperation sc S2000 (so cur) (by omega)) (fun v2006 S2007 h2005 => ?_)
                      obtain ⟨h2008, h2009⟩ := h2005
                      rw [h2008, h2009]
                      show X_T sc 79 (202, [(8, .int (iI (bI (X_isOp (so cur) ∧ pile < 2)))), (7, .int (iI (bI (¬ X_isOp (so cur) ∧ pile = 16)))), (6, .int (iI (bI ((so cur) = 64 ∧ (X_vl ct cur < 1 ∨ d 4 0 < X_vl ct cur))))), (5, .int (iI (X_vl ct cur))), (4, .int (iI (so cur))), (3, .int (iI (pl cur))), (0, .ref 496), (1, .ref a), (2, .int (iI pile))], [.int (iI (bI (X_isOp (so cur))))], S2000) _
                      refine T_bif_eq xr_79_202 (t := 211) (pc' := 205) rfl rfl (fun c2010 => ?_) (fun c2010 => ?_)
                      · skip
                        have c2010 : ¬ (X_isOp (so cur)) := c2010
                        exact (show False by first | contradiction | omega).elim
                      · skip
                        have c2010 : (X_isOp (so cur)) := c2010
                        refine T_p xr_79_205 xn_79 (pc' := 206) (ls' := [(8, .int (iI (bI (X_isOp (so cur) ∧ pile < 2)))), (7, .int (iI (bI (¬ X_isOp (so cur) ∧ pile = 16)))), (6, .int (iI (bI ((so cur) = 64 ∧ (X_vl ct cur < 1 ∨ d 4 0 < X_vl ct cur))))), (5, .int (iI (X_vl ct cur))), (4, .int (iI (so cur))), (3, .int (iI (pl cur))), (0, .ref 496), (1, .ref a), (2, .int (iI pile))]) (st' := [.int (iI pile)]) rfl ?_
                        refine T_p xr_79_206 xn_79 (pc' := 207) (ls' := [(8, .int (iI (bI (X_isOp (so cur) ∧ pile < 2)))), (7, .int (iI (bI (¬ X_isOp (so cur) ∧ pile = 16)))), (6, .int (iI (bI ((so cur) = 64 ∧ (X_vl ct cur < 1 ∨ d 4 0 < X_vl ct cur))))), (5, .int (iI (X_vl ct cur))), (4, .int (iI (so cur))), (3, .int (iI (pl cur))), (0, .ref 496), (1, .ref a), (2, .int (iI pile))]) (st' := [.int (iI 1), .int (iI pile)]) rfl ?_
                        refine T_zisub xr_79_207 (z := pile - 1) rfl (pc' := 208) rfl ?_
                        refine T_p xr_79_208 xn_79 (pc' := 214) (ls' := [(8, .int (iI (bI (X_isOp (so cur) ∧ pile < 2)))), (7, .int (iI (bI (¬ X_isOp (so cur) ∧ pile = 16)))), (6, .int (iI (bI ((so cur) = 64 ∧ (X_vl ct cur < 1 ∨ d 4 0 < X_vl ct cur))))), (5, .int (iI (X_vl ct cur))), (4, .int (iI (so cur))), (3, .int (iI (pl cur))), (0, .ref 496), (1, .ref a), (2, .int (iI pile))]) (st' := [.int (iI (pile - 1))]) rfl ?_
                        refine T_iret xr_79_214 xf_79.2.2 rfl ?_
                        refine hQ _ _ ?_
                        have h2011 := (h2002.1 496 (by first | decide | omega)).trans (h1993)
                        have h2012 := (h2002.1 a (by omega)).trans (hw1990.1)
                        have h2013 := (h2002.1 (a + 1) (by omega)).trans (hw1990.2.1)
                        have h2014 := (h2002.1 (a + 2) (by omega)).trans (hw1990.2.2.1)
                        have h2015 := (h2002.1 (a + 3) (by omega)).trans (hw1990.2.2.2.1)
                        have h2016 := (h2002.1 (a + 4) (by omega)).trans (hw1990.2.2.2.2.1)
                        have h2017 := (h2002.1 (a + 5) (by omega)).trans (hw1990.2.2.2.2.2.1)
                        have h2018 := (h2002.1 (a + 6) (by omega)).trans (hw1990.2.2.2.2.2.2.1)
                        have h2019 := (h2002.1 (a + 7) (by omega)).trans (hw1990.2.2.2.2.2.2.2)
                        refine Or.inl ⟨X_av n cur, X_aS d (so cur) (X_vl ct cur), pile - 1, rfl, ?_, h2011, h2003, by omega, ⟨h2012, h2013, h2014, h2015, h2016, h2017, h2018, h2019⟩, hr1992, ((X_Fr.rf).tr (X_Fr.mono ⟨hf1991.1, hf1991.2⟩ (fun q hq => (by omega)))).tr (X_Fr.mono ⟨h2002.1, h2002.2⟩ (fun q hq => (by omega)))⟩
                        unfold sp_step sp_stF
                        (repeat (first | rw [if_pos (by assumption)] | rw [if_neg (by assumption)]))
                        all_goals first | rfl | ((repeat' split) <;> first | rfl | (exfalso; omega))
                    · skip
                      have c1985 : (X_isOp (so cur) ∧ pile < 2) := c1985
                      refine T_p xr_79_174 xn_79 (pc' := 175) (ls' := [(8, .int (iI (bI (X_isOp (so cur) ∧ pile < 2)))), (7, .int (iI (bI (¬ X_isOp (so cur) ∧ pile = 16)))), (6, .int (iI (bI ((so cur) = 64 ∧ (X_vl ct cur < 1 ∨ d 4 0 < X_vl ct cur))))), (5, .int (iI (X_vl ct cur))), (4, .int (iI (so cur))), (3, .int (iI (pl cur))), (0, .ref 496), (1, .ref a), (2, .int (iI pile))]) (st' := [.ref 496]) rfl ?_
                      refine T_p xr_79_175 xn_79 (pc' := 176) (ls' := [(8, .int (iI (bI (X_isOp (so cur) ∧ pile < 2)))), (7, .int (iI (bI (¬ X_isOp (so cur) ∧ pile = 16)))), (6, .int (iI (bI ((so cur) = 64 ∧ (X_vl ct cur < 1 ∨ d 4 0 < X_vl ct cur))))), (5, .int (iI (X_vl ct cur))), (4, .int (iI (so cur))), (3, .int (iI (pl cur))), (0, .ref 496), (1, .ref a), (2, .int (iI pile))]) (st' := [.int (iI 5), .ref 496]) rfl ?_
                      refine T_p xr_79_176 xn_79 (pc' := 177) (ls' := [(8, .int (iI (bI (X_isOp (so cur) ∧ pile < 2)))), (7, .int (iI (bI (¬ X_isOp (so cur) ∧ pile = 16)))), (6, .int (iI (bI ((so cur) = 64 ∧ (X_vl ct cur < 1 ∨ d 4 0 < X_vl ct cur))))), (5, .int (iI (X_vl ct cur))), (4, .int (iI (so cur))), (3, .int (iI (pl cur))), (0, .ref 496), (1, .ref a), (2, .int (iI pile))]) (st' := [.int (iI (pl cur)), .int (iI 5), .ref 496]) rfl ?_
                      refine T_cv (S := S) (q := 496) xr_79_177 xf_66.1 xf_66.2.1 xn_66 (as := [.int (iI 5), .int (iI (pl cur))]) (r := []) rfl hp (Nat.le_of_ble_eq_true rfl) (Nat.le_of_ble_eq_true rfl) (pc' := 180) rfl (ls' := [(0, .ref 496), (1, .int (iI 5)), (2, .int (iI (pl cur)))]) rfl ?_
                      refine T_p xr_66_0 xn_66 (pc' := 1) (ls' := [(0, .ref 496), (1, .int (iI 5)), (2, .int (iI (pl cur)))]) (st' := [.ref 496]) rfl ?_
                      refine T_p xr_66_1 xn_66 (pc' := 2) (ls' := [(0, .ref 496), (1, .int (iI 5)), (2, .int (iI (pl cur)))]) (st' := [.int (iI 5), .ref 496]) rfl ?_
                      refine T_put xr_66_2 hp rfl (Nat.le_of_ble_eq_true rfl) rfl (fs' := [.ref 497, .ref B, .int (iI 5), .int (iI fp)]) rfl (pc' := 5) rfl (fun S2020 h2021 n2022 e2023 => ?_)
                      refine T_p xr_66_5 xn_66 (pc' := 6) (ls' := [(0, .ref 496), (1, .int (iI 5)), (2, .int (iI (pl cur)))]) (st' := [.ref 496]) rfl ?_
                      refine T_p xr_66_6 xn_66 (pc' := 7) (ls' := [(0, .ref 496), (1, .int (iI 5)), (2, .int (iI (pl cur)))]) (st' := [.int (iI (pl cur)), .ref 496]) rfl ?_
                      refine T_put xr_66_7 h2021 rfl (Nat.le_of_ble_eq_true rfl) rfl (fs' := [.ref 497, .ref B, .int (iI 5), .int (iI (pl cur))]) rfl (pc' := 10) rfl (fun S2024 h2025 n2026 e2027 => ?_)
                      refine T_vret xr_66_10 xf_66.2.2 ?_
                      show X_T sc 79 (180, [(8, .int (iI (bI (X_isOp (so cur) ∧ pile < 2)))), (7, .int (iI (bI (¬ X_isOp (so cur) ∧ pile = 16)))), (6, .int (iI (bI ((so cur) = 64 ∧ (X_vl ct cur < 1 ∨ d 4 0 < X_vl ct cur))))), (5, .int (iI (X_vl ct cur))), (4, .int (iI (so cur))), (3, .int (iI (pl cur))), (0, .ref 496), (1, .ref a), (2, .int (iI pile))], [], S2024) _
                      refine T_p xr_79_180 xn_79 (pc' := 181) (ls' := [(8, .int (iI (bI (X_isOp (so cur) ∧ pile < 2)))), (7, .int (iI (bI (¬ X_isOp (so cur) ∧ pile = 16)))), (6, .int (iI (bI ((so cur) = 64 ∧ (X_vl ct cur < 1 ∨ d 4 0 < X_vl ct cur))))), (5, .int (iI (X_vl ct cur))), (4, .int (iI (so cur))), (3, .int (iI (pl cur))), (0, .ref 496), (1, .ref a), (2, .int (iI pile))]) (st' := [.int (iI (-1))]) rfl ?_
                      refine T_iret xr_79_181 xf_79.2.2 rfl ?_
                      refine hQ _ _ ?_
                      have h2028 := (n2026 497 (by decide)).trans ((n2022 497 (by decide)).trans (hx.1))
                      have h2029 := (n2026 a (by omega)).trans ((n2022 a (by omega)).trans (hw.1))
                      have h2030 := (n2026 (a + 1) (by first | exact (fun h => absurd (Nat.add_left_cancel h) (by decide)) | omega)).trans ((n2022 (a + 1) (by first | exact (fun h => absurd (Nat.add_left_cancel h) (by decide)) | omega)).trans (hw.2.1))
                      have h2031 := (n2026 (a + 2) (by first | exact (fun h => absurd (Nat.add_left_cancel h) (by decide)) | omega)).trans ((n2022 (a + 2) (by first | exact (fun h => absurd (Nat.add_left_cancel h) (by decide)) | omega)).trans (hw.2.2.1))
                      have h2032 := (n2026 (a + 3) (by first | exact (fun h => absurd (Nat.add_left_cancel h) (by decide)) | omega)).trans ((n2022 (a + 3) (by first | exact (fun h => absurd (Nat.add_left_cancel h) (by decide)) | omega)).trans (hw.2.2.2.1))
                      have h2033 := (n2026 (a + 4) (by first | exact (fun h => absurd (Nat.add_left_cancel h) (by decide)) | omega)).trans ((n2022 (a + 4) (by first | exact (fun h => absurd (Nat.add_left_cancel h) (by decide)) | omega)).trans (hw.2.2.2.2.1))
                      have h2034 := (n2026 (a + 5) (by first | exact (fun h => absurd (Nat.add_left_cancel h) (by decide)) | omega)).trans ((n2022 (a + 5) (by first | exact (fun h => absurd (Nat.add_left_cancel h) (by decide)) | omega)).trans (hw.2.2.2.2.2.1))
                      have h2035 := (n2026 (a + 6) (by first | exact (fun h => absurd (Nat.add_left_cancel h) (by decide)) | omega)).trans ((n2022 (a + 6) (by first | exact (fun h => absurd (Nat.add_left_cancel h) (by decide)) | omega)).trans (hw.2.2.2.2.2.2.1))
                      have h2036 := (n2026 (a + 7) (by first | exact (fun h => absurd (Nat.add_left_cancel h) (by decide)) | omega)).trans ((n2022 (a + 7) (by first | exact (fun h => absurd (Nat.add_left_cancel h) (by decide)) | omega)).trans (hw.2.2.2.2.2.2.2))
                      refine Or.inr ⟨rfl, ?_, ⟨_, _, by omega, h2025⟩, ⟨cur, h2028, by omega⟩, ⟨h2029, h2030, h2031, h2032, h2033, h2034, h2035, h2036⟩, ((X_Fr.rf).tr (X_Fr.of n2022 e2023 (by first | decide | exact ⟨Nat.le_add_right _ _, Nat.add_le_add_left (by decide) _⟩ | omega))).tr (X_Fr.of n2026 e2027 (by first | decide | exact ⟨Nat.le_add_right _ _, Nat.add_le_add_left (by decide) _⟩ | omega))⟩
                      unfold sp_step sp_stF
                      (repeat (first | rw [if_pos (by assumption)] | rw [if_neg (by assumption)]))
                      all_goals first | rfl | ((repeat' split) <;> first | rfl | (exfalso; omega))
              refine T_p xr_79_139 xn_79 (pc' := 141) (ls' := [(7, .int (iI (bI (¬ X_isOp (so cur) ∧ pile = 16)))), (6, .int (iI (bI ((so cur) = 64 ∧ (X_vl ct cur < 1 ∨ d 4 0 < X_vl ct cur))))), (5, .int (iI (X_vl ct cur))), (4, .int (iI (so cur))), (3, .int (iI (pl cur))), (0, .ref 496), (1, .ref a), (2, .int (iI pile))]) (st' := [.int (iI (so cur))]) rfl ?_
              refine T_cs xr_79_141 (by decide) xf_81.1 xn_81 (as := [.int (iI (so cur))]) (r := []) rfl (Nat.le_of_ble_eq_true rfl) (Nat.le_of_ble_eq_true rfl) (pc' := 144) rfl (ls' := [(0, .int (iI (so cur)))]) rfl ?_
              refine T_mono (c_isOperation sc S (so cur) (by omega)) (fun v2038 S2039 h2037 => ?_)
              obtain ⟨h2040, h2041⟩ := h2037
              rw [h2040, h2041]
              show X_T sc 79 (144, [(7, .int (iI (bI (¬ X_isOp (so cur) ∧ pile = 16)))), (6, .int (iI (bI ((so cur) = 64 ∧ (X_vl ct cur < 1 ∨ d 4 0 < X_vl ct cur))))), (5, .int (iI (X_vl ct cur))), (4, .int (iI (so cur))), (3, .int (iI (pl cur))), (0, .ref 496), (1, .ref a), (2, .int (iI pile))], [.int (iI (bI (X_isOp (so cur))))], S) _
              refine T_bif_eq xr_79_144 (t := 156) (pc' := 147) rfl rfl (fun c2042 => ?_) (fun c2042 => ?_)
              · skip
                have c2042 : ¬ (X_isOp (so cur)) := c2042
                exact (show False by first | contradiction | omega).elim
              · skip
                have c2042 : (X_isOp (so cur)) := c2042
                refine T_p xr_79_147 xn_79 (pc' := 148) (ls' := [(7, .int (iI (bI (¬ X_isOp (so cur) ∧ pile = 16)))), (6, .int (iI (bI ((so cur) = 64 ∧ (X_vl ct cur < 1 ∨ d 4 0 < X_vl ct cur))))), (5, .int (iI (X_vl ct cur))), (4, .int (iI (so cur))), (3, .int (iI (pl cur))), (0, .ref 496), (1, .ref a), (2, .int (iI pile))]) (st' := [.int (iI pile)]) rfl ?_
                refine T_p xr_79_148 xn_79 (pc' := 149) (ls' := [(7, .int (iI (bI (¬ X_isOp (so cur) ∧ pile = 16)))), (6, .int (iI (bI ((so cur) = 64 ∧ (X_vl ct cur < 1 ∨ d 4 0 < X_vl ct cur))))), (5, .int (iI (X_vl ct cur))), (4, .int (iI (so cur))), (3, .int (iI (pl cur))), (0, .ref 496), (1, .ref a), (2, .int (iI pile))]) (st' := [.int (iI 2), .int (iI pile)]) rfl ?_
                refine T_zicmp_ge xr_79_149 (t := 156) (pc' := 152) rfl rfl (fun c2043 => ?_) (fun c2043 => ?_)
                · skip
                  have c2043 : 2 ≤ pile := c2043
                  refine T_p xr_79_156 xn_79 (pc' := 157) (ls' := [(7, .int (iI (bI (¬ X_isOp (so cur) ∧ pile = 16)))), (6, .int (iI (bI ((so cur) = 64 ∧ (X_vl ct cur < 1 ∨ d 4 0 < X_vl ct cur))))), (5, .int (iI (X_vl ct cur))), (4, .int (iI (so cur))), (3, .int (iI (pl cur))), (0, .ref 496), (1, .ref a), (2, .int (iI pile))]) (st' := [.int (iI 0)]) rfl ?_
                  refine T_ie (y := iI (bI (X_isOp (so cur) ∧ pile < 2))) (by rw [bI_f (by rintro ⟨h1, h2⟩; first | omega | contradiction)]) ?_
                  exact J1948
                · skip
                  have c2043 : ¬ (2 ≤ pile) := c2043
                  refine T_p xr_79_152 xn_79 (pc' := 153) (ls' := [(7, .int (iI (bI (¬ X_isOp (so cur) ∧ pile = 16)))), (6, .int (iI (bI ((so cur) = 64 ∧ (X_vl ct cur < 1 ∨ d 4 0 < X_vl ct cur))))), (5, .int (iI (X_vl ct cur))), (4, .int (iI (so cur))), (3, .int (iI (pl cur))), (0, .ref 496), (1, .ref a), (2, .int (iI pile))]) (st' := [.int (iI 1)]) rfl ?_
                  refine T_p xr_79_153 xn_79 (pc' := 157) (ls' := [(7, .int (iI (bI (¬ X_isOp (so cur) ∧ pile = 16)))), (6, .int (iI (bI ((so cur) = 64 ∧ (X_vl ct cur < 1 ∨ d 4 0 < X_vl ct cur))))), (5, .int (iI (X_vl ct cur))), (4, .int (iI (so cur))), (3, .int (iI (pl cur))), (0, .ref 496), (1, .ref a), (2, .int (iI pile))]) (st' := [.int (iI 1)]) rfl ?_
                  refine T_ie (y := iI (bI (X_isOp (so cur) ∧ pile < 2))) (by rw [bI_t (by exact ⟨by assumption, by omega⟩)]) ?_
                  exact J1948
            refine T_p xr_79_118 xn_79 (pc' := 120) (ls' := [(6, .int (iI (bI ((so cur) = 64 ∧ (X_vl ct cur < 1 ∨ d 4 0 < X_vl ct cur))))), (5, .int (iI (X_vl ct cur))), (4, .int (iI (so cur))), (3, .int (iI (pl cur))), (0, .ref 496), (1, .ref a), (2, .int (iI pile))]) (st' := [.int (iI (so cur))]) rfl ?_
            refine T_cs xr_79_120 (by decide) xf_81.1 xn_81 (as := [.int (iI (so cur))]) (r := []) rfl (Nat.le_of_ble_eq_true rfl) (Nat.le_of_ble_eq_true rfl) (pc' := 123) rfl (ls' := [(0, .int (iI (so cur)))]) rfl ?_
            refine T_mono (c_isOperation sc S (so cur) (by omega)) (fun v2045 S2046 h2044 => ?_)
            obtain ⟨h2047, h2048⟩ := h2044
            rw [h2047, h2048]
            show X_T sc 79 (123, [(6, .int (iI (bI ((so cur) = 64 ∧ (X_vl ct cur < 1 ∨ d 4 0 < X_vl ct cur))))), (5, .int (iI (X_vl ct cur))), (4, .int (iI (so cur))), (3, .int (iI (pl cur))), (0, .ref 496), (1, .ref a), (2, .int (iI pile))], [.int (iI (bI (X_isOp (so cur))))], S) _
            refine T_bif_ne xr_79_123 (t := 136) (pc' := 126) rfl rfl (fun c2049 => ?_) (fun c2049 => ?_)
            · skip
              have c2049 : (X_isOp (so cur)) := c2049
              refine T_p xr_79_136 xn_79 (pc' := 137) (ls' := [(6, .int (iI (bI ((so cur) = 64 ∧ (X_vl ct cur < 1 ∨ d 4 0 < X_vl ct cur))))), (5, .int (iI (X_vl ct cur))), (4, .int (iI (so cur))), (3, .int (iI (pl cur))), (0, .ref 496), (1, .ref a), (2, .int (iI pile))]) (st' := [.int (iI 0)]) rfl ?_
              refine T_ie (y := iI (bI (¬ X_isOp (so cur) ∧ pile = 16))) (by rw [bI_f (by rintro ⟨h1, h2⟩; first | omega | contradiction)]) ?_
              exact J1947
            · skip
              have c2049 : ¬ (X_isOp (so cur)) := c2049
              exact (show False by first | contradiction | omega).elim
          refine T_p xr_79_89 xn_79 (pc' := 91) (ls' := [(5, .int (iI (X_vl ct cur))), (4, .int (iI (so cur))), (3, .int (iI (pl cur))), (0, .ref 496), (1, .ref a), (2, .int (iI pile))]) (st' := [.int (iI (so cur))]) rfl ?_
          refine T_p xr_79_91 xn_79 (pc' := 93) (ls' := [(5, .int (iI (X_vl ct cur))), (4, .int (iI (so cur))), (3, .int (iI (pl cur))), (0, .ref 496), (1, .ref a), (2, .int (iI pile))]) (st' := [.int (iI 64), .int (iI (so cur))]) rfl ?_
          refine T_zicmp_ne xr_79_93 (t := 115) (pc' := 96) rfl rfl (fun c2050 => ?_) (fun c2050 => ?_)
          · skip
            have c2050 : ¬ (so cur) = 64 := c2050
            refine T_p xr_79_115 xn_79 (pc' := 116) (ls' := [(5, .int (iI (X_vl ct cur))), (4, .int (iI (so cur))), (3, .int (iI (pl cur))), (0, .ref 496), (1, .ref a), (2, .int (iI pile))]) (st' := [.int (iI 0)]) rfl ?_
            refine T_ie (y := iI (bI ((so cur) = 64 ∧ (X_vl ct cur < 1 ∨ d 4 0 < X_vl ct cur)))) (by rw [bI_f (by rintro ⟨h1, h2⟩; omega)]) ?_
            exact J1946
          · skip
            have c2050 : ¬ (¬ (so cur) = 64) := c2050
            exact (show False by first | contradiction | omega).elim
        · skip
          have c1939 : ¬ (X_isOp (so cur)) := c1939
          refine T_p xr_79_73 xn_79 (pc' := 74) (ls' := [(4, .int (iI (so cur))), (3, .int (iI (pl cur))), (0, .ref 496), (1, .ref a), (2, .int (iI pile))]) (st' := [.ref 496]) rfl ?_
          refine T_cv (S := S) (q := 496) xr_79_74 xf_67.1 xf_67.2.1 xn_67 (as := []) (r := []) rfl hp (Nat.le_of_ble_eq_true rfl) (Nat.le_of_ble_eq_true rfl) (pc' := 77) rfl (ls' := [(0, .ref 496)]) rfl ?_
          refine T_mono (c_refuse sc S B fl fp at_ n cur so pl ct hp ⟨hx.1, hx.2.1, hx.2.2.1, hx.2.2.2⟩ (by omega) hso) (fun v2051 S2052 h2053 => ?_)
          obtain ⟨h2054, ⟨fl2055, fp2056, hn2057, hp2058⟩, hf2059⟩ := h2053
          rw [h2054]
          show X_T sc 79 (77, [(4, .int (iI (so cur))), (3, .int (iI (pl cur))), (0, .ref 496), (1, .ref a), (2, .int (iI pile))], [], S2052) _
          refine T_p xr_79_77 xn_79 (pc' := 78) (ls' := [(4, .int (iI (so cur))), (3, .int (iI (pl cur))), (0, .ref 496), (1, .ref a), (2, .int (iI pile))]) (st' := [.int (iI (-1))]) rfl ?_
          refine T_iret xr_79_78 xf_79.2.2 rfl ?_
          refine hQ _ _ ?_
          have h2060 := (hf2059.1 497 (by first | decide | omega)).trans (hx.1)
          have h2061 := (hf2059.1 a (by omega)).trans (hw.1)
          have h2062 := (hf2059.1 (a + 1) (by omega)).trans (hw.2.1)
          have h2063 := (hf2059.1 (a + 2) (by omega)).trans (hw.2.2.1)
          have h2064 := (hf2059.1 (a + 3) (by omega)).trans (hw.2.2.2.1)
          have h2065 := (hf2059.1 (a + 4) (by omega)).trans (hw.2.2.2.2.1)
          have h2066 := (hf2059.1 (a + 5) (by omega)).trans (hw.2.2.2.2.2.1)
          have h2067 := (hf2059.1 (a + 6) (by omega)).trans (hw.2.2.2.2.2.2.1)
          have h2068 := (hf2059.1 (a + 7) (by omega)).trans (hw.2.2.2.2.2.2.2)
          refine Or.inr ⟨rfl, ?_, ⟨_, _, by omega, hp2058⟩, ⟨cur, h2060, by omega⟩, ⟨h2061, h2062, h2063, h2064, h2065, h2066, h2067, h2068⟩, (X_Fr.rf).tr (X_Fr.mono ⟨hf2059.1, hf2059.2⟩ (fun q hq => (by omega)))⟩
          unfold sp_step sp_stF
          (repeat (first | rw [if_pos (by assumption)] | rw [if_neg (by assumption)]))
          all_goals first | rfl | ((repeat' split) <;> first | rfl | (exfalso; omega))
    · skip
      have c1811 : ¬ (¬ (so cur) = 64) := c1811
      have hop2069 : ¬ (X_isOp (so cur)) := by unfold X_isOp; omega
      refine T_p xr_79_35 xn_79 (pc' := 36) (ls' := [(4, .int (iI (so cur))), (3, .int (iI (pl cur))), (0, .ref 496), (1, .ref a), (2, .int (iI pile))]) (st' := [.ref 496]) rfl ?_
      refine T_get xr_79_36 hp rfl (v := .ref 497) rfl (pc' := 39) rfl ?_
      refine T_cv (S := S) (q := 497) xr_79_39 xf_52.1 xf_52.2.1 xn_52 (as := []) (r := []) rfl hx.1 (Nat.le_of_ble_eq_true rfl) (Nat.le_of_ble_eq_true rfl) (pc' := 42) rfl (ls' := [(0, .ref 497)]) rfl ?_
      refine T_mono (c_advance sc S at_ n cur so pl ct ⟨hx.1, hx.2.1, hx.2.2.1, hx.2.2.2⟩ (by omega)) (fun v2071 S2072 h2070 => ?_)
      obtain ⟨h2073, h2075, h2074⟩ := h2070
      rw [h2073]
      show X_T sc 79 (42, [(4, .int (iI (so cur))), (3, .int (iI (pl cur))), (0, .ref 496), (1, .ref a), (2, .int (iI pile))], [], S2072) _
      have hv2076 := X_av_r (n := n) (c := cur) (by omega)
      refine T_p xr_79_42 xn_79 (pc' := 43) (ls' := [(4, .int (iI (so cur))), (3, .int (iI (pl cur))), (0, .ref 496), (1, .ref a), (2, .int (iI pile))]) (st' := [.ref 496]) rfl ?_
      have h2077 := (h2074.1 496 (by first | decide | omega)).trans (hp)
      refine T_get xr_79_43 h2077 rfl (v := .ref 497) rfl (pc' := 46) rfl ?_
      refine T_cv (S := S2072) (q := 497) xr_79_46 xf_48.1 xf_48.2.1 xn_48 (as := []) (r := []) rfl h2075 (Nat.le_of_ble_eq_true rfl) (Nat.le_of_ble_eq_true rfl) (pc' := 49) rfl (ls' := [(0, .ref 497)]) rfl ?_
      have h2078 := (h2074.1 498 (by first | decide | omega)).trans (hx.2.1)
      have h2079 := (h2074.1 499 (by first | decide | omega)).trans (hx.2.2.1)
      have h2080 := (h2074.1 500 (by first | decide | omega)).trans (hx.2.2.2)
      refine T_mono (c_sort sc S2072 at_ n (X_av n cur) so pl ct ⟨h2075, h2078, h2079, h2080⟩ (by omega)) (fun v2082 S2083 h2081 => ?_)
      obtain ⟨h2084, h2085⟩ := h2081
      rw [h2084, h2085]
      show X_T sc 79 (49, [(4, .int (iI (so cur))), (3, .int (iI (pl cur))), (0, .ref 496), (1, .ref a), (2, .int (iI pile))], [.int (iI (so (X_av n cur)))], S2072) _
      have hs2086 := hso (X_av n cur) (by omega) (by omega)
      refine T_p xr_79_49 xn_79 (pc' := 50) (ls' := [(4, .int (iI (so cur))), (3, .int (iI (pl cur))), (0, .ref 496), (1, .ref a), (2, .int (iI pile))]) (st' := [.int (iI 5), .int (iI (so (X_av n cur)))]) rfl ?_
      refine T_zicmp_eq xr_79_50 (t := 79) (pc' := 53) rfl rfl (fun c2087 => ?_) (fun c2087 => ?_)
      · skip
        have c2087 : (so (X_av n cur)) = 5 := c2087
        refine T_p xr_79_79 xn_79 (pc' := 80) (ls' := [(4, .int (iI (so cur))), (3, .int (iI (pl cur))), (0, .ref 496), (1, .ref a), (2, .int (iI pile))]) (st' := [.ref 496]) rfl ?_
        refine T_get xr_79_80 h2077 rfl (v := .ref 497) rfl (pc' := 83) rfl ?_
        refine T_cv (S := S2072) (q := 497) xr_79_83 xf_50.1 xf_50.2.1 xn_50 (as := []) (r := []) rfl h2075 (Nat.le_of_ble_eq_true rfl) (Nat.le_of_ble_eq_true rfl) (pc' := 86) rfl (ls' := [(0, .ref 497)]) rfl ?_
        refine T_mono (c_content sc S2072 at_ n (X_av n cur) so pl ct ⟨h2075, h2078, h2079, h2080⟩ (by omega)) (fun v2089 S2090 h2088 => ?_)
        obtain ⟨h2091, h2092⟩ := h2088
        rw [h2091, h2092]
        show X_T sc 79 (86, [(4, .int (iI (so cur))), (3, .int (iI (pl cur))), (0, .ref 496), (1, .ref a), (2, .int (iI pile))], [.long (ct (X_av n cur))], S2072) _
        refine T_zop xr_79_86 (pc' := 87) rfl (z := ((ct (X_av n cur) : Int64).toInt32).toInt) (iI_of _) ?_
        refine T_ie (y := iI (X_vl ct (X_av n cur))) rfl ?_
        have hv2093 := X_vl_r ct (X_av n cur)
        refine T_p xr_79_87 xn_79 (pc' := 89) (ls' := [(5, .int (iI (X_vl ct (X_av n cur)))), (4, .int (iI (so cur))), (3, .int (iI (pl cur))), (0, .ref 496), (1, .ref a), (2, .int (iI pile))]) (st' := []) rfl ?_
        have J2094 : X_T sc 79 (116, [(5, .int (iI (X_vl ct (X_av n cur)))), (4, .int (iI (so cur))), (3, .int (iI (pl cur))), (0, .ref 496), (1, .ref a), (2, .int (iI pile))], [.int (iI (bI ((so cur) = 64 ∧ (X_vl ct (X_av n cur) < 1 ∨ d 4 0 < X_vl ct (X_av n cur)))))], S2072) Q := by
          refine T_p xr_79_116 xn_79 (pc' := 118) (ls' := [(6, .int (iI (bI ((so cur) = 64 ∧ (X_vl ct (X_av n cur) < 1 ∨ d 4 0 < X_vl ct (X_av n cur)))))), (5, .int (iI (X_vl ct (X_av n cur)))), (4, .int (iI (so cur))), (3, .int (iI (pl cur))), (0, .ref 496), (1, .ref a), (2, .int (iI pile))]) (st' := []) rfl ?_
          have J2095 : X_T sc 79 (137, [(6, .int (iI (bI ((so cur) = 64 ∧ (X_vl ct (X_av n cur) < 1 ∨ d 4 0 < X_vl ct (X_av n cur)))))), (5, .int (iI (X_vl ct (X_av n cur)))), (4, .int (iI (so cur))), (3, .int (iI (pl cur))), (0, .ref 496), (1, .ref a), (2, .int (iI pile))], [.int (iI (bI (¬ X_isOp (so cur) ∧ pile = 16)))], S2072) Q := by
            refine T_p xr_79_137 xn_79 (pc' := 139) (ls' := [(7, .int (iI (bI (¬ X_isOp (so cur) ∧ pile = 16)))), (6, .int (iI (bI ((so cur) = 64 ∧ (X_vl ct (X_av n cur) < 1 ∨ d 4 0 < X_vl ct (X_av n cur)))))), (5, .int (iI (X_vl ct (X_av n cur)))), (4, .int (iI (so cur))), (3, .int (iI (pl cur))), (0, .ref 496), (1, .ref a), (2, .int (iI pile))]) (st' := []) rfl ?_
            have J2096 : X_T sc 79 (157, [(7, .int (iI (bI (¬ X_isOp (so cur) ∧ pile = 16)))), (6, .int (iI (bI ((so cur) = 64 ∧ (X_vl ct (X_av n cur) < 1 ∨ d 4 0 < X_vl ct (X_av n cur)))))), (5, .int (iI (X_vl ct (X_av n cur)))), (4, .int (iI (so cur))), (3, .int (iI (pl cur))), (0, .ref 496), (1, .ref a), (2, .int (iI pile))], [.int (iI (bI (X_isOp (so cur) ∧ pile < 2)))], S2072) Q := by
              refine T_p xr_79_157 xn_79 (pc' := 159) (ls' := [(8, .int (iI (bI (X_isOp (so cur) ∧ pile < 2)))), (7, .int (iI (bI (¬ X_isOp (so cur) ∧ pile = 16)))), (6, .int (iI (bI ((so cur) = 64 ∧ (X_vl ct (X_av n cur) < 1 ∨ d 4 0 < X_vl ct (X_av n cur)))))), (5, .int (iI (X_vl ct (X_av n cur)))), (4, .int (iI (so cur))), (3, .int (iI (pl cur))), (0, .ref 496), (1, .ref a), (2, .int (iI pile))]) (st' := []) rfl ?_
              refine T_p xr_79_159 xn_79 (pc' := 161) (ls' := [(8, .int (iI (bI (X_isOp (so cur) ∧ pile < 2)))), (7, .int (iI (bI (¬ X_isOp (so cur) ∧ pile = 16)))), (6, .int (iI (bI ((so cur) = 64 ∧ (X_vl ct (X_av n cur) < 1 ∨ d 4 0 < X_vl ct (X_av n cur)))))), (5, .int (iI (X_vl ct (X_av n cur)))), (4, .int (iI (so cur))), (3, .int (iI (pl cur))), (0, .ref 496), (1, .ref a), (2, .int (iI pile))]) (st' := [.int (iI (bI ((so cur) = 64 ∧ (X_vl ct (X_av n cur) < 1 ∨ d 4 0 < X_vl ct (X_av n cur)))))]) rfl ?_
              refine T_bif_ne xr_79_161 (t := 174) (pc' := 164) rfl rfl (fun c2097 => ?_) (fun c2097 => ?_)
              · skip
                have c2097 : ((so cur) = 64 ∧ (X_vl ct (X_av n cur) < 1 ∨ d 4 0 < X_vl ct (X_av n cur))) := c2097
                refine T_p xr_79_174 xn_79 (pc' := 175) (ls' := [(8, .int (iI (bI (X_isOp (so cur) ∧ pile < 2)))), (7, .int (iI (bI (¬ X_isOp (so cur) ∧ pile = 16)))), (6, .int (iI (bI ((so cur) = 64 ∧ (X_vl ct (X_av n cur) < 1 ∨ d 4 0 < X_vl ct (X_av n cur)))))), (5, .int (iI (X_vl ct (X_av n cur)))), (4, .int (iI (so cur))), (3, .int (iI (pl cur))), (0, .ref 496), (1, .ref a), (2, .int (iI pile))]) (st' := [.ref 496]) rfl ?_
                refine T_p xr_79_175 xn_79 (pc' := 176) (ls' := [(8, .int (iI (bI (X_isOp (so cur) ∧ pile < 2)))), (7, .int (iI (bI (¬ X_isOp (so cur) ∧ pile = 16)))), (6, .int (iI (bI ((so cur) = 64 ∧ (X_vl ct (X_av n cur) < 1 ∨ d 4 0 < X_vl ct (X_av n cur)))))), (5, .int (iI (X_vl ct (X_av n cur)))), (4, .int (iI (so cur))), (3, .int (iI (pl cur))), (0, .ref 496), (1, .ref a), (2, .int (iI pile))]) (st' := [.int (iI 5), .ref 496]) rfl ?_
                refine T_p xr_79_176 xn_79 (pc' := 177) (ls' := [(8, .int (iI (bI (X_isOp (so cur) ∧ pile < 2)))), (7, .int (iI (bI (¬ X_isOp (so cur) ∧ pile = 16)))), (6, .int (iI (bI ((so cur) = 64 ∧ (X_vl ct (X_av n cur) < 1 ∨ d 4 0 < X_vl ct (X_av n cur)))))), (5, .int (iI (X_vl ct (X_av n cur)))), (4, .int (iI (so cur))), (3, .int (iI (pl cur))), (0, .ref 496), (1, .ref a), (2, .int (iI pile))]) (st' := [.int (iI (pl cur)), .int (iI 5), .ref 496]) rfl ?_
                refine T_cv (S := S2072) (q := 496) xr_79_177 xf_66.1 xf_66.2.1 xn_66 (as := [.int (iI 5), .int (iI (pl cur))]) (r := []) rfl h2077 (Nat.le_of_ble_eq_true rfl) (Nat.le_of_ble_eq_true rfl) (pc' := 180) rfl (ls' := [(0, .ref 496), (1, .int (iI 5)), (2, .int (iI (pl cur)))]) rfl ?_
                refine T_p xr_66_0 xn_66 (pc' := 1) (ls' := [(0, .ref 496), (1, .int (iI 5)), (2, .int (iI (pl cur)))]) (st' := [.ref 496]) rfl ?_
                refine T_p xr_66_1 xn_66 (pc' := 2) (ls' := [(0, .ref 496), (1, .int (iI 5)), (2, .int (iI (pl cur)))]) (st' := [.int (iI 5), .ref 496]) rfl ?_
                refine T_put xr_66_2 h2077 rfl (Nat.le_of_ble_eq_true rfl) rfl (fs' := [.ref 497, .ref B, .int (iI 5), .int (iI fp)]) rfl (pc' := 5) rfl (fun S2098 h2099 n2100 e2101 => ?_)
                refine T_p xr_66_5 xn_66 (pc' := 6) (ls' := [(0, .ref 496), (1, .int (iI 5)), (2, .int (iI (pl cur)))]) (st' := [.ref 496]) rfl ?_
                refine T_p xr_66_6 xn_66 (pc' := 7) (ls' := [(0, .ref 496), (1, .int (iI 5)), (2, .int (iI (pl cur)))]) (st' := [.int (iI (pl cur)), .ref 496]) rfl ?_
                refine T_put xr_66_7 h2099 rfl (Nat.le_of_ble_eq_true rfl) rfl (fs' := [.ref 497, .ref B, .int (iI 5), .int (iI (pl cur))]) rfl (pc' := 10) rfl (fun S2102 h2103 n2104 e2105 => ?_)
                refine T_vret xr_66_10 xf_66.2.2 ?_
                show X_T sc 79 (180, [(8, .int (iI (bI (X_isOp (so cur) ∧ pile < 2)))), (7, .int (iI (bI (¬ X_isOp (so cur) ∧ pile = 16)))), (6, .int (iI (bI ((so cur) = 64 ∧ (X_vl ct (X_av n cur) < 1 ∨ d 4 0 < X_vl ct (X_av n cur)))))), (5, .int (iI (X_vl ct (X_av n cur)))), (4, .int (iI (so cur))), (3, .int (iI (pl cur))), (0, .ref 496), (1, .ref a), (2, .int (iI pile))], [], S2102) _
                refine T_p xr_79_180 xn_79 (pc' := 181) (ls' := [(8, .int (iI (bI (X_isOp (so cur) ∧ pile < 2)))), (7, .int (iI (bI (¬ X_isOp (so cur) ∧ pile = 16)))), (6, .int (iI (bI ((so cur) = 64 ∧ (X_vl ct (X_av n cur) < 1 ∨ d 4 0 < X_vl ct (X_av n cur)))))), (5, .int (iI (X_vl ct (X_av n cur)))), (4, .int (iI (so cur))), (3, .int (iI (pl cur))), (0, .ref 496), (1, .ref a), (2, .int (iI pile))]) (st' := [.int (iI (-1))]) rfl ?_
                refine T_iret xr_79_181 xf_79.2.2 rfl ?_
                refine hQ _ _ ?_
                have h2106 := (n2104 497 (by decide)).trans ((n2100 497 (by decide)).trans (h2075))
                have h2107 := (n2104 a (by omega)).trans ((n2100 a (by omega)).trans ((h2074.1 a (by omega)).trans (hw.1)))
                have h2108 := (n2104 (a + 1) (by first | exact (fun h => absurd (Nat.add_left_cancel h) (by decide)) | omega)).trans ((n2100 (a + 1) (by first | exact (fun h => absurd (Nat.add_left_cancel h) (by decide)) | omega)).trans ((h2074.1 (a + 1) (by omega)).trans (hw.2.1)))
                have h2109 := (n2104 (a + 2) (by first | exact (fun h => absurd (Nat.add_left_cancel h) (by decide)) | omega)).trans ((n2100 (a + 2) (by first | exact (fun h => absurd (Nat.add_left_cancel h) (by decide)) | omega)).trans ((h2074.1 (a + 2) (by omega)).trans (hw.2.2.1)))
                have h2110 := (n2104 (a + 3) (by first | exact (fun h => absurd (Nat.add_left_cancel h) (by decide)) | omega)).trans ((n2100 (a + 3) (by first | exact (fun h => absurd (Nat.add_left_cancel h) (by decide)) | omega)).trans ((h2074.1 (a + 3) (by omega)).trans (hw.2.2.2.1)))
                have h2111 := (n2104 (a + 4) (by first | exact (fun h => absurd (Nat.add_left_cancel h) (by decide)) | omega)).trans ((n2100 (a + 4) (by first | exact (fun h => absurd (Nat.add_left_cancel h) (by decide)) | omega)).trans ((h2074.1 (a + 4) (by omega)).trans (hw.2.2.2.2.1)))
                have h2112 := (n2104 (a + 5) (by first | exact (fun h => absurd (Nat.add_left_cancel h) (by decide)) | omega)).trans ((n2100 (a + 5) (by first | exact (fun h => absurd (Nat.add_left_cancel h) (by decide)) | omega)).trans ((h2074.1 (a + 5) (by omega)).trans (hw.2.2.2.2.2.1)))
                have h2113 := (n2104 (a + 6) (by first | exact (fun h => absurd (Nat.add_left_cancel h) (by decide)) | omega)).trans ((n2100 (a + 6) (by first | exact (fun h => absurd (Nat.add_left_cancel h) (by decide)) | omega)).trans ((h2074.1 (a + 6) (by omega)).trans (hw.2.2.2.2.2.2.1)))
                have h2114 := (n2104 (a + 7) (by first | exact (fun h => absurd (Nat.add_left_cancel h) (by decide)) | omega)).trans ((n2100 (a + 7) (by first | exact (fun h => absurd (Nat.add_left_cancel h) (by decide)) | omega)).trans ((h2074.1 (a + 7) (by omega)).trans (hw.2.2.2.2.2.2.2)))
                refine Or.inr ⟨rfl, ?_, ⟨_, _, by omega, h2103⟩, ⟨X_av n cur, h2106, by omega⟩, ⟨h2107, h2108, h2109, h2110, h2111, h2112, h2113, h2114⟩, (((X_Fr.rf).tr (X_Fr.mono ⟨h2074.1, h2074.2⟩ (fun q hq => (by omega)))).tr (X_Fr.of n2100 e2101 (by first | decide | exact ⟨Nat.le_add_right _ _, Nat.add_le_add_left (by decide) _⟩ | omega))).tr (X_Fr.of n2104 e2105 (by first | decide | exact ⟨Nat.le_add_right _ _, Nat.add_le_add_left (by decide) _⟩ | omega))⟩
                unfold sp_step sp_stF
                (repeat (first | rw [if_pos (by assumption)] | rw [if_neg (by assumption)]))
                all_goals first | rfl | ((repeat' split) <;> first | rfl | (exfalso; omega))
              · skip
                have c2097 : ¬ ((so cur) = 64 ∧ (X_vl ct (X_av n cur) < 1 ∨ d 4 0 < X_vl ct (X_av n cur))) := c2097
                refine T_p xr_79_164 xn_79 (pc' := 166) (ls' := [(8, .int (iI (bI (X_isOp (so cur) ∧ pile < 2)))), (7, .int (iI (bI (¬ X_isOp (so cur) ∧ pile = 16)))), (6, .int (iI (bI ((so cur) = 64 ∧ (X_vl ct (X_av n cur) < 1 ∨ d 4 0 < X_vl ct (X_av n cur)))))), (5, .int (iI (X_vl ct (X_av n cur)))), (4, .int (iI (so cur))), (3, .int (iI (pl cur))), (0, .ref 496), (1, .ref a), (2, .int (iI pile))]) (st' := [.int (iI (bI (¬ X_isOp (so cur) ∧ pile = 16)))]) rfl ?_
                refine T_bif_ne xr_79_166 (t := 174) (pc' := 169) rfl rfl (fun c2115 => ?_) (fun c2115 => ?_)
                · skip
                  have c2115 : (¬ X_isOp (so cur) ∧ pile = 16) := c2115
                  refine T_p xr_79_174 xn_79 (pc' := 175) (ls' := [(8, .int (iI (bI (X_isOp (so cur) ∧ pile < 2)))), (7, .int (iI (bI (¬ X_isOp (so cur) ∧ pile = 16)))), (6, .int (iI (bI ((so cur) = 64 ∧ (X_vl ct (X_av n cur) < 1 ∨ d 4 0 < X_vl ct (X_av n cur)))))), (5, .int (iI (X_vl ct (X_av n cur)))), (4, .int (iI (so cur))), (3, .int (iI (pl cur))), (0, .ref 496), (1, .ref a), (2, .int (iI pile))]) (st' := [.ref 496]) rfl ?_
                  refine T_p xr_79_175 xn_79 (pc' := 176) (ls' := [(8, .int (iI (bI (X_isOp (so cur) ∧ pile < 2)))), (7, .int (iI (bI (¬ X_isOp (so cur) ∧ pile = 16)))), (6, .int (iI (bI ((so cur) = 64 ∧ (X_vl ct (X_av n cur) < 1 ∨ d 4 0 < X_vl ct (X_av n cur)))))), (5, .int (iI (X_vl ct (X_av n cur)))), (4, .int (iI (so cur))), (3, .int (iI (pl cur))), (0, .ref 496), (1, .ref a), (2, .int (iI pile))]) (st' := [.int (iI 5), .ref 496]) rfl ?_
                  refine T_p xr_79_176 xn_79 (pc' := 177) (ls' := [(8, .int (iI (bI (X_isOp (so cur) ∧ pile < 2)))), (7, .int (iI (bI (¬ X_isOp (so cur) ∧ pile = 16)))), (6, .int (iI (bI ((so cur) = 64 ∧ (X_vl ct (X_av n cur) < 1 ∨ d 4 0 < X_vl ct (X_av n cur)))))), (5, .int (iI (X_vl ct (X_av n cur)))), (4, .int (iI (so cur))), (3, .int (iI (pl cur))), (0, .ref 496), (1, .ref a), (2, .int (iI pile))]) (st' := [.int (iI (pl cur)), .int (iI 5), .ref 496]) rfl ?_
                  refine T_cv (S := S2072) (q := 496) xr_79_177 xf_66.1 xf_66.2.1 xn_66 (as := [.int (iI 5), .int (iI (pl cur))]) (r := []) rfl h2077 (Nat.le_of_ble_eq_true rfl) (Nat.le_of_ble_eq_true rfl) (pc' := 180) rfl (ls' := [(0, .ref 496), (1, .int (iI 5)), (2, .int (iI (pl cur)))]) rfl ?_
                  refine T_p xr_66_0 xn_66 (pc' := 1) (ls' := [(0, .ref 496), (1, .int (iI 5)), (2, .int (iI (pl cur)))]) (st' := [.ref 496]) rfl ?_
                  refine T_p xr_66_1 xn_66 (pc' := 2) (ls' := [(0, .ref 496), (1, .int (iI 5)), (2, .int (iI (pl cur)))]) (st' := [.int (iI 5), .ref 496]) rfl ?_
                  refine T_put xr_66_2 h2077 rfl (Nat.le_of_ble_eq_true rfl) rfl (fs' := [.ref 497, .ref B, .int (iI 5), .int (iI fp)]) rfl (pc' := 5) rfl (fun S2116 h2117 n2118 e2119 => ?_)
                  refine T_p xr_66_5 xn_66 (pc' := 6) (ls' := [(0, .ref 496), (1, .int (iI 5)), (2, .int (iI (pl cur)))]) (st' := [.ref 496]) rfl ?_
                  refine T_p xr_66_6 xn_66 (pc' := 7) (ls' := [(0, .ref 496), (1, .int (iI 5)), (2, .int (iI (pl cur)))]) (st' := [.int (iI (pl cur)), .ref 496]) rfl ?_
                  refine T_put xr_66_7 h2117 rfl (Nat.le_of_ble_eq_true rfl) rfl (fs' := [.ref 497, .ref B, .int (iI 5), .int (iI (pl cur))]) rfl (pc' := 10) rfl (fun S2120 h2121 n2122 e2123 => ?_)
                  refine T_vret xr_66_10 xf_66.2.2 ?_
                  show X_T sc 79 (180, [(8, .int (iI (bI (X_isOp (so cur) ∧ pile < 2)))), (7, .int (iI (bI (¬ X_isOp (so cur) ∧ pile = 16)))), (6, .int (iI (bI ((so cur) = 64 ∧ (X_vl ct (X_av n cur) < 1 ∨ d 4 0 < X_vl ct (X_av n cur)))))), (5, .int (iI (X_vl ct (X_av n cur)))), (4, .int (iI (so cur))), (3, .int (iI (pl cur))), (0, .ref 496), (1, .ref a), (2, .int (iI pile))], [], S2120) _
                  refine T_p xr_79_180 xn_79 (pc' := 181) (ls' := [(8, .int (iI (bI (X_isOp (so cur) ∧ pile < 2)))), (7, .int (iI (bI (¬ X_isOp (so cur) ∧ pile = 16)))), (6, .int (iI (bI ((so cur) = 64 ∧ (X_vl ct (X_av n cur) < 1 ∨ d 4 0 < X_vl ct (X_av n cur)))))), (5, .int (iI (X_vl ct (X_av n cur)))), (4, .int (iI (so cur))), (3, .int (iI (pl cur))), (0, .ref 496), (1, .ref a), (2, .int (iI pile))]) (st' := [.int (iI (-1))]) rfl ?_
                  refine T_iret xr_79_181 xf_79.2.2 rfl ?_
                  refine hQ _ _ ?_
                  have h2124 := (n2122 497 (by decide)).trans ((n2118 497 (by decide)).trans (h2075))
                  have h2125 := (n2122 a (by omega)).trans ((n2118 a (by omega)).trans ((h2074.1 a (by omega)).trans (hw.1)))
                  have h2126 := (n2122 (a + 1) (by first | exact (fun h => absurd (Nat.add_left_cancel h) (by decide)) | omega)).trans ((n2118 (a + 1) (by first | exact (fun h => absurd (Nat.add_left_cancel h) (by decide)) | omega)).trans ((h2074.1 (a + 1) (by omega)).trans (hw.2.1)))
                  have h2127 := (n2122 (a + 2) (by first | exact (fun h => absurd (Nat.add_left_cancel h) (by decide)) | omega)).trans ((n2118 (a + 2) (by first | exact (fun h => absurd (Nat.add_left_cancel h) (by decide)) | omega)).trans ((h2074.1 (a + 2) (by omega)).trans (hw.2.2.1)))
                  have h2128 := (n2122 (a + 3) (by first | exact (fun h => absurd (Nat.add_left_cancel h) (by decide)) | omega)).trans ((n2118 (a + 3) (by first | exact (fun h => absurd (Nat.add_left_cancel h) (by decide)) | omega)).trans ((h2074.1 (a + 3) (by omega)).trans (hw.2.2.2.1)))
                  have h2129 := (n2122 (a + 4) (by first | exact (fun h => absurd (Nat.add_left_cancel h) (by decide)) | omega)).trans ((n2118 (a + 4) (by first | exact (fun h => absurd (Nat.add_left_cancel h) (by decide)) | omega)).trans ((h2074.1 (a + 4) (by omega)).trans (hw.2.2.2.2.1)))
                  have h2130 := (n2122 (a + 5) (by first | exact (fun h => absurd (Nat.add_left_cancel h) (by decide)) | omega)).trans ((n2118 (a + 5) (by first | exact (fun h => absurd (Nat.add_left_cancel h) (by decide)) | omega)).trans ((h2074.1 (a + 5) (by omega)).trans (hw.2.2.2.2.2.1)))
                  have h2131 := (n2122 (a + 6) (by first | exact (fun h => absurd (Nat.add_left_cancel h) (by decide)) | omega)).trans ((n2118 (a + 6) (by first | exact (fun h => absurd (Nat.add_left_cancel h) (by decide)) | omega)).trans ((h2074.1 (a + 6) (by omega)).trans (hw.2.2.2.2.2.2.1)))
                  have h2132 := (n2122 (a + 7) (by first | exact (fun h => absurd (Nat.add_left_cancel h) (by decide)) | omega)).trans ((n2118 (a + 7) (by first | exact (fun h => absurd (Nat.add_left_cancel h) (by decide)) | omega)).trans ((h2074.1 (a + 7) (by omega)).trans (hw.2.2.2.2.2.2.2)))
                  refine Or.inr ⟨rfl, ?_, ⟨_, _, by omega, h2121⟩, ⟨X_av n cur, h2124, by omega⟩, ⟨h2125, h2126, h2127, h2128, h2129, h2130, h2131, h2132⟩, (((X_Fr.rf).tr (X_Fr.mono ⟨h2074.1, h2074.2⟩ (fun q hq => (by omega)))).tr (X_Fr.of n2118 e2119 (by first | decide | exact ⟨Nat.le_add_right _ _, Nat.add_le_add_left (by decide) _⟩ | omega))).tr (X_Fr.of n2122 e2123 (by first | decide | exact ⟨Nat.le_add_right _ _, Nat.add_le_add_left (by decide) _⟩ | omega))⟩
                  unfold sp_step sp_stF
                  (repeat (first | rw [if_pos (by assumption)] | rw [if_neg (by assumption)]))
                  all_goals first | rfl | ((repeat' split) <;> first | rfl | (exfalso; omega))
                · skip
                  have c2115 : ¬ (¬ X_isOp (so cur) ∧ pile = 16) := c2115
                  refine T_p xr_79_169 xn_79 (pc' := 171) (ls' := [(8, .int (iI (bI (X_isOp (so cur) ∧ pile < 2)))), (7, .int (iI (bI (¬ X_isOp (so cur) ∧ pile = 16)))), (6, .int (iI (bI ((so cur) = 64 ∧ (X_vl ct (X_av n cur) < 1 ∨ d 4 0 < X_vl ct (X_av n cur)))))), (5, .int (iI (X_vl ct (X_av n cur)))), (4, .int (iI (so cur))), (3, .int (iI (pl cur))), (0, .ref 496), (1, .ref a), (2, .int (iI pile))]) (st' := [.int (iI (bI (X_isOp (so cur) ∧ pile < 2)))]) rfl ?_
                  refine T_bif_eq xr_79_171 (t := 182) (pc' := 174) rfl rfl (fun c2133 => ?_) (fun c2133 => ?_)
                  · skip
                    have c2133 : ¬ (X_isOp (so cur) ∧ pile < 2) := c2133
                    refine T_p xr_79_182 xn_79 (pc' := 183) (ls' := [(8, .int (iI (bI (X_isOp (so cur) ∧ pile < 2)))), (7, .int (iI (bI (¬ X_isOp (so cur) ∧ pile = 16)))), (6, .int (iI (bI ((so cur) = 64 ∧ (X_vl ct (X_av n cur) < 1 ∨ d 4 0 < X_vl ct (X_av n cur)))))), (5, .int (iI (X_vl ct (X_av n cur)))), (4, .int (iI (so cur))), (3, .int (iI (pl cur))), (0, .ref 496), (1, .ref a), (2, .int (iI pile))]) (st' := [.ref a]) rfl ?_
                    refine T_p xr_79_183 xn_79 (pc' := 185) (ls' := [(8, .int (iI (bI (X_isOp (so cur) ∧ pile < 2)))), (7, .int (iI (bI (¬ X_isOp (so cur) ∧ pile = 16)))), (6, .int (iI (bI ((so cur) = 64 ∧ (X_vl ct (X_av n cur) < 1 ∨ d 4 0 < X_vl ct (X_av n cur)))))), (5, .int (iI (X_vl ct (X_av n cur)))), (4, .int (iI (so cur))), (3, .int (iI (pl cur))), (0, .ref 496), (1, .ref a), (2, .int (iI pile))]) (st' := [.int (iI (so cur)), .ref a]) rfl ?_
                    refine T_p xr_79_185 xn_79 (pc' := 187) (ls' := [(8, .int (iI (bI (X_isOp (so cur) ∧ pile < 2)))), (7, .int (iI (bI (¬ X_isOp (so cur) ∧ pile = 16)))), (6, .int (iI (bI ((so cur) = 64 ∧ (X_vl ct (X_av n cur) < 1 ∨ d 4 0 < X_vl ct (X_av n cur)))))), (5, .int (iI (X_vl ct (X_av n cur)))), (4, .int (iI (so cur))), (3, .int (iI (pl cur))), (0, .ref 496), (1, .ref a), (2, .int (iI pile))]) (st' := [.int (iI (X_vl ct (X_av n cur))), .int (iI (so cur)), .ref a]) rfl ?_
                    have h2134 := (h2074.1 a (by omega)).trans (hw.1)
                    refine T_cv (S := S2072) (q := a) xr_79_187 xf_99.1 xf_99.2.1 xn_99 (as := [.int (iI (so cur)), .int (iI (X_vl ct (X_av n cur)))]) (r := []) rfl h2134 (Nat.le_of_ble_eq_true rfl) (Nat.le_of_ble_eq_true rfl) (pc' := 190) rfl (ls' := [(0, .ref a), (1, .int (iI (so cur))), (2, .int (iI (X_vl ct (X_av n cur))))]) rfl ?_
                    have hr2141 : X_wr (X_aS d (so cur) (X_vl ct (X_av n cur))) := X_wr_S hr (by omega)
                    have h2142 := (h2074.1 (a + 1) (by omega)).trans (hw.2.1)
                    have h2143 := (h2074.1 (a + 2) (by omega)).trans (hw.2.2.1)
                    have h2144 := (h2074.1 (a + 3) (by omega)).trans (hw.2.2.2.1)
                    have h2145 := (h2074.1 (a + 4) (by omega)).trans (hw.2.2.2.2.1)
                    have h2146 := (h2074.1 (a + 5) (by omega)).trans (hw.2.2.2.2.2.1)
                    have h2147 := (h2074.1 (a + 6) (by omega)).trans (hw.2.2.2.2.2.2.1)
                    have h2148 := (h2074.1 (a + 7) (by omega)).trans (hw.2.2.2.2.2.2.2)
                    refine T_mono (c_addStep sc S2072 a d q (so cur) (X_vl ct (X_av n cur)) ⟨h2134, h2142, h2143, h2144, h2145, h2146, h2147, h2148⟩ hr (by omega)) (fun v2135 S2136 h2137 => ?_)
                    obtain ⟨h2138, hw2139, hf2140⟩ := h2137
                    rw [h2138]
                    have hw2139 : C_wd S2136 a (X_aS d (so cur) (X_vl ct (X_av n cur))) q := hw2139
                    show X_T sc 79 (190, [(8, .int (iI (bI (X_isOp (so cur) ∧ pile < 2)))), (7, .int (iI (bI (¬ X_isOp (so cur) ∧ pile = 16)))), (6, .int (iI (bI ((so cur) = 64 ∧ (X_vl ct (X_av n cur) < 1 ∨ d 4 0 < X_vl ct (X_av n cur)))))), (5, .int (iI (X_vl ct (X_av n cur)))), (4, .int (iI (so cur))), (3, .int (iI (pl cur))), (0, .ref 496), (1, .ref a), (2, .int (iI pile))], [], S2136) _
                    refine T_p xr_79_190 xn_79 (pc' := 191) (ls' := [(8, .int (iI (bI (X_isOp (so cur) ∧ pile < 2)))), (7, .int (iI (bI (¬ X_isOp (so cur) ∧ pile = 16)))), (6, .int (iI (bI ((so cur) = 64 ∧ (X_vl ct (X_av n cur) < 1 ∨ d 4 0 < X_vl ct (X_av n cur)))))), (5, .int (iI (X_vl ct (X_av n cur)))), (4, .int (iI (so cur))), (3, .int (iI (pl cur))), (0, .ref 496), (1, .ref a), (2, .int (iI pile))]) (st' := [.ref 496]) rfl ?_
                    have h2149 := (hf2140.1 496 (by first | decide | omega)).trans (h2077)
                    refine T_get xr_79_191 h2149 rfl (v := .ref 497) rfl (pc' := 194) rfl ?_
                    have h2150 := (hf2140.1 497 (by first | decide | omega)).trans (h2075)
                    refine T_cv (S := S2136) (q := 497) xr_79_194 xf_52.1 xf_52.2.1 xn_52 (as := []) (r := []) rfl h2150 (Nat.le_of_ble_eq_true rfl) (Nat.le_of_ble_eq_true rfl) (pc' := 197) rfl (ls' := [(0, .ref 497)]) rfl ?_
                    have h2151 := (hf2140.1 498 (by first | decide | omega)).trans (h2078)
                    have h2152 := (hf2140.1 499 (by first | decide | omega)).trans (h2079)
                    have h2153 := (hf2140.1 500 (by first | decide | omega)).trans (h2080)
                    refine T_mono (c_advance sc S2136 at_ n (X_av n cur) so pl ct ⟨h2150, h2151, h2152, h2153⟩ (by omega)) (fun v2155 S2156 h2154 => ?_)
                    obtain ⟨h2157, h2159, h2158⟩ := h2154
                    rw [h2157]
                    show X_T sc 79 (197, [(8, .int (iI (bI (X_isOp (so cur) ∧ pile < 2)))), (7, .int (iI (bI (¬ X_isOp (so cur) ∧ pile = 16)))), (6, .int (iI (bI ((so cur) = 64 ∧ (X_vl ct (X_av n cur) < 1 ∨ d 4 0 < X_vl ct (X_av n cur)))))), (5, .int (iI (X_vl ct (X_av n cur)))), (4, .int (iI (so cur))), (3, .int (iI (pl cur))), (0, .ref 496), (1, .ref a), (2, .int (iI pile))], [], S2156) _
                    have hv2160 := X_av_r (n := n) (c := (X_av n cur)) (by omega)
                    refine T_p xr_79_197 xn_79 (pc' := 199) (ls' := [(8, .int (iI (bI (X_isOp (so cur) ∧ pile < 2)))), (7, .int (iI (bI (¬ X_isOp (so cur) ∧ pile = 16)))), (6, .int (iI (bI ((so cur) = 64 ∧ (X_vl ct (X_av n cur) < 1 ∨ d 4 0 < X_vl ct (X_av n cur)))))), (5, .int (iI (X_vl ct (X_av n cur)))), (4, .int (iI (so cur))), (3, .int (iI (pl cur))), (0, .ref 496), (1, .ref a), (2, .int (iI pile))]) (st' := [.int (iI (so cur))]) rfl ?_
                    refine T_cs xr_79_199 (by decide) xf_81.1 xn_81 (as := [.int (iI (so cur))]) (r := []) rfl (Nat.le_of_ble_eq_true rfl) (Nat.le_of_ble_eq_true rfl) (pc' := 202) rfl (ls' := [(0, .int (iI (so cur)))]) rfl ?_
                    refine T_mono (c_isOperation sc S2156 (so cur) (by omega)) (fun v2162 S2163 h2161 => ?_)
                    obtain ⟨h2164, h2165⟩ := h2161
                    rw [h2164, h2165]
                    show X_T sc 79 (202, [(8, .int (iI (bI (X_isOp (so cur) ∧ pile < 2)))), (7, .int (iI (bI (¬ X_isOp (so cur) ∧ pile = 16)))), (6, .int (iI (bI ((so cur) = 64 ∧ (X_vl ct (X_av n cur) < 1 ∨ d 4 0 < X_vl ct (X_av n cur)))))), (5, .int (iI (X_vl ct (X_av n cur)))), (4, .int (iI (so cur))), (3, .int (iI (pl cur))), (0, .ref 496), (1, .ref a), (2, .int (iI pile))], [.int (iI (bI (X_isOp (so cur))))], S2156) _
                    refine T_bif_eq xr_79_202 (t := 211) (pc' := 205) rfl rfl (fun c2166 => ?_) (fun c2166 => ?_)
                    · skip
                      have c2166 : ¬ (X_isOp (so cur)) := c2166
                      refine T_p xr_79_211 xn_79 (pc' := 212) (ls' := [(8, .int (iI (bI (X_isOp (so cur) ∧ pile < 2)))), (7, .int (iI (bI (¬ X_isOp (so cur) ∧ pile = 16)))), (6, .int (iI (bI ((so cur) = 64 ∧ (X_vl ct (X_av n cur) < 1 ∨ d 4 0 < X_vl ct (X_av n cur)))))), (5, .int (iI (X_vl ct (X_av n cur)))), (4, .int (iI (so cur))), (3, .int (iI (pl cur))), (0, .ref 496), (1, .ref a), (2, .int (iI pile))]) (st' := [.int (iI pile)]) rfl ?_
                      refine T_p xr_79_212 xn_79 (pc' := 213) (ls' := [(8, .int (iI (bI (X_isOp (so cur) ∧ pile < 2)))), (7, .int (iI (bI (¬ X_isOp (so cur) ∧ pile = 16)))), (6, .int (iI (bI ((so cur) = 64 ∧ (X_vl ct (X_av n cur) < 1 ∨ d 4 0 < X_vl ct (X_av n cur)))))), (5, .int (iI (X_vl ct (X_av n cur)))), (4, .int (iI (so cur))), (3, .int (iI (pl cur))), (0, .ref 496), (1, .ref a), (2, .int (iI pile))]) (st' := [.int (iI 1), .int (iI pile)]) rfl ?_
                      refine T_ziadd xr_79_213 (z := pile + 1) rfl (pc' := 214) rfl ?_
                      refine T_iret xr_79_214 xf_79.2.2 rfl ?_
                      refine hQ _ _ ?_
                      have h2167 := (h2158.1 496 (by first | decide | omega)).trans (h2149)
                      have h2168 := (h2158.1 a (by omega)).trans (hw2139.1)
                      have h2169 := (h2158.1 (a + 1) (by omega)).trans (hw2139.2.1)
                      have h2170 := (h2158.1 (a + 2) (by omega)).trans (hw2139.2.2.1)
                      have h2171 := (h2158.1 (a + 3) (by omega)).trans (hw2139.2.2.2.1)
                      have h2172 := (h2158.1 (a + 4) (by omega)).trans (hw2139.2.2.2.2.1)
                      have h2173 := (h2158.1 (a + 5) (by omega)).trans (hw2139.2.2.2.2.2.1)
                      have h2174 := (h2158.1 (a + 6) (by omega)).trans (hw2139.2.2.2.2.2.2.1)
                      have h2175 := (h2158.1 (a + 7) (by omega)).trans (hw2139.2.2.2.2.2.2.2)
                      refine Or.inl ⟨X_av n (X_av n cur), X_aS d (so cur) (X_vl ct (X_av n cur)), pile + 1, rfl, ?_, h2167, h2159, by omega, ⟨h2168, h2169, h2170, h2171, h2172, h2173, h2174, h2175⟩, hr2141, (((X_Fr.rf).tr (X_Fr.mono ⟨h2074.1, h2074.2⟩ (fun q hq => (by omega)))).tr (X_Fr.mono ⟨hf2140.1, hf2140.2⟩ (fun q hq => (by omega)))).tr (X_Fr.mono ⟨h2158.1, h2158.2⟩ (fun q hq => (by omega)))⟩
                      unfold sp_step sp_stF
                      (repeat (first | rw [if_pos (by assumption)] | rw [if_neg (by assumption)]))
                      all_goals first | rfl | ((repeat' split) <;> first | rfl | (exfalso; omega))
                    · skip
                      have c2166 : (X_isOp (so cur)) := c2166
                      exact (show False by first | contradiction | omega).elim
                  · skip
                    have c2133 : (X_isOp (so cur) ∧ pile < 2) := c2133
                    refine T_p xr_79_174 xn_79 (pc' := 175) (ls' := [(8, .int (iI (bI (X_isOp (so cur) ∧ pile < 2)))), (7, .int (iI (bI (¬ X_isOp (so cur) ∧ pile = 16)))), (6, .int (iI (bI ((so cur) = 64 ∧ (X_vl ct (X_av n cur) < 1 ∨ d 4 0 < X_vl ct (X_av n cur)))))), (5, .int (iI (X_vl ct (X_av n cur)))), (4, .int (iI (so cur))), (3, .int (iI (pl cur))), (0, .ref 496), (1, .ref a), (2, .int (iI pile))]) (st' := [.ref 496]) rfl ?_
                    refine T_p xr_79_175 xn_79 (pc' := 176) (ls' := [(8, .int (iI (bI (X_isOp (so cur) ∧ pile < 2)))), (7, .int (iI (bI (¬ X_isOp (so cur) ∧ pile = 16)))), (6, .int (iI (bI ((so cur) = 64 ∧ (X_vl ct (X_av n cur) < 1 ∨ d 4 0 < X_vl ct (X_av n cur)))))), (5, .int (iI (X_vl ct (X_av n cur)))), (4, .int (iI (so cur))), (3, .int (iI (pl cur))), (0, .ref 496), (1, .ref a), (2, .int (iI pile))]) (st' := [.int (iI 5), .ref 496]) rfl ?_
                    refine T_p xr_79_176 xn_79 (pc' := 177) (ls' := [(8, .int (iI (bI (X_isOp (so cur) ∧ pile < 2)))), (7, .int (iI (bI (¬ X_isOp (so cur) ∧ pile = 16)))), (6, .int (iI (bI ((so cur) = 64 ∧ (X_vl ct (X_av n cur) < 1 ∨ d 4 0 < X_vl ct (X_av n cur)))))), (5, .int (iI (X_vl ct (X_av n cur)))), (4, .int (iI (so cur))), (3, .int (iI (pl cur))), (0, .ref 496), (1, .ref a), (2, .int (iI pile))]) (st' := [.int (iI (pl cur)), .int (iI 5), .ref 496]) rfl ?_
                    refine T_cv (S := S2072) (q := 496) xr_79_177 xf_66.1 xf_66.2.1 xn_66 (as := [.int (iI 5), .int (iI (pl cur))]) (r := []) rfl h2077 (Nat.le_of_ble_eq_true rfl) (Nat.le_of_ble_eq_true rfl) (pc' := 180) rfl (ls' := [(0, .ref 496), (1, .int (iI 5)), (2, .int (iI (pl cur)))]) rfl ?_
                    refine T_p xr_66_0 xn_66 (pc' := 1) (ls' := [(0, .ref 496), (1, .int (iI 5)), (2, .int (iI (pl cur)))]) (st' := [.ref 496]) rfl ?_
                    refine T_p xr_66_1 xn_66 (pc' := 2) (ls' := [(0, .ref 496), (1, .int (iI 5)), (2, .int (iI (pl cur)))]) (st' := [.int (iI 5), .ref 496]) rfl ?_
                    refine T_put xr_66_2 h2077 rfl (Nat.le_of_ble_eq_true rfl) rfl (fs' := [.ref 497, .ref B, .int (iI 5), .int (iI fp)]) rfl (pc' := 5) rfl (fun S2176 h2177 n2178 e2179 => ?_)
                    refine T_p xr_66_5 xn_66 (pc' := 6) (ls' := [(0, .ref 496), (1, .int (iI 5)), (2, .int (iI (pl cur)))]) (st' := [.ref 496]) rfl ?_
                    refine T_p xr_66_6 xn_66 (pc' := 7) (ls' := [(0, .ref 496), (1, .int (iI 5)), (2, .int (iI (pl cur)))]) (st' := [.int (iI (pl cur)), .ref 496]) rfl ?_
                    refine T_put xr_66_7 h2177 rfl (Nat.le_of_ble_eq_true rfl) rfl (fs' := [.ref 497, .ref B, .int (iI 5), .int (iI (pl cur))]) rfl (pc' := 10) rfl (fun S2180 h2181 n2182 e2183 => ?_)
                    refine T_vret xr_66_10 xf_66.2.2 ?_
                    show X_T sc 79 (180, [(8, .int (iI (bI (X_isOp (so cur) ∧ pile < 2)))), (7, .int (iI (bI (¬ X_isOp (so cur) ∧ pile = 16)))), (6, .int (iI (bI ((so cur) = 64 ∧ (X_vl ct (X_av n cur) < 1 ∨ d 4 0 < X_vl ct (X_av n cur)))))), (5, .int (iI (X_vl ct (X_av n cur)))), (4, .int (iI (so cur))), (3, .int (iI (pl cur))), (0, .ref 496), (1, .ref a), (2, .int (iI pile))], [], S2180) _
                    refine T_p xr_79_180 xn_79 (pc' := 181) (ls' := [(8, .int (iI (bI (X_isOp (so cur) ∧ pile < 2)))), (7, .int (iI (bI (¬ X_isOp (so cur) ∧ pile = 16)))), (6, .int (iI (bI ((so cur) = 64 ∧ (X_vl ct (X_av n cur) < 1 ∨ d 4 0 < X_vl ct (X_av n cur)))))), (5, .int (iI (X_vl ct (X_av n cur)))), (4, .int (iI (so cur))), (3, .int (iI (pl cur))), (0, .ref 496), (1, .ref a), (2, .int (iI pile))]) (st' := [.int (iI (-1))]) rfl ?_
                    refine T_iret xr_79_181 xf_79.2.2 rfl ?_
                    refine hQ _ _ ?_
                    have h2184 := (n2182 497 (by decide)).trans ((n2178 497 (by decide)).trans (h2075))
                    have h2185 := (n2182 a (by omega)).trans ((n2178 a (by omega)).trans ((h2074.1 a (by omega)).trans (hw.1)))
                    have h2186 := (n2182 (a + 1) (by first | exact (fun h => absurd (Nat.add_left_cancel h) (by decide)) | omega)).trans ((n2178 (a + 1) (by first | exact (fun h => absurd (Nat.add_left_cancel h) (by decide)) | omega)).trans ((h2074.1 (a + 1) (by omega)).trans (hw.2.1)))
                    have h2187 := (n2182 (a + 2) (by first | exact (fun h => absurd (Nat.add_left_cancel h) (by decide)) | omega)).trans ((n2178 (a + 2) (by first | exact (fun h => absurd (Nat.add_left_cancel h) (by decide)) | omega)).trans ((h2074.1 (a + 2) (by omega)).trans (hw.2.2.1)))
                    have h2188 := (n2182 (a + 3) (by first | exact (fun h => absurd (Nat.add_left_cancel h) (by decide)) | omega)).trans ((n2178 (a + 3) (by first | exact (fun h => absurd (Nat.add_left_cancel h) (by decide)) | omega)).trans ((h2074.1 (a + 3) (by omega)).trans (hw.2.2.2.1)))
                    have h2189 := (n2182 (a + 4) (by first | exact (fun h => absurd (Nat.add_left_cancel h) (by decide)) | omega)).trans ((n2178 (a + 4) (by first | exact (fun h => absurd (Nat.add_left_cancel h) (by decide)) | omega)).trans ((h2074.1 (a + 4) (by omega)).trans (hw.2.2.2.2.1)))
                    have h2190 := (n2182 (a + 5) (by first | exact (fun h => absurd (Nat.add_left_cancel h) (by decide)) | omega)).trans ((n2178 (a + 5) (by first | exact (fun h => absurd (Nat.add_left_cancel h) (by decide)) | omega)).trans ((h2074.1 (a + 5) (by omega)).trans (hw.2.2.2.2.2.1)))
                    have h2191 := (n2182 (a + 6) (by first | exact (fun h => absurd (Nat.add_left_cancel h) (by decide)) | omega)).trans ((n2178 (a + 6) (by first | exact (fun h => absurd (Nat.add_left_cancel h) (by decide)) | omega)).trans ((h2074.1 (a + 6) (by omega)).trans (hw.2.2.2.2.2.2.1)))
                    have h2192 := (n2182 (a + 7) (by first | exact (fun h => absurd (Nat.add_left_cancel h) (by decide)) | omega)).trans ((n2178 (a + 7) (by first | exact (fun h => absurd (Nat.add_left_cancel h) (by decide)) | omega)).trans ((h2074.1 (a + 7) (by omega)).trans (hw.2.2.2.2.2.2.2)))
                    refine Or.inr ⟨rfl, ?_, ⟨_, _, by omega, h2181⟩, ⟨X_av n cur, h2184, by omega⟩, ⟨h2185, h2186, h2187, h2188, h2189, h2190, h2191, h2192⟩, (((X_Fr.rf).tr (X_Fr.mono ⟨h2074.1, h2074.2⟩ (fun q hq => (by omega)))).tr (X_Fr.of n2178 e2179 (by first | decide | exact ⟨Nat.le_add_right _ _, Nat.add_le_add_left (by decide) _⟩ | omega))).tr (X_Fr.of n2182 e2183 (by first | decide | exact ⟨Nat.le_add_right _ _, Nat.add_le_add_left (by decide) _⟩ | omega))⟩
                    unfold sp_step sp_stF
                    (repeat (first | rw [if_pos (by assumption)] | rw [if_neg (by assumption)]))
                    all_goals first | rfl | ((repeat' split) <;> first | rfl | (exfalso; omega))
            refine T_p xr_79_139 xn_79 (pc' := 141) (ls' := [(7, .int (iI (bI (¬ X_isOp (so cur) ∧ pile = 16)))), (6, .int (iI (bI ((so cur) = 64 ∧ (X_vl ct (X_av n cur) < 1 ∨ d 4 0 < X_vl ct (X_av n cur)))))), (5, .int (iI (X_vl ct (X_av n cur)))), (4, .int (iI (so cur))), (3, .int (iI (pl cur))), (0, .ref 496), (1, .ref a), (2, .int (iI pile))]) (st' := [.int (iI (so cur))]) rfl ?_
            refine T_cs xr_79_141 (by decide) xf_81.1 xn_81 (as := [.int (iI (so cur))]) (r := []) rfl (Nat.le_of_ble_eq_true rfl) (Nat.le_of_ble_eq_true rfl) (pc' := 144) rfl (ls' := [(0, .int (iI (so cur)))]) rfl ?_
            refine T_mono (c_isOperation sc S2072 (so cur) (by omega)) (fun v2194 S2195 h2193 => ?_)
            obtain ⟨h2196, h2197⟩ := h2193
            rw [h2196, h2197]
            show X_T sc 79 (144, [(7, .int (iI (bI (¬ X_isOp (so cur) ∧ pile = 16)))), (6, .int (iI (bI ((so cur) = 64 ∧ (X_vl ct (X_av n cur) < 1 ∨ d 4 0 < X_vl ct (X_av n cur)))))), (5, .int (iI (X_vl ct (X_av n cur)))), (4, .int (iI (so cur))), (3, .int (iI (pl cur))), (0, .ref 496), (1, .ref a), (2, .int (iI pile))], [.int (iI (bI (X_isOp (so cur))))], S2072) _
            refine T_bif_eq xr_79_144 (t := 156) (pc' := 147) rfl rfl (fun c2198 => ?_) (fun c2198 => ?_)
            · skip
              have c2198 : ¬ (X_isOp (so cur)) := c2198
              refine T_p xr_79_156 xn_79 (pc' := 157) (ls' := [(7, .int (iI (bI (¬ X_isOp (so cur) ∧ pile = 16)))), (6, .int (iI (bI ((so cur) = 64 ∧ (X_vl ct (X_av n cur) < 1 ∨ d 4 0 < X_vl ct (X_av n cur)))))), (5, .int (iI (X_vl ct (X_av n cur)))), (4, .int (iI (so cur))), (3, .int (iI (pl cur))), (0, .ref 496), (1, .ref a), (2, .int (iI pile))]) (st' := [.int (iI 0)]) rfl ?_
              refine T_ie (y := iI (bI (X_isOp (so cur) ∧ pile < 2))) (by rw [bI_f (by rintro ⟨h1, h2⟩; first | omega | contradiction)]) ?_
              exact J2096
            · skip
              have c2198 : (X_isOp (so cur)) := c2198
              exact (show False by first | contradiction | omega).elim
          refine T_p xr_79_118 xn_79 (pc' := 120) (ls' := [(6, .int (iI (bI ((so cur) = 64 ∧ (X_vl ct (X_av n cur) < 1 ∨ d 4 0 < X_vl ct (X_av n cur)))))), (5, .int (iI (X_vl ct (X_av n cur)))), (4, .int (iI (so cur))), (3, .int (iI (pl cur))), (0, .ref 496), (1, .ref a), (2, .int (iI pile))]) (st' := [.int (iI (so cur))]) rfl ?_
          refine T_cs xr_79_120 (by decide) xf_81.1 xn_81 (as := [.int (iI (so cur))]) (r := []) rfl (Nat.le_of_ble_eq_true rfl) (Nat.le_of_ble_eq_true rfl) (pc' := 123) rfl (ls' := [(0, .int (iI (so cur)))]) rfl ?_
          refine T_mono (c_isOperation sc S2072 (so cur) (by omega)) (fun v2200 S2201 h2199 => ?_)
          obtain ⟨h2202, h2203⟩ := h2199
          rw [h2202, h2203]
          show X_T sc 79 (123, [(6, .int (iI (bI ((so cur) = 64 ∧ (X_vl ct (X_av n cur) < 1 ∨ d 4 0 < X_vl ct (X_av n cur)))))), (5, .int (iI (X_vl ct (X_av n cur)))), (4, .int (iI (so cur))), (3, .int (iI (pl cur))), (0, .ref 496), (1, .ref a), (2, .int (iI pile))], [.int (iI (bI (X_isOp (so cur))))], S2072) _
          refine T_bif_ne xr_79_123 (t := 136) (pc' := 126) rfl rfl (fun c2204 => ?_) (fun c2204 => ?_)
          · skip
            have c2204 : (X_isOp (so cur)) := c2204
            exact (show False by first | contradiction | omega).elim
          · skip
            have c2204 : ¬ (X_isOp (so cur)) := c2204
            refine T_p xr_79_126 xn_79 (pc' := 127) (ls' := [(6, .int (iI (bI ((so cur) = 64 ∧ (X_vl ct (X_av n cur) < 1 ∨ d 4 0 < X_vl ct (X_av n cur)))))), (5, .int (iI (X_vl ct (X_av n cur)))), (4, .int (iI (so cur))), (3, .int (iI (pl cur))), (0, .ref 496), (1, .ref a), (2, .int (iI pile))]) (st' := [.int (iI pile)]) rfl ?_
            refine T_p xr_79_127 xn_79 (pc' := 129) (ls' := [(6, .int (iI (bI ((so cur) = 64 ∧ (X_vl ct (X_av n cur) < 1 ∨ d 4 0 < X_vl ct (X_av n cur)))))), (5, .int (iI (X_vl ct (X_av n cur)))), (4, .int (iI (so cur))), (3, .int (iI (pl cur))), (0, .ref 496), (1, .ref a), (2, .int (iI pile))]) (st' := [.int (iI 16), .int (iI pile)]) rfl ?_
            refine T_zicmp_ne xr_79_129 (t := 136) (pc' := 132) rfl rfl (fun c2205 => ?_) (fun c2205 => ?_)
            · skip
              have c2205 : ¬ pile = 16 := c2205
              refine T_p xr_79_136 xn_79 (pc' := 137) (ls' := [(6, .int (iI (bI ((so cur) = 64 ∧ (X_vl ct (X_av n cur) < 1 ∨ d 4 0 < X_vl ct (X_av n cur)))))), (5, .int (iI (X_vl ct (X_av n cur)))), (4, .int (iI (so cur))), (3, .int (iI (pl cur))), (0, .ref 496), (1, .ref a), (2, .int (iI pile))]) (st' := [.int (iI 0)]) rfl ?_
              refine T_ie (y := iI (bI (¬ X_isOp (so cur) ∧ pile = 16))) (by rw [bI_f (by rintro ⟨h1, h2⟩; first | omega | contradiction)]) ?_
              exact J2095
            · skip
              have c2205 : ¬ (¬ pile = 16) := c2205
              refine T_p xr_79_132 xn_79 (pc' := 133) (ls' := [(6, .int (iI (bI ((so cur) = 64 ∧ (X_vl ct (X_av n cur) < 1 ∨ d 4 0 < X_vl ct (X_av n cur)))))), (5, .int (iI (X_vl ct (X_av n cur)))), (4, .int (iI (so cur))), (3, .int (iI (pl cur))), (0, .ref 496), (1, .ref a), (2, .int (iI pile))]) (st' := [.int (iI 1)]) rfl ?_
              refine T_p xr_79_133 xn_79 (pc' := 137) (ls' := [(6, .int (iI (bI ((so cur) = 64 ∧ (X_vl ct (X_av n cur) < 1 ∨ d 4 0 < X_vl ct (X_av n cur)))))), (5, .int (iI (X_vl ct (X_av n cur)))), (4, .int (iI (so cur))), (3, .int (iI (pl cur))), (0, .ref 496), (1, .ref a), (2, .int (iI pile))]) (st' := [.int (iI 1)]) rfl ?_
              refine T_ie (y := iI (bI (¬ X_isOp (so cur) ∧ pile = 16))) (by rw [bI_t (by exact ⟨by assumption, by omega⟩)]) ?_
              exact J2095
        refine T_p xr_79_89 xn_79 (pc' := 91) (ls' := [(5, .int (iI (X_vl ct (X_av n cur)))), (4, .int (iI (so cur))), (3, .int (iI (pl cur))), (0, .ref 496), (1, .ref a), (2, .int (iI pile))]) (st' := [.int (iI (so cur))]) rfl ?_
        refine T_p xr_79_91 xn_79 (pc' := 93) (ls' := [(5, .int (iI (X_vl ct (X_av n cur)))), (4, .int (iI (so cur))), (3, .int (iI (pl cur))), (0, .ref 496), (1, .ref a), (2, .int (iI pile))]) (st' := [.int (iI 64), .int (iI (so cur))]) rfl ?_
        refine T_zicmp_ne xr_79_93 (t := 115) (pc' := 96) rfl rfl (fun c2206 => ?_) (fun c2206 => ?_)
        · skip
          have c2206 : ¬ (so cur) = 64 := c2206
          exact (show False by first | contradiction | omega).elim
        · skip
          have c2206 : ¬ (¬ (so cur) = 64) := c2206
          refine T_p xr_79_96 xn_79 (pc' := 98) (ls' := [(5, .int (iI (X_vl ct (X_av n cur)))), (4, .int (iI (so cur))), (3, .int (iI (pl cur))), (0, .ref 496), (1, .ref a), (2, .int (iI pile))]) (st' := [.int (iI (X_vl ct (X_av n cur)))]) rfl ?_
          refine T_p xr_79_98 xn_79 (pc' := 99) (ls' := [(5, .int (iI (X_vl ct (X_av n cur)))), (4, .int (iI (so cur))), (3, .int (iI (pl cur))), (0, .ref 496), (1, .ref a), (2, .int (iI pile))]) (st' := [.int (iI 1), .int (iI (X_vl ct (X_av n cur)))]) rfl ?_
          refine T_zicmp_lt xr_79_99 (t := 111) (pc' := 102) rfl rfl (fun c2207 => ?_) (fun c2207 => ?_)
          · skip
            have c2207 : (X_vl ct (X_av n cur)) < 1 := c2207
            refine T_p xr_79_111 xn_79 (pc' := 112) (ls' := [(5, .int (iI (X_vl ct (X_av n cur)))), (4, .int (iI (so cur))), (3, .int (iI (pl cur))), (0, .ref 496), (1, .ref a), (2, .int (iI pile))]) (st' := [.int (iI 1)]) rfl ?_
            refine T_p xr_79_112 xn_79 (pc' := 116) (ls' := [(5, .int (iI (X_vl ct (X_av n cur)))), (4, .int (iI (so cur))), (3, .int (iI (pl cur))), (0, .ref 496), (1, .ref a), (2, .int (iI pile))]) (st' := [.int (iI 1)]) rfl ?_
            refine T_ie (y := iI (bI ((so cur) = 64 ∧ (X_vl ct (X_av n cur) < 1 ∨ d 4 0 < X_vl ct (X_av n cur))))) (by rw [bI_t (by exact ⟨by omega, by omega⟩)]) ?_
            exact J2094
          · skip
            have c2207 : ¬ ((X_vl ct (X_av n cur)) < 1) := c2207
            refine T_p xr_79_102 xn_79 (pc' := 104) (ls' := [(5, .int (iI (X_vl ct (X_av n cur)))), (4, .int (iI (so cur))), (3, .int (iI (pl cur))), (0, .ref 496), (1, .ref a), (2, .int (iI pile))]) (st' := [.int (iI (X_vl ct (X_av n cur)))]) rfl ?_
            refine T_p xr_79_104 xn_79 (pc' := 105) (ls' := [(5, .int (iI (X_vl ct (X_av n cur)))), (4, .int (iI (so cur))), (3, .int (iI (pl cur))), (0, .ref 496), (1, .ref a), (2, .int (iI pile))]) (st' := [.ref a, .int (iI (X_vl ct (X_av n cur)))]) rfl ?_
            have h2208 := (h2074.1 a (by omega)).trans (hw.1)
            refine T_get xr_79_105 h2208 rfl (v := .int (iI (d 4 0))) rfl (pc' := 108) rfl ?_
            refine T_zicmp_le xr_79_108 (t := 115) (pc' := 111) rfl rfl (fun c2209 => ?_) (fun c2209 => ?_)
            · skip
              have c2209 : (X_vl ct (X_av n cur)) ≤ (d 4 0) := c2209
              refine T_p xr_79_115 xn_79 (pc' := 116) (ls' := [(5, .int (iI (X_vl ct (X_av n cur)))), (4, .int (iI (so cur))), (3, .int (iI (pl cur))), (0, .ref 496), (1, .ref a), (2, .int (iI pile))]) (st' := [.int (iI 0)]) rfl ?_
              refine T_ie (y := iI (bI ((so cur) = 64 ∧ (X_vl ct (X_av n cur) < 1 ∨ d 4 0 < X_vl ct (X_av n cur))))) (by rw [bI_f (by rintro ⟨h1, h2⟩; omega)]) ?_
              exact J2094
            · skip
              have c2209 : ¬ ((X_vl ct (X_av n cur)) ≤ (d 4 0)) := c2209
              refine T_p xr_79_111 xn_79 (pc' := 112) (ls' := [(5, .int (iI (X_vl ct (X_av n cur)))), (4, .int (iI (so cur))), (3, .int (iI (pl cur))), (0, .ref 496), (1, .ref a), (2, .int (iI pile))]) (st' := [.int (iI 1)]) rfl ?_
              refine T_p xr_79_112 xn_79 (pc' := 116) (ls' := [(5, .int (iI (X_vl ct (X_av n cur)))), (4, .int (iI (so cur))), (3, .int (iI (pl cur))), (0, .ref 496), (1, .ref a), (2, .int (iI pile))]) (st' := [.int (iI 1)]) rfl ?_
              refine T_ie (y := iI (bI ((so cur) = 64 ∧ (X_vl ct (X_av n cur) < 1 ∨ d 4 0 < X_vl ct (X_av n cur))))) (by rw [bI_t (by exact ⟨by omega, by omega⟩)]) ?_
              exact J2094
      · skip
        have c2087 : ¬ ((so (X_av n cur)) = 5) := c2087
        refine T_p xr_79_53 xn_79 (pc' := 54) (ls' := [(4, .int (iI (so cur))), (3, .int (iI (pl cur))), (0, .ref 496), (1, .ref a), (2, .int (iI pile))]) (st' := [.ref 496]) rfl ?_
        refine T_cv (S := S2072) (q := 496) xr_79_54 xf_67.1 xf_67.2.1 xn_67 (as := []) (r := []) rfl h2077 (Nat.le_of_ble_eq_true rfl) (Nat.le_of_ble_eq_true rfl) (pc' := 57) rfl (ls' := [(0, .ref 496)]) rfl ?_
        refine T_mono (c_refuse sc S2072 B fl fp at_ n (X_av n cur) so pl ct h2077 ⟨h2075, h2078, h2079, h2080⟩ (by omega) hso) (fun v2210 S2211 h2212 => ?_)
        obtain ⟨h2213, ⟨fl2214, fp2215, hn2216, hp2217⟩, hf2218⟩ := h2212
        rw [h2213]
        show X_T sc 79 (57, [(4, .int (iI (so cur))), (3, .int (iI (pl cur))), (0, .ref 496), (1, .ref a), (2, .int (iI pile))], [], S2211) _
        refine T_p xr_79_57 xn_79 (pc' := 58) (ls' := [(4, .int (iI (so cur))), (3, .int (iI (pl cur))), (0, .ref 496), (1, .ref a), (2, .int (iI pile))]) (st' := [.int (iI (-1))]) rfl ?_
        refine T_iret xr_79_58 xf_79.2.2 rfl ?_
        refine hQ _ _ ?_
        have h2219 := (hf2218.1 497 (by first | decide | omega)).trans (h2075)
        have h2220 := (hf2218.1 a (by omega)).trans ((h2074.1 a (by omega)).trans (hw.1))
        have h2221 := (hf2218.1 (a + 1) (by omega)).trans ((h2074.1 (a + 1) (by omega)).trans (hw.2.1))
        have h2222 := (hf2218.1 (a + 2) (by omega)).trans ((h2074.1 (a + 2) (by omega)).trans (hw.2.2.1))
        have h2223 := (hf2218.1 (a + 3) (by omega)).trans ((h2074.1 (a + 3) (by omega)).trans (hw.2.2.2.1))
        have h2224 := (hf2218.1 (a + 4) (by omega)).trans ((h2074.1 (a + 4) (by omega)).trans (hw.2.2.2.2.1))
        have h2225 := (hf2218.1 (a + 5) (by omega)).trans ((h2074.1 (a + 5) (by omega)).trans (hw.2.2.2.2.2.1))
        have h2226 := (hf2218.1 (a + 6) (by omega)).trans ((h2074.1 (a + 6) (by omega)).trans (hw.2.2.2.2.2.2.1))
        have h2227 := (hf2218.1 (a + 7) (by omega)).trans ((h2074.1 (a + 7) (by omega)).trans (hw.2.2.2.2.2.2.2))
        refine Or.inr ⟨rfl, ?_, ⟨_, _, by omega, hp2217⟩, ⟨X_av n cur, h2219, by omega⟩, ⟨h2220, h2221, h2222, h2223, h2224, h2225, h2226, h2227⟩, ((X_Fr.rf).tr (X_Fr.mono ⟨h2074.1, h2074.2⟩ (fun q hq => (by omega)))).tr (X_Fr.mono ⟨hf2218.1, hf2218.2⟩ (fun q hq => (by omega)))⟩
        unfold sp_step sp_stF
        (repeat (first | rw [if_pos (by assumption)] | rw [if_neg (by assumption)]))
        all_goals first | rfl | ((repeat' split) <;> first | rfl | (exfalso; omega))
  · skip
    have c1804 : (so cur = 4 ∨ so cur = 5) := c1804
    refine T_p xr_79_15 xn_79 (pc' := 16) (ls' := [(3, .int (iI (pl cur))), (0, .ref 496), (1, .ref a), (2, .int (iI pile))]) (st' := [.int (iI 4)]) rfl ?_
    refine T_p xr_79_16 xn_79 (pc' := 26) (ls' := [(3, .int (iI (pl cur))), (0, .ref 496), (1, .ref a), (2, .int (iI pile))]) (st' := [.int (iI 4)]) rfl ?_
    refine T_p xr_79_26 xn_79 (pc' := 28) (ls' := [(4, .int (iI 4)), (3, .int (iI (pl cur))), (0, .ref 496), (1, .ref a), (2, .int (iI pile))]) (st' := []) rfl ?_
    refine T_p xr_79_28 xn_79 (pc' := 30) (ls' := [(4, .int (iI 4)), (3, .int (iI (pl cur))), (0, .ref 496), (1, .ref a), (2, .int (iI pile))]) (st' := [.int (iI 4)]) rfl ?_
    refine T_p xr_79_30 xn_79 (pc' := 32) (ls' := [(4, .int (iI 4)), (3, .int (iI (pl cur))), (0, .ref 496), (1, .ref a), (2, .int (iI pile))]) (st' := [.int (iI 64), .int (iI 4)]) rfl ?_
    refine T_zicmp_net xr_79_32 (t := 59) rfl (by decide) ?_
    refine T_p xr_79_59 xn_79 (pc' := 61) (ls' := [(4, .int (iI 4)), (3, .int (iI (pl cur))), (0, .ref 496), (1, .ref a), (2, .int (iI pile))]) (st' := [.int (iI 4)]) rfl ?_
    refine T_p xr_79_61 xn_79 (pc' := 62) (ls' := [(4, .int (iI 4)), (3, .int (iI (pl cur))), (0, .ref 496), (1, .ref a), (2, .int (iI pile))]) (st' := [.int (iI 4), .int (iI 4)]) rfl ?_
    refine T_zicmp_eqt xr_79_62 (t := 79) rfl (by decide) ?_
    refine T_p xr_79_79 xn_79 (pc' := 80) (ls' := [(4, .int (iI 4)), (3, .int (iI (pl cur))), (0, .ref 496), (1, .ref a), (2, .int (iI pile))]) (st' := [.ref 496]) rfl ?_
    refine T_get xr_79_80 hp rfl (v := .ref 497) rfl (pc' := 83) rfl ?_
    refine T_cv (S := S) (q := 497) xr_79_83 xf_50.1 xf_50.2.1 xn_50 (as := []) (r := []) rfl hx.1 (Nat.le_of_ble_eq_true rfl) (Nat.le_of_ble_eq_true rfl) (pc' := 86) rfl (ls' := [(0, .ref 497)]) rfl ?_
    refine T_mono (c_content sc S at_ n cur so pl ct ⟨hx.1, hx.2.1, hx.2.2.1, hx.2.2.2⟩ (by omega)) (fun v2229 S2230 h2228 => ?_)
    obtain ⟨h2231, h2232⟩ := h2228
    rw [h2231, h2232]
    show X_T sc 79 (86, [(4, .int (iI 4)), (3, .int (iI (pl cur))), (0, .ref 496), (1, .ref a), (2, .int (iI pile))], [.long (ct cur)], S) _
    refine T_zop xr_79_86 (pc' := 87) rfl (z := ((ct cur : Int64).toInt32).toInt) (iI_of _) ?_
    refine T_ie (y := iI (X_vl ct cur)) rfl ?_
    have hv2233 := X_vl_r ct cur
    refine T_p xr_79_87 xn_79 (pc' := 89) (ls' := [(5, .int (iI (X_vl ct cur))), (4, .int (iI 4)), (3, .int (iI (pl cur))), (0, .ref 496), (1, .ref a), (2, .int (iI pile))]) (st' := []) rfl ?_
    have J2234 : X_T sc 79 (116, [(5, .int (iI (X_vl ct cur))), (4, .int (iI 4)), (3, .int (iI (pl cur))), (0, .ref 496), (1, .ref a), (2, .int (iI pile))], [.int (iI (bI (4 = 64 ∧ (X_vl ct cur < 1 ∨ d 4 0 < X_vl ct cur))))], S) Q := by
      refine T_p xr_79_116 xn_79 (pc' := 118) (ls' := [(6, .int (iI (bI (4 = 64 ∧ (X_vl ct cur < 1 ∨ d 4 0 < X_vl ct cur))))), (5, .int (iI (X_vl ct cur))), (4, .int (iI 4)), (3, .int (iI (pl cur))), (0, .ref 496), (1, .ref a), (2, .int (iI pile))]) (st' := []) rfl ?_
      have J2235 : X_T sc 79 (137, [(6, .int (iI (bI (4 = 64 ∧ (X_vl ct cur < 1 ∨ d 4 0 < X_vl ct cur))))), (5, .int (iI (X_vl ct cur))), (4, .int (iI 4)), (3, .int (iI (pl cur))), (0, .ref 496), (1, .ref a), (2, .int (iI pile))], [.int (iI (bI (¬ X_isOp 4 ∧ pile = 16)))], S) Q := by
        refine T_p xr_79_137 xn_79 (pc' := 139) (ls' := [(7, .int (iI (bI (¬ X_isOp 4 ∧ pile = 16)))), (6, .int (iI (bI (4 = 64 ∧ (X_vl ct cur < 1 ∨ d 4 0 < X_vl ct cur))))), (5, .int (iI (X_vl ct cur))), (4, .int (iI 4)), (3, .int (iI (pl cur))), (0, .ref 496), (1, .ref a), (2, .int (iI pile))]) (st' := []) rfl ?_
        have J2236 : X_T sc 79 (157, [(7, .int (iI (bI (¬ X_isOp 4 ∧ pile = 16)))), (6, .int (iI (bI (4 = 64 ∧ (X_vl ct cur < 1 ∨ d 4 0 < X_vl ct cur))))), (5, .int (iI (X_vl ct cur))), (4, .int (iI 4)), (3, .int (iI (pl cur))), (0, .ref 496), (1, .ref a), (2, .int (iI pile))], [.int (iI (bI (X_isOp 4 ∧ pile < 2)))], S) Q := by
          refine T_p xr_79_157 xn_79 (pc' := 159) (ls' := [(8, .int (iI (bI (X_isOp 4 ∧ pile < 2)))), (7, .int (iI (bI (¬ X_isOp 4 ∧ pile = 16)))), (6, .int (iI (bI (4 = 64 ∧ (X_vl ct cur < 1 ∨ d 4 0 < X_vl ct cur))))), (5, .int (iI (X_vl ct cur))), (4, .int (iI 4)), (3, .int (iI (pl cur))), (0, .ref 496), (1, .ref a), (2, .int (iI pile))]) (st' := []) rfl ?_
          refine T_p xr_79_159 xn_79 (pc' := 161) (ls' := [(8, .int (iI (bI (X_isOp 4 ∧ pile < 2)))), (7, .int (iI (bI (¬ X_isOp 4 ∧ pile = 16)))), (6, .int (iI (bI (4 = 64 ∧ (X_vl ct cur < 1 ∨ d 4 0 < X_vl ct cur))))), (5, .int (iI (X_vl ct cur))), (4, .int (iI 4)), (3, .int (iI (pl cur))), (0, .ref 496), (1, .ref a), (2, .int (iI pile))]) (st' := [.int (iI (bI (4 = 64 ∧ (X_vl ct cur < 1 ∨ d 4 0 < X_vl ct cur))))]) rfl ?_
          refine T_bif_ne xr_79_161 (t := 174) (pc' := 164) rfl rfl (fun c2237 => ?_) (fun c2237 => ?_)
          · skip
            have c2237 : (4 = 64 ∧ (X_vl ct cur < 1 ∨ d 4 0 < X_vl ct cur)) := c2237
            refine T_p xr_79_174 xn_79 (pc' := 175) (ls' := [(8, .int (iI (bI (X_isOp 4 ∧ pile < 2)))), (7, .int (iI (bI (¬ X_isOp 4 ∧ pile = 16)))), (6, .int (iI (bI (4 = 64 ∧ (X_vl ct cur < 1 ∨ d 4 0 < X_vl ct cur))))), (5, .int (iI (X_vl ct cur))), (4, .int (iI 4)), (3, .int (iI (pl cur))), (0, .ref 496), (1, .ref a), (2, .int (iI pile))]) (st' := [.ref 496]) rfl ?_
            refine T_p xr_79_175 xn_79 (pc' := 176) (ls' := [(8, .int (iI (bI (X_isOp 4 ∧ pile < 2)))), (7, .int (iI (bI (¬ X_isOp 4 ∧ pile = 16)))), (6, .int (iI (bI (4 = 64 ∧ (X_vl ct cur < 1 ∨ d 4 0 < X_vl ct cur))))), (5, .int (iI (X_vl ct cur))), (4, .int (iI 4)), (3, .int (iI (pl cur))), (0, .ref 496), (1, .ref a), (2, .int (iI pile))]) (st' := [.int (iI 5), .ref 496]) rfl ?_
            refine T_p xr_79_176 xn_79 (pc' := 177) (ls' := [(8, .int (iI (bI (X_isOp 4 ∧ pile < 2)))), (7, .int (iI (bI (¬ X_isOp 4 ∧ pile = 16)))), (6, .int (iI (bI (4 = 64 ∧ (X_vl ct cur < 1 ∨ d 4 0 < X_vl ct cur))))), (5, .int (iI (X_vl ct cur))), (4, .int (iI 4)), (3, .int (iI (pl cur))), (0, .ref 496), (1, .ref a), (2, .int (iI pile))]) (st' := [.int (iI (pl cur)), .int (iI 5), .ref 496]) rfl ?_
            refine T_cv (S := S) (q := 496) xr_79_177 xf_66.1 xf_66.2.1 xn_66 (as := [.int (iI 5), .int (iI (pl cur))]) (r := []) rfl hp (Nat.le_of_ble_eq_true rfl) (Nat.le_of_ble_eq_true rfl) (pc' := 180) rfl (ls' := [(0, .ref 496), (1, .int (iI 5)), (2, .int (iI (pl cur)))]) rfl ?_
            refine T_p xr_66_0 xn_66 (pc' := 1) (ls' := [(0, .ref 496), (1, .int (iI 5)), (2, .int (iI (pl cur)))]) (st' := [.ref 496]) rfl ?_
            refine T_p xr_66_1 xn_66 (pc' := 2) (ls' := [(0, .ref 496), (1, .int (iI 5)), (2, .int (iI (pl cur)))]) (st' := [.int (iI 5), .ref 496]) rfl ?_
            refine T_put xr_66_2 hp rfl (Nat.le_of_ble_eq_true rfl) rfl (fs' := [.ref 497, .ref B, .int (iI 5), .int (iI fp)]) rfl (pc' := 5) rfl (fun S2238 h2239 n2240 e2241 => ?_)
            refine T_p xr_66_5 xn_66 (pc' := 6) (ls' := [(0, .ref 496), (1, .int (iI 5)), (2, .int (iI (pl cur)))]) (st' := [.ref 496]) rfl ?_
            refine T_p xr_66_6 xn_66 (pc' := 7) (ls' := [(0, .ref 496), (1, .int (iI 5)), (2, .int (iI (pl cur)))]) (st' := [.int (iI (pl cur)), .ref 496]) rfl ?_
            refine T_put xr_66_7 h2239 rfl (Nat.le_of_ble_eq_true rfl) rfl (fs' := [.ref 497, .ref B, .int (iI 5), .int (iI (pl cur))]) rfl (pc' := 10) rfl (fun S2242 h2243 n2244 e2245 => ?_)
            refine T_vret xr_66_10 xf_66.2.2 ?_
            show X_T sc 79 (180, [(8, .int (iI (bI (X_isOp 4 ∧ pile < 2)))), (7, .int (iI (bI (¬ X_isOp 4 ∧ pile = 16)))), (6, .int (iI (bI (4 = 64 ∧ (X_vl ct cur < 1 ∨ d 4 0 < X_vl ct cur))))), (5, .int (iI (X_vl ct cur))), (4, .int (iI 4)), (3, .int (iI (pl cur))), (0, .ref 496), (1, .ref a), (2, .int (iI pile))], [], S2242) _
            refine T_p xr_79_180 xn_79 (pc' := 181) (ls' := [(8, .int (iI (bI (X_isOp 4 ∧ pile < 2)))), (7, .int (iI (bI (¬ X_isOp 4 ∧ pile = 16)))), (6, .int (iI (bI (4 = 64 ∧ (X_vl ct cur < 1 ∨ d 4 0 < X_vl ct cur))))), (5, .int (iI (X_vl ct cur))), (4, .int (iI 4)), (3, .int (iI (pl cur))), (0, .ref 496), (1, .ref a), (2, .int (iI pile))]) (st' := [.int (iI (-1))]) rfl ?_
            refine T_iret xr_79_181 xf_79.2.2 rfl ?_
            refine hQ _ _ ?_
            have h2246 := (n2244 497 (by decide)).trans ((n2240 497 (by decide)).trans (hx.1))
            have h2247 := (n2244 a (by omega)).trans ((n2240 a (by omega)).trans (hw.1))
            have h2248 := (n2244 (a + 1) (by first | exact (fun h => absurd (Nat.add_left_cancel h) (by decide)) | omega)).trans ((n2240 (a + 1) (by first | exact (fun h => absurd (Nat.add_left_cancel h) (by decide)) | omega)).trans (hw.2.1))
            have h2249 := (n2244 (a + 2) (by first | exact (fun h => absurd (Nat.add_left_cancel h) (by decide)) | omega)).trans ((n2240 (a + 2) (by first | exact (fun h => absurd (Nat.add_left_cancel h) (by decide)) | omega)).trans (hw.2.2.1))
            have h2250 := (n2244 (a + 3) (by first | exact (fun h => absurd (Nat.add_left_cancel h) (by decide)) | omega)).trans ((n2240 (a + 3) (by first | exact (fun h => absurd (Nat.add_left_cancel h) (by decide)) | omega)).trans (hw.2.2.2.1))
            have h2251 := (n2244 (a + 4) (by first | exact (fun h => absurd (Nat.add_left_cancel h) (by decide)) | omega)).trans ((n2240 (a + 4) (by first | exact (fun h => absurd (Nat.add_left_cancel h) (by decide)) | omega)).trans (hw.2.2.2.2.1))
            have h2252 := (n2244 (a + 5) (by first | exact (fun h => absurd (Nat.add_left_cancel h) (by decide)) | omega)).trans ((n2240 (a + 5) (by first | exact (fun h => absurd (Nat.add_left_cancel h) (by decide)) | omega)).trans (hw.2.2.2.2.2.1))
            have h2253 := (n2244 (a + 6) (by first | exact (fun h => absurd (Nat.add_left_cancel h) (by decide)) | omega)).trans ((n2240 (a + 6) (by first | exact (fun h => absurd (Nat.add_left_cancel h) (by decide)) | omega)).trans (hw.2.2.2.2.2.2.1))
            have h2254 := (n2244 (a + 7) (by first | exact (fun h => absurd (Nat.add_left_cancel h) (by decide)) | omega)).trans ((n2240 (a + 7) (by first | exact (fun h => absurd (Nat.add_left_cancel h) (by decide)) | omega)).trans (hw.2.2.2.2.2.2.2))
            refine Or.inr ⟨rfl, ?_, ⟨_, _, by omega, h2243⟩, ⟨cur, h2246, by omega⟩, ⟨h2247, h2248, h2249, h2250, h2251, h2252, h2253, h2254⟩, ((X_Fr.rf).tr (X_Fr.of n2240 e2241 (by first | decide | exact ⟨Nat.le_add_right _ _, Nat.add_le_add_left (by decide) _⟩ | omega))).tr (X_Fr.of n2244 e2245 (by first | decide | exact ⟨Nat.le_add_right _ _, Nat.add_le_add_left (by decide) _⟩ | omega))⟩
            unfold sp_step sp_stF
            (repeat (first | rw [if_pos (by assumption)] | rw [if_neg (by assumption)]))
            all_goals first | rfl | ((repeat' split) <;> first | rfl | (exfalso; omega))
          · skip
            have c2237 : ¬ (4 = 64 ∧ (X_vl ct cur < 1 ∨ d 4 0 < X_vl ct cur)) := c2237
            refine T_p xr_79_164 xn_79 (pc' := 166) (ls' := [(8, .int (iI (bI (X_isOp 4 ∧ pile < 2)))), (7, .int (iI (bI (¬ X_isOp 4 ∧ pile = 16)))), (6, .int (iI (bI (4 = 64 ∧ (X_vl ct cur < 1 ∨ d 4 0 < X_vl ct cur))))), (5, .int (iI (X_vl ct cur))), (4, .int (iI 4)), (3, .int (iI (pl cur))), (0, .ref 496), (1, .ref a), (2, .int (iI pile))]) (st' := [.int (iI (bI (¬ X_isOp 4 ∧ pile = 16)))]) rfl ?_
            refine T_bif_ne xr_79_166 (t := 174) (pc' := 169) rfl rfl (fun c2255 => ?_) (fun c2255 => ?_)
            · skip
              have c2255 : (¬ X_isOp 4 ∧ pile = 16) := c2255
              refine T_p xr_79_174 xn_79 (pc' := 175) (ls' := [(8, .int (iI (bI (X_isOp 4 ∧ pile < 2)))), (7, .int (iI (bI (¬ X_isOp 4 ∧ pile = 16)))), (6, .int (iI (bI (4 = 64 ∧ (X_vl ct cur < 1 ∨ d 4 0 < X_vl ct cur))))), (5, .int (iI (X_vl ct cur))), (4, .int (iI 4)), (3, .int (iI (pl cur))), (0, .ref 496), (1, .ref a), (2, .int (iI pile))]) (st' := [.ref 496]) rfl ?_
              refine T_p xr_79_175 xn_79 (pc' := 176) (ls' := [(8, .int (iI (bI (X_isOp 4 ∧ pile < 2)))), (7, .int (iI (bI (¬ X_isOp 4 ∧ pile = 16)))), (6, .int (iI (bI (4 = 64 ∧ (X_vl ct cur < 1 ∨ d 4 0 < X_vl ct cur))))), (5, .int (iI (X_vl ct cur))), (4, .int (iI 4)), (3, .int (iI (pl cur))), (0, .ref 496), (1, .ref a), (2, .int (iI pile))]) (st' := [.int (iI 5), .ref 496]) rfl ?_
              refine T_p xr_79_176 xn_79 (pc' := 177) (ls' := [(8, .int (iI (bI (X_isOp 4 ∧ pile < 2)))), (7, .int (iI (bI (¬ X_isOp 4 ∧ pile = 16)))), (6, .int (iI (bI (4 = 64 ∧ (X_vl ct cur < 1 ∨ d 4 0 < X_vl ct cur))))), (5, .int (iI (X_vl ct cur))), (4, .int (iI 4)), (3, .int (iI (pl cur))), (0, .ref 496), (1, .ref a), (2, .int (iI pile))]) (st' := [.int (iI (pl cur)), .int (iI 5), .ref 496]) rfl ?_
              refine T_cv (S := S) (q := 496) xr_79_177 xf_66.1 xf_66.2.1 xn_66 (as := [.int (iI 5), .int (iI (pl cur))]) (r := []) rfl hp (Nat.le_of_ble_eq_true rfl) (Nat.le_of_ble_eq_true rfl) (pc' := 180) rfl (ls' := [(0, .ref 496), (1, .int (iI 5)), (2, .int (iI (pl cur)))]) rfl ?_
              refine T_p xr_66_0 xn_66 (pc' := 1) (ls' := [(0, .ref 496), (1, .int (iI 5)), (2, .int (iI (pl cur)))]) (st' := [.ref 496]) rfl ?_
              refine T_p xr_66_1 xn_66 (pc' := 2) (ls' := [(0, .ref 496), (1, .int (iI 5)), (2, .int (iI (pl cur)))]) (st' := [.int (iI 5), .ref 496]) rfl ?_
              refine T_put xr_66_2 hp rfl (Nat.le_of_ble_eq_true rfl) rfl (fs' := [.ref 497, .ref B, .int (iI 5), .int (iI fp)]) rfl (pc' := 5) rfl (fun S2256 h2257 n2258 e2259 => ?_)
              refine T_p xr_66_5 xn_66 (pc' := 6) (ls' := [(0, .ref 496), (1, .int (iI 5)), (2, .int (iI (pl cur)))]) (st' := [.ref 496]) rfl ?_
              refine T_p xr_66_6 xn_66 (pc' := 7) (ls' := [(0, .ref 496), (1, .int (iI 5)), (2, .int (iI (pl cur)))]) (st' := [.int (iI (pl cur)), .ref 496]) rfl ?_
              refine T_put xr_66_7 h2257 rfl (Nat.le_of_ble_eq_true rfl) rfl (fs' := [.ref 497, .ref B, .int (iI 5), .int (iI (pl cur))]) rfl (pc' := 10) rfl (fun S2260 h2261 n2262 e2263 => ?_)
              refine T_vret xr_66_10 xf_66.2.2 ?_
              show X_T sc 79 (180, [(8, .int (iI (bI (X_isOp 4 ∧ pile < 2)))), (7, .int (iI (bI (¬ X_isOp 4 ∧ pile = 16)))), (6, .int (iI (bI (4 = 64 ∧ (X_vl ct cur < 1 ∨ d 4 0 < X_vl ct cur))))), (5, .int (iI (X_vl ct cur))), (4, .int (iI 4)), (3, .int (iI (pl cur))), (0, .ref 496), (1, .ref a), (2, .int (iI pile))], [], S2260) _
              refine T_p xr_79_180 xn_79 (pc' := 181) (ls' := [(8, .int (iI (bI (X_isOp 4 ∧ pile < 2)))), (7, .int (iI (bI (¬ X_isOp 4 ∧ pile = 16)))), (6, .int (iI (bI (4 = 64 ∧ (X_vl ct cur < 1 ∨ d 4 0 < X_vl ct cur))))), (5, .int (iI (X_vl ct cur))), (4, .int (iI 4)), (3, .int (iI (pl cur))), (0, .ref 496), (1, .ref a), (2, .int (iI pile))]) (st' := [.int (iI (-1))]) rfl ?_
              refine T_iret xr_79_181 xf_79.2.2 rfl ?_
              refine hQ _ _ ?_
              have h2264 := (n2262 497 (by decide)).trans ((n2258 497 (by decide)).trans (hx.1))
              have h2265 := (n2262 a (by omega)).trans ((n2258 a (by omega)).trans (hw.1))
              have h2266 := (n2262 (a + 1) (by first | exact (fun h => absurd (Nat.add_left_cancel h) (by decide)) | omega)).trans ((n2258 (a + 1) (by first | exact (fun h => absurd (Nat.add_left_cancel h) (by decide)) | omega)).trans (hw.2.1))
              have h2267 := (n2262 (a + 2) (by first | exact (fun h => absurd (Nat.add_left_cancel h) (by decide)) | omega)).trans ((n2258 (a + 2) (by first | exact (fun h => absurd (Nat.add_left_cancel h) (by decide)) | omega)).trans (hw.2.2.1))
              have h2268 := (n2262 (a + 3) (by first | exact (fun h => absurd (Nat.add_left_cancel h) (by decide)) | omega)).trans ((n2258 (a + 3) (by first | exact (fun h => absurd (Nat.add_left_cancel h) (by decide)) | omega)).trans (hw.2.2.2.1))
              have h2269 := (n2262 (a + 4) (by first | exact (fun h => absurd (Nat.add_left_cancel h) (by decide)) | omega)).trans ((n2258 (a + 4) (by first | exact (fun h => absurd (Nat.add_left_cancel h) (by decide)) | omega)).trans (hw.2.2.2.2.1))
              have h2270 := (n2262 (a + 5) (by first | exact (fun h => absurd (Nat.add_left_cancel h) (by decide)) | omega)).trans ((n2258 (a + 5) (by first | exact (fun h => absurd (Nat.add_left_cancel h) (by decide)) | omega)).trans (hw.2.2.2.2.2.1))
              have h2271 := (n2262 (a + 6) (by first | exact (fun h => absurd (Nat.add_left_cancel h) (by decide)) | omega)).trans ((n2258 (a + 6) (by first | exact (fun h => absurd (Nat.add_left_cancel h) (by decide)) | omega)).trans (hw.2.2.2.2.2.2.1))
              have h2272 := (n2262 (a + 7) (by first | exact (fun h => absurd (Nat.add_left_cancel h) (by decide)) | omega)).trans ((n2258 (a + 7) (by first | exact (fun h => absurd (Nat.add_left_cancel h) (by decide)) | omega)).trans (hw.2.2.2.2.2.2.2))
              refine Or.inr ⟨rfl, ?_, ⟨_, _, by omega, h2261⟩, ⟨cur, h2264, by omega⟩, ⟨h2265, h2266, h2267, h2268, h2269, h2270, h2271, h2272⟩, ((X_Fr.rf).tr (X_Fr.of n2258 e2259 (by first | decide | exact ⟨Nat.le_add_right _ _, Nat.add_le_add_left (by decide) _⟩ | omega))).tr (X_Fr.of n2262 e2263 (by first | decide | exact ⟨Nat.le_add_right _ _, Nat.add_le_add_left (by decide) _⟩ | omega))⟩
              unfold sp_step sp_stF
              (repeat (first | rw [if_pos (by assumption)] | rw [if_neg (by assumption)]))
              all_goals first | rfl | ((repeat' split) <;> first | rfl | (exfalso; omega))
            · skip
              have c2255 : ¬ (¬ X_isOp 4 ∧ pile = 16) := c2255
              refine T_p xr_79_169 xn_79 (pc' := 171) (ls' := [(8, .int (iI (bI (X_isOp 4 ∧ pile < 2)))), (7, .int (iI (bI (¬ X_isOp 4 ∧ pile = 16)))), (6, .int (iI (bI (4 = 64 ∧ (X_vl ct cur < 1 ∨ d 4 0 < X_vl ct cur))))), (5, .int (iI (X_vl ct cur))), (4, .int (iI 4)), (3, .int (iI (pl cur))), (0, .ref 496), (1, .ref a), (2, .int (iI pile))]) (st' := [.int (iI (bI (X_isOp 4 ∧ pile < 2)))]) rfl ?_
              refine T_bif_eq xr_79_171 (t := 182) (pc' := 174) rfl rfl (fun c2273 => ?_) (fun c2273 => ?_)
              · skip
                have c2273 : ¬ (X_isOp 4 ∧ pile < 2) := c2273
                refine T_p xr_79_182 xn_79 (pc' := 183) (ls' := [(8, .int (iI (bI (X_isOp 4 ∧ pile < 2)))), (7, .int (iI (bI (¬ X_isOp 4 ∧ pile = 16)))), (6, .int (iI (bI (4 = 64 ∧ (X_vl ct cur < 1 ∨ d 4 0 < X_vl ct cur))))), (5, .int (iI (X_vl ct cur))), (4, .int (iI 4)), (3, .int (iI (pl cur))), (0, .ref 496), (1, .ref a), (2, .int (iI pile))]) (st' := [.ref a]) rfl ?_
                refine T_p xr_79_183 xn_79 (pc' := 185) (ls' := [(8, .int (iI (bI (X_isOp 4 ∧ pile < 2)))), (7, .int (iI (bI (¬ X_isOp 4 ∧ pile = 16)))), (6, .int (iI (bI (4 = 64 ∧ (X_vl ct cur < 1 ∨ d 4 0 < X_vl ct cur))))), (5, .int (iI (X_vl ct cur))), (4, .int (iI 4)), (3, .int (iI (pl cur))), (0, .ref 496), (1, .ref a), (2, .int (iI pile))]) (st' := [.int (iI 4), .ref a]) rfl ?_
                refine T_p xr_79_185 xn_79 (pc' := 187) (ls' := [(8, .int (iI (bI (X_isOp 4 ∧ pile < 2)))), (7, .int (iI (bI (¬ X_isOp 4 ∧ pile = 16)))), (6, .int (iI (bI (4 = 64 ∧ (X_vl ct cur < 1 ∨ d 4 0 < X_vl ct cur))))), (5, .int (iI (X_vl ct cur))), (4, .int (iI 4)), (3, .int (iI (pl cur))), (0, .ref 496), (1, .ref a), (2, .int (iI pile))]) (st' := [.int (iI (X_vl ct cur)), .int (iI 4), .ref a]) rfl ?_
                refine T_cv (S := S) (q := a) xr_79_187 xf_99.1 xf_99.2.1 xn_99 (as := [.int (iI 4), .int (iI (X_vl ct cur))]) (r := []) rfl hw.1 (Nat.le_of_ble_eq_true rfl) (Nat.le_of_ble_eq_true rfl) (pc' := 190) rfl (ls' := [(0, .ref a), (1, .int (iI 4)), (2, .int (iI (X_vl ct cur)))]) rfl ?_
                have hr2280 : X_wr (X_aS d 4 (X_vl ct cur)) := X_wr_S hr (by omega)
                refine T_mono (c_addStep sc S a d q 4 (X_vl ct cur) ⟨hw.1, hw.2.1, hw.2.2.1, hw.2.2.2.1, hw.2.2.2.2.1, hw.2.2.2.2.2.1, hw.2.2.2.2.2.2.1, hw.2.2.2.2.2.2.2⟩ hr (by omega)) (fun v2274 S2275 h2276 => ?_)
                obtain ⟨h2277, hw2278, hf2279⟩ := h2276
                rw [h2277]
                have hw2278 : C_wd S2275 a (X_aS d 4 (X_vl ct cur)) q := hw2278
                show X_T sc 79 (190, [(8, .int (iI (bI (X_isOp 4 ∧ pile < 2)))), (7, .int (iI (bI (¬ X_isOp 4 ∧ pile = 16)))), (6, .int (iI (bI (4 = 64 ∧ (X_vl ct cur < 1 ∨ d 4 0 < X_vl ct cur))))), (5, .int (iI (X_vl ct cur))), (4, .int (iI 4)), (3, .int (iI (pl cur))), (0, .ref 496), (1, .ref a), (2, .int (iI pile))], [], S2275) _
                refine T_p xr_79_190 xn_79 (pc' := 191) (ls' := [(8, .int (iI (bI (X_isOp 4 ∧ pile < 2)))), (7, .int (iI (bI (¬ X_isOp 4 ∧ pile = 16)))), (6, .int (iI (bI (4 = 64 ∧ (X_vl ct cur < 1 ∨ d 4 0 < X_vl ct cur))))), (5, .int (iI (X_vl ct cur))), (4, .int (iI 4)), (3, .int (iI (pl cur))), (0, .ref 496), (1, .ref a), (2, .int (iI pile))]) (st' := [.ref 496]) rfl ?_
                have h2281 := (hf2279.1 496 (by first | decide | omega)).trans (hp)
                refine T_get xr_79_191 h2281 rfl (v := .ref 497) rfl (pc' := 194) rfl ?_
                have h2282 := (hf2279.1 497 (by first | decide | omega)).trans (hx.1)
                refine T_cv (S := S2275) (q := 497) xr_79_194 xf_52.1 xf_52.2.1 xn_52 (as := []) (r := []) rfl h2282 (Nat.le_of_ble_eq_true rfl) (Nat.le_of_ble_eq_true rfl) (pc' := 197) rfl (ls' := [(0, .ref 497)]) rfl ?_
                have h2283 := (hf2279.1 498 (by first | decide | omega)).trans (hx.2.1)
                have h2284 := (hf2279.1 499 (by first | decide | omega)).trans (hx.2.2.1)
                have h2285 := (hf2279.1 500 (by first | decide | omega)).trans (hx.2.2.2)
                refine T_mono (c_advance sc S2275 at_ n cur so pl ct ⟨h2282, h2283, h2284, h2285⟩ (by omega)) (fun v2287 S2288 h2286 => ?_)
                obtain ⟨h2289, h2291, h2290⟩ := h2286
                rw [h2289]
                show X_T sc 79 (197, [(8, .int (iI (bI (X_isOp 4 ∧ pile < 2)))), (7, .int (iI (bI (¬ X_isOp 4 ∧ pile = 16)))), (6, .int (iI (bI (4 = 64 ∧ (X_vl ct cur < 1 ∨ d 4 0 < X_vl ct cur))))), (5, .int (iI (X_vl ct cur))), (4, .int (iI 4)), (3, .int (iI (pl cur))), (0, .ref 496), (1, .ref a), (2, .int (iI pile))], [], S2288) _
                have hv2292 := X_av_r (n := n) (c := cur) (by omega)
                refine T_p xr_79_197 xn_79 (pc' := 199) (ls' := [(8, .int (iI (bI (X_isOp 4 ∧ pile < 2)))), (7, .int (iI (bI (¬ X_isOp 4 ∧ pile = 16)))), (6, .int (iI (bI (4 = 64 ∧ (X_vl ct cur < 1 ∨ d 4 0 < X_vl ct cur))))), (5, .int (iI (X_vl ct cur))), (4, .int (iI 4)), (3, .int (iI (pl cur))), (0, .ref 496), (1, .ref a), (2, .int (iI pile))]) (st' := [.int (iI 4)]) rfl ?_
                refine T_cs xr_79_199 (by decide) xf_81.1 xn_81 (as := [.int (iI 4)]) (r := []) rfl (Nat.le_of_ble_eq_true rfl) (Nat.le_of_ble_eq_true rfl) (pc' := 202) rfl (ls' := [(0, .int (iI 4))]) rfl ?_
                refine T_mono (c_isOperation sc S2288 4 (by omega)) (fun v2294 S2295 h2293 => ?_)
                obtain ⟨h2296, h2297⟩ := h2293
                rw [h2296, h2297]
                show X_T sc 79 (202, [(8, .int (iI (bI (X_isOp 4 ∧ pile < 2)))), (7, .int (iI (bI (¬ X_isOp 4 ∧ pile = 16)))), (6, .int (iI (bI (4 = 64 ∧ (X_vl ct cur < 1 ∨ d 4 0 < X_vl ct cur))))), (5, .int (iI (X_vl ct cur))), (4, .int (iI 4)), (3, .int (iI (pl cur))), (0, .ref 496), (1, .ref a), (2, .int (iI pile))], [.int (iI (bI (X_isOp 4)))], S2288) _
                refine T_bif_eq xr_79_202 (t := 211) (pc' := 205) rfl rfl (fun c2298 => ?_) (fun c2298 => ?_)
                · skip
                  have c2298 : ¬ (X_isOp 4) := c2298
                  refine T_p xr_79_211 xn_79 (pc' := 212) (ls' := [(8, .int (iI (bI (X_isOp 4 ∧ pile < 2)))), (7, .int (iI (bI (¬ X_isOp 4 ∧ pile = 16)))), (6, .int (iI (bI (4 = 64 ∧ (X_vl ct cur < 1 ∨ d 4 0 < X_vl ct cur))))), (5, .int (iI (X_vl ct cur))), (4, .int (iI 4)), (3, .int (iI (pl cur))), (0, .ref 496), (1, .ref a), (2, .int (iI pile))]) (st' := [.int (iI pile)]) rfl ?_
                  refine T_p xr_79_212 xn_79 (pc' := 213) (ls' := [(8, .int (iI (bI (X_isOp 4 ∧ pile < 2)))), (7, .int (iI (bI (¬ X_isOp 4 ∧ pile = 16)))), (6, .int (iI (bI (4 = 64 ∧ (X_vl ct cur < 1 ∨ d 4 0 < X_vl ct cur))))), (5, .int (iI (X_vl ct cur))), (4, .int (iI 4)), (3, .int (iI (pl cur))), (0, .ref 496), (1, .ref a), (2, .int (iI pile))]) (st' := [.int (iI 1), .int (iI pile)]) rfl ?_
                  refine T_ziadd xr_79_213 (z := pile + 1) rfl (pc' := 214) rfl ?_
                  refine T_iret xr_79_214 xf_79.2.2 rfl ?_
                  refine hQ _ _ ?_
                  have h2299 := (h2290.1 496 (by first | decide | omega)).trans (h2281)
                  have h2300 := (h2290.1 a (by omega)).trans (hw2278.1)
                  have h2301 := (h2290.1 (a + 1) (by omega)).trans (hw2278.2.1)
                  have h2302 := (h2290.1 (a + 2) (by omega)).trans (hw2278.2.2.1)
                  have h2303 := (h2290.1 (a + 3) (by omega)).trans (hw2278.2.2.2.1)
                  have h2304 := (h2290.1 (a + 4) (by omega)).trans (hw2278.2.2.2.2.1)
                  have h2305 := (h2290.1 (a + 5) (by omega)).trans (hw2278.2.2.2.2.2.1)
                  have h2306 := (h2290.1 (a + 6) (by omega)).trans (hw2278.2.2.2.2.2.2.1)
                  have h2307 := (h2290.1 (a + 7) (by omega)).trans (hw2278.2.2.2.2.2.2.2)
                  refine Or.inl ⟨X_av n cur, X_aS d 4 (X_vl ct cur), pile + 1, rfl, ?_, h2299, h2291, by omega, ⟨h2300, h2301, h2302, h2303, h2304, h2305, h2306, h2307⟩, hr2280, ((X_Fr.rf).tr (X_Fr.mono ⟨hf2279.1, hf2279.2⟩ (fun q hq => (by omega)))).tr (X_Fr.mono ⟨h2290.1, h2290.2⟩ (fun q hq => (by omega)))⟩
                  unfold sp_step sp_stF
                  (repeat (first | rw [if_pos (by assumption)] | rw [if_neg (by assumption)]))
                  all_goals first | rfl | ((repeat' split) <;> first | rfl | (exfalso; omega))
                · skip
                  have c2298 : (X_isOp 4) := c2298
                  exact (show False by first | contradiction | omega).elim
              · skip
                have c2273 : (X_isOp 4 ∧ pile < 2) := c2273
                refine T_p xr_79_174 xn_79 (pc' := 175) (ls' := [(8, .int (iI (bI (X_isOp 4 ∧ pile < 2)))), (7, .int (iI (bI (¬ X_isOp 4 ∧ pile = 16)))), (6, .int (iI (bI (4 = 64 ∧ (X_vl ct cur < 1 ∨ d 4 0 < X_vl ct cur))))), (5, .int (iI (X_vl ct cur))), (4, .int (iI 4)), (3, .int (iI (pl cur))), (0, .ref 496), (1, .ref a), (2, .int (iI pile))]) (st' := [.ref 496]) rfl ?_
                refine T_p xr_79_175 xn_79 (pc' := 176) (ls' := [(8, .int (iI (bI (X_isOp 4 ∧ pile < 2)))), (7, .int (iI (bI (¬ X_isOp 4 ∧ pile = 16)))), (6, .int (iI (bI (4 = 64 ∧ (X_vl ct cur < 1 ∨ d 4 0 < X_vl ct cur))))), (5, .int (iI (X_vl ct cur))), (4, .int (iI 4)), (3, .int (iI (pl cur))), (0, .ref 496), (1, .ref a), (2, .int (iI pile))]) (st' := [.int (iI 5), .ref 496]) rfl ?_
                refine T_p xr_79_176 xn_79 (pc' := 177) (ls' := [(8, .int (iI (bI (X_isOp 4 ∧ pile < 2)))), (7, .int (iI (bI (¬ X_isOp 4 ∧ pile = 16)))), (6, .int (iI (bI (4 = 64 ∧ (X_vl ct cur < 1 ∨ d 4 0 < X_vl ct cur))))), (5, .int (iI (X_vl ct cur))), (4, .int (iI 4)), (3, .int (iI (pl cur))), (0, .ref 496), (1, .ref a), (2, .int (iI pile))]) (st' := [.int (iI (pl cur)), .int (iI 5), .ref 496]) rfl ?_
                refine T_cv (S := S) (q := 496) xr_79_177 xf_66.1 xf_66.2.1 xn_66 (as := [.int (iI 5), .int (iI (pl cur))]) (r := []) rfl hp (Nat.le_of_ble_eq_true rfl) (Nat.le_of_ble_eq_true rfl) (pc' := 180) rfl (ls' := [(0, .ref 496), (1, .int (iI 5)), (2, .int (iI (pl cur)))]) rfl ?_
                refine T_p xr_66_0 xn_66 (pc' := 1) (ls' := [(0, .ref 496), (1, .int (iI 5)), (2, .int (iI (pl cur)))]) (st' := [.ref 496]) rfl ?_
                refine T_p xr_66_1 xn_66 (pc' := 2) (ls' := [(0, .ref 496), (1, .int (iI 5)), (2, .int (iI (pl cur)))]) (st' := [.int (iI 5), .ref 496]) rfl ?_
                refine T_put xr_66_2 hp rfl (Nat.le_of_ble_eq_true rfl) rfl (fs' := [.ref 497, .ref B, .int (iI 5), .int (iI fp)]) rfl (pc' := 5) rfl (fun S2308 h2309 n2310 e2311 => ?_)
                refine T_p xr_66_5 xn_66 (pc' := 6) (ls' := [(0, .ref 496), (1, .int (iI 5)), (2, .int (iI (pl cur)))]) (st' := [.ref 496]) rfl ?_
                refine T_p xr_66_6 xn_66 (pc' := 7) (ls' := [(0, .ref 496), (1, .int (iI 5)), (2, .int (iI (pl cur)))]) (st' := [.int (iI (pl cur)), .ref 496]) rfl ?_
                refine T_put xr_66_7 h2309 rfl (Nat.le_of_ble_eq_true rfl) rfl (fs' := [.ref 497, .ref B, .int (iI 5), .int (iI (pl cur))]) rfl (pc' := 10) rfl (fun S2312 h2313 n2314 e2315 => ?_)
                refine T_vret xr_66_10 xf_66.2.2 ?_
                show X_T sc 79 (180, [(8, .int (iI (bI (X_isOp 4 ∧ pile < 2)))), (7, .int (iI (bI (¬ X_isOp 4 ∧ pile = 16)))), (6, .int (iI (bI (4 = 64 ∧ (X_vl ct cur < 1 ∨ d 4 0 < X_vl ct cur))))), (5, .int (iI (X_vl ct cur))), (4, .int (iI 4)), (3, .int (iI (pl cur))), (0, .ref 496), (1, .ref a), (2, .int (iI pile))], [], S2312) _
                refine T_p xr_79_180 xn_79 (pc' := 181) (ls' := [(8, .int (iI (bI (X_isOp 4 ∧ pile < 2)))), (7, .int (iI (bI (¬ X_isOp 4 ∧ pile = 16)))), (6, .int (iI (bI (4 = 64 ∧ (X_vl ct cur < 1 ∨ d 4 0 < X_vl ct cur))))), (5, .int (iI (X_vl ct cur))), (4, .int (iI 4)), (3, .int (iI (pl cur))), (0, .ref 496), (1, .ref a), (2, .int (iI pile))]) (st' := [.int (iI (-1))]) rfl ?_
                refine T_iret xr_79_181 xf_79.2.2 rfl ?_
                refine hQ _ _ ?_
                have h2316 := (n2314 497 (by decide)).trans ((n2310 497 (by decide)).trans (hx.1))
                have h2317 := (n2314 a (by omega)).trans ((n2310 a (by omega)).trans (hw.1))
                have h2318 := (n2314 (a + 1) (by first | exact (fun h => absurd (Nat.add_left_cancel h) (by decide)) | omega)).trans ((n2310 (a + 1) (by first | exact (fun h => absurd (Nat.add_left_cancel h) (by decide)) | omega)).trans (hw.2.1))
                have h2319 := (n2314 (a + 2) (by first | exact (fun h => absurd (Nat.add_left_cancel h) (by decide)) | omega)).trans ((n2310 (a + 2) (by first | exact (fun h => absurd (Nat.add_left_cancel h) (by decide)) | omega)).trans (hw.2.2.1))
                have h2320 := (n2314 (a + 3) (by first | exact (fun h => absurd (Nat.add_left_cancel h) (by decide)) | omega)).trans ((n2310 (a + 3) (by first | exact (fun h => absurd (Nat.add_left_cancel h) (by decide)) | omega)).trans (hw.2.2.2.1))
                have h2321 := (n2314 (a + 4) (by first | exact (fun h => absurd (Nat.add_left_cancel h) (by decide)) | omega)).trans ((n2310 (a + 4) (by first | exact (fun h => absurd (Nat.add_left_cancel h) (by decide)) | omega)).trans (hw.2.2.2.2.1))
                have h2322 := (n2314 (a + 5) (by first | exact (fun h => absurd (Nat.add_left_cancel h) (by decide)) | omega)).trans ((n2310 (a + 5) (by first | exact (fun h => absurd (Nat.add_left_cancel h) (by decide)) | omega)).trans (hw.2.2.2.2.2.1))
                have h2323 := (n2314 (a + 6) (by first | exact (fun h => absurd (Nat.add_left_cancel h) (by decide)) | omega)).trans ((n2310 (a + 6) (by first | exact (fun h => absurd (Nat.add_left_cancel h) (by decide)) | omega)).trans (hw.2.2.2.2.2.2.1))
                have h2324 := (n2314 (a + 7) (by first | exact (fun h => absurd (Nat.add_left_cancel h) (by decide)) | omega)).trans ((n2310 (a + 7) (by first | exact (fun h => absurd (Nat.add_left_cancel h) (by decide)) | omega)).trans (hw.2.2.2.2.2.2.2))
                refine Or.inr ⟨rfl, ?_, ⟨_, _, by omega, h2313⟩, ⟨cur, h2316, by omega⟩, ⟨h2317, h2318, h2319, h2320, h2321, h2322, h2323, h2324⟩, ((X_Fr.rf).tr (X_Fr.of n2310 e2311 (by first | decide | exact ⟨Nat.le_add_right _ _, Nat.add_le_add_left (by decide) _⟩ | omega))).tr (X_Fr.of n2314 e2315 (by first | decide | exact ⟨Nat.le_add_right _ _, Nat.add_le_add_left (by decide) _⟩ | omega))⟩
                unfold sp_step sp_stF
                (repeat (first | rw [if_pos (by assumption)] | rw [if_neg (by assumption)]))
                all_goals first | rfl | ((repeat' split) <;> first | rfl | (exfalso; omega))
        refine T_p xr_79_139 xn_79 (pc' := 141) (ls' := [(7, .int (iI (bI (¬ X_isOp 4 ∧ pile = 16)))), (6, .int (iI (bI (4 = 64 ∧ (X_vl ct cur < 1 ∨ d 4 0 < X_vl ct cur))))), (5, .int (iI (X_vl ct cur))), (4, .int (iI 4)), (3, .int (iI (pl cur))), (0, .ref 496), (1, .ref a), (2, .int (iI pile))]) (st' := [.int (iI 4)]) rfl ?_
        refine T_cs xr_79_141 (by decide) xf_81.1 xn_81 (as := [.int (iI 4)]) (r := []) rfl (Nat.le_of_ble_eq_true rfl) (Nat.le_of_ble_eq_true rfl) (pc' := 144) rfl (ls' := [(0, .int (iI 4))]) rfl ?_
        refine T_mono (c_isOperation sc S 4 (by omega)) (fun v2326 S2327 h2325 => ?_)
        obtain ⟨h2328, h2329⟩ := h2325
        rw [h2328, h2329]
        show X_T sc 79 (144, [(7, .int (iI (bI (¬ X_isOp 4 ∧ pile = 16)))), (6, .int (iI (bI (4 = 64 ∧ (X_vl ct cur < 1 ∨ d 4 0 < X_vl ct cur))))), (5, .int (iI (X_vl ct cur))), (4, .int (iI 4)), (3, .int (iI (pl cur))), (0, .ref 496), (1, .ref a), (2, .int (iI pile))], [.int (iI (bI (X_isOp 4)))], S) _
        refine T_bif_eq xr_79_144 (t := 156) (pc' := 147) rfl rfl (fun c2330 => ?_) (fun c2330 => ?_)
        · skip
          have c2330 : ¬ (X_isOp 4) := c2330
          refine T_p xr_79_156 xn_79 (pc' := 157) (ls' := [(7, .int (iI (bI (¬ X_isOp 4 ∧ pile = 16)))), (6, .int (iI (bI (4 = 64 ∧ (X_vl ct cur < 1 ∨ d 4 0 < X_vl ct cur))))), (5, .int (iI (X_vl ct cur))), (4, .int (iI 4)), (3, .int (iI (pl cur))), (0, .ref 496), (1, .ref a), (2, .int (iI pile))]) (st' := [.int (iI 0)]) rfl ?_
          refine T_ie (y := iI (bI (X_isOp 4 ∧ pile < 2))) (by rw [bI_f (by rintro ⟨h1, h2⟩; first | omega | contradiction)]) ?_
          exact J2236
        · skip
          have c2330 : (X_isOp 4) := c2330
          exact (show False by first | contradiction | omega).elim
      refine T_p xr_79_118 xn_79 (pc' := 120) (ls' := [(6, .int (iI (bI (4 = 64 ∧ (X_vl ct cur < 1 ∨ d 4 0 < X_vl ct cur))))), (5, .int (iI (X_vl ct cur))), (4, .int (iI 4)), (3, .int (iI (pl cur))), (0, .ref 496), (1, .ref a), (2, .int (iI pile))]) (st' := [.int (iI 4)]) rfl ?_
      refine T_cs xr_79_120 (by decide) xf_81.1 xn_81 (as := [.int (iI 4)]) (r := []) rfl (Nat.le_of_ble_eq_true rfl) (Nat.le_of_ble_eq_true rfl) (pc' := 123) rfl (ls' := [(0, .int (iI 4))]) rfl ?_
      refine T_mono (c_isOperation sc S 4 (by omega)) (fun v2332 S2333 h2331 => ?_)
      obtain ⟨h2334, h2335⟩ := h2331
      rw [h2334, h2335]
      show X_T sc 79 (123, [(6, .int (iI (bI (4 = 64 ∧ (X_vl ct cur < 1 ∨ d 4 0 < X_vl ct cur))))), (5, .int (iI (X_vl ct cur))), (4, .int (iI 4)), (3, .int (iI (pl cur))), (0, .ref 496), (1, .ref a), (2, .int (iI pile))], [.int (iI (bI (X_isOp 4)))], S) _
      refine T_bif_ne xr_79_123 (t := 136) (pc' := 126) rfl rfl (fun c2336 => ?_) (fun c2336 => ?_)
      · skip
        have c2336 : (X_isOp 4) := c2336
        exact (show False by first | contradiction | omega).elim
      · skip
        have c2336 : ¬ (X_isOp 4) := c2336
        refine T_p xr_79_126 xn_79 (pc' := 127) (ls' := [(6, .int (iI (bI (4 = 64 ∧ (X_vl ct cur < 1 ∨ d 4 0 < X_vl ct cur))))), (5, .int (iI (X_vl ct cur))), (4, .int (iI 4)), (3, .int (iI (pl cur))), (0, .ref 496), (1, .ref a), (2, .int (iI pile))]) (st' := [.int (iI pile)]) rfl ?_
        refine T_p xr_79_127 xn_79 (pc' := 129) (ls' := [(6, .int (iI (bI (4 = 64 ∧ (X_vl ct cur < 1 ∨ d 4 0 < X_vl ct cur))))), (5, .int (iI (X_vl ct cur))), (4, .int (iI 4)), (3, .int (iI (pl cur))), (0, .ref 496), (1, .ref a), (2, .int (iI pile))]) (st' := [.int (iI 16), .int (iI pile)]) rfl ?_
        refine T_zicmp_ne xr_79_129 (t := 136) (pc' := 132) rfl rfl (fun c2337 => ?_) (fun c2337 => ?_)
        · skip
          have c2337 : ¬ pile = 16 := c2337
          refine T_p xr_79_136 xn_79 (pc' := 137) (ls' := [(6, .int (iI (bI (4 = 64 ∧ (X_vl ct cur < 1 ∨ d 4 0 < X_vl ct cur))))), (5, .int (iI (X_vl ct cur))), (4, .int (iI 4)), (3, .int (iI (pl cur))), (0, .ref 496), (1, .ref a), (2, .int (iI pile))]) (st' := [.int (iI 0)]) rfl ?_
          refine T_ie (y := iI (bI (¬ X_isOp 4 ∧ pile = 16))) (by rw [bI_f (by rintro ⟨h1, h2⟩; first | omega | contradiction)]) ?_
          exact J2235
        · skip
          have c2337 : ¬ (¬ pile = 16) := c2337
          refine T_p xr_79_132 xn_79 (pc' := 133) (ls' := [(6, .int (iI (bI (4 = 64 ∧ (X_vl ct cur < 1 ∨ d 4 0 < X_vl ct cur))))), (5, .int (iI (X_vl ct cur))), (4, .int (iI 4)), (3, .int (iI (pl cur))), (0, .ref 496), (1, .ref a), (2, .int (iI pile))]) (st' := [.int (iI 1)]) rfl ?_
          refine T_p xr_79_133 xn_79 (pc' := 137) (ls' := [(6, .int (iI (bI (4 = 64 ∧ (X_vl ct cur < 1 ∨ d 4 0 < X_vl ct cur))))), (5, .int (iI (X_vl ct cur))), (4, .int (iI 4)), (3, .int (iI (pl cur))), (0, .ref 496), (1, .ref a), (2, .int (iI pile))]) (st' := [.int (iI 1)]) rfl ?_
          refine T_ie (y := iI (bI (¬ X_isOp 4 ∧ pile = 16))) (by rw [bI_t (by exact ⟨by assumption, by omega⟩)]) ?_
          exact J2235
    refine T_p xr_79_89 xn_79 (pc' := 91) (ls' := [(5, .int (iI (X_vl ct cur))), (4, .int (iI 4)), (3, .int (iI (pl cur))), (0, .ref 496), (1, .ref a), (2, .int (iI pile))]) (st' := [.int (iI 4)]) rfl ?_
    refine T_p xr_79_91 xn_79 (pc' := 93) (ls' := [(5, .int (iI (X_vl ct cur))), (4, .int (iI 4)), (3, .int (iI (pl cur))), (0, .ref 496), (1, .ref a), (2, .int (iI pile))]) (st' := [.int (iI 64), .int (iI 4)]) rfl ?_
    refine T_zicmp_net xr_79_93 (t := 115) rfl (by decide) ?_
    refine T_p xr_79_115 xn_79 (pc' := 116) (ls' := [(5, .int (iI (X_vl ct cur))), (4, .int (iI 4)), (3, .int (iI (pl cur))), (0, .ref 496), (1, .ref a), (2, .int (iI pile))]) (st' := [.int (iI 0)]) rfl ?_
    refine T_ie (y := iI (bI (4 = 64 ∧ (X_vl ct cur < 1 ∨ d 4 0 < X_vl ct cur)))) (by rw [bI_f (by rintro ⟨h1, h2⟩; omega)]) ?_
    exact J2234
end
section
theorem xr_78_0 : X_row 78 0 = some (0, (.iconst 0, 1), (0, 0, 0)) := by decide +kernel
theorem xr_78_1 : X_row 78 1 = some (1, (.istore_n 2, 1), (0, 0, 0)) := by decide +kernel
theorem xr_78_2 : X_row 78 2 = some (2, (.aload_n 1, 1), (0, 0, 0)) := by decide +kernel
theorem xr_78_3 : X_row 78 3 = some (3, (.iconst 0, 1), (0, 0, 0)) := by decide +kernel
theorem xr_78_4 : X_row 78 4 = some (4, (.putfield 183, 3), (8, 5, 9)) := by decide +kernel
theorem xr_78_7 : X_row 78 7 = some (7, (.aload_n 0, 1), (0, 0, 0)) := by decide +kernel
theorem xr_78_8 : X_row 78 8 = some (8, (.getfield 23, 3), (4, 0, 18)) := by decide +kernel
theorem xr_78_11 : X_row 78 11 = some (11, (.invokevirtual 80, 3), (52, 18, 0)) := by decide +kernel
theorem xr_78_14 : X_row 78 14 = some (14, (.iconst 0, 1), (0, 0, 0)) := by decide +kernel
theorem xr_78_15 : X_row 78 15 = some (15, (.istore_n 3, 1), (0, 0, 0)) := by decide +kernel
theorem xr_78_16 : X_row 78 16 = some (16, (.iload_n 3, 1), (0, 0, 0)) := by decide +kernel
theorem xr_78_17 : X_row 78 17 = some (17, (.bipush 30, 2), (0, 0, 0)) := by decide +kernel
theorem xr_78_19 : X_row 78 19 = some (19, (.if_icmp .ge 35, 3), (0, 0, 0)) := by decide +kernel
theorem xr_78_22 : X_row 78 22 = some (22, (.aload_n 0, 1), (0, 0, 0)) := by decide +kernel
theorem xr_78_23 : X_row 78 23 = some (23, (.getfield 23, 3), (4, 0, 18)) := by decide +kernel
theorem xr_78_26 : X_row 78 26 = some (26, (.invokevirtual 39, 3), (48, 6, 0)) := by decide +kernel
theorem xr_78_29 : X_row 78 29 = some (29, (.bipush 59, 2), (0, 0, 0)) := by decide +kernel
theorem xr_78_31 : X_row 78 31 = some (31, (.if_icmp .eq 23, 3), (0, 0, 0)) := by decide +kernel
theorem xr_78_34 : X_row 78 34 = some (34, (.aload_n 0, 1), (0, 0, 0)) := by decide +kernel
theorem xr_78_35 : X_row 78 35 = some (35, (.aload_n 1, 1), (0, 0, 0)) := by decide +kernel
theorem xr_78_36 : X_row 78 36 = some (36, (.iload_n 2, 1), (0, 0, 0)) := by decide +kernel
theorem xr_78_37 : X_row 78 37 = some (37, (.invokevirtual 186, 3), (79, 64, 0)) := by decide +kernel
theorem xr_78_40 : X_row 78 40 = some (40, (.istore_n 2, 1), (0, 0, 0)) := by decide +kernel
theorem xr_78_41 : X_row 78 41 = some (41, (.iload_n 2, 1), (0, 0, 0)) := by decide +kernel
theorem xr_78_42 : X_row 78 42 = some (42, (.iconst (-1), 1), (0, 0, 0)) := by decide +kernel
theorem xr_78_43 : X_row 78 43 = some (43, (.if_icmp .ne 5, 3), (0, 0, 0)) := by decide +kernel
theorem xr_78_46 : X_row 78 46 = some (46, (.iconst 0, 1), (0, 0, 0)) := by decide +kernel
theorem xr_78_47 : X_row 78 47 = some (47, (.ireturn, 1), (0, 0, 0)) := by decide +kernel
theorem xr_78_48 : X_row 78 48 = some (48, (.iinc 3 1, 3), (0, 0, 0)) := by decide +kernel
theorem xr_78_51 : X_row 78 51 = some (51, (.goto (-35), 3), (0, 0, 0)) := by decide +kernel
theorem xr_78_54 : X_row 78 54 = some (54, (.aload_n 0, 1), (0, 0, 0)) := by decide +kernel
theorem xr_78_55 : X_row 78 55 = some (55, (.getfield 23, 3), (4, 0, 18)) := by decide +kernel
theorem xr_78_58 : X_row 78 58 = some (58, (.invokevirtual 39, 3), (48, 6, 0)) := by decide +kernel
theorem xr_78_61 : X_row 78 61 = some (61, (.bipush 59, 2), (0, 0, 0)) := by decide +kernel
theorem xr_78_63 : X_row 78 63 = some (63, (.if_icmp .eq 10, 3), (0, 0, 0)) := by decide +kernel
theorem xr_78_66 : X_row 78 66 = some (66, (.aload_n 0, 1), (0, 0, 0)) := by decide +kernel
theorem xr_78_67 : X_row 78 67 = some (67, (.invokevirtual 67, 3), (67, 12, 0)) := by decide +kernel
theorem xr_78_70 : X_row 78 70 = some (70, (.goto 30, 3), (0, 0, 0)) := by decide +kernel
theorem xr_78_73 : X_row 78 73 = some (73, (.iload_n 2, 1), (0, 0, 0)) := by decide +kernel
theorem xr_78_74 : X_row 78 74 = some (74, (.iconst 1, 1), (0, 0, 0)) := by decide +kernel
theorem xr_78_75 : X_row 78 75 = some (75, (.if_icmp .eq 18, 3), (0, 0, 0)) := by decide +kernel
theorem xr_78_78 : X_row 78 78 = some (78, (.aload_n 0, 1), (0, 0, 0)) := by decide +kernel
theorem xr_78_79 : X_row 78 79 = some (79, (.iconst 5, 1), (0, 0, 0)) := by decide +kernel
theorem xr_78_80 : X_row 78 80 = some (80, (.aload_n 0, 1), (0, 0, 0)) := by decide +kernel
theorem xr_78_81 : X_row 78 81 = some (81, (.getfield 23, 3), (4, 0, 18)) := by decide +kernel
theorem xr_78_84 : X_row 78 84 = some (84, (.invokevirtual 73, 3), (49, 14, 0)) := by decide +kernel
theorem xr_78_87 : X_row 78 87 = some (87, (.invokevirtual 76, 3), (66, 16, 0)) := by decide +kernel
theorem xr_78_90 : X_row 78 90 = some (90, (.goto 10, 3), (0, 0, 0)) := by decide +kernel
theorem xr_78_93 : X_row 78 93 = some (93, (.aload_n 0, 1), (0, 0, 0)) := by decide +kernel
theorem xr_78_94 : X_row 78 94 = some (94, (.getfield 23, 3), (4, 0, 18)) := by decide +kernel
theorem xr_78_97 : X_row 78 97 = some (97, (.invokevirtual 80, 3), (52, 18, 0)) := by decide +kernel
theorem xr_78_100 : X_row 78 100 = some (100, (.aload_n 0, 1), (0, 0, 0)) := by decide +kernel
theorem xr_78_101 : X_row 78 101 = some (101, (.getfield 9, 3), (4, 2, 22)) := by decide +kernel
theorem xr_78_104 : X_row 78 104 = some (104, (.ifCond .ne 7, 3), (0, 0, 0)) := by decide +kernel
theorem xr_78_107 : X_row 78 107 = some (107, (.iconst 1, 1), (0, 0, 0)) := by decide +kernel
theorem xr_78_108 : X_row 78 108 = some (108, (.goto 4, 3), (0, 0, 0)) := by decide +kernel
theorem xr_78_111 : X_row 78 111 = some (111, (.iconst 0, 1), (0, 0, 0)) := by decide +kernel
theorem xr_78_112 : X_row 78 112 = some (112, (.ireturn, 1), (0, 0, 0)) := by decide +kernel
theorem xn_78 : X_nL 78 = 4 := by decide +kernel
theorem xf_78 : X_na 78 = 1 ∧ X_ci 78 = 4 ∧ X_rt 78 = (some .boolean) := by decide +kernel
theorem sp_step_r {n : Int} {so : Int → Int} {ct : Int → Int64} {c : Int} {d : Nat → Int → Int} {pile c2 p2 : Int} {d2 : Nat → Int → Int} (hp : 0 ≤ pile ∧ pile ≤ 16) (h : sp_step n so ct c d pile = some (c2, d2, p2)) : (0 ≤ p2 ∧ p2 ≤ 16) ∧ d2 5 0 = d 5 0 + 1 := by
  have key : ∀ c s v, sp_stF n c s v d pile = some (c2, d2, p2) → (0 ≤ p2 ∧ p2 ≤ 16) ∧ d2 5 0 = d 5 0 + 1 := by
    intro c s v h
    unfold sp_stF at h
    by_cases h1 : s = 64 ∧ (v < 1 ∨ d 4 0 < v)
    · rw [if_pos h1] at h; cases h
    · rw [if_neg h1] at h
      by_cases h2 : ¬ X_isOp s ∧ pile = 16
      · rw [if_pos h2] at h; cases h
      · rw [if_neg h2] at h
        by_cases h3 : X_isOp s ∧ pile < 2
        · rw [if_pos h3] at h; cases h
        · rw [if_neg h3] at h
          by_cases h4 : X_isOp s
          · rw [if_pos h4] at h
            cases h
            have : ¬ pile < 2 := fun z => h3 ⟨h4, z⟩
            exact ⟨by omega, rfl⟩
          · rw [if_neg h4] at h
            cases h
            have : ¬ pile = 16 := fun z => h2 ⟨h4, z⟩
            exact ⟨by omega, rfl⟩
  unfold sp_step at h
  repeat' split at h
  all_goals first | exact key _ _ _ h | cases h
/-- the steps up to a ; (or thirty of them), then the pile -/
noncomputable def sp_sl (n : Int) (so : Int → Int) (ct : Int → Int64) : Nat → Int → (Nat → Int → Int) → Int → Option (Int × (Nat → Int → Int) × Int)
  | 0, c, d, p => some (c, d, p)
  | k + 1, c, d, p => if so c = 59 then some (c, d, p) else (sp_step n so ct c d p).bind fun r => sp_sl n so ct k r.1 r.2.1 r.2.2
noncomputable def sp_steps (n : Int) (so : Int → Int) (ct : Int → Int64) (c : Int) (d : Nat → Int → Int) : Option (Int × (Nat → Int → Int)) :=
  (sp_sl n so ct 30 (X_av n c) (X_wu d 5 (fun _ => 0)) 0).bind fun r => if so r.1 = 59 then (if r.2.2 = 1 then some (X_av n r.1, r.2.1) else none) else none
theorem sp_sl_s {n : Int} {so : Int → Int} {ct : Int → Int64} {i c p : Int} {d : Nat → Int → Int} (h : 0 ≤ i ∧ i ≤ 29) : sp_sl n so ct (30 - i).toNat c d p = if so c = 59 then some (c, d, p) else (sp_step n so ct c d p).bind fun r => sp_sl n so ct (30 - (i + 1)).toNat r.1 r.2.1 r.2.2 := by
  rw [show (30 - i).toNat = (30 - (i + 1)).toNat + 1 by omega]
  rfl
theorem c_parseSteps (sc : X_Sc) (S : X_S) (B : Nat) (fl fp at_ n cur : Int) (so pl : Int → Int) (ct : Int → Int64) (rc kc wc : Int) (rn : Int → Int64) (lo : Int → Int) (kn : Int → Int64) (ab : Int → Int) (a : Nat) (d : Nat → Int → Int) (q : Int → Int64) (hB : 4 ≤ B ∧ B + 246 ≤ 496) (ha : B + 6 ≤ a ∧ a + 7 < B + 246) (hp : C_pa S B fl fp) (hx : C_lx S at_ n cur so pl ct) (hcu : 0 ≤ cur ∧ cur < n ∧ n ≤ 2001) (hso : ∀ i, 0 ≤ i → i < n → 0 ≤ so i ∧ so i ≤ 255) (hb : C_bk S B rc kc wc rn lo kn ab) (hw : C_wd S a d q) (hr : X_wr d) (hfl : fl = 0) : X_T sc 78 (0, [(0, .ref 496), (1, .ref a)], [], S) (fun v S' => (v = some (.int (iI 1)) ∧ ∃ c2 d2, sp_steps n so ct cur d = some (c2, d2) ∧ C_pa S' B fl fp ∧ S'.1 497 = .inr (3, [.ref 2, .int (iI at_), .int (iI n), .ref 498, .ref 499, .ref 500, .int (iI (c2))]) ∧ (0 ≤ c2 ∧ c2 < n) ∧ C_wd S' a d2 q ∧ X_wr d2 ∧ X_Fr (fun q => q = 496 ∨ q = 497 ∨ (a ≤ q ∧ q ≤ a + 7)) S S') ∨ (v = some (.int (iI 0)) ∧ sp_steps n so ct cur d = none ∧ (∃ fl' fp', (¬ fl' = 0 ∧ 0 ≤ fl' ∧ fl' ≤ 5) ∧ C_pa S' B fl' fp') ∧ (∃ c2, S'.1 497 = .inr (3, [.ref 2, .int (iI at_), .int (iI n), .ref 498, .ref 499, .ref 500, .int (iI (c2))]) ∧ (0 ≤ c2 ∧ c2 < n)) ∧ (∃ d2, C_wd S' a d2 q ∧ X_wr d2) ∧ X_Fr (fun q => q = 496 ∨ q = 497 ∨ (a ≤ q ∧ q ≤ a + 7)) S S')) := by
  obtain ⟨hb0, hb1, hb2, hb3, hb4, ⟨f, hb5, hf⟩, ⟨hrc, hrcb⟩, ⟨hkc, hkcb⟩, ⟨hwc, hwcb⟩⟩ := id hb
  obtain ⟨⟨hr0, hr0b⟩, ⟨hr1, hr1b⟩, ⟨hr2, hr2b⟩, ⟨hr3, hr3b⟩, ⟨hr4, hr4b⟩, ⟨hr5, hr5b⟩, ⟨hr6, hr6b⟩, ⟨hr7, hr7b⟩⟩ := id hr
  refine X_QI (fun Q hQ => ?_)
  refine T_p xr_78_0 xn_78 (pc' := 1) (ls' := [(0, .ref 496), (1, .ref a)]) (st' := [.int (iI 0)]) rfl ?_
  refine T_p xr_78_1 xn_78 (pc' := 2) (ls' := [(2, .int (iI 0)), (0, .ref 496), (1, .ref a)]) (st' := []) rfl ?_
  refine T_p xr_78_2 xn_78 (pc' := 3) (ls' := [(2, .int (iI 0)), (0, .ref 496), (1, .ref a)]) (st' := [.ref a]) rfl ?_
  refine T_p xr_78_3 xn_78 (pc' := 4) (ls' := [(2, .int (iI 0)), (0, .ref 496), (1, .ref a)]) (st' := [.int (iI 0), .ref a]) rfl ?_
  refine T_put xr_78_4 hw.1 rfl (Nat.le_of_ble_eq_true rfl) rfl (fs' := [.int (iI (d 0 0)), .int (iI (d 1 0)), .int (iI (d 2 0)), .int (iI (d 3 0)), .int (iI (d 4 0)), .int (iI 0), .int (iI (d 6 0)), .int (iI (d 7 0)), .ref (a + 1), .ref (a + 2), .ref (a + 3), .ref (a + 4), .ref (a + 5), .ref (a + 6), .ref (a + 7)]) rfl (pc' := 7) rfl (fun S2338 h2339 n2340 e2341 => ?_)
  have hr5z : X_wr (X_wu d 5 (fun _ => 0)) := X_wr_5 hr (by omega)
  refine T_p xr_78_7 xn_78 (pc' := 8) (ls' := [(2, .int (iI 0)), (0, .ref 496), (1, .ref a)]) (st' := [.ref 496]) rfl ?_
  have h2342 := (n2340 496 (by omega)).trans (hp)
  refine T_get xr_78_8 h2342 rfl (v := .ref 497) rfl (pc' := 11) rfl ?_
  have h2343 := (n2340 497 (by omega)).trans (hx.1)
  refine T_cv (S := S2338) (q := 497) xr_78_11 xf_52.1 xf_52.2.1 xn_52 (as := []) (r := []) rfl h2343 (Nat.le_of_ble_eq_true rfl) (Nat.le_of_ble_eq_true rfl) (pc' := 14) rfl (ls' := [(0, .ref 497)]) rfl ?_
  have h2344 := (n2340 498 (by omega)).trans (hx.2.1)
  have h2345 := (n2340 499 (by omega)).trans (hx.2.2.1)
  have h2346 := (n2340 500 (by omega)).trans (hx.2.2.2)
  refine T_mono (c_advance sc S2338 at_ n cur so pl ct ⟨h2343, h2344, h2345, h2346⟩ (by omega)) (fun v2348 S2349 h2347 => ?_)
  obtain ⟨h2350, h2352, h2351⟩ := h2347
  rw [h2350]
  show X_T sc 78 (14, [(2, .int (iI 0)), (0, .ref 496), (1, .ref a)], [], S2349) _
  have hv2353 := X_av_r (n := n) (c := cur) (by omega)
  refine T_p xr_78_14 xn_78 (pc' := 15) (ls' := [(2, .int (iI 0)), (0, .ref 496), (1, .ref a)]) (st' := [.int (iI 0)]) rfl ?_
  refine T_p xr_78_15 xn_78 (pc' := 16) (ls' := [(3, .int (iI 0)), (2, .int (iI 0)), (0, .ref 496), (1, .ref a)]) (st' := []) rfl ?_
  have h2359 := (h2351.1 496 (by first | decide | omega)).trans (h2342)
  have h2360 := (h2351.1 a (by omega)).trans (h2339)
  have h2361 := (h2351.1 (a + 1) (by omega)).trans ((n2340 (a + 1) (by first | exact (fun h => absurd (Nat.add_left_cancel h) (by decide)) | omega)).trans (hw.2.1))
  have h2362 := (h2351.1 (a + 2) (by omega)).trans ((n2340 (a + 2) (by first | exact (fun h => absurd (Nat.add_left_cancel h) (by decide)) | omega)).trans (hw.2.2.1))
  have h2363 := (h2351.1 (a + 3) (by omega)).trans ((n2340 (a + 3) (by first | exact (fun h => absurd (Nat.add_left_cancel h) (by decide)) | omega)).trans (hw.2.2.2.1))
  have h2364 := (h2351.1 (a + 4) (by omega)).trans ((n2340 (a + 4) (by first | exact (fun h => absurd (Nat.add_left_cancel h) (by decide)) | omega)).trans (hw.2.2.2.2.1))
  have h2365 := (h2351.1 (a + 5) (by omega)).trans ((n2340 (a + 5) (by first | exact (fun h => absurd (Nat.add_left_cancel h) (by decide)) | omega)).trans (hw.2.2.2.2.2.1))
  have h2366 := (h2351.1 (a + 6) (by omega)).trans ((n2340 (a + 6) (by first | exact (fun h => absurd (Nat.add_left_cancel h) (by decide)) | omega)).trans (hw.2.2.2.2.2.2.1))
  have h2367 := (h2351.1 (a + 7) (by omega)).trans ((n2340 (a + 7) (by first | exact (fun h => absurd (Nat.add_left_cancel h) (by decide)) | omega)).trans (hw.2.2.2.2.2.2.2))
  have L2354 : ∀ (m2356 : Nat) (S2368 : X_S) (i : Int) (c1 : Int) (d1 : Nat → Int → Int) (pile : Int) (hp1 : S2368.1 496 = .inr (4, [.ref 497, .ref B, .int (iI fl), .int (iI fp)])) (hx1 : S2368.1 497 = .inr (3, [.ref 2, .int (iI at_), .int (iI n), .ref 498, .ref 499, .ref 500, .int (iI c1)])) (hw0 : S2368.1 a = .inr (8, [.int (iI (d1 0 0)), .int (iI (d1 1 0)), .int (iI (d1 2 0)), .int (iI (d1 3 0)), .int (iI (d1 4 0)), .int (iI (d1 5 0)), .int (iI (d1 6 0)), .int (iI (d1 7 0)), .ref (a + 1), .ref (a + 2), .ref (a + 3), .ref (a + 4), .ref (a + 5), .ref (a + 6), .ref (a + 7)])) (hw1 : S2368.1 (a + 1) = .inl (.long, 8, .inr (.inl fun k : Nat => q (k : Int)))) (hw2 : S2368.1 (a + 2) = .inl (.int, 8, .inl fun k : Nat => iI ((d1 8) (k : Int)))) (hw3 : S2368.1 (a + 3) = .inl (.int, 4, .inl fun k : Nat => iI ((d1 9) (k : Int)))) (hw4 : S2368.1 (a + 4) = .inl (.int, 4, .inl fun k : Nat => iI ((d1 10) (k : Int)))) (hw5 : S2368.1 (a + 5) = .inl (.int, 4, .inl fun k : Nat => iI ((d1 11) (k : Int)))) (hw6 : S2368.1 (a + 6) = .inl (.int, 30, .inl fun k : Nat => iI ((d1 12) (k : Int)))) (hw7 : S2368.1 (a + 7) = .inl (.int, 30, .inl fun k : Nat => iI ((d1 13) (k : Int)))) (hF2358 : X_Fr (fun q => q = 496 ∨ q = 497 ∨ (a ≤ q ∧ q ≤ a + 7)) S2349 S2368) (hi : 0 ≤ i ∧ i ≤ 30) (hr1 : X_wr d1) (hc1 : 0 ≤ c1 ∧ c1 < n) (hpi : 0 ≤ pile ∧ pile ≤ 16) (h5 : d1 5 0 = i) (hR : sp_sl n so ct (30 - i).toNat c1 d1 pile = sp_sl n so ct 30 (X_av n cur) (X_wu d 5 (fun _ => 0)) 0) (hm2357 : 30 - i < m2356), X_T sc 78 (16, [(3, .int (iI i)), (2, .int (iI pile)), (0, .ref 496), (1, .ref a)], [], S2368) Q := by
    intro m2356
    induction m2356 with
    | zero =>
      intro S2368 i c1 d1 pile hp1 hx1 hw0 hw1 hw2 hw3 hw4 hw5 hw6 hw7 hF2358 hi hr1 hc1 hpi h5 hR hm2357
      exact (show False by omega).elim
    | succ m2356 ih2355 =>
      intro S2368 i c1 d1 pile hp1 hx1 hw0 hw1 hw2 hw3 hw4 hw5 hw6 hw7 hF2358 hi hr1 hc1 hpi h5 hR hm2357
      obtain ⟨⟨_, _⟩, ⟨_, _⟩, ⟨_, _⟩, ⟨_, _⟩, ⟨_, _⟩, ⟨_, _⟩, ⟨_, _⟩, ⟨_, _⟩⟩ := id hr1
      refine T_p xr_78_16 xn_78 (pc' := 17) (ls' := [(3, .int (iI i)), (2, .int (iI pile)), (0, .ref 496), (1, .ref a)]) (st' := [.int (iI i)]) rfl ?_
      refine T_p xr_78_17 xn_78 (pc' := 19) (ls' := [(3, .int (iI i)), (2, .int (iI pile)), (0, .ref 496), (1, .ref a)]) (st' := [.int (iI 30), .int (iI i)]) rfl ?_
      refine T_zicmp_ge xr_78_19 (t := 54) (pc' := 22) rfl rfl (fun c2369 => ?_) (fun c2369 => ?_)
      · skip
        have c2369 : 30 ≤ i := c2369
        refine T_p xr_78_54 xn_78 (pc' := 55) (ls' := [(3, .int (iI i)), (2, .int (iI pile)), (0, .ref 496), (1, .ref a)]) (st' := [.ref 496]) rfl ?_
        refine T_get xr_78_55 hp1 rfl (v := .ref 497) rfl (pc' := 58) rfl ?_
        refine T_cv (S := S2368) (q := 497) xr_78_58 xf_48.1 xf_48.2.1 xn_48 (as := []) (r := []) rfl hx1 (Nat.le_of_ble_eq_true rfl) (Nat.le_of_ble_eq_true rfl) (pc' := 61) rfl (ls' := [(0, .ref 497)]) rfl ?_
        have h2370 := (hF2358.1 498 (by first | decide | omega)).trans ((h2351.1 498 (by first | decide | omega)).trans (h2344))
        have h2371 := (hF2358.1 499 (by first | decide | omega)).trans ((h2351.1 499 (by first | decide | omega)).trans (h2345))
        have h2372 := (hF2358.1 500 (by first | decide | omega)).trans ((h2351.1 500 (by first | decide | omega)).trans (h2346))
        refine T_mono (c_sort sc S2368 at_ n c1 so pl ct ⟨hx1, h2370, h2371, h2372⟩ (by omega)) (fun v2374 S2375 h2373 => ?_)
        obtain ⟨h2376, h2377⟩ := h2373
        rw [h2376, h2377]
        show X_T sc 78 (61, [(3, .int (iI i)), (2, .int (iI pile)), (0, .ref 496), (1, .ref a)], [.int (iI (so c1))], S2368) _
        have hs2378 := hso c1 (by omega) (by omega)
        refine T_p xr_78_61 xn_78 (pc' := 63) (ls' := [(3, .int (iI i)), (2, .int (iI pile)), (0, .ref 496), (1, .ref a)]) (st' := [.int (iI 59), .int (iI (so c1))]) rfl ?_
        refine T_zicmp_eq xr_78_63 (t := 73) (pc' := 66) rfl rfl (fun c2379 => ?_) (fun c2379 => ?_)
        · skip
          have c2379 : (so c1) = 59 := c2379
          refine T_p xr_78_73 xn_78 (pc' := 74) (ls' := [(3, .int (iI i)), (2, .int (iI pile)), (0, .ref 496), (1, .ref a)]) (st' := [.int (iI pile)]) rfl ?_
          refine T_p xr_78_74 xn_78 (pc' := 75) (ls' := [(3, .int (iI i)), (2, .int (iI pile)), (0, .ref 496), (1, .ref a)]) (st' := [.int (iI 1), .int (iI pile)]) rfl ?_
          refine T_zicmp_eq xr_78_75 (t := 93) (pc' := 78) rfl rfl (fun c2380 => ?_) (fun c2380 => ?_)
          · skip
            have c2380 : pile = 1 := c2380
            refine T_p xr_78_93 xn_78 (pc' := 94) (ls' := [(3, .int (iI i)), (2, .int (iI pile)), (0, .ref 496), (1, .ref a)]) (st' := [.ref 496]) rfl ?_
            refine T_get xr_78_94 hp1 rfl (v := .ref 497) rfl (pc' := 97) rfl ?_
            refine T_cv (S := S2368) (q := 497) xr_78_97 xf_52.1 xf_52.2.1 xn_52 (as := []) (r := []) rfl hx1 (Nat.le_of_ble_eq_true rfl) (Nat.le_of_ble_eq_true rfl) (pc' := 100) rfl (ls' := [(0, .ref 497)]) rfl ?_
            refine T_mono (c_advance sc S2368 at_ n c1 so pl ct ⟨hx1, h2370, h2371, h2372⟩ (by omega)) (fun v2382 S2383 h2381 => ?_)
            obtain ⟨h2384, h2386, h2385⟩ := h2381
            rw [h2384]
            show X_T sc 78 (100, [(3, .int (iI i)), (2, .int (iI pile)), (0, .ref 496), (1, .ref a)], [], S2383) _
            have hv2387 := X_av_r (n := n) (c := c1) (by omega)
            refine T_p xr_78_100 xn_78 (pc' := 101) (ls' := [(3, .int (iI i)), (2, .int (iI pile)), (0, .ref 496), (1, .ref a)]) (st' := [.ref 496]) rfl ?_
            have h2388 := (h2385.1 496 (by first | decide | omega)).trans (hp1)
            refine T_get xr_78_101 h2388 rfl (v := .int (iI fl)) rfl (pc' := 104) rfl ?_
            refine T_zif_ne xr_78_104 (t := 111) (pc' := 107) rfl rfl (fun c2389 => ?_) (fun c2389 => ?_)
            · skip
              have c2389 : ¬ fl = 0 := c2389
              exact (show False by first | contradiction | omega).elim
            · skip
              have c2389 : ¬ (¬ fl = 0) := c2389
              refine T_p xr_78_107 xn_78 (pc' := 108) (ls' := [(3, .int (iI i)), (2, .int (iI pile)), (0, .ref 496), (1, .ref a)]) (st' := [.int (iI 1)]) rfl ?_
              refine T_p xr_78_108 xn_78 (pc' := 112) (ls' := [(3, .int (iI i)), (2, .int (iI pile)), (0, .ref 496), (1, .ref a)]) (st' := [.int (iI 1)]) rfl ?_
              refine T_iret xr_78_112 xf_78.2.2 (by decide) ?_
              refine hQ _ _ ?_
              have h2390 := (h2385.1 a (by omega)).trans (hw0)
              have h2391 := (h2385.1 (a + 1) (by omega)).trans (hw1)
              have h2392 := (h2385.1 (a + 2) (by omega)).trans (hw2)
              have h2393 := (h2385.1 (a + 3) (by omega)).trans (hw3)
              have h2394 := (h2385.1 (a + 4) (by omega)).trans (hw4)
              have h2395 := (h2385.1 (a + 5) (by omega)).trans (hw5)
              have h2396 := (h2385.1 (a + 6) (by omega)).trans (hw6)
              have h2397 := (h2385.1 (a + 7) (by omega)).trans (hw7)
              refine Or.inl ⟨rfl, X_av n c1, d1, ?_, h2388, h2386, by omega, ⟨h2390, h2391, h2392, h2393, h2394, h2395, h2396, h2397⟩, hr1, ((((X_Fr.rf).tr (X_Fr.of n2340 e2341 (by first | decide | exact ⟨Nat.le_add_right _ _, Nat.add_le_add_left (by decide) _⟩ | omega))).tr (X_Fr.mono ⟨h2351.1, h2351.2⟩ (fun q hq => (by omega)))).tr (X_Fr.mono ⟨hF2358.1, hF2358.2⟩ (fun q hq => (by omega)))).tr (X_Fr.mono ⟨h2385.1, h2385.2⟩ (fun q hq => (by omega)))⟩
              unfold sp_steps
              rw [← hR]
              first
                | (rw [sp_sl_s (i := i) (by omega), if_neg (by assumption), if_pos rfl]; rfl)
                | (rw [sp_sl_s (i := i) (by omega), if_pos (by omega)]
                   show (if _ then _ else _) = _
                   (repeat (first | rw [if_pos (by assumption)] | rw [if_neg (by assumption)] | rw [if_pos (by omega)] | rw [if_neg (by omega)])))
                | (rw [show (30 - i).toNat = 0 by omega]
                   show (if _ then _ else _) = _
                   (repeat (first | rw [if_pos (by assumption)] | rw [if_neg (by assumption)] | rw [if_pos (by omega)] | rw [if_neg (by omega)])))
          · skip
            have c2380 : ¬ (pile = 1) := c2380
            refine T_p xr_78_78 xn_78 (pc' := 79) (ls' := [(3, .int (iI i)), (2, .int (iI pile)), (0, .ref 496), (1, .ref a)]) (st' := [.ref 496]) rfl ?_
            refine T_p xr_78_79 xn_78 (pc' := 80) (ls' := [(3, .int (iI i)), (2, .int (iI pile)), (0, .ref 496), (1, .ref a)]) (st' := [.int (iI 5), .ref 496]) rfl ?_
            refine T_p xr_78_80 xn_78 (pc' := 81) (ls' := [(3, .int (iI i)), (2, .int (iI pile)), (0, .ref 496), (1, .ref a)]) (st' := [.ref 496, .int (iI 5), .ref 496]) rfl ?_
            refine T_get xr_78_81 hp1 rfl (v := .ref 497) rfl (pc' := 84) rfl ?_
            refine T_cv (S := S2368) (q := 497) xr_78_84 xf_49.1 xf_49.2.1 xn_49 (as := []) (r := [.int (iI 5), .ref 496]) rfl hx1 (Nat.le_of_ble_eq_true rfl) (Nat.le_of_ble_eq_true rfl) (pc' := 87) rfl (ls' := [(0, .ref 497)]) rfl ?_
            refine T_mono (c_place sc S2368 at_ n c1 so pl ct ⟨hx1, h2370, h2371, h2372⟩ (by omega)) (fun v2399 S2400 h2398 => ?_)
            obtain ⟨h2401, h2402⟩ := h2398
            rw [h2401, h2402]
            show X_T sc 78 (87, [(3, .int (iI i)), (2, .int (iI pile)), (0, .ref 496), (1, .ref a)], [.int (iI (pl c1)), .int (iI 5), .ref 496], S2368) _
            refine T_cv (S := S2368) (q := 496) xr_78_87 xf_66.1 xf_66.2.1 xn_66 (as := [.int (iI 5), .int (iI (pl c1))]) (r := []) rfl hp1 (Nat.le_of_ble_eq_true rfl) (Nat.le_of_ble_eq_true rfl) (pc' := 90) rfl (ls' := [(0, .ref 496), (1, .int (iI 5)), (2, .int (iI (pl c1)))]) rfl ?_
            refine T_p xr_66_0 xn_66 (pc' := 1) (ls' := [(0, .ref 496), (1, .int (iI 5)), (2, .int (iI (pl c1)))]) (st' := [.ref 496]) rfl ?_
            refine T_p xr_66_1 xn_66 (pc' := 2) (ls' := [(0, .ref 496), (1, .int (iI 5)), (2, .int (iI (pl c1)))]) (st' := [.int (iI 5), .ref 496]) rfl ?_
            refine T_put xr_66_2 hp1 rfl (Nat.le_of_ble_eq_true rfl) rfl (fs' := [.ref 497, .ref B, .int (iI 5), .int (iI fp)]) rfl (pc' := 5) rfl (fun S2403 h2404 n2405 e2406 => ?_)
            refine T_p xr_66_5 xn_66 (pc' := 6) (ls' := [(0, .ref 496), (1, .int (iI 5)), (2, .int (iI (pl c1)))]) (st' := [.ref 496]) rfl ?_
            refine T_p xr_66_6 xn_66 (pc' := 7) (ls' := [(0, .ref 496), (1, .int (iI 5)), (2, .int (iI (pl c1)))]) (st' := [.int (iI (pl c1)), .ref 496]) rfl ?_
            refine T_put xr_66_7 h2404 rfl (Nat.le_of_ble_eq_true rfl) rfl (fs' := [.ref 497, .ref B, .int (iI 5), .int (iI (pl c1))]) rfl (pc' := 10) rfl (fun S2407 h2408 n2409 e2410 => ?_)
            refine T_vret xr_66_10 xf_66.2.2 ?_
            show X_T sc 78 (90, [(3, .int (iI i)), (2, .int (iI pile)), (0, .ref 496), (1, .ref a)], [], S2407) _
            refine T_p xr_78_90 xn_78 (pc' := 100) (ls' := [(3, .int (iI i)), (2, .int (iI pile)), (0, .ref 496), (1, .ref a)]) (st' := []) rfl ?_
            refine T_p xr_78_100 xn_78 (pc' := 101) (ls' := [(3, .int (iI i)), (2, .int (iI pile)), (0, .ref 496), (1, .ref a)]) (st' := [.ref 496]) rfl ?_
            refine T_get xr_78_101 h2408 rfl (v := .int (iI 5)) rfl (pc' := 104) rfl ?_
            refine T_zif_net xr_78_104 (t := 111) rfl (by decide) ?_
            refine T_p xr_78_111 xn_78 (pc' := 112) (ls' := [(3, .int (iI i)), (2, .int (iI pile)), (0, .ref 496), (1, .ref a)]) (st' := [.int (iI 0)]) rfl ?_
            refine T_iret xr_78_112 xf_78.2.2 (by decide) ?_
            refine hQ _ _ ?_
            have h2411 := (n2409 497 (by decide)).trans ((n2405 497 (by decide)).trans (hx1))
            have h2412 := (n2409 a (by omega)).trans ((n2405 a (by omega)).trans (hw0))
            have h2413 := (n2409 (a + 1) (by first | exact (fun h => absurd (Nat.add_left_cancel h) (by decide)) | omega)).trans ((n2405 (a + 1) (by first | exact (fun h => absurd (Nat.add_left_cancel h) (by decide)) | omega)).trans (hw1))
            have h2414 := (n2409 (a + 2) (by first | exact (fun h => absurd (Nat.add_left_cancel h) (by decide)) | omega)).trans ((n2405 (a + 2) (by first | exact (fun h => absurd (Nat.add_left_cancel h) (by decide)) | omega)).trans (hw2))
            have h2415 := (n2409 (a + 3) (by first | exact (fun h => absurd (Nat.add_left_cancel h) (by decide)) | omega)).trans ((n2405 (a + 3) (by first | exact (fun h => absurd (Nat.add_left_cancel h) (by decide)) | omega)).trans (hw3))
            have h2416 := (n2409 (a + 4) (by first | exact (fun h => absurd (Nat.add_left_cancel h) (by decide)) | omega)).trans ((n2405 (a + 4) (by first | exact (fun h => absurd (Nat.add_left_cancel h) (by decide)) | omega)).trans (hw4))
            have h2417 := (n2409 (a + 5) (by first | exact (fun h => absurd (Nat.add_left_cancel h) (by decide)) | omega)).trans ((n2405 (a + 5) (by first | exact (fun h => absurd (Nat.add_left_cancel h) (by decide)) | omega)).trans (hw5))
            have h2418 := (n2409 (a + 6) (by first | exact (fun h => absurd (Nat.add_left_cancel h) (by decide)) | omega)).trans ((n2405 (a + 6) (by first | exact (fun h => absurd (Nat.add_left_cancel h) (by decide)) | omega)).trans (hw6))
            have h2419 := (n2409 (a + 7) (by first | exact (fun h => absurd (Nat.add_left_cancel h) (by decide)) | omega)).trans ((n2405 (a + 7) (by first | exact (fun h => absurd (Nat.add_left_cancel h) (by decide)) | omega)).trans (hw7))
            refine Or.inr ⟨rfl, ?_, ⟨_, _, by omega, h2408⟩, ⟨c1, h2411, by omega⟩, ⟨d1, ⟨h2412, h2413, h2414, h2415, h2416, h2417, h2418, h2419⟩, hr1⟩, (((((X_Fr.rf).tr (X_Fr.of n2340 e2341 (by first | decide | exact ⟨Nat.le_add_right _ _, Nat.add_le_add_left (by decide) _⟩ | omega))).tr (X_Fr.mono ⟨h2351.1, h2351.2⟩ (fun q hq => (by omega)))).tr (X_Fr.mono ⟨hF2358.1, hF2358.2⟩ (fun q hq => (by omega)))).tr (X_Fr.of n2405 e2406 (by first | decide | exact ⟨Nat.le_add_right _ _, Nat.add_le_add_left (by decide) _⟩ | omega))).tr (X_Fr.of n2409 e2410 (by first | decide | exact ⟨Nat.le_add_right _ _, Nat.add_le_add_left (by decide) _⟩ | omega))⟩
            unfold sp_steps
            rw [← hR]
            first
              | (rw [sp_sl_s (i := i) (by omega), if_neg (by assumption), if_pos rfl]; rfl)
              | (rw [sp_sl_s (i := i) (by omega), if_pos (by omega)]
                 show (if _ then _ else _) = _
                 (repeat (first | rw [if_pos (by assumption)] | rw [if_neg (by assumption)] | rw [if_pos (by omega)] | rw [if_neg (by omega)])))
              | (rw [show (30 - i).toNat = 0 by omega]
                 show (if _ then _ else _) = _
                 (repeat (first | rw [if_pos (by assumption)] | rw [if_neg (by assumption)] | rw [if_pos (by omega)] | rw [if_neg (by omega)])))
        · skip
          have c2379 : ¬ ((so c1) = 59) := c2379
          refine T_p xr_78_66 xn_78 (pc' := 67) (ls' := [(3, .int (iI i)), (2, .int (iI pile)), (0, .ref 496), (1, .ref a)]) (st' := [.ref 496]) rfl ?_
          refine T_cv (S := S2368) (q := 496) xr_78_67 xf_67.1 xf_67.2.1 xn_67 (as := []) (r := []) rfl hp1 (Nat.le_of_ble_eq_true rfl) (Nat.le_of_ble_eq_true rfl) (pc' := 70) rfl (ls' := [(0, .ref 496)]) rfl ?_
          refine T_mono (c_refuse sc S2368 B fl fp at_ n c1 so pl ct hp1 ⟨hx1, h2370, h2371, h2372⟩ (by omega) hso) (fun v2420 S2421 h2422 => ?_)
          obtain ⟨h2423, ⟨fl2424, fp2425, hn2426, hp2427⟩, hf2428⟩ := h2422
          rw [h2423]
          show X_T sc 78 (70, [(3, .int (iI i)), (2, .int (iI pile)), (0, .ref 496), (1, .ref a)], [], S2421) _
          refine T_p xr_78_70 xn_78 (pc' := 100) (ls' := [(3, .int (iI i)), (2, .int (iI pile)), (0, .ref 496), (1, .ref a)]) (st' := []) rfl ?_
          refine T_p xr_78_100 xn_78 (pc' := 101) (ls' := [(3, .int (iI i)), (2, .int (iI pile)), (0, .ref 496), (1, .ref a)]) (st' := [.ref 496]) rfl ?_
          refine T_get xr_78_101 hp2427 rfl (v := .int (iI fl2424)) rfl (pc' := 104) rfl ?_
          refine T_zif_ne xr_78_104 (t := 111) (pc' := 107) rfl rfl (fun c2429 => ?_) (fun c2429 => ?_)
          · skip
            have c2429 : ¬ fl2424 = 0 := c2429
            refine T_p xr_78_111 xn_78 (pc' := 112) (ls' := [(3, .int (iI i)), (2, .int (iI pile)), (0, .ref 496), (1, .ref a)]) (st' := [.int (iI 0)]) rfl ?_
            refine T_iret xr_78_112 xf_78.2.2 (by decide) ?_
            refine hQ _ _ ?_
            have h2430 := (hf2428.1 497 (by first | decide | omega)).trans (hx1)
            have h2431 := (hf2428.1 a (by omega)).trans (hw0)
            have h2432 := (hf2428.1 (a + 1) (by omega)).trans (hw1)
            have h2433 := (hf2428.1 (a + 2) (by omega)).trans (hw2)
            have h2434 := (hf2428.1 (a + 3) (by omega)).trans (hw3)
            have h2435 := (hf2428.1 (a + 4) (by omega)).trans (hw4)
            have h2436 := (hf2428.1 (a + 5) (by omega)).trans (hw5)
            have h2437 := (hf2428.1 (a + 6) (by omega)).trans (hw6)
            have h2438 := (hf2428.1 (a + 7) (by omega)).trans (hw7)
            refine Or.inr ⟨rfl, ?_, ⟨_, _, by omega, hp2427⟩, ⟨c1, h2430, by omega⟩, ⟨d1, ⟨h2431, h2432, h2433, h2434, h2435, h2436, h2437, h2438⟩, hr1⟩, ((((X_Fr.rf).tr (X_Fr.of n2340 e2341 (by first | decide | exact ⟨Nat.le_add_right _ _, Nat.add_le_add_left (by decide) _⟩ | omega))).tr (X_Fr.mono ⟨h2351.1, h2351.2⟩ (fun q hq => (by omega)))).tr (X_Fr.mono ⟨hF2358.1, hF2358.2⟩ (fun q hq => (by omega)))).tr (X_Fr.mono ⟨hf2428.1, hf2428.2⟩ (fun q hq => (by omega)))⟩
            unfold sp_steps
            rw [← hR]
            first
              | (rw [sp_sl_s (i := i) (by omega), if_neg (by assumption), if_pos rfl]; rfl)
              | (rw [sp_sl_s (i := i) (by omega), if_pos (by omega)]
                 show (if _ then _ else _) = _
                 (repeat (first | rw [if_pos (by assumption)] | rw [if_neg (by assumption)] | rw [if_pos (by omega)] | rw [if_neg (by omega)])))
              | (rw [show (30 - i).toNat = 0 by omega]
                 show (if _ then _ else _) = _
                 (repeat (first | rw [if_pos (by assumption)] | rw [if_neg (by assumption)] | rw [if_pos (by omega)] | rw [if_neg (by omega)])))
          · skip
            have c2429 : ¬ (¬ fl2424 = 0) := c2429
            exact (show False by first | contradiction | omega).elim
      · skip
        have c2369 : ¬ (30 ≤ i) := c2369
        refine T_p xr_78_22 xn_78 (pc' := 23) (ls' := [(3, .int (iI i)), (2, .int (iI pile)), (0, .ref 496), (1, .ref a)]) (st' := [.ref 496]) rfl ?_
        refine T_get xr_78_23 hp1 rfl (v := .ref 497) rfl (pc' := 26) rfl ?_
        refine T_cv (S := S2368) (q := 497) xr_78_26 xf_48.1 xf_48.2.1 xn_48 (as := []) (r := []) rfl hx1 (Nat.le_of_ble_eq_true rfl) (Nat.le_of_ble_eq_true rfl) (pc' := 29) rfl (ls' := [(0, .ref 497)]) rfl ?_
        have h2439 := (hF2358.1 498 (by first | decide | omega)).trans ((h2351.1 498 (by first | decide | omega)).trans (h2344))
        have h2440 := (hF2358.1 499 (by first | decide | omega)).trans ((h2351.1 499 (by first | decide | omega)).trans (h2345))
        have h2441 := (hF2358.1 500 (by first | decide | omega)).trans ((h2351.1 500 (by first | decide | omega)).trans (h2346))
        refine T_mono (c_sort sc S2368 at_ n c1 so pl ct ⟨hx1, h2439, h2440, h2441⟩ (by omega)) (fun v2443 S2444 h2442 => ?_)
        obtain ⟨h2445, h2446⟩ := h2442
        rw [h2445, h2446]
        show X_T sc 78 (29, [(3, .int (iI i)), (2, .int (iI pile)), (0, .ref 496), (1, .ref a)], [.int (iI (so c1))], S2368) _
        have hs2447 := hso c1 (by omega) (by omega)
        refine T_p xr_78_29 xn_78 (pc' := 31) (ls' := [(3, .int (iI i)), (2, .int (iI pile)), (0, .ref 496), (1, .ref a)]) (st' := [.int (iI 59), .int (iI (so c1))]) rfl ?_
        refine T_zicmp_eq xr_78_31 (t := 54) (pc' := 34) rfl rfl (fun c2448 => ?_) (fun c2448 => ?_)
        · skip
          have c2448 : (so c1) = 59 := c2448
          refine T_p xr_78_54 xn_78 (pc' := 55) (ls' := [(3, .int (iI i)), (2, .int (iI pile)), (0, .ref 496), (1, .ref a)]) (st' := [.ref 496]) rfl ?_
          refine T_get xr_78_55 hp1 rfl (v := .ref 497) rfl (pc' := 58) rfl ?_
          refine T_cv (S := S2368) (q := 497) xr_78_58 xf_48.1 xf_48.2.1 xn_48 (as := []) (r := []) rfl hx1 (Nat.le_of_ble_eq_true rfl) (Nat.le_of_ble_eq_true rfl) (pc' := 61) rfl (ls' := [(0, .ref 497)]) rfl ?_
          refine T_mono (c_sort sc S2368 at_ n c1 so pl ct ⟨hx1, h2439, h2440, h2441⟩ (by omega)) (fun v2450 S2451 h2449 => ?_)
          obtain ⟨h2452, h2453⟩ := h2449
          rw [h2452, h2453]
          show X_T sc 78 (61, [(3, .int (iI i)), (2, .int (iI pile)), (0, .ref 496), (1, .ref a)], [.int (iI (so c1))], S2368) _
          have hs2454 := hso c1 (by omega) (by omega)
          refine T_p xr_78_61 xn_78 (pc' := 63) (ls' := [(3, .int (iI i)), (2, .int (iI pile)), (0, .ref 496), (1, .ref a)]) (st' := [.int (iI 59), .int (iI (so c1))]) rfl ?_
          refine T_zicmp_eq xr_78_63 (t := 73) (pc' := 66) rfl rfl (fun c2455 => ?_) (fun c2455 => ?_)
          · skip
            have c2455 : (so c1) = 59 := c2455
            refine T_p xr_78_73 xn_78 (pc' := 74) (ls' := [(3, .int (iI i)), (2, .int (iI pile)), (0, .ref 496), (1, .ref a)]) (st' := [.int (iI pile)]) rfl ?_
            refine T_p xr_78_74 xn_78 (pc' := 75) (ls' := [(3, .int (iI i)), (2, .int (iI pile)), (0, .ref 496), (1, .ref a)]) (st' := [.int (iI 1), .int (iI pile)]) rfl ?_
            refine T_zicmp_eq xr_78_75 (t := 93) (pc' := 78) rfl rfl (fun c2456 => ?_) (fun c2456 => ?_)
            · skip
              have c2456 : pile = 1 := c2456
              refine T_p xr_78_93 xn_78 (pc' := 94) (ls' := [(3, .int (iI i)), (2, .int (iI pile)), (0, .ref 496), (1, .ref a)]) (st' := [.ref 496]) rfl ?_
              refine T_get xr_78_94 hp1 rfl (v := .ref 497) rfl (pc' := 97) rfl ?_
              refine T_cv (S := S2368) (q := 497) xr_78_97 xf_52.1 xf_52.2.1 xn_52 (as := []) (r := []) rfl hx1 (Nat.le_of_ble_eq_true rfl) (Nat.le_of_ble_eq_true rfl) (pc' := 100) rfl (ls' := [(0, .ref 497)]) rfl ?_
              refine T_mono (c_advance sc S2368 at_ n c1 so pl ct ⟨hx1, h2439, h2440, h2441⟩ (by omega)) (fun v2458 S2459 h2457 => ?_)
              obtain ⟨h2460, h2462, h2461⟩ := h2457
              rw [h2460]
              show X_T sc 78 (100, [(3, .int (iI i)), (2, .int (iI pile)), (0, .ref 496), (1, .ref a)], [], S2459) _
              have hv2463 := X_av_r (n := n) (c := c1) (by omega)
              refine T_p xr_78_100 xn_78 (pc' := 101) (ls' := [(3, .int (iI i)), (2, .int (iI pile)), (0, .ref 496), (1, .ref a)]) (st' := [.ref 496]) rfl ?_
              have h2464 := (h2461.1 496 (by first | decide | omega)).trans (hp1)
              refine T_get xr_78_101 h2464 rfl (v := .int (iI fl)) rfl (pc' := 104) rfl ?_
              refine T_zif_ne xr_78_104 (t := 111) (pc' := 107) rfl rfl (fun c2465 => ?_) (fun c2465 => ?_)
              · skip
                have c2465 : ¬ fl = 0 := c2465
                exact (show False by first | contradiction | omega).elim
              · skip
                have c2465 : ¬ (¬ fl = 0) := c2465
                refine T_p xr_78_107 xn_78 (pc' := 108) (ls' := [(3, .int (iI i)), (2, .int (iI pile)), (0, .ref 496), (1, .ref a)]) (st' := [.int (iI 1)]) rfl ?_
                refine T_p xr_78_108 xn_78 (pc' := 112) (ls' := [(3, .int (iI i)), (2, .int (iI pile)), (0, .ref 496), (1, .ref a)]) (st' := [.int (iI 1)]) rfl ?_
                refine T_iret xr_78_112 xf_78.2.2 (by decide) ?_
                refine hQ _ _ ?_
                have h2466 := (h2461.1 a (by omega)).trans (hw0)
                have h2467 := (h2461.1 (a + 1) (by omega)).trans (hw1)
                have h2468 := (h2461.1 (a + 2) (by omega)).trans (hw2)
                have h2469 := (h2461.1 (a + 3) (by omega)).trans (hw3)
                have h2470 := (h2461.1 (a + 4) (by omega)).trans (hw4)
                have h2471 := (h2461.1 (a + 5) (by omega)).trans (hw5)
                have h2472 := (h2461.1 (a + 6) (by omega)).trans (hw6)
                have h2473 := (h2461.1 (a + 7) (by omega)).trans (hw7)
                refine Or.inl ⟨rfl, X_av n c1, d1, ?_, h2464, h2462, by omega, ⟨h2466, h2467, h2468, h2469, h2470, h2471, h2472, h2473⟩, hr1, ((((X_Fr.rf).tr (X_Fr.of n2340 e2341 (by first | decide | exact ⟨Nat.le_add_right _ _, Nat.add_le_add_left (by decide) _⟩ | omega))).tr (X_Fr.mono ⟨h2351.1, h2351.2⟩ (fun q hq => (by omega)))).tr (X_Fr.mono ⟨hF2358.1, hF2358.2⟩ (fun q hq => (by omega)))).tr (X_Fr.mono ⟨h2461.1, h2461.2⟩ (fun q hq => (by omega)))⟩
                unfold sp_steps
                rw [← hR]
                first
                  | (rw [sp_sl_s (i := i) (by omega), if_neg (by assumption), if_pos rfl]; rfl)
                  | (rw [sp_sl_s (i := i) (by omega), if_pos (by omega)]
                     show (if _ then _ else _) = _
                     (repeat (first | rw [if_pos (by assumption)] | rw [if_neg (by assumption)] | rw [if_pos (by omega)] | rw [if_neg (by omega)])))
                  | (rw [show (30 - i).toNat = 0 by omega]
                     show (if _ then _ else _) = _
                     (repeat (first | rw [if_pos (by assumption)] | rw [if_neg (by assumption)] | rw [if_pos (by omega)] | rw [if_neg (by omega)])))
            · skip
              have c2456 : ¬ (pile = 1) := c2456
              refine T_p xr_78_78 xn_78 (pc' := 79) (ls' := [(3, .int (iI i)), (2, .int (iI pile)), (0, .ref 496), (1, .ref a)]) (st' := [.ref 496]) rfl ?_
              refine T_p xr_78_79 xn_78 (pc' := 80) (ls' := [(3, .int (iI i)), (2, .int (iI pile)), (0, .ref 496), (1, .ref a)]) (st' := [.int (iI 5), .ref 496]) rfl ?_
              refine T_p xr_78_80 xn_78 (pc' := 81) (ls' := [(3, .int (iI i)), (2, .int (iI pile)), (0, .ref 496), (1, .ref a)]) (st' := [.ref 496, .int (iI 5), .ref 496]) rfl ?_
              refine T_get xr_78_81 hp1 rfl (v := .ref 497) rfl (pc' := 84) rfl ?_
              refine T_cv (S := S2368) (q := 497) xr_78_84 xf_49.1 xf_49.2.1 xn_49 (as := []) (r := [.int (iI 5), .ref 496]) rfl hx1 (Nat.le_of_ble_eq_true rfl) (Nat.le_of_ble_eq_true rfl) (pc' := 87) rfl (ls' := [(0, .ref 497)]) rfl ?_
              refine T_mono (c_place sc S2368 at_ n c1 so pl ct ⟨hx1, h2439, h2440, h2441⟩ (by omega)) (fun v2475 S2476 h2474 => ?_)
              obtain ⟨h2477, h2478⟩ := h2474
              rw [h2477, h2478]
              show X_T sc 78 (87, [(3, .int (iI i)), (2, .int (iI pile)), (0, .ref 496), (1, .ref a)], [.int (iI (pl c1)), .int (iI 5), .ref 496], S2368) _
              refine T_cv (S := S2368) (q := 496) xr_78_87 xf_66.1 xf_66.2.1 xn_66 (as := [.int (iI 5), .int (iI (pl c1))]) (r := []) rfl hp1 (Nat.le_of_ble_eq_true rfl) (Nat.le_of_ble_eq_true rfl) (pc' := 90) rfl (ls' := [(0, .ref 496), (1, .int (iI 5)), (2, .int (iI (pl c1)))]) rfl ?_
              refine T_p xr_66_0 xn_66 (pc' := 1) (ls' := [(0, .ref 496), (1, .int (iI 5)), (2, .int (iI (pl c1)))]) (st' := [.ref 496]) rfl ?_
              refine T_p xr_66_1 xn_66 (pc' := 2) (ls' := [(0, .ref 496), (1, .int (iI 5)), (2, .int (iI (pl c1)))]) (st' := [.int (iI 5), .ref 496]) rfl ?_
              refine T_put xr_66_2 hp1 rfl (Nat.le_of_ble_eq_true rfl) rfl (fs' := [.ref 497, .ref B, .int (iI 5), .int (iI fp)]) rfl (pc' := 5) rfl (fun S2479 h2480 n2481 e2482 => ?_)
              refine T_p xr_66_5 xn_66 (pc' := 6) (ls' := [(0, .ref 496), (1, .int (iI 5)), (2, .int (iI (pl c1)))]) (st' := [.ref 496]) rfl ?_
              refine T_p xr_66_6 xn_66 (pc' := 7) (ls' := [(0, .ref 496), (1, .int (iI 5)), (2, .int (iI (pl c1)))]) (st' := [.int (iI (pl c1)), .ref 496]) rfl ?_
              refine T_put xr_66_7 h2480 rfl (Nat.le_of_ble_eq_true rfl) rfl (fs' := [.ref 497, .ref B, .int (iI 5), .int (iI (pl c1))]) rfl (pc' := 10) rfl (fun S2483 h2484 n2485 e2486 => ?_)
              refine T_vret xr_66_10 xf_66.2.2 ?_
              show X_T sc 78 (90, [(3, .int (iI i)), (2, .int (iI pile)), (0, .ref 496), (1, .ref a)], [], S2483) _
              refine T_p xr_78_90 xn_78 (pc' := 100) (ls' := [(3, .int (iI i)), (2, .int (iI pile)), (0, .ref 496), (1, .ref a)]) (st' := []) rfl ?_
              refine T_p xr_78_100 xn_78 (pc' := 101) (ls' := [(3, .int (iI i)), (2, .int (iI pile)), (0, .ref 496), (1, .ref a)]) (st' := [.ref 496]) rfl ?_
              refine T_get xr_78_101 h2484 rfl (v := .int (iI 5)) rfl (pc' := 104) rfl ?_
              refine T_zif_net xr_78_104 (t := 111) rfl (by decide) ?_
              refine T_p xr_78_111 xn_78 (pc' := 112) (ls' := [(3, .int (iI i)), (2, .int (iI pile)), (0, .ref 496), (1, .ref a)]) (st' := [.int (iI 0)]) rfl ?_
              refine T_iret xr_78_112 xf_78.2.2 (by decide) ?_
              refine hQ _ _ ?_
              have h2487 := (n2485 497 (by decide)).trans ((n2481 497 (by decide)).trans (hx1))
              have h2488 := (n2485 a (by omega)).trans ((n2481 a (by omega)).trans (hw0))
              have h2489 := (n2485 (a + 1) (by first | exact (fun h => absurd (Nat.add_left_cancel h) (by decide)) | omega)).trans ((n2481 (a + 1) (by first | exact (fun h => absurd (Nat.add_left_cancel h) (by decide)) | omega)).trans (hw1))
              have h2490 := (n2485 (a + 2) (by first | exact (fun h => absurd (Nat.add_left_cancel h) (by decide)) | omega)).trans ((n2481 (a + 2) (by first | exact (fun h => absurd (Nat.add_left_cancel h) (by decide)) | omega)).trans (hw2))
              have h2491 := (n2485 (a + 3) (by first | exact (fun h => absurd (Nat.add_left_cancel h) (by decide)) | omega)).trans ((n2481 (a + 3) (by first | exact (fun h => absurd (Nat.add_left_cancel h) (by decide)) | omega)).trans (hw3))
              have h2492 := (n2485 (a + 4) (by first | exact (fun h => absurd (Nat.add_left_cancel h) (by decide)) | omega)).trans ((n2481 (a + 4) (by first | exact (fun h => absurd (Nat.add_left_cancel h) (by decide)) | omega)).trans (hw4))
              have h2493 := (n2485 (a + 5) (by first | exact (fun h => absurd (Nat.add_left_cancel h) (by decide)) | omega)).trans ((n2481 (a + 5) (by first | exact (fun h => absurd (Nat.add_left_cancel h) (by decide)) | omega)).trans (hw5))
              have h2494 := (n2485 (a + 6) (by first | exact (fun h => absurd (Nat.add_left_cancel h) (by decide)) | omega)).trans ((n2481 (a + 6) (by first | exact (fun h => absurd (Nat.add_left_cancel h) (by decide)) | omega)).trans (hw6))
              have h2495 := (n2485 (a + 7) (by first | exact (fun h => absurd (Nat.add_left_cancel h) (by decide)) | omega)).trans ((n2481 (a + 7) (by first | exact (fun h => absurd (Nat.add_left_cancel h) (by decide)) | omega)).trans (hw7))
              refine Or.inr ⟨rfl, ?_, ⟨_, _, by omega, h2484⟩, ⟨c1, h2487, by omega⟩, ⟨d1, ⟨h2488, h2489, h2490, h2491, h2492, h2493, h2494, h2495⟩, hr1⟩, (((((X_Fr.rf).tr (X_Fr.of n2340 e2341 (by first | decide | exact ⟨Nat.le_add_right _ _, Nat.add_le_add_left (by decide) _⟩ | omega))).tr (X_Fr.mono ⟨h2351.1, h2351.2⟩ (fun q hq => (by omega)))).tr (X_Fr.mono ⟨hF2358.1, hF2358.2⟩ (fun q hq => (by omega)))).tr (X_Fr.of n2481 e2482 (by first | decide | exact ⟨Nat.le_add_right _ _, Nat.add_le_add_left (by decide) _⟩ | omega))).tr (X_Fr.of n2485 e2486 (by first | decide | exact ⟨Nat.le_add_right _ _, Nat.add_le_add_left (by decide) _⟩ | omega))⟩
              unfold sp_steps
              rw [← hR]
              first
                | (rw [sp_sl_s (i := i) (by omega), if_neg (by assumption), if_pos rfl]; rfl)
                | (rw [sp_sl_s (i := i) (by omega), if_pos (by omega)]
                   show (if _ then _ else _) = _
                   (repeat (first | rw [if_pos (by assumption)] | rw [if_neg (by assumption)] | rw [if_pos (by omega)] | rw [if_neg (by omega)])))
                | (rw [show (30 - i).toNat = 0 by omega]
                   show (if _ then _ else _) = _
                   (repeat (first | rw [if_pos (by assumption)] | rw [if_neg (by assumption)] | rw [if_pos (by omega)] | rw [if_neg (by omega)])))
          · skip
            have c2455 : ¬ ((so c1) = 59) := c2455
            exact (show False by first | contradiction | omega).elim
        · skip
          have c2448 : ¬ ((so c1) = 59) := c2448
          refine T_p xr_78_34 xn_78 (pc' := 35) (ls' := [(3, .int (iI i)), (2, .int (iI pile)), (0, .ref 496), (1, .ref a)]) (st' := [.ref 496]) rfl ?_
          refine T_p xr_78_35 xn_78 (pc' := 36) (ls' := [(3, .int (iI i)), (2, .int (iI pile)), (0, .ref 496), (1, .ref a)]) (st' := [.ref a, .ref 496]) rfl ?_
          refine T_p xr_78_36 xn_78 (pc' := 37) (ls' := [(3, .int (iI i)), (2, .int (iI pile)), (0, .ref 496), (1, .ref a)]) (st' := [.int (iI pile), .ref a, .ref 496]) rfl ?_
          refine T_cv (S := S2368) (q := 496) xr_78_37 xf_79.1 xf_79.2.1 xn_79 (as := [.ref a, .int (iI pile)]) (r := []) rfl hp1 (Nat.le_of_ble_eq_true rfl) (Nat.le_of_ble_eq_true rfl) (pc' := 40) rfl (ls' := [(0, .ref 496), (1, .ref a), (2, .int (iI pile))]) rfl ?_
          have h2496 := (hF2358.1 B (by omega)).trans ((h2351.1 B (by omega)).trans ((n2340 B (by omega)).trans (hb0)))
          have h2497 := (hF2358.1 (B + 1) (by omega)).trans ((h2351.1 (B + 1) (by omega)).trans ((n2340 (B + 1) (by first | exact (fun h => absurd (Nat.add_left_cancel h) (by decide)) | omega)).trans (hb1)))
          have h2498 := (hF2358.1 (B + 2) (by omega)).trans ((h2351.1 (B + 2) (by omega)).trans ((n2340 (B + 2) (by first | exact (fun h => absurd (Nat.add_left_cancel h) (by decide)) | omega)).trans (hb2)))
          have h2499 := (hF2358.1 (B + 3) (by omega)).trans ((h2351.1 (B + 3) (by omega)).trans ((n2340 (B + 3) (by first | exact (fun h => absurd (Nat.add_left_cancel h) (by decide)) | omega)).trans (hb3)))
          have h2500 := (hF2358.1 (B + 4) (by omega)).trans ((h2351.1 (B + 4) (by omega)).trans ((n2340 (B + 4) (by first | exact (fun h => absurd (Nat.add_left_cancel h) (by decide)) | omega)).trans (hb4)))
          have h2501 := (hF2358.1 (B + 5) (by omega)).trans ((h2351.1 (B + 5) (by omega)).trans ((n2340 (B + 5) (by first | exact (fun h => absurd (Nat.add_left_cancel h) (by decide)) | omega)).trans (hb5)))
          have hb2520 : C_bk S2368 B rc kc wc rn lo kn ab := ⟨h2496, h2497, h2498, h2499, h2500, ⟨f, h2501, hf⟩, ⟨by omega, by omega⟩, ⟨by omega, by omega⟩, ⟨by omega, by omega⟩⟩
          refine T_mono (c_parseStep sc S2368 B fl fp at_ n c1 so pl ct rc kc wc rn lo kn ab a d1 q pile hB ha hp1 ⟨hx1, h2439, h2440, h2441⟩ (by omega) hso hb2520 ⟨hw0, hw1, hw2, hw3, hw4, hw5, hw6, hw7⟩ hr1 (by omega) (by omega)) (fun v2502 S2503 h2504 => ?_)
          rcases h2504 with ⟨c2514, d2515, p2516, hv2511, hsp2513, hp2505, hl2506, hc2517, hw2518, hr2519, hf2507⟩ | ⟨hv2511, hsp2513, ⟨fl2508, fp2509, hn2510, hp2505⟩, ⟨c2514, hl2506, hc2517⟩, hw2518, hf2507⟩
          · skip
            rw [hv2511]
            have hq2521 := sp_step_r (by omega) hsp2513
            show X_T sc 78 (40, [(3, .int (iI i)), (2, .int (iI pile)), (0, .ref 496), (1, .ref a)], [.int (iI p2516)], S2503) _
            refine T_p xr_78_40 xn_78 (pc' := 41) (ls' := [(2, .int (iI p2516)), (3, .int (iI i)), (0, .ref 496), (1, .ref a)]) (st' := []) rfl ?_
            refine T_p xr_78_41 xn_78 (pc' := 42) (ls' := [(2, .int (iI p2516)), (3, .int (iI i)), (0, .ref 496), (1, .ref a)]) (st' := [.int (iI p2516)]) rfl ?_
            refine T_p xr_78_42 xn_78 (pc' := 43) (ls' := [(2, .int (iI p2516)), (3, .int (iI i)), (0, .ref 496), (1, .ref a)]) (st' := [.int (iI (-1)), .int (iI p2516)]) rfl ?_
            refine T_zicmp_ne xr_78_43 (t := 48) (pc' := 46) rfl rfl (fun c2522 => ?_) (fun c2522 => ?_)
            · skip
              have c2522 : ¬ p2516 = (-1) := c2522
              refine T_ziinc xr_78_48 xn_78 (a := i) (z := i + 1) rfl (Nat.le_of_ble_eq_true rfl) (by omega) (ls' := [(3, .int (iI (i + 1))), (2, .int (iI p2516)), (0, .ref 496), (1, .ref a)]) rfl (pc' := 51) rfl ?_
              refine T_p xr_78_51 xn_78 (pc' := 16) (ls' := [(3, .int (iI (i + 1))), (2, .int (iI p2516)), (0, .ref 496), (1, .ref a)]) (st' := []) rfl ?_
              exact ih2355 S2503 (i + 1) c2514 d2515 p2516 hp2505 hl2506 hw2518.1 hw2518.2.1 hw2518.2.2.1 hw2518.2.2.2.1 hw2518.2.2.2.2.1 hw2518.2.2.2.2.2.1 hw2518.2.2.2.2.2.2.1 hw2518.2.2.2.2.2.2.2 (hF2358.tr ((X_Fr.rf).tr (X_Fr.mono ⟨hf2507.1, hf2507.2⟩ (fun q hq => (by omega))))) (by omega) hr2519 (by omega) (by omega) (by omega) (by
                    rw [← hR, sp_sl_s (i := i) (by omega), if_neg (by assumption), hsp2513]
                    rfl) (by omega)
            · skip
              have c2522 : ¬ (¬ p2516 = (-1)) := c2522
              exact (show False by first | contradiction | omega).elim
          · skip
            rw [hv2511]
            show X_T sc 78 (40, [(3, .int (iI i)), (2, .int (iI pile)), (0, .ref 496), (1, .ref a)], [.int (iI (-1))], S2503) _
            refine T_p xr_78_40 xn_78 (pc' := 41) (ls' := [(2, .int (iI (-1))), (3, .int (iI i)), (0, .ref 496), (1, .ref a)]) (st' := []) rfl ?_
            refine T_p xr_78_41 xn_78 (pc' := 42) (ls' := [(2, .int (iI (-1))), (3, .int (iI i)), (0, .ref 496), (1, .ref a)]) (st' := [.int (iI (-1))]) rfl ?_
            refine T_p xr_78_42 xn_78 (pc' := 43) (ls' := [(2, .int (iI (-1))), (3, .int (iI i)), (0, .ref 496), (1, .ref a)]) (st' := [.int (iI (-1)), .int (iI (-1))]) rfl ?_
            refine T_zicmp_nef xr_78_43 (t := 48) (pc' := 46) rfl rfl (by decide) ?_
            refine T_p xr_78_46 xn_78 (pc' := 47) (ls' := [(2, .int (iI (-1))), (3, .int (iI i)), (0, .ref 496), (1, .ref a)]) (st' := [.int (iI 0)]) rfl ?_
            refine T_iret xr_78_47 xf_78.2.2 (by decide) ?_
            refine hQ _ _ ?_
            refine Or.inr ⟨rfl, ?_, ⟨_, _, by omega, hp2505⟩, ⟨c2514, hl2506, by omega⟩, ⟨d1, ⟨hw2518.1, hw2518.2.1, hw2518.2.2.1, hw2518.2.2.2.1, hw2518.2.2.2.2.1, hw2518.2.2.2.2.2.1, hw2518.2.2.2.2.2.2.1, hw2518.2.2.2.2.2.2.2⟩, hr1⟩, ((((X_Fr.rf).tr (X_Fr.of n2340 e2341 (by first | decide | exact ⟨Nat.le_add_right _ _, Nat.add_le_add_left (by decide) _⟩ | omega))).tr (X_Fr.mono ⟨h2351.1, h2351.2⟩ (fun q hq => (by omega)))).tr (X_Fr.mono ⟨hF2358.1, hF2358.2⟩ (fun q hq => (by omega)))).tr (X_Fr.mono ⟨hf2507.1, hf2507.2⟩ (fun q hq => (by omega)))⟩
            unfold sp_steps
            rw [← hR]
            first
              | (rw [sp_sl_s (i := i) (by omega), if_neg (by assumption), hsp2513]; rfl)
              | (rw [sp_sl_s (i := i) (by omega), if_pos (by omega)]
                 show (if _ then _ else _) = _
                 (repeat (first | rw [if_pos (by assumption)] | rw [if_neg (by assumption)] | rw [if_pos (by omega)] | rw [if_neg (by omega)])))
              | (rw [show (30 - i).toNat = 0 by omega]
                 show (if _ then _ else _) = _
                 (repeat (first | rw [if_pos (by assumption)] | rw [if_neg (by assumption)] | rw [if_pos (by omega)] | rw [if_neg (by omega)])))
  exact L2354 ((30 : Int) + 1).toNat S2349 0 (X_av n cur) (X_wu d 5 (fun _ => 0)) 0 h2359 h2352 h2360 h2361 h2362 h2363 h2364 h2365 h2366 h2367 ((X_Fr.rf)) (by omega) hr5z (by omega) (by omega) rfl rfl (by omega)
end
section
theorem xr_75_0 : X_row 75 0 = some (0, (.aload_n 0, 1), (0, 0, 0)) := by decide +kernel
theorem xr_75_1 : X_row 75 1 = some (1, (.getfield 27, 3), (4, 1, 20)) := by decide +kernel
theorem xr_75_4 : X_row 75 4 = some (4, (.getfield 131, 3), (0, 2, 15)) := by decide +kernel
theorem xr_75_7 : X_row 75 7 = some (7, (.bipush 30, 2), (0, 0, 0)) := by decide +kernel
theorem xr_75_9 : X_row 75 9 = some (9, (.if_icmp .ne 8, 3), (0, 0, 0)) := by decide +kernel
theorem xr_75_12 : X_row 75 12 = some (12, (.aload_n 0, 1), (0, 0, 0)) := by decide +kernel
theorem xr_75_13 : X_row 75 13 = some (13, (.invokevirtual 67, 3), (67, 12, 0)) := by decide +kernel
theorem xr_75_16 : X_row 75 16 = some (16, (.return_, 1), (0, 0, 0)) := by decide +kernel
theorem xr_75_17 : X_row 75 17 = some (17, (.aload_n 0, 1), (0, 0, 0)) := by decide +kernel
theorem xr_75_18 : X_row 75 18 = some (18, (.getfield 23, 3), (4, 0, 18)) := by decide +kernel
theorem xr_75_21 : X_row 75 21 = some (21, (.invokevirtual 80, 3), (52, 18, 0)) := by decide +kernel
theorem xr_75_24 : X_row 75 24 = some (24, (.aload_n 0, 1), (0, 0, 0)) := by decide +kernel
theorem xr_75_25 : X_row 75 25 = some (25, (.invokevirtual 102, 3), (72, 30, 0)) := by decide +kernel
theorem xr_75_28 : X_row 75 28 = some (28, (.istore_n 1, 1), (0, 0, 0)) := by decide +kernel
theorem xr_75_29 : X_row 75 29 = some (29, (.iload_n 1, 1), (0, 0, 0)) := by decide +kernel
theorem xr_75_30 : X_row 75 30 = some (30, (.iconst (-1), 1), (0, 0, 0)) := by decide +kernel
theorem xr_75_31 : X_row 75 31 = some (31, (.if_icmp .ne 4, 3), (0, 0, 0)) := by decide +kernel
theorem xr_75_34 : X_row 75 34 = some (34, (.return_, 1), (0, 0, 0)) := by decide +kernel
theorem xr_75_35 : X_row 75 35 = some (35, (.aload_n 0, 1), (0, 0, 0)) := by decide +kernel
theorem xr_75_36 : X_row 75 36 = some (36, (.getfield 27, 3), (4, 1, 20)) := by decide +kernel
theorem xr_75_39 : X_row 75 39 = some (39, (.getfield 134, 3), (0, 7, 17)) := by decide +kernel
theorem xr_75_42 : X_row 75 42 = some (42, (.aload_n 0, 1), (0, 0, 0)) := by decide +kernel
theorem xr_75_43 : X_row 75 43 = some (43, (.getfield 27, 3), (4, 1, 20)) := by decide +kernel
theorem xr_75_46 : X_row 75 46 = some (46, (.getfield 131, 3), (0, 2, 15)) := by decide +kernel
theorem xr_75_49 : X_row 75 49 = some (49, (.aaload, 1), (0, 0, 0)) := by decide +kernel
theorem xr_75_50 : X_row 75 50 = some (50, (.astore_n 2, 1), (0, 0, 0)) := by decide +kernel
theorem xr_75_51 : X_row 75 51 = some (51, (.aload_n 2, 1), (0, 0, 0)) := by decide +kernel
theorem xr_75_52 : X_row 75 52 = some (52, (.iload_n 1, 1), (0, 0, 0)) := by decide +kernel
theorem xr_75_53 : X_row 75 53 = some (53, (.invokevirtual 138, 3), (95, 48, 0)) := by decide +kernel
theorem xr_75_56 : X_row 75 56 = some (56, (.aload_n 0, 1), (0, 0, 0)) := by decide +kernel
theorem xr_75_57 : X_row 75 57 = some (57, (.aload_n 2, 1), (0, 0, 0)) := by decide +kernel
theorem xr_75_58 : X_row 75 58 = some (58, (.invokevirtual 143, 3), (76, 50, 0)) := by decide +kernel
theorem xr_75_61 : X_row 75 61 = some (61, (.aload_n 2, 1), (0, 0, 0)) := by decide +kernel
theorem xr_75_62 : X_row 75 62 = some (62, (.aload_n 0, 1), (0, 0, 0)) := by decide +kernel
theorem xr_75_63 : X_row 75 63 = some (63, (.getfield 23, 3), (4, 0, 18)) := by decide +kernel
theorem xr_75_66 : X_row 75 66 = some (66, (.invokevirtual 39, 3), (48, 6, 0)) := by decide +kernel
theorem xr_75_69 : X_row 75 69 = some (69, (.iconst 2, 1), (0, 0, 0)) := by decide +kernel
theorem xr_75_70 : X_row 75 70 = some (70, (.if_icmp .ne 10, 3), (0, 0, 0)) := by decide +kernel
theorem xr_75_73 : X_row 75 73 = some (73, (.aload_n 0, 1), (0, 0, 0)) := by decide +kernel
theorem xr_75_74 : X_row 75 74 = some (74, (.invokevirtual 120, 3), (73, 42, 0)) := by decide +kernel
theorem xr_75_77 : X_row 75 77 = some (77, (.goto 4, 3), (0, 0, 0)) := by decide +kernel
theorem xr_75_80 : X_row 75 80 = some (80, (.iconst 0, 1), (0, 0, 0)) := by decide +kernel
theorem xr_75_81 : X_row 75 81 = some (81, (.putfield 147, 3), (8, 2, 3)) := by decide +kernel
theorem xr_75_84 : X_row 75 84 = some (84, (.aload_n 0, 1), (0, 0, 0)) := by decide +kernel
theorem xr_75_85 : X_row 75 85 = some (85, (.getfield 23, 3), (4, 0, 18)) := by decide +kernel
theorem xr_75_88 : X_row 75 88 = some (88, (.invokevirtual 73, 3), (49, 14, 0)) := by decide +kernel
theorem xr_75_91 : X_row 75 91 = some (91, (.istore_n 3, 1), (0, 0, 0)) := by decide +kernel
theorem xr_75_92 : X_row 75 92 = some (92, (.aload_n 2, 1), (0, 0, 0)) := by decide +kernel
theorem xr_75_93 : X_row 75 93 = some (93, (.getfield 147, 3), (8, 2, 3)) := by decide +kernel
theorem xr_75_96 : X_row 75 96 = some (96, (.iconst (-1), 1), (0, 0, 0)) := by decide +kernel
theorem xr_75_97 : X_row 75 97 = some (97, (.if_icmp .eq 20, 3), (0, 0, 0)) := by decide +kernel
theorem xr_75_100 : X_row 75 100 = some (100, (.aload_n 0, 1), (0, 0, 0)) := by decide +kernel
theorem xr_75_101 : X_row 75 101 = some (101, (.bipush 58, 2), (0, 0, 0)) := by decide +kernel
theorem xr_75_103 : X_row 75 103 = some (103, (.invokevirtual 98, 3), (68, 26, 0)) := by decide +kernel
theorem xr_75_106 : X_row 75 106 = some (106, (.ifCond .eq 11, 3), (0, 0, 0)) := by decide +kernel
theorem xr_75_109 : X_row 75 109 = some (109, (.aload_n 0, 1), (0, 0, 0)) := by decide +kernel
theorem xr_75_110 : X_row 75 110 = some (110, (.aload_n 2, 1), (0, 0, 0)) := by decide +kernel
theorem xr_75_111 : X_row 75 111 = some (111, (.invokevirtual 150, 3), (77, 52, 0)) := by decide +kernel
theorem xr_75_114 : X_row 75 114 = some (114, (.ifCond .ne 4, 3), (0, 0, 0)) := by decide +kernel
theorem xr_75_117 : X_row 75 117 = some (117, (.return_, 1), (0, 0, 0)) := by decide +kernel
theorem xr_75_118 : X_row 75 118 = some (118, (.aload_n 2, 1), (0, 0, 0)) := by decide +kernel
theorem xr_75_119 : X_row 75 119 = some (119, (.getfield 154, 3), (8, 1, 1)) := by decide +kernel
theorem xr_75_122 : X_row 75 122 = some (122, (.ifCond .eq 19, 3), (0, 0, 0)) := by decide +kernel
theorem xr_75_125 : X_row 75 125 = some (125, (.aload_n 2, 1), (0, 0, 0)) := by decide +kernel
theorem xr_75_126 : X_row 75 126 = some (126, (.invokevirtual 157, 3), (102, 60, 0)) := by decide +kernel
theorem xr_75_129 : X_row 75 129 = some (129, (.ifCond .eq 12, 3), (0, 0, 0)) := by decide +kernel
theorem xr_75_132 : X_row 75 132 = some (132, (.aload_n 0, 1), (0, 0, 0)) := by decide +kernel
theorem xr_75_133 : X_row 75 133 = some (133, (.iconst 2, 1), (0, 0, 0)) := by decide +kernel
theorem xr_75_134 : X_row 75 134 = some (134, (.iload_n 3, 1), (0, 0, 0)) := by decide +kernel
theorem xr_75_135 : X_row 75 135 = some (135, (.invokevirtual 76, 3), (66, 16, 0)) := by decide +kernel
theorem xr_75_138 : X_row 75 138 = some (138, (.goto 66, 3), (0, 0, 0)) := by decide +kernel
theorem xr_75_141 : X_row 75 141 = some (141, (.aload_n 2, 1), (0, 0, 0)) := by decide +kernel
theorem xr_75_142 : X_row 75 142 = some (142, (.getfield 161, 3), (8, 4, 7)) := by decide +kernel
theorem xr_75_145 : X_row 75 145 = some (145, (.aload_n 2, 1), (0, 0, 0)) := by decide +kernel
theorem xr_75_146 : X_row 75 146 = some (146, (.getfield 164, 3), (8, 3, 5)) := by decide +kernel
theorem xr_75_149 : X_row 75 149 = some (149, (.if_icmp .ne 10, 3), (0, 0, 0)) := by decide +kernel
theorem xr_75_152 : X_row 75 152 = some (152, (.aload_n 0, 1), (0, 0, 0)) := by decide +kernel
theorem xr_75_153 : X_row 75 153 = some (153, (.invokevirtual 67, 3), (67, 12, 0)) := by decide +kernel
theorem xr_75_156 : X_row 75 156 = some (156, (.goto 48, 3), (0, 0, 0)) := by decide +kernel
theorem xr_75_159 : X_row 75 159 = some (159, (.aload_n 0, 1), (0, 0, 0)) := by decide +kernel
theorem xr_75_160 : X_row 75 160 = some (160, (.getfield 23, 3), (4, 0, 18)) := by decide +kernel
theorem xr_75_163 : X_row 75 163 = some (163, (.invokevirtual 39, 3), (48, 6, 0)) := by decide +kernel
theorem xr_75_166 : X_row 75 166 = some (166, (.bipush 61, 2), (0, 0, 0)) := by decide +kernel
theorem xr_75_168 : X_row 75 168 = some (168, (.if_icmp .ne 14, 3), (0, 0, 0)) := by decide +kernel
theorem xr_75_171 : X_row 75 171 = some (171, (.aload_n 0, 1), (0, 0, 0)) := by decide +kernel
theorem xr_75_172 : X_row 75 172 = some (172, (.aload_n 2, 1), (0, 0, 0)) := by decide +kernel
theorem xr_75_173 : X_row 75 173 = some (173, (.invokevirtual 167, 3), (78, 62, 0)) := by decide +kernel
theorem xr_75_176 : X_row 75 176 = some (176, (.ifCond .eq 28, 3), (0, 0, 0)) := by decide +kernel
theorem xr_75_179 : X_row 75 179 = some (179, (.goto 12, 3), (0, 0, 0)) := by decide +kernel
theorem xr_75_182 : X_row 75 182 = some (182, (.aload_n 0, 1), (0, 0, 0)) := by decide +kernel
theorem xr_75_183 : X_row 75 183 = some (183, (.bipush 59, 2), (0, 0, 0)) := by decide +kernel
theorem xr_75_185 : X_row 75 185 = some (185, (.invokevirtual 98, 3), (68, 26, 0)) := by decide +kernel
theorem xr_75_188 : X_row 75 188 = some (188, (.ifCond .eq 16, 3), (0, 0, 0)) := by decide +kernel
theorem xr_75_191 : X_row 75 191 = some (191, (.aload_n 0, 1), (0, 0, 0)) := by decide +kernel
theorem xr_75_192 : X_row 75 192 = some (192, (.getfield 27, 3), (4, 1, 20)) := by decide +kernel
theorem xr_75_195 : X_row 75 195 = some (195, (.dup, 1), (0, 0, 0)) := by decide +kernel
theorem xr_75_196 : X_row 75 196 = some (196, (.getfield 131, 3), (0, 2, 15)) := by decide +kernel
theorem xr_75_199 : X_row 75 199 = some (199, (.iconst 1, 1), (0, 0, 0)) := by decide +kernel
theorem xr_75_200 : X_row 75 200 = some (200, (.iadd, 1), (0, 0, 0)) := by decide +kernel
theorem xr_75_201 : X_row 75 201 = some (201, (.putfield 131, 3), (0, 2, 15)) := by decide +kernel
theorem xr_75_204 : X_row 75 204 = some (204, (.return_, 1), (0, 0, 0)) := by decide +kernel
theorem xn_75 : X_nL 75 = 4 := by decide +kernel
theorem xf_75 : X_na 75 = 0 ∧ X_ci 75 = 4 ∧ X_rt 75 = none := by decide +kernel
def X_clr (d : Nat → Int → Int) (rk : Int) : Nat → Int → Int := X_wu (X_wu (X_wu (X_wu (X_wu (X_wu (X_wu (X_wu d 0 (fun _ => rk)) 1 (fun _ => 0)) 2 (fun _ => 0)) 3 (fun _ => 0)) 4 (fun _ => 0)) 5 (fun _ => -1)) 6 (fun _ => 0)) 7 (fun _ => 0)
theorem X_wr_clr {d : Nat → Int → Int} {rk : Int} (h : 0 ≤ rk ∧ rk ≤ 11) : X_wr (X_clr d rk) := ⟨h, (show (0 : Int) ≤ 0 ∧ (0 : Int) ≤ 2 by omega), (show (-1 : Int) ≤ 0 ∧ (0 : Int) ≤ 10 by omega), (show (0 : Int) ≤ 0 ∧ (0 : Int) ≤ 8 by omega), (show (0 : Int) ≤ 0 ∧ (0 : Int) ≤ 4 by omega), (show (-1 : Int) ≤ -1 ∧ (-1 : Int) ≤ 30 by omega), (show (0 : Int) ≤ 0 ∧ (0 : Int) ≤ 1 by omega), (show (-2147483648 : Int) ≤ 0 ∧ (0 : Int) ≤ 2147483647 by omega)⟩
theorem X_ug_ug {α : Type} (g : Int → α) (z : Int) (x y : α) : X_ug (X_ug g z x) z y = X_ug g z y := by
  funext k
  unfold X_ug
  split <;> rfl
theorem C_ws.upd2 {S S' : X_S} {B a : Nat} {D : Int → Nat → Int → Int} {W : Int → Int → Int64} {w : Int} {d' : Nat → Int → Int} {q' : Int → Int64} {P : Nat → Prop} (h : C_ws S B D W) (hf : X_Fr P S S') (ha : a = B + 6 + 8 * w.toNat) (hP : ∀ r, P r → B + 6 ≤ r → r < B + 246 → a ≤ r ∧ r ≤ a + 7) (h0 : 0 ≤ w) (hd : C_wd S' a d' q') (hr : X_wr d') : C_ws S' B (X_ug D w d') (X_ug W w q') := by
  intro v h1 h2
  by_cases hv : v = w
  · subst hv
    rw [X_ug_s, X_ug_s, ← ha]
    exact ⟨hd, hr⟩
  · rw [X_ug_n _ _ hv, X_ug_n _ _ hv]
    exact ⟨(h v h1 h2).1.fr hf (fun k hk z => by have := hP _ z (by omega) (by omega); omega), (h v h1 h2).2⟩
noncomputable def sp_we (n : Int) (so : Int → Int) (ct : Int → Int64) (c : Int) (d : Nat → Int → Int) (q : Int → Int64) : Option (Int × (Nat → Int → Int) × (Int → Int64)) :=
  if ¬ d 1 0 = 0 then (if X_en d q = 0 then none else if d 4 0 = d 3 0 then none else if so c = 61 then (sp_steps n so ct c d).bind fun r => some (r.1, r.2, q) else if so c = 59 then some (X_av n c, d, q) else none)
  else if d 4 0 = d 3 0 then none else if so c = 61 then (sp_steps n so ct c d).bind fun r => some (r.1, r.2, q) else if so c = 59 then some (X_av n c, d, q) else none
noncomputable def sp_wb (n : Int) (so : Int → Int) (ct : Int → Int64) (kn : Int → Int64) (kc : Int) (c : Int) (d : Nat → Int → Int) (q : Int → Int64) : Option (Int × (Nat → Int → Int) × (Int → Int64)) :=
  if so c = 58 then (sp_el n so ct kn kc 9 (X_av n c) d q).bind fun r => sp_we n so ct r.1 r.2.1 r.2.2 else none
noncomputable def sp_wk (n : Int) (so : Int → Int) (ct : Int → Int64) (kn : Int → Int64) (kc : Int) (c : Int) (d : Nat → Int → Int) (q : Int → Int64) : Option (Int × (Nat → Int → Int) × (Int → Int64)) :=
  if so c = 2 then (if X_ix kn kc (ct c) = -1 then none else sp_wb n so ct kn kc (X_av n c) (X_wu d 2 (fun _ => X_ix kn kc (ct c))) q) else sp_wb n so ct kn kc c (X_wu d 2 (fun _ => 0)) q
noncomputable def sp_word (n : Int) (so : Int → Int) (ct : Int → Int64) : X_Kp → Option X_Kp
  | (c, rc, kc, wc, rn, lo, kn, ab, D, W) =>
    if wc = 30 then none else if so (X_av n c) = 2 then (if X_ix rn rc (ct (X_av n c)) = -1 then none else
      (sp_wk n so ct kn kc (X_lnC n so ct (X_av n (X_av n c))) (X_wu (X_clr (D wc) (X_ix rn rc (ct (X_av n c)))) 1 (fun _ => X_lnV so ct (X_av n (X_av n c)) 0)) (W wc)).bind fun r =>
        some (r.1, rc, kc, wc + 1, rn, lo, kn, ab, X_ug D wc r.2.1, X_ug W wc r.2.2)) else none
theorem c_pwT (sc : X_Sc) (S : X_S) (B : Nat) (fp at_ n : Int) (so pl : Int → Int) (ct : Int → Int64) (cur rc kc wc : Int) (rn : Int → Int64) (lo : Int → Int) (kn : Int → Int64) (ab : Int → Int) (D : Int → Nat → Int → Int) (W : Int → Int → Int64) (a : Nat) (rk kd : Int) (hB : 4 ≤ B ∧ B + 246 ≤ 496) (hn : n ≤ 2001) (hso : ∀ i, 0 ≤ i → i < n → 0 ≤ so i ∧ so i ≤ 255) (hK : C_K S B 0 fp at_ n so pl ct (cur, rc, kc, wc, rn, lo, kn, ab, D, W)) (hkd : 0 ≤ kd ∧ kd < kc) (hwl : wc < 30) (haa : a = B + 6 + 8 * wc.toNat) : X_T sc 75 (81, [(2, .ref a), (1, .int (iI rk)), (0, .ref 496)], [.int (iI kd), .ref a], S) (fun v S' => (∃ r, sp_wb n so ct kn kc cur (X_wu (D wc) 2 (fun _ => kd)) (W wc) = some r ∧ ∃ fp', C_K S' B 0 fp' at_ n so pl ct (r.1, rc, kc, wc + 1, rn, lo, kn, ab, X_ug D wc r.2.1, X_ug W wc r.2.2) ∧ X_Fr (fun q => q = 496 ∨ q = 497 ∨ (B ≤ q ∧ q < B + 246)) S S') ∨ (sp_wb n so ct kn kc cur (X_wu (D wc) 2 (fun _ => kd)) (W wc) = none ∧ ∃ fl' fp' K, (¬ fl' = 0 ∧ 0 ≤ fl' ∧ fl' ≤ 5) ∧ C_K S' B fl' fp' at_ n so pl ct K ∧ X_Fr (fun q => q = 496 ∨ q = 497 ∨ (B ≤ q ∧ q < B + 246)) S S')) := by
  obtain ⟨hp, hx, hb, hs, hcu⟩ := id hK
  simp only at hx hb hs hcu
  obtain ⟨hb0, hb1, hb2, hb3, hb4, ⟨f, hb5, hf⟩, ⟨hrc, hrcb⟩, ⟨hkc, hkcb⟩, ⟨hwc, hwcb⟩⟩ := id hb
  have hwa := hs wc (by omega) (by omega)
  rw [← haa] at hwa
  obtain ⟨⟨_, _⟩, ⟨_, _⟩, ⟨_, _⟩, ⟨_, _⟩, ⟨_, _⟩, ⟨_, _⟩, ⟨_, _⟩, ⟨_, _⟩⟩ := id hwa.2
  refine X_QI (fun Q hQ => ?_)
  refine T_put xr_75_81 hwa.1.1 rfl (Nat.le_of_ble_eq_true rfl) rfl (fs' := [.int (iI ((D wc) 0 0)), .int (iI ((D wc) 1 0)), .int (iI kd), .int (iI ((D wc) 3 0)), .int (iI ((D wc) 4 0)), .int (iI ((D wc) 5 0)), .int (iI ((D wc) 6 0)), .int (iI ((D wc) 7 0)), .ref (a + 1), .ref (a + 2), .ref (a + 3), .ref (a + 4), .ref (a + 5), .ref (a + 6), .ref (a + 7)]) rfl (pc' := 84) rfl (fun S2523 h2524 n2525 e2526 => ?_)
  have hr2527 : X_wr (X_wu (D wc) 2 (fun _ => kd)) := X_wr_2 hwa.2 (by omega)
  have h2529 := (n2525 (a + 1) (by first | exact (fun h => absurd (Nat.add_left_cancel h) (by decide)) | omega)).trans (hwa.1.2.1)
  have h2530 := (n2525 (a + 2) (by first | exact (fun h => absurd (Nat.add_left_cancel h) (by decide)) | omega)).trans (hwa.1.2.2.1)
  have h2531 := (n2525 (a + 3) (by first | exact (fun h => absurd (Nat.add_left_cancel h) (by decide)) | omega)).trans (hwa.1.2.2.2.1)
  have h2532 := (n2525 (a + 4) (by first | exact (fun h => absurd (Nat.add_left_cancel h) (by decide)) | omega)).trans (hwa.1.2.2.2.2.1)
  have h2533 := (n2525 (a + 5) (by first | exact (fun h => absurd (Nat.add_left_cancel h) (by decide)) | omega)).trans (hwa.1.2.2.2.2.2.1)
  have h2534 := (n2525 (a + 6) (by first | exact (fun h => absurd (Nat.add_left_cancel h) (by decide)) | omega)).trans (hwa.1.2.2.2.2.2.2.1)
  have h2535 := (n2525 (a + 7) (by first | exact (fun h => absurd (Nat.add_left_cancel h) (by decide)) | omega)).trans (hwa.1.2.2.2.2.2.2.2)
  have hw2528 : C_wd S2523 a (X_wu (D wc) 2 (fun _ => kd)) (W wc) := ⟨h2524, h2529, h2530, h2531, h2532, h2533, h2534, h2535⟩
  have h2536 : S2523.1 a = .inr (8, [.int (iI ((X_wu (D wc) 2 (fun _ => kd)) 0 0)), .int (iI ((X_wu (D wc) 2 (fun _ => kd)) 1 0)), .int (iI kd), .int (iI ((X_wu (D wc) 2 (fun _ => kd)) 3 0)), .int (iI ((X_wu (D wc) 2 (fun _ => kd)) 4 0)), .int (iI ((X_wu (D wc) 2 (fun _ => kd)) 5 0)), .int (iI ((X_wu (D wc) 2 (fun _ => kd)) 6 0)), .int (iI ((X_wu (D wc) 2 (fun _ => kd)) 7 0)), .ref (a + 1), .ref (a + 2), .ref (a + 3), .ref (a + 4), .ref (a + 5), .ref (a + 6), .ref (a + 7)]) := hw2528.1
  refine T_p xr_75_84 xn_75 (pc' := 85) (ls' := [(2, .ref a), (1, .int (iI rk)), (0, .ref 496)]) (st' := [.ref 496]) rfl ?_
  have h2537 := (n2525 496 (by omega)).trans (hp)
  refine T_get xr_75_85 h2537 rfl (v := .ref 497) rfl (pc' := 88) rfl ?_
  have h2538 := (n2525 497 (by omega)).trans (hx.1)
  refine T_cv (S := S2523) (q := 497) xr_75_88 xf_49.1 xf_49.2.1 xn_49 (as := []) (r := []) rfl h2538 (Nat.le_of_ble_eq_true rfl) (Nat.le_of_ble_eq_true rfl) (pc' := 91) rfl (ls' := [(0, .ref 497)]) rfl ?_
  have h2539 := (n2525 498 (by omega)).trans (hx.2.1)
  have h2540 := (n2525 499 (by omega)).trans (hx.2.2.1)
  have h2541 := (n2525 500 (by omega)).trans (hx.2.2.2)
  refine T_mono (c_place sc S2523 at_ n cur so pl ct ⟨h2538, h2539, h2540, h2541⟩ (by omega)) (fun v2543 S2544 h2542 => ?_)
  obtain ⟨h2545, h2546⟩ := h2542
  rw [h2545, h2546]
  show X_T sc 75 (91, [(2, .ref a), (1, .int (iI rk)), (0, .ref 496)], [.int (iI (pl cur))], S2523) _
  refine T_p xr_75_91 xn_75 (pc' := 92) (ls' := [(3, .int (iI (pl cur))), (2, .ref a), (1, .int (iI rk)), (0, .ref 496)]) (st' := []) rfl ?_
  refine T_p xr_75_92 xn_75 (pc' := 93) (ls' := [(3, .int (iI (pl cur))), (2, .ref a), (1, .int (iI rk)), (0, .ref 496)]) (st' := [.ref a]) rfl ?_
  refine T_get xr_75_93 h2536 rfl (v := .int (iI kd)) rfl (pc' := 96) rfl ?_
  refine T_p xr_75_96 xn_75 (pc' := 97) (ls' := [(3, .int (iI (pl cur))), (2, .ref a), (1, .int (iI rk)), (0, .ref 496)]) (st' := [.int (iI (-1)), .int (iI kd)]) rfl ?_
  refine T_zicmp_eq xr_75_97 (t := 117) (pc' := 100) rfl rfl (fun c2547 => ?_) (fun c2547 => ?_)
  · skip
    have c2547 : kd = (-1) := c2547
    exact (show False by omega).elim
  · skip
    have c2547 : ¬ (kd = (-1)) := c2547
    refine T_p xr_75_100 xn_75 (pc' := 101) (ls' := [(3, .int (iI (pl cur))), (2, .ref a), (1, .int (iI rk)), (0, .ref 496)]) (st' := [.ref 496]) rfl ?_
    refine T_p xr_75_101 xn_75 (pc' := 103) (ls' := [(3, .int (iI (pl cur))), (2, .ref a), (1, .int (iI rk)), (0, .ref 496)]) (st' := [.int (iI 58), .ref 496]) rfl ?_
    refine T_cv (S := S2523) (q := 496) xr_75_103 xf_68.1 xf_68.2.1 xn_68 (as := [.int (iI 58)]) (r := []) rfl h2537 (Nat.le_of_ble_eq_true rfl) (Nat.le_of_ble_eq_true rfl) (pc' := 106) rfl (ls' := [(0, .ref 496), (1, .int (iI 58))]) rfl ?_
    refine T_mono (c_pass sc S2523 B 0 fp at_ n cur so pl ct 58 h2537 ⟨h2538, h2539, h2540, h2541⟩ (by omega) hso (by omega)) (fun v2551 S2552 h2553 => ?_)
    rcases h2553 with ⟨hv2548, hc2549, hp2554, hl2555, hf2556⟩ | ⟨hv2548, hc2549, ⟨fl2557, fp2558, hn2559, hp2554⟩, hl2555, hf2556⟩
    · skip
      rw [hv2548]
      have hv2550 := X_av_r (n := n) (c := cur) (by omega)
      show X_T sc 75 (106, [(3, .int (iI (pl cur))), (2, .ref a), (1, .int (iI rk)), (0, .ref 496)], [.int (iI 1)], S2552) _
      refine T_zif_eqf xr_75_106 (t := 117) (pc' := 109) rfl rfl (by decide) ?_
      refine T_p xr_75_109 xn_75 (pc' := 110) (ls' := [(3, .int (iI (pl cur))), (2, .ref a), (1, .int (iI rk)), (0, .ref 496)]) (st' := [.ref 496]) rfl ?_
      refine T_p xr_75_110 xn_75 (pc' := 111) (ls' := [(3, .int (iI (pl cur))), (2, .ref a), (1, .int (iI rk)), (0, .ref 496)]) (st' := [.ref a, .ref 496]) rfl ?_
      refine T_cv (S := S2552) (q := 496) xr_75_111 xf_77.1 xf_77.2.1 xn_77 (as := [.ref a]) (r := []) rfl hp2554 (Nat.le_of_ble_eq_true rfl) (Nat.le_of_ble_eq_true rfl) (pc' := 114) rfl (ls' := [(0, .ref 496), (1, .ref a)]) rfl ?_
      have h2577 := (hf2556.1 498 (by first | decide | omega)).trans (h2539)
      have h2578 := (hf2556.1 499 (by first | decide | omega)).trans (h2540)
      have h2579 := (hf2556.1 500 (by first | decide | omega)).trans (h2541)
      have h2580 := (hf2556.1 B (by omega)).trans ((n2525 B (by omega)).trans (hb0))
      have h2581 := (hf2556.1 (B + 1) (by omega)).trans ((n2525 (B + 1) (by first | exact (fun h => absurd (Nat.add_left_cancel h) (by decide)) | omega)).trans (hb1))
      have h2582 := (hf2556.1 (B + 2) (by omega)).trans ((n2525 (B + 2) (by first | exact (fun h => absurd (Nat.add_left_cancel h) (by decide)) | omega)).trans (hb2))
      have h2583 := (hf2556.1 (B + 3) (by omega)).trans ((n2525 (B + 3) (by first | exact (fun h => absurd (Nat.add_left_cancel h) (by decide)) | omega)).trans (hb3))
      have h2584 := (hf2556.1 (B + 4) (by omega)).trans ((n2525 (B + 4) (by first | exact (fun h => absurd (Nat.add_left_cancel h) (by decide)) | omega)).trans (hb4))
      have h2585 := (hf2556.1 (B + 5) (by omega)).trans ((n2525 (B + 5) (by first | exact (fun h => absurd (Nat.add_left_cancel h) (by decide)) | omega)).trans (hb5))
      have hb2586 : C_bk S2552 B rc kc wc rn lo kn ab := ⟨h2580, h2581, h2582, h2583, h2584, ⟨f, h2585, hf⟩, ⟨by omega, by omega⟩, ⟨by omega, by omega⟩, ⟨by omega, by omega⟩⟩
      have h2587 := (hf2556.1 a (by omega)).trans (h2536)
      have h2588 := (hf2556.1 (a + 1) (by omega)).trans (hw2528.2.1)
      have h2589 := (hf2556.1 (a + 2) (by omega)).trans (hw2528.2.2.1)
      have h2590 := (hf2556.1 (a + 3) (by omega)).trans (hw2528.2.2.2.1)
      have h2591 := (hf2556.1 (a + 4) (by omega)).trans (hw2528.2.2.2.2.1)
      have h2592 := (hf2556.1 (a + 5) (by omega)).trans (hw2528.2.2.2.2.2.1)
      have h2593 := (hf2556.1 (a + 6) (by omega)).trans (hw2528.2.2.2.2.2.2.1)
      have h2594 := (hf2556.1 (a + 7) (by omega)).trans (hw2528.2.2.2.2.2.2.2)
      refine T_mono (c_parseElements sc S2552 B 0 fp at_ n (X_av n cur) so pl ct rc kc wc rn lo kn ab a (X_wu (D wc) 2 (fun _ => kd)) (W wc) hB (by omega) hp2554 ⟨hl2555, h2577, h2578, h2579⟩ (by omega) hso hb2586 ⟨h2587, h2588, h2589, h2590, h2591, h2592, h2593, h2594⟩ hr2527) (fun v2560 S2561 h2562 => ?_)
      rcases h2562 with ⟨hv2563, c2571, d2572, q2573, hsp2569, hp2564, hl2565, hc2570, hw2566, hr2568, hf2567⟩ | ⟨hv2563, hsp2569, ⟨fl2574, fp2575, hn2576, hp2564⟩, ⟨c2571, d2572, q2573, hl2565, hc2570, hw2566, hr2568⟩, hf2567⟩
      · skip
        rw [hv2563]
        have hs_c2571 := hso c2571 (by omega) (by omega)
        obtain ⟨⟨_, _⟩, ⟨_, _⟩, ⟨_, _⟩, ⟨_, _⟩, ⟨_, _⟩, ⟨_, _⟩, ⟨_, _⟩, ⟨_, _⟩⟩ := id hr2568
        show X_T sc 75 (114, [(3, .int (iI (pl cur))), (2, .ref a), (1, .int (iI rk)), (0, .ref 496)], [.int (iI 1)], S2561) _
        refine T_zif_net xr_75_114 (t := 118) rfl (by decide) ?_
        refine T_p xr_75_118 xn_75 (pc' := 119) (ls' := [(3, .int (iI (pl cur))), (2, .ref a), (1, .int (iI rk)), (0, .ref 496)]) (st' := [.ref a]) rfl ?_
        refine T_get xr_75_119 hw2566.1 rfl (v := .int (iI (d2572 1 0))) rfl (pc' := 122) rfl ?_
        refine T_zif_eq xr_75_122 (t := 141) (pc' := 125) rfl rfl (fun c2595 => ?_) (fun c2595 => ?_)
        · skip
          have c2595 : (d2572 1 0) = 0 := c2595
          refine T_p xr_75_141 xn_75 (pc' := 142) (ls' := [(3, .int (iI (pl cur))), (2, .ref a), (1, .int (iI rk)), (0, .ref 496)]) (st' := [.ref a]) rfl ?_
          refine T_get xr_75_142 hw2566.1 rfl (v := .int (iI (d2572 4 0))) rfl (pc' := 145) rfl ?_
          refine T_p xr_75_145 xn_75 (pc' := 146) (ls' := [(3, .int (iI (pl cur))), (2, .ref a), (1, .int (iI rk)), (0, .ref 496)]) (st' := [.ref a, .int (iI (d2572 4 0))]) rfl ?_
          refine T_get xr_75_146 hw2566.1 rfl (v := .int (iI (d2572 3 0))) rfl (pc' := 149) rfl ?_
          refine T_zicmp_ne xr_75_149 (t := 159) (pc' := 152) rfl rfl (fun c2596 => ?_) (fun c2596 => ?_)
          · skip
            have c2596 : ¬ (d2572 4 0) = (d2572 3 0) := c2596
            refine T_p xr_75_159 xn_75 (pc' := 160) (ls' := [(3, .int (iI (pl cur))), (2, .ref a), (1, .int (iI rk)), (0, .ref 496)]) (st' := [.ref 496]) rfl ?_
            refine T_get xr_75_160 hp2564 rfl (v := .ref 497) rfl (pc' := 163) rfl ?_
            refine T_cv (S := S2561) (q := 497) xr_75_163 xf_48.1 xf_48.2.1 xn_48 (as := []) (r := []) rfl hl2565 (Nat.le_of_ble_eq_true rfl) (Nat.le_of_ble_eq_true rfl) (pc' := 166) rfl (ls' := [(0, .ref 497)]) rfl ?_
            have h2597 := (hf2567.1 498 (by first | decide | omega)).trans (h2577)
            have h2598 := (hf2567.1 499 (by first | decide | omega)).trans (h2578)
            have h2599 := (hf2567.1 500 (by first | decide | omega)).trans (h2579)
            refine T_mono (c_sort sc S2561 at_ n c2571 so pl ct ⟨hl2565, h2597, h2598, h2599⟩ (by omega)) (fun v2601 S2602 h2600 => ?_)
            obtain ⟨h2603, h2604⟩ := h2600
            rw [h2603, h2604]
            show X_T sc 75 (166, [(3, .int (iI (pl cur))), (2, .ref a), (1, .int (iI rk)), (0, .ref 496)], [.int (iI (so c2571))], S2561) _
            have hs2605 := hso c2571 (by omega) (by omega)
            refine T_p xr_75_166 xn_75 (pc' := 168) (ls' := [(3, .int (iI (pl cur))), (2, .ref a), (1, .int (iI rk)), (0, .ref 496)]) (st' := [.int (iI 61), .int (iI (so c2571))]) rfl ?_
            refine T_zicmp_ne xr_75_168 (t := 182) (pc' := 171) rfl rfl (fun c2606 => ?_) (fun c2606 => ?_)
            · skip
              have c2606 : ¬ (so c2571) = 61 := c2606
              refine T_p xr_75_182 xn_75 (pc' := 183) (ls' := [(3, .int (iI (pl cur))), (2, .ref a), (1, .int (iI rk)), (0, .ref 496)]) (st' := [.ref 496]) rfl ?_
              refine T_p xr_75_183 xn_75 (pc' := 185) (ls' := [(3, .int (iI (pl cur))), (2, .ref a), (1, .int (iI rk)), (0, .ref 496)]) (st' := [.int (iI 59), .ref 496]) rfl ?_
              refine T_cv (S := S2561) (q := 496) xr_75_185 xf_68.1 xf_68.2.1 xn_68 (as := [.int (iI 59)]) (r := []) rfl hp2564 (Nat.le_of_ble_eq_true rfl) (Nat.le_of_ble_eq_true rfl) (pc' := 188) rfl (ls' := [(0, .ref 496), (1, .int (iI 59))]) rfl ?_
              refine T_mono (c_pass sc S2561 B 0 fp at_ n c2571 so pl ct 59 hp2564 ⟨hl2565, h2597, h2598, h2599⟩ (by omega) hso (by omega)) (fun v2610 S2611 h2612 => ?_)
              rcases h2612 with ⟨hv2607, hc2608, hp2613, hl2614, hf2615⟩ | ⟨hv2607, hc2608, ⟨fl2616, fp2617, hn2618, hp2613⟩, hl2614, hf2615⟩
              · skip
                rw [hv2607]
                have hv2609 := X_av_r (n := n) (c := c2571) (by omega)
                show X_T sc 75 (188, [(3, .int (iI (pl cur))), (2, .ref a), (1, .int (iI rk)), (0, .ref 496)], [.int (iI 1)], S2611) _
                refine T_zif_eqf xr_75_188 (t := 204) (pc' := 191) rfl rfl (by decide) ?_
                refine T_p xr_75_191 xn_75 (pc' := 192) (ls' := [(3, .int (iI (pl cur))), (2, .ref a), (1, .int (iI rk)), (0, .ref 496)]) (st' := [.ref 496]) rfl ?_
                refine T_get xr_75_192 hp2613 rfl (v := .ref B) rfl (pc' := 195) rfl ?_
                refine T_p xr_75_195 xn_75 (pc' := 196) (ls' := [(3, .int (iI (pl cur))), (2, .ref a), (1, .int (iI rk)), (0, .ref 496)]) (st' := [.ref B, .ref B]) rfl ?_
                have h2619 := (hf2615.1 B (by omega)).trans ((hf2567.1 B (by omega)).trans (h2580))
                refine T_get xr_75_196 h2619 rfl (v := .int (iI wc)) rfl (pc' := 199) rfl ?_
                refine T_p xr_75_199 xn_75 (pc' := 200) (ls' := [(3, .int (iI (pl cur))), (2, .ref a), (1, .int (iI rk)), (0, .ref 496)]) (st' := [.int (iI 1), .int (iI wc), .ref B]) rfl ?_
                refine T_ziadd xr_75_200 (z := wc + 1) rfl (pc' := 201) rfl ?_
                refine T_put xr_75_201 h2619 rfl (Nat.le_of_ble_eq_true rfl) rfl (fs' := [.int (iI rc), .int (iI kc), .int (iI (wc + 1)), .ref (B + 1), .ref (B + 2), .ref (B + 3), .ref (B + 4), .ref (B + 5)]) rfl (pc' := 204) rfl (fun S2620 h2621 n2622 e2623 => ?_)
                refine T_vret xr_75_204 xf_75.2.2 ?_
                refine hQ _ _ ?_
                have h2624 := (n2622 496 (by omega)).trans (hp2613)
                have h2626 := (n2622 a (by omega)).trans ((hf2615.1 a (by omega)).trans (hw2566.1))
                have h2627 := (n2622 (a + 1) (by first | exact (fun h => absurd (Nat.add_left_cancel h) (by decide)) | omega)).trans ((hf2615.1 (a + 1) (by omega)).trans (hw2566.2.1))
                have h2628 := (n2622 (a + 2) (by first | exact (fun h => absurd (Nat.add_left_cancel h) (by decide)) | omega)).trans ((hf2615.1 (a + 2) (by omega)).trans (hw2566.2.2.1))
                have h2629 := (n2622 (a + 3) (by first | exact (fun h => absurd (Nat.add_left_cancel h) (by decide)) | omega)).trans ((hf2615.1 (a + 3) (by omega)).trans (hw2566.2.2.2.1))
                have h2630 := (n2622 (a + 4) (by first | exact (fun h => absurd (Nat.add_left_cancel h) (by decide)) | omega)).trans ((hf2615.1 (a + 4) (by omega)).trans (hw2566.2.2.2.2.1))
                have h2631 := (n2622 (a + 5) (by first | exact (fun h => absurd (Nat.add_left_cancel h) (by decide)) | omega)).trans ((hf2615.1 (a + 5) (by omega)).trans (hw2566.2.2.2.2.2.1))
                have h2632 := (n2622 (a + 6) (by first | exact (fun h => absurd (Nat.add_left_cancel h) (by decide)) | omega)).trans ((hf2615.1 (a + 6) (by omega)).trans (hw2566.2.2.2.2.2.2.1))
                have h2633 := (n2622 (a + 7) (by first | exact (fun h => absurd (Nat.add_left_cancel h) (by decide)) | omega)).trans ((hf2615.1 (a + 7) (by omega)).trans (hw2566.2.2.2.2.2.2.2))
                have hs2625 : C_ws S2620 B (X_ug D wc d2572) (X_ug W wc q2573) := C_ws.upd2 (P := fun r => r = 496 ∨ r = 497 ∨ r = B ∨ (a ≤ r ∧ r ≤ a + 7)) hs ((((((X_Fr.rf).tr (X_Fr.of n2525 e2526 (by first | decide | exact ⟨Nat.le_add_right _ _, Nat.add_le_add_left (by decide) _⟩ | omega))).tr (X_Fr.mono ⟨hf2556.1, hf2556.2⟩ (fun q hq => (by omega)))).tr (X_Fr.mono ⟨hf2567.1, hf2567.2⟩ (fun q hq => (by omega)))).tr (X_Fr.mono ⟨hf2615.1, hf2615.2⟩ (fun q hq => (by omega)))).tr (X_Fr.of n2622 e2623 (by first | decide | exact ⟨Nat.le_add_right _ _, Nat.add_le_add_left (by decide) _⟩ | omega))) haa (fun r h1 h2 h3 => by omega) (by omega) ⟨h2626, h2627, h2628, h2629, h2630, h2631, h2632, h2633⟩ hr2568
                have h2634 := (n2622 497 (by omega)).trans (hl2614)
                have h2635 := (n2622 (B + 1) (by first | exact (fun h => absurd (Nat.add_left_cancel h) (by decide)) | omega)).trans ((hf2615.1 (B + 1) (by omega)).trans ((hf2567.1 (B + 1) (by omega)).trans (h2581)))
                have h2636 := (n2622 (B + 2) (by first | exact (fun h => absurd (Nat.add_left_cancel h) (by decide)) | omega)).trans ((hf2615.1 (B + 2) (by omega)).trans ((hf2567.1 (B + 2) (by omega)).trans (h2582)))
                have h2637 := (n2622 (B + 3) (by first | exact (fun h => absurd (Nat.add_left_cancel h) (by decide)) | omega)).trans ((hf2615.1 (B + 3) (by omega)).trans ((hf2567.1 (B + 3) (by omega)).trans (h2583)))
                have h2638 := (n2622 (B + 4) (by first | exact (fun h => absurd (Nat.add_left_cancel h) (by decide)) | omega)).trans ((hf2615.1 (B + 4) (by omega)).trans ((hf2567.1 (B + 4) (by omega)).trans (h2584)))
                have h2641 := (n2622 (B + 5) (by first | exact (fun h => absurd (Nat.add_left_cancel h) (by decide)) | omega)).trans ((hf2615.1 (B + 5) (by omega)).trans ((hf2567.1 (B + 5) (by omega)).trans (h2585)))
                have h2642 := (n2622 498 (by omega)).trans ((hf2615.1 498 (by first | decide | omega)).trans (h2597))
                have h2643 := (n2622 499 (by omega)).trans ((hf2615.1 499 (by first | decide | omega)).trans (h2598))
                have h2644 := (n2622 500 (by omega)).trans ((hf2615.1 500 (by first | decide | omega)).trans (h2599))
                have hb2639 : C_bk S2620 B rc kc (wc + 1) rn lo kn ab := ⟨h2621, h2635, h2636, h2637, h2638, ⟨f, h2641, hf⟩, ⟨by omega, by omega⟩, ⟨by omega, by omega⟩, ⟨by omega, by omega⟩⟩
                have hc2640 : 0 ≤ (X_av n c2571) ∧ (X_av n c2571) < n := by omega
                refine Or.inl ⟨(X_av n c2571, d2572, q2573), ?_, fp, ⟨h2624, ⟨h2634, h2642, h2643, h2644⟩, hb2639, hs2625, hc2640⟩, (((((X_Fr.rf).tr (X_Fr.of n2525 e2526 (by first | decide | exact ⟨Nat.le_add_right _ _, Nat.add_le_add_left (by decide) _⟩ | omega))).tr (X_Fr.mono ⟨hf2556.1, hf2556.2⟩ (fun q hq => (by omega)))).tr (X_Fr.mono ⟨hf2567.1, hf2567.2⟩ (fun q hq => (by omega)))).tr (X_Fr.mono ⟨hf2615.1, hf2615.2⟩ (fun q hq => (by omega)))).tr (X_Fr.of n2622 e2623 (by first | decide | exact ⟨Nat.le_add_right _ _, Nat.add_le_add_left (by decide) _⟩ | omega))⟩
                (repeat (first | unfold sp_wk | unfold sp_wb | unfold sp_we | rw [hsp2569] | (rw [Option.bind_some]; dsimp only) | rw [Option.bind_none] | rw [if_pos (by assumption)] | rw [if_neg (by assumption)]))
                all_goals first | rfl | ((repeat' split) <;> first | rfl | (exfalso; omega))
              · skip
                rw [hv2607]
                show X_T sc 75 (188, [(3, .int (iI (pl cur))), (2, .ref a), (1, .int (iI rk)), (0, .ref 496)], [.int (iI 0)], S2611) _
                refine T_zif_eqt xr_75_188 (t := 204) rfl (by decide) ?_
                refine T_vret xr_75_204 xf_75.2.2 ?_
                refine hQ _ _ ?_
                have h2645 := (hf2615.1 B (by omega)).trans ((hf2567.1 B (by omega)).trans (h2580))
                have h2647 := (hf2615.1 a (by omega)).trans (hw2566.1)
                have h2648 := (hf2615.1 (a + 1) (by omega)).trans (hw2566.2.1)
                have h2649 := (hf2615.1 (a + 2) (by omega)).trans (hw2566.2.2.1)
                have h2650 := (hf2615.1 (a + 3) (by omega)).trans (hw2566.2.2.2.1)
                have h2651 := (hf2615.1 (a + 4) (by omega)).trans (hw2566.2.2.2.2.1)
                have h2652 := (hf2615.1 (a + 5) (by omega)).trans (hw2566.2.2.2.2.2.1)
                have h2653 := (hf2615.1 (a + 6) (by omega)).trans (hw2566.2.2.2.2.2.2.1)
                have h2654 := (hf2615.1 (a + 7) (by omega)).trans (hw2566.2.2.2.2.2.2.2)
                have hs2646 : C_ws S2611 B (X_ug D wc d2572) (X_ug W wc q2573) := C_ws.upd2 (P := fun r => r = 496 ∨ r = 497 ∨ r = B ∨ (a ≤ r ∧ r ≤ a + 7)) hs (((((X_Fr.rf).tr (X_Fr.of n2525 e2526 (by first | decide | exact ⟨Nat.le_add_right _ _, Nat.add_le_add_left (by decide) _⟩ | omega))).tr (X_Fr.mono ⟨hf2556.1, hf2556.2⟩ (fun q hq => (by omega)))).tr (X_Fr.mono ⟨hf2567.1, hf2567.2⟩ (fun q hq => (by omega)))).tr (X_Fr.mono ⟨hf2615.1, hf2615.2⟩ (fun q hq => (by omega)))) haa (fun r h1 h2 h3 => by omega) (by omega) ⟨h2647, h2648, h2649, h2650, h2651, h2652, h2653, h2654⟩ hr2568
                have h2655 := (hf2615.1 (B + 1) (by omega)).trans ((hf2567.1 (B + 1) (by omega)).trans (h2581))
                have h2656 := (hf2615.1 (B + 2) (by omega)).trans ((hf2567.1 (B + 2) (by omega)).trans (h2582))
                have h2657 := (hf2615.1 (B + 3) (by omega)).trans ((hf2567.1 (B + 3) (by omega)).trans (h2583))
                have h2658 := (hf2615.1 (B + 4) (by omega)).trans ((hf2567.1 (B + 4) (by omega)).trans (h2584))
                have h2661 := (hf2615.1 (B + 5) (by omega)).trans ((hf2567.1 (B + 5) (by omega)).trans (h2585))
                have h2662 := (hf2615.1 498 (by first | decide | omega)).trans (h2597)
                have h2663 := (hf2615.1 499 (by first | decide | omega)).trans (h2598)
                have h2664 := (hf2615.1 500 (by first | decide | omega)).trans (h2599)
                have hb2659 : C_bk S2611 B rc kc wc rn lo kn ab := ⟨h2645, h2655, h2656, h2657, h2658, ⟨f, h2661, hf⟩, ⟨by omega, by omega⟩, ⟨by omega, by omega⟩, ⟨by omega, by omega⟩⟩
                have hc2660 : 0 ≤ c2571 ∧ c2571 < n := by omega
                refine Or.inr ⟨?_, fl2616, fp2617, (c2571, rc, kc, wc, rn, lo, kn, ab, (X_ug D wc d2572), (X_ug W wc q2573)), by omega, ⟨hp2613, ⟨hl2614, h2662, h2663, h2664⟩, hb2659, hs2646, hc2660⟩, ((((X_Fr.rf).tr (X_Fr.of n2525 e2526 (by first | decide | exact ⟨Nat.le_add_right _ _, Nat.add_le_add_left (by decide) _⟩ | omega))).tr (X_Fr.mono ⟨hf2556.1, hf2556.2⟩ (fun q hq => (by omega)))).tr (X_Fr.mono ⟨hf2567.1, hf2567.2⟩ (fun q hq => (by omega)))).tr (X_Fr.mono ⟨hf2615.1, hf2615.2⟩ (fun q hq => (by omega)))⟩
                (repeat (first | unfold sp_wk | unfold sp_wb | unfold sp_we | rw [hsp2569] | (rw [Option.bind_some]; dsimp only) | rw [Option.bind_none] | rw [if_pos (by assumption)] | rw [if_neg (by assumption)]))
                all_goals first | rfl | ((repeat' split) <;> first | rfl | (exfalso; omega))
            · skip
              have c2606 : ¬ (¬ (so c2571) = 61) := c2606
              refine T_p xr_75_171 xn_75 (pc' := 172) (ls' := [(3, .int (iI (pl cur))), (2, .ref a), (1, .int (iI rk)), (0, .ref 496)]) (st' := [.ref 496]) rfl ?_
              refine T_p xr_75_172 xn_75 (pc' := 173) (ls' := [(3, .int (iI (pl cur))), (2, .ref a), (1, .int (iI rk)), (0, .ref 496)]) (st' := [.ref a, .ref 496]) rfl ?_
              refine T_cv (S := S2561) (q := 496) xr_75_173 xf_78.1 xf_78.2.1 xn_78 (as := [.ref a]) (r := []) rfl hp2564 (Nat.le_of_ble_eq_true rfl) (Nat.le_of_ble_eq_true rfl) (pc' := 176) rfl (ls' := [(0, .ref 496), (1, .ref a)]) rfl ?_
              have h2682 := (hf2567.1 B (by omega)).trans (h2580)
              have h2683 := (hf2567.1 (B + 1) (by omega)).trans (h2581)
              have h2684 := (hf2567.1 (B + 2) (by omega)).trans (h2582)
              have h2685 := (hf2567.1 (B + 3) (by omega)).trans (h2583)
              have h2686 := (hf2567.1 (B + 4) (by omega)).trans (h2584)
              have h2687 := (hf2567.1 (B + 5) (by omega)).trans (h2585)
              have hb2688 : C_bk S2561 B rc kc wc rn lo kn ab := ⟨h2682, h2683, h2684, h2685, h2686, ⟨f, h2687, hf⟩, ⟨by omega, by omega⟩, ⟨by omega, by omega⟩, ⟨by omega, by omega⟩⟩
              refine T_mono (c_parseSteps sc S2561 B 0 fp at_ n c2571 so pl ct rc kc wc rn lo kn ab a d2572 q2573 hB (by omega) hp2564 ⟨hl2565, h2597, h2598, h2599⟩ (by omega) hso hb2688 ⟨hw2566.1, hw2566.2.1, hw2566.2.2.1, hw2566.2.2.2.1, hw2566.2.2.2.2.1, hw2566.2.2.2.2.2.1, hw2566.2.2.2.2.2.2.1, hw2566.2.2.2.2.2.2.2⟩ hr2568 rfl) (fun v2665 S2666 h2667 => ?_)
              rcases h2667 with ⟨hv2668, c2676, d2677, hsp2674, hp2669, hl2670, hc2675, hw2671, hr2673, hf2672⟩ | ⟨hv2668, hsp2674, ⟨fl2679, fp2680, hn2681, hp2669⟩, ⟨c2676, hl2670, hc2675⟩, ⟨d2677, hw2671, hr2673⟩, hf2672⟩
              · skip
                rw [hv2668]
                have hs_c2676 := hso c2676 (by omega) (by omega)
                obtain ⟨⟨_, _⟩, ⟨_, _⟩, ⟨_, _⟩, ⟨_, _⟩, ⟨_, _⟩, ⟨_, _⟩, ⟨_, _⟩, ⟨_, _⟩⟩ := id hr2673
                show X_T sc 75 (176, [(3, .int (iI (pl cur))), (2, .ref a), (1, .int (iI rk)), (0, .ref 496)], [.int (iI 1)], S2666) _
                refine T_zif_eqf xr_75_176 (t := 204) (pc' := 179) rfl rfl (by decide) ?_
                refine T_p xr_75_179 xn_75 (pc' := 191) (ls' := [(3, .int (iI (pl cur))), (2, .ref a), (1, .int (iI rk)), (0, .ref 496)]) (st' := []) rfl ?_
                refine T_p xr_75_191 xn_75 (pc' := 192) (ls' := [(3, .int (iI (pl cur))), (2, .ref a), (1, .int (iI rk)), (0, .ref 496)]) (st' := [.ref 496]) rfl ?_
                refine T_get xr_75_192 hp2669 rfl (v := .ref B) rfl (pc' := 195) rfl ?_
                refine T_p xr_75_195 xn_75 (pc' := 196) (ls' := [(3, .int (iI (pl cur))), (2, .ref a), (1, .int (iI rk)), (0, .ref 496)]) (st' := [.ref B, .ref B]) rfl ?_
                have h2689 := (hf2672.1 B (by omega)).trans (h2682)
                refine T_get xr_75_196 h2689 rfl (v := .int (iI wc)) rfl (pc' := 199) rfl ?_
                refine T_p xr_75_199 xn_75 (pc' := 200) (ls' := [(3, .int (iI (pl cur))), (2, .ref a), (1, .int (iI rk)), (0, .ref 496)]) (st' := [.int (iI 1), .int (iI wc), .ref B]) rfl ?_
                refine T_ziadd xr_75_200 (z := wc + 1) rfl (pc' := 201) rfl ?_
                refine T_put xr_75_201 h2689 rfl (Nat.le_of_ble_eq_true rfl) rfl (fs' := [.int (iI rc), .int (iI kc), .int (iI (wc + 1)), .ref (B + 1), .ref (B + 2), .ref (B + 3), .ref (B + 4), .ref (B + 5)]) rfl (pc' := 204) rfl (fun S2690 h2691 n2692 e2693 => ?_)
                refine T_vret xr_75_204 xf_75.2.2 ?_
                refine hQ _ _ ?_
                have h2694 := (n2692 496 (by omega)).trans (hp2669)
                have h2696 := (n2692 a (by omega)).trans (hw2671.1)
                have h2697 := (n2692 (a + 1) (by first | exact (fun h => absurd (Nat.add_left_cancel h) (by decide)) | omega)).trans (hw2671.2.1)
                have h2698 := (n2692 (a + 2) (by first | exact (fun h => absurd (Nat.add_left_cancel h) (by decide)) | omega)).trans (hw2671.2.2.1)
                have h2699 := (n2692 (a + 3) (by first | exact (fun h => absurd (Nat.add_left_cancel h) (by decide)) | omega)).trans (hw2671.2.2.2.1)
                have h2700 := (n2692 (a + 4) (by first | exact (fun h => absurd (Nat.add_left_cancel h) (by decide)) | omega)).trans (hw2671.2.2.2.2.1)
                have h2701 := (n2692 (a + 5) (by first | exact (fun h => absurd (Nat.add_left_cancel h) (by decide)) | omega)).trans (hw2671.2.2.2.2.2.1)
                have h2702 := (n2692 (a + 6) (by first | exact (fun h => absurd (Nat.add_left_cancel h) (by decide)) | omega)).trans (hw2671.2.2.2.2.2.2.1)
                have h2703 := (n2692 (a + 7) (by first | exact (fun h => absurd (Nat.add_left_cancel h) (by decide)) | omega)).trans (hw2671.2.2.2.2.2.2.2)
                have hs2695 : C_ws S2690 B (X_ug D wc d2677) (X_ug W wc q2573) := C_ws.upd2 (P := fun r => r = 496 ∨ r = 497 ∨ r = B ∨ (a ≤ r ∧ r ≤ a + 7)) hs ((((((X_Fr.rf).tr (X_Fr.of n2525 e2526 (by first | decide | exact ⟨Nat.le_add_right _ _, Nat.add_le_add_left (by decide) _⟩ | omega))).tr (X_Fr.mono ⟨hf2556.1, hf2556.2⟩ (fun q hq => (by omega)))).tr (X_Fr.mono ⟨hf2567.1, hf2567.2⟩ (fun q hq => (by omega)))).tr (X_Fr.mono ⟨hf2672.1, hf2672.2⟩ (fun q hq => (by omega)))).tr (X_Fr.of n2692 e2693 (by first | decide | exact ⟨Nat.le_add_right _ _, Nat.add_le_add_left (by decide) _⟩ | omega))) haa (fun r h1 h2 h3 => by omega) (by omega) ⟨h2696, h2697, h2698, h2699, h2700, h2701, h2702, h2703⟩ hr2673
                have h2704 := (n2692 497 (by omega)).trans (hl2670)
                have h2705 := (n2692 (B + 1) (by first | exact (fun h => absurd (Nat.add_left_cancel h) (by decide)) | omega)).trans ((hf2672.1 (B + 1) (by omega)).trans (h2683))
                have h2706 := (n2692 (B + 2) (by first | exact (fun h => absurd (Nat.add_left_cancel h) (by decide)) | omega)).trans ((hf2672.1 (B + 2) (by omega)).trans (h2684))
                have h2707 := (n2692 (B + 3) (by first | exact (fun h => absurd (Nat.add_left_cancel h) (by decide)) | omega)).trans ((hf2672.1 (B + 3) (by omega)).trans (h2685))
                have h2708 := (n2692 (B + 4) (by first | exact (fun h => absurd (Nat.add_left_cancel h) (by decide)) | omega)).trans ((hf2672.1 (B + 4) (by omega)).trans (h2686))
                have h2711 := (n2692 (B + 5) (by first | exact (fun h => absurd (Nat.add_left_cancel h) (by decide)) | omega)).trans ((hf2672.1 (B + 5) (by omega)).trans (h2687))
                have h2712 := (n2692 498 (by omega)).trans ((hf2672.1 498 (by first | decide | omega)).trans (h2597))
                have h2713 := (n2692 499 (by omega)).trans ((hf2672.1 499 (by first | decide | omega)).trans (h2598))
                have h2714 := (n2692 500 (by omega)).trans ((hf2672.1 500 (by first | decide | omega)).trans (h2599))
                have hb2709 : C_bk S2690 B rc kc (wc + 1) rn lo kn ab := ⟨h2691, h2705, h2706, h2707, h2708, ⟨f, h2711, hf⟩, ⟨by omega, by omega⟩, ⟨by omega, by omega⟩, ⟨by omega, by omega⟩⟩
                have hc2710 : 0 ≤ c2676 ∧ c2676 < n := by omega
                refine Or.inl ⟨(c2676, d2677, q2573), ?_, fp, ⟨h2694, ⟨h2704, h2712, h2713, h2714⟩, hb2709, hs2695, hc2710⟩, (((((X_Fr.rf).tr (X_Fr.of n2525 e2526 (by first | decide | exact ⟨Nat.le_add_right _ _, Nat.add_le_add_left (by decide) _⟩ | omega))).tr (X_Fr.mono ⟨hf2556.1, hf2556.2⟩ (fun q hq => (by omega)))).tr (X_Fr.mono ⟨hf2567.1, hf2567.2⟩ (fun q hq => (by omega)))).tr (X_Fr.mono ⟨hf2672.1, hf2672.2⟩ (fun q hq => (by omega)))).tr (X_Fr.of n2692 e2693 (by first | decide | exact ⟨Nat.le_add_right _ _, Nat.add_le_add_left (by decide) _⟩ | omega))⟩
                (repeat (first | unfold sp_wk | unfold sp_wb | unfold sp_we | rw [hsp2569] | rw [hsp2674] | (rw [Option.bind_some]; dsimp only) | rw [Option.bind_none] | rw [if_pos (by assumption)] | rw [if_neg (by assumption)]))
                all_goals first | rfl | ((repeat' split) <;> first | rfl | (exfalso; omega))
              · skip
                rw [hv2668]
                have hs_c2676 := hso c2676 (by omega) (by omega)
                obtain ⟨⟨_, _⟩, ⟨_, _⟩, ⟨_, _⟩, ⟨_, _⟩, ⟨_, _⟩, ⟨_, _⟩, ⟨_, _⟩, ⟨_, _⟩⟩ := id hr2673
                show X_T sc 75 (176, [(3, .int (iI (pl cur))), (2, .ref a), (1, .int (iI rk)), (0, .ref 496)], [.int (iI 0)], S2666) _
                refine T_zif_eqt xr_75_176 (t := 204) rfl (by decide) ?_
                refine T_vret xr_75_204 xf_75.2.2 ?_
                refine hQ _ _ ?_
                have h2715 := (hf2672.1 B (by omega)).trans (h2682)
                have hs2716 : C_ws S2666 B (X_ug D wc d2677) (X_ug W wc q2573) := C_ws.upd2 (P := fun r => r = 496 ∨ r = 497 ∨ r = B ∨ (a ≤ r ∧ r ≤ a + 7)) hs (((((X_Fr.rf).tr (X_Fr.of n2525 e2526 (by first | decide | exact ⟨Nat.le_add_right _ _, Nat.add_le_add_left (by decide) _⟩ | omega))).tr (X_Fr.mono ⟨hf2556.1, hf2556.2⟩ (fun q hq => (by omega)))).tr (X_Fr.mono ⟨hf2567.1, hf2567.2⟩ (fun q hq => (by omega)))).tr (X_Fr.mono ⟨hf2672.1, hf2672.2⟩ (fun q hq => (by omega)))) haa (fun r h1 h2 h3 => by omega) (by omega) ⟨hw2671.1, hw2671.2.1, hw2671.2.2.1, hw2671.2.2.2.1, hw2671.2.2.2.2.1, hw2671.2.2.2.2.2.1, hw2671.2.2.2.2.2.2.1, hw2671.2.2.2.2.2.2.2⟩ hr2673
                have h2717 := (hf2672.1 (B + 1) (by omega)).trans (h2683)
                have h2718 := (hf2672.1 (B + 2) (by omega)).trans (h2684)
                have h2719 := (hf2672.1 (B + 3) (by omega)).trans (h2685)
                have h2720 := (hf2672.1 (B + 4) (by omega)).trans (h2686)
                have h2723 := (hf2672.1 (B + 5) (by omega)).trans (h2687)
                have h2724 := (hf2672.1 498 (by first | decide | omega)).trans (h2597)
                have h2725 := (hf2672.1 499 (by first | decide | omega)).trans (h2598)
                have h2726 := (hf2672.1 500 (by first | decide | omega)).trans (h2599)
                have hb2721 : C_bk S2666 B rc kc wc rn lo kn ab := ⟨h2715, h2717, h2718, h2719, h2720, ⟨f, h2723, hf⟩, ⟨by omega, by omega⟩, ⟨by omega, by omega⟩, ⟨by omega, by omega⟩⟩
                have hc2722 : 0 ≤ c2676 ∧ c2676 < n := by omega
                refine Or.inr ⟨?_, fl2679, fp2680, (c2676, rc, kc, wc, rn, lo, kn, ab, (X_ug D wc d2677), (X_ug W wc q2573)), by omega, ⟨hp2669, ⟨hl2670, h2724, h2725, h2726⟩, hb2721, hs2716, hc2722⟩, ((((X_Fr.rf).tr (X_Fr.of n2525 e2526 (by first | decide | exact ⟨Nat.le_add_right _ _, Nat.add_le_add_left (by decide) _⟩ | omega))).tr (X_Fr.mono ⟨hf2556.1, hf2556.2⟩ (fun q hq => (by omega)))).tr (X_Fr.mono ⟨hf2567.1, hf2567.2⟩ (fun q hq => (by omega)))).tr (X_Fr.mono ⟨hf2672.1, hf2672.2⟩ (fun q hq => (by omega)))⟩
                (repeat (first | unfold sp_wk | unfold sp_wb | unfold sp_we | rw [hsp2569] | rw [hsp2674] | (rw [Option.bind_some]; dsimp only) | rw [Option.bind_none] | rw [if_pos (by assumption)] | rw [if_neg (by assumption)]))
                all_goals first | rfl | ((repeat' split) <;> first | rfl | (exfalso; omega))
          · skip
            have c2596 : ¬ (¬ (d2572 4 0) = (d2572 3 0)) := c2596
            refine T_p xr_75_152 xn_75 (pc' := 153) (ls' := [(3, .int (iI (pl cur))), (2, .ref a), (1, .int (iI rk)), (0, .ref 496)]) (st' := [.ref 496]) rfl ?_
            refine T_cv (S := S2561) (q := 496) xr_75_153 xf_67.1 xf_67.2.1 xn_67 (as := []) (r := []) rfl hp2564 (Nat.le_of_ble_eq_true rfl) (Nat.le_of_ble_eq_true rfl) (pc' := 156) rfl (ls' := [(0, .ref 496)]) rfl ?_
            have h2736 := (hf2567.1 498 (by first | decide | omega)).trans (h2577)
            have h2737 := (hf2567.1 499 (by first | decide | omega)).trans (h2578)
            have h2738 := (hf2567.1 500 (by first | decide | omega)).trans (h2579)
            refine T_mono (c_refuse sc S2561 B 0 fp at_ n c2571 so pl ct hp2564 ⟨hl2565, h2736, h2737, h2738⟩ (by omega) hso) (fun v2727 S2728 h2729 => ?_)
            obtain ⟨h2730, ⟨fl2731, fp2732, hn2733, hp2734⟩, hf2735⟩ := h2729
            rw [h2730]
            show X_T sc 75 (156, [(3, .int (iI (pl cur))), (2, .ref a), (1, .int (iI rk)), (0, .ref 496)], [], S2728) _
            refine T_p xr_75_156 xn_75 (pc' := 204) (ls' := [(3, .int (iI (pl cur))), (2, .ref a), (1, .int (iI rk)), (0, .ref 496)]) (st' := []) rfl ?_
            refine T_vret xr_75_204 xf_75.2.2 ?_
            refine hQ _ _ ?_
            have h2739 := (hf2735.1 B (by omega)).trans ((hf2567.1 B (by omega)).trans (h2580))
            have h2741 := (hf2735.1 a (by omega)).trans (hw2566.1)
            have h2742 := (hf2735.1 (a + 1) (by omega)).trans (hw2566.2.1)
            have h2743 := (hf2735.1 (a + 2) (by omega)).trans (hw2566.2.2.1)
            have h2744 := (hf2735.1 (a + 3) (by omega)).trans (hw2566.2.2.2.1)
            have h2745 := (hf2735.1 (a + 4) (by omega)).trans (hw2566.2.2.2.2.1)
            have h2746 := (hf2735.1 (a + 5) (by omega)).trans (hw2566.2.2.2.2.2.1)
            have h2747 := (hf2735.1 (a + 6) (by omega)).trans (hw2566.2.2.2.2.2.2.1)
            have h2748 := (hf2735.1 (a + 7) (by omega)).trans (hw2566.2.2.2.2.2.2.2)
            have hs2740 : C_ws S2728 B (X_ug D wc d2572) (X_ug W wc q2573) := C_ws.upd2 (P := fun r => r = 496 ∨ r = 497 ∨ r = B ∨ (a ≤ r ∧ r ≤ a + 7)) hs (((((X_Fr.rf).tr (X_Fr.of n2525 e2526 (by first | decide | exact ⟨Nat.le_add_right _ _, Nat.add_le_add_left (by decide) _⟩ | omega))).tr (X_Fr.mono ⟨hf2556.1, hf2556.2⟩ (fun q hq => (by omega)))).tr (X_Fr.mono ⟨hf2567.1, hf2567.2⟩ (fun q hq => (by omega)))).tr (X_Fr.mono ⟨hf2735.1, hf2735.2⟩ (fun q hq => (by omega)))) haa (fun r h1 h2 h3 => by omega) (by omega) ⟨h2741, h2742, h2743, h2744, h2745, h2746, h2747, h2748⟩ hr2568
            have h2749 := (hf2735.1 497 (by first | decide | omega)).trans (hl2565)
            have h2750 := (hf2735.1 (B + 1) (by omega)).trans ((hf2567.1 (B + 1) (by omega)).trans (h2581))
            have h2751 := (hf2735.1 (B + 2) (by omega)).trans ((hf2567.1 (B + 2) (by omega)).trans (h2582))
            have h2752 := (hf2735.1 (B + 3) (by omega)).trans ((hf2567.1 (B + 3) (by omega)).trans (h2583))
            have h2753 := (hf2735.1 (B + 4) (by omega)).trans ((hf2567.1 (B + 4) (by omega)).trans (h2584))
            have h2756 := (hf2735.1 (B + 5) (by omega)).trans ((hf2567.1 (B + 5) (by omega)).trans (h2585))
            have h2757 := (hf2735.1 498 (by first | decide | omega)).trans (h2736)
            have h2758 := (hf2735.1 499 (by first | decide | omega)).trans (h2737)
            have h2759 := (hf2735.1 500 (by first | decide | omega)).trans (h2738)
            have hb2754 : C_bk S2728 B rc kc wc rn lo kn ab := ⟨h2739, h2750, h2751, h2752, h2753, ⟨f, h2756, hf⟩, ⟨by omega, by omega⟩, ⟨by omega, by omega⟩, ⟨by omega, by omega⟩⟩
            have hc2755 : 0 ≤ c2571 ∧ c2571 < n := by omega
            refine Or.inr ⟨?_, fl2731, fp2732, (c2571, rc, kc, wc, rn, lo, kn, ab, (X_ug D wc d2572), (X_ug W wc q2573)), by omega, ⟨hp2734, ⟨h2749, h2757, h2758, h2759⟩, hb2754, hs2740, hc2755⟩, ((((X_Fr.rf).tr (X_Fr.of n2525 e2526 (by first | decide | exact ⟨Nat.le_add_right _ _, Nat.add_le_add_left (by decide) _⟩ | omega))).tr (X_Fr.mono ⟨hf2556.1, hf2556.2⟩ (fun q hq => (by omega)))).tr (X_Fr.mono ⟨hf2567.1, hf2567.2⟩ (fun q hq => (by omega)))).tr (X_Fr.mono ⟨hf2735.1, hf2735.2⟩ (fun q hq => (by omega)))⟩
            (repeat (first | unfold sp_wk | unfold sp_wb | unfold sp_we | rw [hsp2569] | (rw [Option.bind_some]; dsimp only) | rw [Option.bind_none] | rw [if_pos (by assumption)] | rw [if_neg (by assumption)]))
            all_goals first | rfl | ((repeat' split) <;> first | rfl | (exfalso; omega))
        · skip
          have c2595 : ¬ ((d2572 1 0) = 0) := c2595
          refine T_p xr_75_125 xn_75 (pc' := 126) (ls' := [(3, .int (iI (pl cur))), (2, .ref a), (1, .int (iI rk)), (0, .ref 496)]) (st' := [.ref a]) rfl ?_
          refine T_cv (S := S2561) (q := a) xr_75_126 xf_102.1 xf_102.2.1 xn_102 (as := []) (r := []) rfl hw2566.1 (Nat.le_of_ble_eq_true rfl) (Nat.le_of_ble_eq_true rfl) (pc' := 129) rfl (ls' := [(0, .ref a)]) rfl ?_
          refine T_mono (c_isClosed sc S2561 a d2572 q2573 ⟨hw2566.1, hw2566.2.1, hw2566.2.2.1, hw2566.2.2.2.1, hw2566.2.2.2.2.1, hw2566.2.2.2.2.2.1, hw2566.2.2.2.2.2.2.1, hw2566.2.2.2.2.2.2.2⟩ hr2568) (fun v2761 S2762 h2760 => ?_)
          obtain ⟨h2763, h2764⟩ := h2760
          rw [h2763, h2764]
          show X_T sc 75 (129, [(3, .int (iI (pl cur))), (2, .ref a), (1, .int (iI rk)), (0, .ref 496)], [.int (iI (bI (X_en d2572 q2573 = 0)))], S2561) _
          refine T_bif_eq xr_75_129 (t := 141) (pc' := 132) rfl rfl (fun c2765 => ?_) (fun c2765 => ?_)
          · skip
            have c2765 : ¬ (X_en d2572 q2573 = 0) := c2765
            refine T_p xr_75_141 xn_75 (pc' := 142) (ls' := [(3, .int (iI (pl cur))), (2, .ref a), (1, .int (iI rk)), (0, .ref 496)]) (st' := [.ref a]) rfl ?_
            refine T_get xr_75_142 hw2566.1 rfl (v := .int (iI (d2572 4 0))) rfl (pc' := 145) rfl ?_
            refine T_p xr_75_145 xn_75 (pc' := 146) (ls' := [(3, .int (iI (pl cur))), (2, .ref a), (1, .int (iI rk)), (0, .ref 496)]) (st' := [.ref a, .int (iI (d2572 4 0))]) rfl ?_
            refine T_get xr_75_146 hw2566.1 rfl (v := .int (iI (d2572 3 0))) rfl (pc' := 149) rfl ?_
            refine T_zicmp_ne xr_75_149 (t := 159) (pc' := 152) rfl rfl (fun c2766 => ?_) (fun c2766 => ?_)
            · skip
              have c2766 : ¬ (d2572 4 0) = (d2572 3 0) := c2766
              refine T_p xr_75_159 xn_75 (pc' := 160) (ls' := [(3, .int (iI (pl cur))), (2, .ref a), (1, .int (iI rk)), (0, .ref 496)]) (st' := [.ref 496]) rfl ?_
              refine T_get xr_75_160 hp2564 rfl (v := .ref 497) rfl (pc' := 163) rfl ?_
              refine T_cv (S := S2561) (q := 497) xr_75_163 xf_48.1 xf_48.2.1 xn_48 (as := []) (r := []) rfl hl2565 (Nat.le_of_ble_eq_true rfl) (Nat.le_of_ble_eq_true rfl) (pc' := 166) rfl (ls' := [(0, .ref 497)]) rfl ?_
              have h2767 := (hf2567.1 498 (by first | decide | omega)).trans (h2577)
              have h2768 := (hf2567.1 499 (by first | decide | omega)).trans (h2578)
              have h2769 := (hf2567.1 500 (by first | decide | omega)).trans (h2579)
              refine T_mono (c_sort sc S2561 at_ n c2571 so pl ct ⟨hl2565, h2767, h2768, h2769⟩ (by omega)) (fun v2771 S2772 h2770 => ?_)
              obtain ⟨h2773, h2774⟩ := h2770
              rw [h2773, h2774]
              show X_T sc 75 (166, [(3, .int (iI (pl cur))), (2, .ref a), (1, .int (iI rk)), (0, .ref 496)], [.int (iI (so c2571))], S2561) _
              have hs2775 := hso c2571 (by omega) (by omega)
              refine T_p xr_75_166 xn_75 (pc' := 168) (ls' := [(3, .int (iI (pl cur))), (2, .ref a), (1, .int (iI rk)), (0, .ref 496)]) (st' := [.int (iI 61), .int (iI (so c2571))]) rfl ?_
              refine T_zicmp_ne xr_75_168 (t := 182) (pc' := 171) rfl rfl (fun c2776 => ?_) (fun c2776 => ?_)
              · skip
                have c2776 : ¬ (so c2571) = 61 := c2776
                refine T_p xr_75_182 xn_75 (pc' := 183) (ls' := [(3, .int (iI (pl cur))), (2, .ref a), (1, .int (iI rk)), (0, .ref 496)]) (st' := [.ref 496]) rfl ?_
                refine T_p xr_75_183 xn_75 (pc' := 185) (ls' := [(3, .int (iI (pl cur))), (2, .ref a), (1, .int (iI rk)), (0, .ref 496)]) (st' := [.int (iI 59), .ref 496]) rfl ?_
                refine T_cv (S := S2561) (q := 496) xr_75_185 xf_68.1 xf_68.2.1 xn_68 (as := [.int (iI 59)]) (r := []) rfl hp2564 (Nat.le_of_ble_eq_true rfl) (Nat.le_of_ble_eq_true rfl) (pc' := 188) rfl (ls' := [(0, .ref 496), (1, .int (iI 59))]) rfl ?_
                refine T_mono (c_pass sc S2561 B 0 fp at_ n c2571 so pl ct 59 hp2564 ⟨hl2565, h2767, h2768, h2769⟩ (by omega) hso (by omega)) (fun v2780 S2781 h2782 => ?_)
                rcases h2782 with ⟨hv2777, hc2778, hp2783, hl2784, hf2785⟩ | ⟨hv2777, hc2778, ⟨fl2786, fp2787, hn2788, hp2783⟩, hl2784, hf2785⟩
                · skip
                  rw [hv2777]
                  have hv2779 := X_av_r (n := n) (c := c2571) (by omega)
                  show X_T sc 75 (188, [(3, .int (iI (pl cur))), (2, .ref a), (1, .int (iI rk)), (0, .ref 496)], [.int (iI 1)], S2781) _
                  refine T_zif_eqf xr_75_188 (t := 204) (pc' := 191) rfl rfl (by decide) ?_
                  refine T_p xr_75_191 xn_75 (pc' := 192) (ls' := [(3, .int (iI (pl cur))), (2, .ref a), (1, .int (iI rk)), (0, .ref 496)]) (st' := [.ref 496]) rfl ?_
                  refine T_get xr_75_192 hp2783 rfl (v := .ref B) rfl (pc' := 195) rfl ?_
                  refine T_p xr_75_195 xn_75 (pc' := 196) (ls' := [(3, .int (iI (pl cur))), (2, .ref a), (1, .int (iI rk)), (0, .ref 496)]) (st' := [.ref B, .ref B]) rfl ?_
                  have h2789 := (hf2785.1 B (by omega)).trans ((hf2567.1 B (by omega)).trans (h2580))
                  refine T_get xr_75_196 h2789 rfl (v := .int (iI wc)) rfl (pc' := 199) rfl ?_
                  refine T_p xr_75_199 xn_75 (pc' := 200) (ls' := [(3, .int (iI (pl cur))), (2, .ref a), (1, .int (iI rk)), (0, .ref 496)]) (st' := [.int (iI 1), .int (iI wc), .ref B]) rfl ?_
                  refine T_ziadd xr_75_200 (z := wc + 1) rfl (pc' := 201) rfl ?_
                  refine T_put xr_75_201 h2789 rfl (Nat.le_of_ble_eq_true rfl) rfl (fs' := [.int (iI rc), .int (iI kc), .int (iI (wc + 1)), .ref (B + 1), .ref (B + 2), .ref (B + 3), .ref (B + 4), .ref (B + 5)]) rfl (pc' := 204) rfl (fun S2790 h2791 n2792 e2793 => ?_)
                  refine T_vret xr_75_204 xf_75.2.2 ?_
                  refine hQ _ _ ?_
                  have h2794 := (n2792 496 (by omega)).trans (hp2783)
                  have h2796 := (n2792 a (by omega)).trans ((hf2785.1 a (by omega)).trans (hw2566.1))
                  have h2797 := (n2792 (a + 1) (by first | exact (fun h => absurd (Nat.add_left_cancel h) (by decide)) | omega)).trans ((hf2785.1 (a + 1) (by omega)).trans (hw2566.2.1))
                  have h2798 := (n2792 (a + 2) (by first | exact (fun h => absurd (Nat.add_left_cancel h) (by decide)) | omega)).trans ((hf2785.1 (a + 2) (by omega)).trans (hw2566.2.2.1))
                  have h2799 := (n2792 (a + 3) (by first | exact (fun h => absurd (Nat.add_left_cancel h) (by decide)) | omega)).trans ((hf2785.1 (a + 3) (by omega)).trans (hw2566.2.2.2.1))
                  have h2800 := (n2792 (a + 4) (by first | exact (fun h => absurd (Nat.add_left_cancel h) (by decide)) | omega)).trans ((hf2785.1 (a + 4) (by omega)).trans (hw2566.2.2.2.2.1))
                  have h2801 := (n2792 (a + 5) (by first | exact (fun h => absurd (Nat.add_left_cancel h) (by decide)) | omega)).trans ((hf2785.1 (a + 5) (by omega)).trans (hw2566.2.2.2.2.2.1))
                  have h2802 := (n2792 (a + 6) (by first | exact (fun h => absurd (Nat.add_left_cancel h) (by decide)) | omega)).trans ((hf2785.1 (a + 6) (by omega)).trans (hw2566.2.2.2.2.2.2.1))
                  have h2803 := (n2792 (a + 7) (by first | exact (fun h => absurd (Nat.add_left_cancel h) (by decide)) | omega)).trans ((hf2785.1 (a + 7) (by omega)).trans (hw2566.2.2.2.2.2.2.2))
                  have hs2795 : C_ws S2790 B (X_ug D wc d2572) (X_ug W wc q2573) := C_ws.upd2 (P := fun r => r = 496 ∨ r = 497 ∨ r = B ∨ (a ≤ r ∧ r ≤ a + 7)) hs ((((((X_Fr.rf).tr (X_Fr.of n2525 e2526 (by first | decide | exact ⟨Nat.le_add_right _ _, Nat.add_le_add_left (by decide) _⟩ | omega))).tr (X_Fr.mono ⟨hf2556.1, hf2556.2⟩ (fun q hq => (by omega)))).tr (X_Fr.mono ⟨hf2567.1, hf2567.2⟩ (fun q hq => (by omega)))).tr (X_Fr.mono ⟨hf2785.1, hf2785.2⟩ (fun q hq => (by omega)))).tr (X_Fr.of n2792 e2793 (by first | decide | exact ⟨Nat.le_add_right _ _, Nat.add_le_add_left (by decide) _⟩ | omega))) haa (fun r h1 h2 h3 => by omega) (by omega) ⟨h2796, h2797, h2798, h2799, h2800, h2801, h2802, h2803⟩ hr2568
                  have h2804 := (n2792 497 (by omega)).trans (hl2784)
                  have h2805 := (n2792 (B + 1) (by first | exact (fun h => absurd (Nat.add_left_cancel h) (by decide)) | omega)).trans ((hf2785.1 (B + 1) (by omega)).trans ((hf2567.1 (B + 1) (by omega)).trans (h2581)))
                  have h2806 := (n2792 (B + 2) (by first | exact (fun h => absurd (Nat.add_left_cancel h) (by decide)) | omega)).trans ((hf2785.1 (B + 2) (by omega)).trans ((hf2567.1 (B + 2) (by omega)).trans (h2582)))
                  have h2807 := (n2792 (B + 3) (by first | exact (fun h => absurd (Nat.add_left_cancel h) (by decide)) | omega)).trans ((hf2785.1 (B + 3) (by omega)).trans ((hf2567.1 (B + 3) (by omega)).trans (h2583)))
                  have h2808 := (n2792 (B + 4) (by first | exact (fun h => absurd (Nat.add_left_cancel h) (by decide)) | omega)).trans ((hf2785.1 (B + 4) (by omega)).trans ((hf2567.1 (B + 4) (by omega)).trans (h2584)))
                  have h2811 := (n2792 (B + 5) (by first | exact (fun h => absurd (Nat.add_left_cancel h) (by decide)) | omega)).trans ((hf2785.1 (B + 5) (by omega)).trans ((hf2567.1 (B + 5) (by omega)).trans (h2585)))
                  have h2812 := (n2792 498 (by omega)).trans ((hf2785.1 498 (by first | decide | omega)).trans (h2767))
                  have h2813 := (n2792 499 (by omega)).trans ((hf2785.1 499 (by first | decide | omega)).trans (h2768))
                  have h2814 := (n2792 500 (by omega)).trans ((hf2785.1 500 (by first | decide | omega)).trans (h2769))
                  have hb2809 : C_bk S2790 B rc kc (wc + 1) rn lo kn ab := ⟨h2791, h2805, h2806, h2807, h2808, ⟨f, h2811, hf⟩, ⟨by omega, by omega⟩, ⟨by omega, by omega⟩, ⟨by omega, by omega⟩⟩
                  have hc2810 : 0 ≤ (X_av n c2571) ∧ (X_av n c2571) < n := by omega
                  refine Or.inl ⟨(X_av n c2571, d2572, q2573), ?_, fp, ⟨h2794, ⟨h2804, h2812, h2813, h2814⟩, hb2809, hs2795, hc2810⟩, (((((X_Fr.rf).tr (X_Fr.of n2525 e2526 (by first | decide | exact ⟨Nat.le_add_right _ _, Nat.add_le_add_left (by decide) _⟩ | omega))).tr (X_Fr.mono ⟨hf2556.1, hf2556.2⟩ (fun q hq => (by omega)))).tr (X_Fr.mono ⟨hf2567.1, hf2567.2⟩ (fun q hq => (by omega)))).tr (X_Fr.mono ⟨hf2785.1, hf2785.2⟩ (fun q hq => (by omega)))).tr (X_Fr.of n2792 e2793 (by first | decide | exact ⟨Nat.le_add_right _ _, Nat.add_le_add_left (by decide) _⟩ | omega))⟩
                  (repeat (first | unfold sp_wk | unfold sp_wb | unfold sp_we | rw [hsp2569] | (rw [Option.bind_some]; dsimp only) | rw [Option.bind_none] | rw [if_pos (by assumption)] | rw [if_neg (by assumption)]))
                  all_goals first | rfl | ((repeat' split) <;> first | rfl | (exfalso; omega))
                · skip
                  rw [hv2777]
                  show X_T sc 75 (188, [(3, .int (iI (pl cur))), (2, .ref a), (1, .int (iI rk)), (0, .ref 496)], [.int (iI 0)], S2781) _
                  refine T_zif_eqt xr_75_188 (t := 204) rfl (by decide) ?_
                  refine T_vret xr_75_204 xf_75.2.2 ?_
                  refine hQ _ _ ?_
                  have h2815 := (hf2785.1 B (by omega)).trans ((hf2567.1 B (by omega)).trans (h2580))
                  have h2817 := (hf2785.1 a (by omega)).trans (hw2566.1)
                  have h2818 := (hf2785.1 (a + 1) (by omega)).trans (hw2566.2.1)
                  have h2819 := (hf2785.1 (a + 2) (by omega)).trans (hw2566.2.2.1)
                  have h2820 := (hf2785.1 (a + 3) (by omega)).trans (hw2566.2.2.2.1)
                  have h2821 := (hf2785.1 (a + 4) (by omega)).trans (hw2566.2.2.2.2.1)
                  have h2822 := (hf2785.1 (a + 5) (by omega)).trans (hw2566.2.2.2.2.2.1)
                  have h2823 := (hf2785.1 (a + 6) (by omega)).trans (hw2566.2.2.2.2.2.2.1)
                  have h2824 := (hf2785.1 (a + 7) (by omega)).trans (hw2566.2.2.2.2.2.2.2)
                  have hs2816 : C_ws S2781 B (X_ug D wc d2572) (X_ug W wc q2573) := C_ws.upd2 (P := fun r => r = 496 ∨ r = 497 ∨ r = B ∨ (a ≤ r ∧ r ≤ a + 7)) hs (((((X_Fr.rf).tr (X_Fr.of n2525 e2526 (by first | decide | exact ⟨Nat.le_add_right _ _, Nat.add_le_add_left (by decide) _⟩ | omega))).tr (X_Fr.mono ⟨hf2556.1, hf2556.2⟩ (fun q hq => (by omega)))).tr (X_Fr.mono ⟨hf2567.1, hf2567.2⟩ (fun q hq => (by omega)))).tr (X_Fr.mono ⟨hf2785.1, hf2785.2⟩ (fun q hq => (by omega)))) haa (fun r h1 h2 h3 => by omega) (by omega) ⟨h2817, h2818, h2819, h2820, h2821, h2822, h2823, h2824⟩ hr2568
                  have h2825 := (hf2785.1 (B + 1) (by omega)).trans ((hf2567.1 (B + 1) (by omega)).trans (h2581))
                  have h2826 := (hf2785.1 (B + 2) (by omega)).trans ((hf2567.1 (B + 2) (by omega)).trans (h2582))
                  have h2827 := (hf2785.1 (B + 3) (by omega)).trans ((hf2567.1 (B + 3) (by omega)).trans (h2583))
                  have h2828 := (hf2785.1 (B + 4) (by omega)).trans ((hf2567.1 (B + 4) (by omega)).trans (h2584))
                  have h2831 := (hf2785.1 (B + 5) (by omega)).trans ((hf2567.1 (B + 5) (by omega)).trans (h2585))
                  have h2832 := (hf2785.1 498 (by first | decide | omega)).trans (h2767)
                  have h2833 := (hf2785.1 499 (by first | decide | omega)).trans (h2768)
                  have h2834 := (hf2785.1 500 (by first | decide | omega)).trans (h2769)
                  have hb2829 : C_bk S2781 B rc kc wc rn lo kn ab := ⟨h2815, h2825, h2826, h2827, h2828, ⟨f, h2831, hf⟩, ⟨by omega, by omega⟩, ⟨by omega, by omega⟩, ⟨by omega, by omega⟩⟩
                  have hc2830 : 0 ≤ c2571 ∧ c2571 < n := by omega
                  refine Or.inr ⟨?_, fl2786, fp2787, (c2571, rc, kc, wc, rn, lo, kn, ab, (X_ug D wc d2572), (X_ug W wc q2573)), by omega, ⟨hp2783, ⟨hl2784, h2832, h2833, h2834⟩, hb2829, hs2816, hc2830⟩, ((((X_Fr.rf).tr (X_Fr.of n2525 e2526 (by first | decide | exact ⟨Nat.le_add_right _ _, Nat.add_le_add_left (by decide) _⟩ | omega))).tr (X_Fr.mono ⟨hf2556.1, hf2556.2⟩ (fun q hq => (by omega)))).tr (X_Fr.mono ⟨hf2567.1, hf2567.2⟩ (fun q hq => (by omega)))).tr (X_Fr.mono ⟨hf2785.1, hf2785.2⟩ (fun q hq => (by omega)))⟩
                  (repeat (first | unfold sp_wk | unfold sp_wb | unfold sp_we | rw [hsp2569] | (rw [Option.bind_some]; dsimp only) | rw [Option.bind_none] | rw [if_pos (by assumption)] | rw [if_neg (by assumption)]))
                  all_goals first | rfl | ((repeat' split) <;> first | rfl | (exfalso; omega))
              · skip
                have c2776 : ¬ (¬ (so c2571) = 61) := c2776
                refine T_p xr_75_171 xn_75 (pc' := 172) (ls' := [(3, .int (iI (pl cur))), (2, .ref a), (1, .int (iI rk)), (0, .ref 496)]) (st' := [.ref 496]) rfl ?_
                refine T_p xr_75_172 xn_75 (pc' := 173) (ls' := [(3, .int (iI (pl cur))), (2, .ref a), (1, .int (iI rk)), (0, .ref 496)]) (st' := [.ref a, .ref 496]) rfl ?_
                refine T_cv (S := S2561) (q := 496) xr_75_173 xf_78.1 xf_78.2.1 xn_78 (as := [.ref a]) (r := []) rfl hp2564 (Nat.le_of_ble_eq_true rfl) (Nat.le_of_ble_eq_true rfl) (pc' := 176) rfl (ls' := [(0, .ref 496), (1, .ref a)]) rfl ?_
                have h2852 := (hf2567.1 B (by omega)).trans (h2580)
                have h2853 := (hf2567.1 (B + 1) (by omega)).trans (h2581)
                have h2854 := (hf2567.1 (B + 2) (by omega)).trans (h2582)
                have h2855 := (hf2567.1 (B + 3) (by omega)).trans (h2583)
                have h2856 := (hf2567.1 (B + 4) (by omega)).trans (h2584)
                have h2857 := (hf2567.1 (B + 5) (by omega)).trans (h2585)
                have hb2858 : C_bk S2561 B rc kc wc rn lo kn ab := ⟨h2852, h2853, h2854, h2855, h2856, ⟨f, h2857, hf⟩, ⟨by omega, by omega⟩, ⟨by omega, by omega⟩, ⟨by omega, by omega⟩⟩
                refine T_mono (c_parseSteps sc S2561 B 0 fp at_ n c2571 so pl ct rc kc wc rn lo kn ab a d2572 q2573 hB (by omega) hp2564 ⟨hl2565, h2767, h2768, h2769⟩ (by omega) hso hb2858 ⟨hw2566.1, hw2566.2.1, hw2566.2.2.1, hw2566.2.2.2.1, hw2566.2.2.2.2.1, hw2566.2.2.2.2.2.1, hw2566.2.2.2.2.2.2.1, hw2566.2.2.2.2.2.2.2⟩ hr2568 rfl) (fun v2835 S2836 h2837 => ?_)
                rcases h2837 with ⟨hv2838, c2846, d2847, hsp2844, hp2839, hl2840, hc2845, hw2841, hr2843, hf2842⟩ | ⟨hv2838, hsp2844, ⟨fl2849, fp2850, hn2851, hp2839⟩, ⟨c2846, hl2840, hc2845⟩, ⟨d2847, hw2841, hr2843⟩, hf2842⟩
                · skip
                  rw [hv2838]
                  have hs_c2846 := hso c2846 (by omega) (by omega)
                  obtain ⟨⟨_, _⟩, ⟨_, _⟩, ⟨_, _⟩, ⟨_, _⟩, ⟨_, _⟩, ⟨_, _⟩, ⟨_, _⟩, ⟨_, _⟩⟩ := id hr2843
                  show X_T sc 75 (176, [(3, .int (iI (pl cur))), (2, .ref a), (1, .int (iI rk)), (0, .ref 496)], [.int (iI 1)], S2836) _
                  refine T_zif_eqf xr_75_176 (t := 204) (pc' := 179) rfl rfl (by decide) ?_
                  refine T_p xr_75_179 xn_75 (pc' := 191) (ls' := [(3, .int (iI (pl cur))), (2, .ref a), (1, .int (iI rk)), (0, .ref 496)]) (st' := []) rfl ?_
                  refine T_p xr_75_191 xn_75 (pc' := 192) (ls' := [(3, .int (iI (pl cur))), (2, .ref a), (1, .int (iI rk)), (0, .ref 496)]) (st' := [.ref 496]) rfl ?_
                  refine T_get xr_75_192 hp2839 rfl (v := .ref B) rfl (pc' := 195) rfl ?_
                  refine T_p xr_75_195 xn_75 (pc' := 196) (ls' := [(3, .int (iI (pl cur))), (2, .ref a), (1, .int (iI rk)), (0, .ref 496)]) (st' := [.ref B, .ref B]) rfl ?_
                  have h2859 := (hf2842.1 B (by omega)).trans (h2852)
                  refine T_get xr_75_196 h2859 rfl (v := .int (iI wc)) rfl (pc' := 199) rfl ?_
                  refine T_p xr_75_199 xn_75 (pc' := 200) (ls' := [(3, .int (iI (pl cur))), (2, .ref a), (1, .int (iI rk)), (0, .ref 496)]) (st' := [.int (iI 1), .int (iI wc), .ref B]) rfl ?_
                  refine T_ziadd xr_75_200 (z := wc + 1) rfl (pc' := 201) rfl ?_
                  refine T_put xr_75_201 h2859 rfl (Nat.le_of_ble_eq_true rfl) rfl (fs' := [.int (iI rc), .int (iI kc), .int (iI (wc + 1)), .ref (B + 1), .ref (B + 2), .ref (B + 3), .ref (B + 4), .ref (B + 5)]) rfl (pc' := 204) rfl (fun S2860 h2861 n2862 e2863 => ?_)
                  refine T_vret xr_75_204 xf_75.2.2 ?_
                  refine hQ _ _ ?_
                  have h2864 := (n2862 496 (by omega)).trans (hp2839)
                  have h2866 := (n2862 a (by omega)).trans (hw2841.1)
                  have h2867 := (n2862 (a + 1) (by first | exact (fun h => absurd (Nat.add_left_cancel h) (by decide)) | omega)).trans (hw2841.2.1)
                  have h2868 := (n2862 (a + 2) (by first | exact (fun h => absurd (Nat.add_left_cancel h) (by decide)) | omega)).trans (hw2841.2.2.1)
                  have h2869 := (n2862 (a + 3) (by first | exact (fun h => absurd (Nat.add_left_cancel h) (by decide)) | omega)).trans (hw2841.2.2.2.1)
                  have h2870 := (n2862 (a + 4) (by first | exact (fun h => absurd (Nat.add_left_cancel h) (by decide)) | omega)).trans (hw2841.2.2.2.2.1)
                  have h2871 := (n2862 (a + 5) (by first | exact (fun h => absurd (Nat.add_left_cancel h) (by decide)) | omega)).trans (hw2841.2.2.2.2.2.1)
                  have h2872 := (n2862 (a + 6) (by first | exact (fun h => absurd (Nat.add_left_cancel h) (by decide)) | omega)).trans (hw2841.2.2.2.2.2.2.1)
                  have h2873 := (n2862 (a + 7) (by first | exact (fun h => absurd (Nat.add_left_cancel h) (by decide)) | omega)).trans (hw2841.2.2.2.2.2.2.2)
                  have hs2865 : C_ws S2860 B (X_ug D wc d2847) (X_ug W wc q2573) := C_ws.upd2 (P := fun r => r = 496 ∨ r = 497 ∨ r = B ∨ (a ≤ r ∧ r ≤ a + 7)) hs ((((((X_Fr.rf).tr (X_Fr.of n2525 e2526 (by first | decide | exact ⟨Nat.le_add_right _ _, Nat.add_le_add_left (by decide) _⟩ | omega))).tr (X_Fr.mono ⟨hf2556.1, hf2556.2⟩ (fun q hq => (by omega)))).tr (X_Fr.mono ⟨hf2567.1, hf2567.2⟩ (fun q hq => (by omega)))).tr (X_Fr.mono ⟨hf2842.1, hf2842.2⟩ (fun q hq => (by omega)))).tr (X_Fr.of n2862 e2863 (by first | decide | exact ⟨Nat.le_add_right _ _, Nat.add_le_add_left (by decide) _⟩ | omega))) haa (fun r h1 h2 h3 => by omega) (by omega) ⟨h2866, h2867, h2868, h2869, h2870, h2871, h2872, h2873⟩ hr2843
                  have h2874 := (n2862 497 (by omega)).trans (hl2840)
                  have h2875 := (n2862 (B + 1) (by first | exact (fun h => absurd (Nat.add_left_cancel h) (by decide)) | omega)).trans ((hf2842.1 (B + 1) (by omega)).trans (h2853))
                  have h2876 := (n2862 (B + 2) (by first | exact (fun h => absurd (Nat.add_left_cancel h) (by decide)) | omega)).trans ((hf2842.1 (B + 2) (by omega)).trans (h2854))
                  have h2877 := (n2862 (B + 3) (by first | exact (fun h => absurd (Nat.add_left_cancel h) (by decide)) | omega)).trans ((hf2842.1 (B + 3) (by omega)).trans (h2855))
                  have h2878 := (n2862 (B + 4) (by first | exact (fun h => absurd (Nat.add_left_cancel h) (by decide)) | omega)).trans ((hf2842.1 (B + 4) (by omega)).trans (h2856))
                  have h2881 := (n2862 (B + 5) (by first | exact (fun h => absurd (Nat.add_left_cancel h) (by decide)) | omega)).trans ((hf2842.1 (B + 5) (by omega)).trans (h2857))
                  have h2882 := (n2862 498 (by omega)).trans ((hf2842.1 498 (by first | decide | omega)).trans (h2767))
                  have h2883 := (n2862 499 (by omega)).trans ((hf2842.1 499 (by first | decide | omega)).trans (h2768))
                  have h2884 := (n2862 500 (by omega)).trans ((hf2842.1 500 (by first | decide | omega)).trans (h2769))
                  have hb2879 : C_bk S2860 B rc kc (wc + 1) rn lo kn ab := ⟨h2861, h2875, h2876, h2877, h2878, ⟨f, h2881, hf⟩, ⟨by omega, by omega⟩, ⟨by omega, by omega⟩, ⟨by omega, by omega⟩⟩
                  have hc2880 : 0 ≤ c2846 ∧ c2846 < n := by omega
                  refine Or.inl ⟨(c2846, d2847, q2573), ?_, fp, ⟨h2864, ⟨h2874, h2882, h2883, h2884⟩, hb2879, hs2865, hc2880⟩, (((((X_Fr.rf).tr (X_Fr.of n2525 e2526 (by first | decide | exact ⟨Nat.le_add_right _ _, Nat.add_le_add_left (by decide) _⟩ | omega))).tr (X_Fr.mono ⟨hf2556.1, hf2556.2⟩ (fun q hq => (by omega)))).tr (X_Fr.mono ⟨hf2567.1, hf2567.2⟩ (fun q hq => (by omega)))).tr (X_Fr.mono ⟨hf2842.1, hf2842.2⟩ (fun q hq => (by omega)))).tr (X_Fr.of n2862 e2863 (by first | decide | exact ⟨Nat.le_add_right _ _, Nat.add_le_add_left (by decide) _⟩ | omega))⟩
                  (repeat (first | unfold sp_wk | unfold sp_wb | unfold sp_we | rw [hsp2569] | rw [hsp2844] | (rw [Option.bind_some]; dsimp only) | rw [Option.bind_none] | rw [if_pos (by assumption)] | rw [if_neg (by assumption)]))
                  all_goals first | rfl | ((repeat' split) <;> first | rfl | (exfalso; omega))
                · skip
                  rw [hv2838]
                  have hs_c2846 := hso c2846 (by omega) (by omega)
                  obtain ⟨⟨_, _⟩, ⟨_, _⟩, ⟨_, _⟩, ⟨_, _⟩, ⟨_, _⟩, ⟨_, _⟩, ⟨_, _⟩, ⟨_, _⟩⟩ := id hr2843
                  show X_T sc 75 (176, [(3, .int (iI (pl cur))), (2, .ref a), (1, .int (iI rk)), (0, .ref 496)], [.int (iI 0)], S2836) _
                  refine T_zif_eqt xr_75_176 (t := 204) rfl (by decide) ?_
                  refine T_vret xr_75_204 xf_75.2.2 ?_
                  refine hQ _ _ ?_
                  have h2885 := (hf2842.1 B (by omega)).trans (h2852)
                  have hs2886 : C_ws S2836 B (X_ug D wc d2847) (X_ug W wc q2573) := C_ws.upd2 (P := fun r => r = 496 ∨ r = 497 ∨ r = B ∨ (a ≤ r ∧ r ≤ a + 7)) hs (((((X_Fr.rf).tr (X_Fr.of n2525 e2526 (by first | decide | exact ⟨Nat.le_add_right _ _, Nat.add_le_add_left (by decide) _⟩ | omega))).tr (X_Fr.mono ⟨hf2556.1, hf2556.2⟩ (fun q hq => (by omega)))).tr (X_Fr.mono ⟨hf2567.1, hf2567.2⟩ (fun q hq => (by omega)))).tr (X_Fr.mono ⟨hf2842.1, hf2842.2⟩ (fun q hq => (by omega)))) haa (fun r h1 h2 h3 => by omega) (by omega) ⟨hw2841.1, hw2841.2.1, hw2841.2.2.1, hw2841.2.2.2.1, hw2841.2.2.2.2.1, hw2841.2.2.2.2.2.1, hw2841.2.2.2.2.2.2.1, hw2841.2.2.2.2.2.2.2⟩ hr2843
                  have h2887 := (hf2842.1 (B + 1) (by omega)).trans (h2853)
                  have h2888 := (hf2842.1 (B + 2) (by omega)).trans (h2854)
                  have h2889 := (hf2842.1 (B + 3) (by omega)).trans (h2855)
                  have h2890 := (hf2842.1 (B + 4) (by omega)).trans (h2856)
                  have h2893 := (hf2842.1 (B + 5) (by omega)).trans (h2857)
                  have h2894 := (hf2842.1 498 (by first | decide | omega)).trans (h2767)
                  have h2895 := (hf2842.1 499 (by first | decide | omega)).trans (h2768)
                  have h2896 := (hf2842.1 500 (by first | decide | omega)).trans (h2769)
                  have hb2891 : C_bk S2836 B rc kc wc rn lo kn ab := ⟨h2885, h2887, h2888, h2889, h2890, ⟨f, h2893, hf⟩, ⟨by omega, by omega⟩, ⟨by omega, by omega⟩, ⟨by omega, by omega⟩⟩
                  have hc2892 : 0 ≤ c2846 ∧ c2846 < n := by omega
                  refine Or.inr ⟨?_, fl2849, fp2850, (c2846, rc, kc, wc, rn, lo, kn, ab, (X_ug D wc d2847), (X_ug W wc q2573)), by omega, ⟨hp2839, ⟨hl2840, h2894, h2895, h2896⟩, hb2891, hs2886, hc2892⟩, ((((X_Fr.rf).tr (X_Fr.of n2525 e2526 (by first | decide | exact ⟨Nat.le_add_right _ _, Nat.add_le_add_left (by decide) _⟩ | omega))).tr (X_Fr.mono ⟨hf2556.1, hf2556.2⟩ (fun q hq => (by omega)))).tr (X_Fr.mono ⟨hf2567.1, hf2567.2⟩ (fun q hq => (by omega)))).tr (X_Fr.mono ⟨hf2842.1, hf2842.2⟩ (fun q hq => (by omega)))⟩
                  (repeat (first | unfold sp_wk | unfold sp_wb | unfold sp_we | rw [hsp2569] | rw [hsp2844] | (rw [Option.bind_some]; dsimp only) | rw [Option.bind_none] | rw [if_pos (by assumption)] | rw [if_neg (by assumption)]))
                  all_goals first | rfl | ((repeat' split) <;> first | rfl | (exfalso; omega))
            · skip
              have c2766 : ¬ (¬ (d2572 4 0) = (d2572 3 0)) := c2766
              refine T_p xr_75_152 xn_75 (pc' := 153) (ls' := [(3, .int (iI (pl cur))), (2, .ref a), (1, .int (iI rk)), (0, .ref 496)]) (st' := [.ref 496]) rfl ?_
              refine T_cv (S := S2561) (q := 496) xr_75_153 xf_67.1 xf_67.2.1 xn_67 (as := []) (r := []) rfl hp2564 (Nat.le_of_ble_eq_true rfl) (Nat.le_of_ble_eq_true rfl) (pc' := 156) rfl (ls' := [(0, .ref 496)]) rfl ?_
              have h2906 := (hf2567.1 498 (by first | decide | omega)).trans (h2577)
              have h2907 := (hf2567.1 499 (by first | decide | omega)).trans (h2578)
              have h2908 := (hf2567.1 500 (by first | decide | omega)).trans (h2579)
              refine T_mono (c_refuse sc S2561 B 0 fp at_ n c2571 so pl ct hp2564 ⟨hl2565, h2906, h2907, h2908⟩ (by omega) hso) (fun v2897 S2898 h2899 => ?_)
              obtain ⟨h2900, ⟨fl2901, fp2902, hn2903, hp2904⟩, hf2905⟩ := h2899
              rw [h2900]
              show X_T sc 75 (156, [(3, .int (iI (pl cur))), (2, .ref a), (1, .int (iI rk)), (0, .ref 496)], [], S2898) _
              refine T_p xr_75_156 xn_75 (pc' := 204) (ls' := [(3, .int (iI (pl cur))), (2, .ref a), (1, .int (iI rk)), (0, .ref 496)]) (st' := []) rfl ?_
              refine T_vret xr_75_204 xf_75.2.2 ?_
              refine hQ _ _ ?_
              have h2909 := (hf2905.1 B (by omega)).trans ((hf2567.1 B (by omega)).trans (h2580))
              have h2911 := (hf2905.1 a (by omega)).trans (hw2566.1)
              have h2912 := (hf2905.1 (a + 1) (by omega)).trans (hw2566.2.1)
              have h2913 := (hf2905.1 (a + 2) (by omega)).trans (hw2566.2.2.1)
              have h2914 := (hf2905.1 (a + 3) (by omega)).trans (hw2566.2.2.2.1)
              have h2915 := (hf2905.1 (a + 4) (by omega)).trans (hw2566.2.2.2.2.1)
              have h2916 := (hf2905.1 (a + 5) (by omega)).trans (hw2566.2.2.2.2.2.1)
              have h2917 := (hf2905.1 (a + 6) (by omega)).trans (hw2566.2.2.2.2.2.2.1)
              have h2918 := (hf2905.1 (a + 7) (by omega)).trans (hw2566.2.2.2.2.2.2.2)
              have hs2910 : C_ws S2898 B (X_ug D wc d2572) (X_ug W wc q2573) := C_ws.upd2 (P := fun r => r = 496 ∨ r = 497 ∨ r = B ∨ (a ≤ r ∧ r ≤ a + 7)) hs (((((X_Fr.rf).tr (X_Fr.of n2525 e2526 (by first | decide | exact ⟨Nat.le_add_right _ _, Nat.add_le_add_left (by decide) _⟩ | omega))).tr (X_Fr.mono ⟨hf2556.1, hf2556.2⟩ (fun q hq => (by omega)))).tr (X_Fr.mono ⟨hf2567.1, hf2567.2⟩ (fun q hq => (by omega)))).tr (X_Fr.mono ⟨hf2905.1, hf2905.2⟩ (fun q hq => (by omega)))) haa (fun r h1 h2 h3 => by omega) (by omega) ⟨h2911, h2912, h2913, h2914, h2915, h2916, h2917, h2918⟩ hr2568
              have h2919 := (hf2905.1 497 (by first | decide | omega)).trans (hl2565)
              have h2920 := (hf2905.1 (B + 1) (by omega)).trans ((hf2567.1 (B + 1) (by omega)).trans (h2581))
              have h2921 := (hf2905.1 (B + 2) (by omega)).trans ((hf2567.1 (B + 2) (by omega)).trans (h2582))
              have h2922 := (hf2905.1 (B + 3) (by omega)).trans ((hf2567.1 (B + 3) (by omega)).trans (h2583))
              have h2923 := (hf2905.1 (B + 4) (by omega)).trans ((hf2567.1 (B + 4) (by omega)).trans (h2584))
              have h2926 := (hf2905.1 (B + 5) (by omega)).trans ((hf2567.1 (B + 5) (by omega)).trans (h2585))
              have h2927 := (hf2905.1 498 (by first | decide | omega)).trans (h2906)
              have h2928 := (hf2905.1 499 (by first | decide | omega)).trans (h2907)
              have h2929 := (hf2905.1 500 (by first | decide | omega)).trans (h2908)
              have hb2924 : C_bk S2898 B rc kc wc rn lo kn ab := ⟨h2909, h2920, h2921, h2922, h2923, ⟨f, h2926, hf⟩, ⟨by omega, by omega⟩, ⟨by omega, by omega⟩, ⟨by omega, by omega⟩⟩
              have hc2925 : 0 ≤ c2571 ∧ c2571 < n := by omega
              refine Or.inr ⟨?_, fl2901, fp2902, (c2571, rc, kc, wc, rn, lo, kn, ab, (X_ug D wc d2572), (X_ug W wc q2573)), by omega, ⟨hp2904, ⟨h2919, h2927, h2928, h2929⟩, hb2924, hs2910, hc2925⟩, ((((X_Fr.rf).tr (X_Fr.of n2525 e2526 (by first | decide | exact ⟨Nat.le_add_right _ _, Nat.add_le_add_left (by decide) _⟩ | omega))).tr (X_Fr.mono ⟨hf2556.1, hf2556.2⟩ (fun q hq => (by omega)))).tr (X_Fr.mono ⟨hf2567.1, hf2567.2⟩ (fun q hq => (by omega)))).tr (X_Fr.mono ⟨hf2905.1, hf2905.2⟩ (fun q hq => (by omega)))⟩
              (repeat (first | unfold sp_wk | unfold sp_wb | unfold sp_we | rw [hsp2569] | (rw [Option.bind_some]; dsimp only) | rw [Option.bind_none] | rw [if_pos (by assumption)] | rw [if_neg (by assumption)]))
              all_goals first | rfl | ((repeat' split) <;> first | rfl | (exfalso; omega))
          · skip
            have c2765 : (X_en d2572 q2573 = 0) := c2765
            refine T_p xr_75_132 xn_75 (pc' := 133) (ls' := [(3, .int (iI (pl cur))), (2, .ref a), (1, .int (iI rk)), (0, .ref 496)]) (st' := [.ref 496]) rfl ?_
            refine T_p xr_75_133 xn_75 (pc' := 134) (ls' := [(3, .int (iI (pl cur))), (2, .ref a), (1, .int (iI rk)), (0, .ref 496)]) (st' := [.int (iI 2), .ref 496]) rfl ?_
            refine T_p xr_75_134 xn_75 (pc' := 135) (ls' := [(3, .int (iI (pl cur))), (2, .ref a), (1, .int (iI rk)), (0, .ref 496)]) (st' := [.int (iI (pl cur)), .int (iI 2), .ref 496]) rfl ?_
            refine T_cv (S := S2561) (q := 496) xr_75_135 xf_66.1 xf_66.2.1 xn_66 (as := [.int (iI 2), .int (iI (pl cur))]) (r := []) rfl hp2564 (Nat.le_of_ble_eq_true rfl) (Nat.le_of_ble_eq_true rfl) (pc' := 138) rfl (ls' := [(0, .ref 496), (1, .int (iI 2)), (2, .int (iI (pl cur)))]) rfl ?_
            refine T_p xr_66_0 xn_66 (pc' := 1) (ls' := [(0, .ref 496), (1, .int (iI 2)), (2, .int (iI (pl cur)))]) (st' := [.ref 496]) rfl ?_
            refine T_p xr_66_1 xn_66 (pc' := 2) (ls' := [(0, .ref 496), (1, .int (iI 2)), (2, .int (iI (pl cur)))]) (st' := [.int (iI 2), .ref 496]) rfl ?_
            refine T_put xr_66_2 hp2564 rfl (Nat.le_of_ble_eq_true rfl) rfl (fs' := [.ref 497, .ref B, .int (iI 2), .int (iI fp)]) rfl (pc' := 5) rfl (fun S2930 h2931 n2932 e2933 => ?_)
            refine T_p xr_66_5 xn_66 (pc' := 6) (ls' := [(0, .ref 496), (1, .int (iI 2)), (2, .int (iI (pl cur)))]) (st' := [.ref 496]) rfl ?_
            refine T_p xr_66_6 xn_66 (pc' := 7) (ls' := [(0, .ref 496), (1, .int (iI 2)), (2, .int (iI (pl cur)))]) (st' := [.int (iI (pl cur)), .ref 496]) rfl ?_
            refine T_put xr_66_7 h2931 rfl (Nat.le_of_ble_eq_true rfl) rfl (fs' := [.ref 497, .ref B, .int (iI 2), .int (iI (pl cur))]) rfl (pc' := 10) rfl (fun S2934 h2935 n2936 e2937 => ?_)
            refine T_vret xr_66_10 xf_66.2.2 ?_
            show X_T sc 75 (138, [(3, .int (iI (pl cur))), (2, .ref a), (1, .int (iI rk)), (0, .ref 496)], [], S2934) _
            refine T_p xr_75_138 xn_75 (pc' := 204) (ls' := [(3, .int (iI (pl cur))), (2, .ref a), (1, .int (iI rk)), (0, .ref 496)]) (st' := []) rfl ?_
            refine T_vret xr_75_204 xf_75.2.2 ?_
            refine hQ _ _ ?_
            have h2938 := (n2936 B (by omega)).trans ((n2932 B (by omega)).trans ((hf2567.1 B (by omega)).trans (h2580)))
            have h2940 := (n2936 a (by omega)).trans ((n2932 a (by omega)).trans (hw2566.1))
            have h2941 := (n2936 (a + 1) (by first | exact (fun h => absurd (Nat.add_left_cancel h) (by decide)) | omega)).trans ((n2932 (a + 1) (by first | exact (fun h => absurd (Nat.add_left_cancel h) (by decide)) | omega)).trans (hw2566.2.1))
            have h2942 := (n2936 (a + 2) (by first | exact (fun h => absurd (Nat.add_left_cancel h) (by decide)) | omega)).trans ((n2932 (a + 2) (by first | exact (fun h => absurd (Nat.add_left_cancel h) (by decide)) | omega)).trans (hw2566.2.2.1))
            have h2943 := (n2936 (a + 3) (by first | exact (fun h => absurd (Nat.add_left_cancel h) (by decide)) | omega)).trans ((n2932 (a + 3) (by first | exact (fun h => absurd (Nat.add_left_cancel h) (by decide)) | omega)).trans (hw2566.2.2.2.1))
            have h2944 := (n2936 (a + 4) (by first | exact (fun h => absurd (Nat.add_left_cancel h) (by decide)) | omega)).trans ((n2932 (a + 4) (by first | exact (fun h => absurd (Nat.add_left_cancel h) (by decide)) | omega)).trans (hw2566.2.2.2.2.1))
            have h2945 := (n2936 (a + 5) (by first | exact (fun h => absurd (Nat.add_left_cancel h) (by decide)) | omega)).trans ((n2932 (a + 5) (by first | exact (fun h => absurd (Nat.add_left_cancel h) (by decide)) | omega)).trans (hw2566.2.2.2.2.2.1))
            have h2946 := (n2936 (a + 6) (by first | exact (fun h => absurd (Nat.add_left_cancel h) (by decide)) | omega)).trans ((n2932 (a + 6) (by first | exact (fun h => absurd (Nat.add_left_cancel h) (by decide)) | omega)).trans (hw2566.2.2.2.2.2.2.1))
            have h2947 := (n2936 (a + 7) (by first | exact (fun h => absurd (Nat.add_left_cancel h) (by decide)) | omega)).trans ((n2932 (a + 7) (by first | exact (fun h => absurd (Nat.add_left_cancel h) (by decide)) | omega)).trans (hw2566.2.2.2.2.2.2.2))
            have hs2939 : C_ws S2934 B (X_ug D wc d2572) (X_ug W wc q2573) := C_ws.upd2 (P := fun r => r = 496 ∨ r = 497 ∨ r = B ∨ (a ≤ r ∧ r ≤ a + 7)) hs ((((((X_Fr.rf).tr (X_Fr.of n2525 e2526 (by first | decide | exact ⟨Nat.le_add_right _ _, Nat.add_le_add_left (by decide) _⟩ | omega))).tr (X_Fr.mono ⟨hf2556.1, hf2556.2⟩ (fun q hq => (by omega)))).tr (X_Fr.mono ⟨hf2567.1, hf2567.2⟩ (fun q hq => (by omega)))).tr (X_Fr.of n2932 e2933 (by first | decide | exact ⟨Nat.le_add_right _ _, Nat.add_le_add_left (by decide) _⟩ | omega))).tr (X_Fr.of n2936 e2937 (by first | decide | exact ⟨Nat.le_add_right _ _, Nat.add_le_add_left (by decide) _⟩ | omega))) haa (fun r h1 h2 h3 => by omega) (by omega) ⟨h2940, h2941, h2942, h2943, h2944, h2945, h2946, h2947⟩ hr2568
            have h2948 := (n2936 497 (by decide)).trans ((n2932 497 (by decide)).trans (hl2565))
            have h2949 := (n2936 (B + 1) (by first | exact (fun h => absurd (Nat.add_left_cancel h) (by decide)) | omega)).trans ((n2932 (B + 1) (by first | exact (fun h => absurd (Nat.add_left_cancel h) (by decide)) | omega)).trans ((hf2567.1 (B + 1) (by omega)).trans (h2581)))
            have h2950 := (n2936 (B + 2) (by first | exact (fun h => absurd (Nat.add_left_cancel h) (by decide)) | omega)).trans ((n2932 (B + 2) (by first | exact (fun h => absurd (Nat.add_left_cancel h) (by decide)) | omega)).trans ((hf2567.1 (B + 2) (by omega)).trans (h2582)))
            have h2951 := (n2936 (B + 3) (by first | exact (fun h => absurd (Nat.add_left_cancel h) (by decide)) | omega)).trans ((n2932 (B + 3) (by first | exact (fun h => absurd (Nat.add_left_cancel h) (by decide)) | omega)).trans ((hf2567.1 (B + 3) (by omega)).trans (h2583)))
            have h2952 := (n2936 (B + 4) (by first | exact (fun h => absurd (Nat.add_left_cancel h) (by decide)) | omega)).trans ((n2932 (B + 4) (by first | exact (fun h => absurd (Nat.add_left_cancel h) (by decide)) | omega)).trans ((hf2567.1 (B + 4) (by omega)).trans (h2584)))
            have h2955 := (n2936 (B + 5) (by first | exact (fun h => absurd (Nat.add_left_cancel h) (by decide)) | omega)).trans ((n2932 (B + 5) (by first | exact (fun h => absurd (Nat.add_left_cancel h) (by decide)) | omega)).trans ((hf2567.1 (B + 5) (by omega)).trans (h2585)))
            have h2956 := (n2936 498 (by decide)).trans ((n2932 498 (by decide)).trans ((hf2567.1 498 (by first | decide | omega)).trans (h2577)))
            have h2957 := (n2936 499 (by decide)).trans ((n2932 499 (by decide)).trans ((hf2567.1 499 (by first | decide | omega)).trans (h2578)))
            have h2958 := (n2936 500 (by decide)).trans ((n2932 500 (by decide)).trans ((hf2567.1 500 (by first | decide | omega)).trans (h2579)))
            have hb2953 : C_bk S2934 B rc kc wc rn lo kn ab := ⟨h2938, h2949, h2950, h2951, h2952, ⟨f, h2955, hf⟩, ⟨by omega, by omega⟩, ⟨by omega, by omega⟩, ⟨by omega, by omega⟩⟩
            have hc2954 : 0 ≤ c2571 ∧ c2571 < n := by omega
            refine Or.inr ⟨?_, 2, pl cur, (c2571, rc, kc, wc, rn, lo, kn, ab, (X_ug D wc d2572), (X_ug W wc q2573)), by omega, ⟨h2935, ⟨h2948, h2956, h2957, h2958⟩, hb2953, hs2939, hc2954⟩, (((((X_Fr.rf).tr (X_Fr.of n2525 e2526 (by first | decide | exact ⟨Nat.le_add_right _ _, Nat.add_le_add_left (by decide) _⟩ | omega))).tr (X_Fr.mono ⟨hf2556.1, hf2556.2⟩ (fun q hq => (by omega)))).tr (X_Fr.mono ⟨hf2567.1, hf2567.2⟩ (fun q hq => (by omega)))).tr (X_Fr.of n2932 e2933 (by first | decide | exact ⟨Nat.le_add_right _ _, Nat.add_le_add_left (by decide) _⟩ | omega))).tr (X_Fr.of n2936 e2937 (by first | decide | exact ⟨Nat.le_add_right _ _, Nat.add_le_add_left (by decide) _⟩ | omega))⟩
            (repeat (first | unfold sp_wk | unfold sp_wb | unfold sp_we | rw [hsp2569] | (rw [Option.bind_some]; dsimp only) | rw [Option.bind_none] | rw [if_pos (by assumption)] | rw [if_neg (by assumption)]))
            all_goals first | rfl | ((repeat' split) <;> first | rfl | (exfalso; omega))
      · skip
        rw [hv2563]
        have hs_c2571 := hso c2571 (by omega) (by omega)
        obtain ⟨⟨_, _⟩, ⟨_, _⟩, ⟨_, _⟩, ⟨_, _⟩, ⟨_, _⟩, ⟨_, _⟩, ⟨_, _⟩, ⟨_, _⟩⟩ := id hr2568
        show X_T sc 75 (114, [(3, .int (iI (pl cur))), (2, .ref a), (1, .int (iI rk)), (0, .ref 496)], [.int (iI 0)], S2561) _
        refine T_zif_nef xr_75_114 (t := 118) (pc' := 117) rfl rfl (by decide) ?_
        refine T_vret xr_75_117 xf_75.2.2 ?_
        refine hQ _ _ ?_
        have h2959 := (hf2567.1 B (by omega)).trans (h2580)
        have hs2960 : C_ws S2561 B (X_ug D wc d2572) (X_ug W wc q2573) := C_ws.upd2 (P := fun r => r = 496 ∨ r = 497 ∨ r = B ∨ (a ≤ r ∧ r ≤ a + 7)) hs ((((X_Fr.rf).tr (X_Fr.of n2525 e2526 (by first | decide | exact ⟨Nat.le_add_right _ _, Nat.add_le_add_left (by decide) _⟩ | omega))).tr (X_Fr.mono ⟨hf2556.1, hf2556.2⟩ (fun q hq => (by omega)))).tr (X_Fr.mono ⟨hf2567.1, hf2567.2⟩ (fun q hq => (by omega)))) haa (fun r h1 h2 h3 => by omega) (by omega) ⟨hw2566.1, hw2566.2.1, hw2566.2.2.1, hw2566.2.2.2.1, hw2566.2.2.2.2.1, hw2566.2.2.2.2.2.1, hw2566.2.2.2.2.2.2.1, hw2566.2.2.2.2.2.2.2⟩ hr2568
        have h2961 := (hf2567.1 (B + 1) (by omega)).trans (h2581)
        have h2962 := (hf2567.1 (B + 2) (by omega)).trans (h2582)
        have h2963 := (hf2567.1 (B + 3) (by omega)).trans (h2583)
        have h2964 := (hf2567.1 (B + 4) (by omega)).trans (h2584)
        have h2967 := (hf2567.1 (B + 5) (by omega)).trans (h2585)
        have h2968 := (hf2567.1 498 (by first | decide | omega)).trans (h2577)
        have h2969 := (hf2567.1 499 (by first | decide | omega)).trans (h2578)
        have h2970 := (hf2567.1 500 (by first | decide | omega)).trans (h2579)
        have hb2965 : C_bk S2561 B rc kc wc rn lo kn ab := ⟨h2959, h2961, h2962, h2963, h2964, ⟨f, h2967, hf⟩, ⟨by omega, by omega⟩, ⟨by omega, by omega⟩, ⟨by omega, by omega⟩⟩
        have hc2966 : 0 ≤ c2571 ∧ c2571 < n := by omega
        refine Or.inr ⟨?_, fl2574, fp2575, (c2571, rc, kc, wc, rn, lo, kn, ab, (X_ug D wc d2572), (X_ug W wc q2573)), by omega, ⟨hp2564, ⟨hl2565, h2968, h2969, h2970⟩, hb2965, hs2960, hc2966⟩, (((X_Fr.rf).tr (X_Fr.of n2525 e2526 (by first | decide | exact ⟨Nat.le_add_right _ _, Nat.add_le_add_left (by decide) _⟩ | omega))).tr (X_Fr.mono ⟨hf2556.1, hf2556.2⟩ (fun q hq => (by omega)))).tr (X_Fr.mono ⟨hf2567.1, hf2567.2⟩ (fun q hq => (by omega)))⟩
        (repeat (first | unfold sp_wk | unfold sp_wb | unfold sp_we | rw [hsp2569] | (rw [Option.bind_some]; dsimp only) | rw [Option.bind_none] | rw [if_pos (by assumption)] | rw [if_neg (by assumption)]))
        all_goals first | rfl | ((repeat' split) <;> first | rfl | (exfalso; omega))
    · skip
      rw [hv2548]
      show X_T sc 75 (106, [(3, .int (iI (pl cur))), (2, .ref a), (1, .int (iI rk)), (0, .ref 496)], [.int (iI 0)], S2552) _
      refine T_zif_eqt xr_75_106 (t := 117) rfl (by decide) ?_
      refine T_vret xr_75_117 xf_75.2.2 ?_
      refine hQ _ _ ?_
      have h2971 := (hf2556.1 B (by omega)).trans ((n2525 B (by omega)).trans (hb0))
      have h2973 := (hf2556.1 a (by omega)).trans (h2536)
      have h2974 := (hf2556.1 (a + 1) (by omega)).trans (hw2528.2.1)
      have h2975 := (hf2556.1 (a + 2) (by omega)).trans (hw2528.2.2.1)
      have h2976 := (hf2556.1 (a + 3) (by omega)).trans (hw2528.2.2.2.1)
      have h2977 := (hf2556.1 (a + 4) (by omega)).trans (hw2528.2.2.2.2.1)
      have h2978 := (hf2556.1 (a + 5) (by omega)).trans (hw2528.2.2.2.2.2.1)
      have h2979 := (hf2556.1 (a + 6) (by omega)).trans (hw2528.2.2.2.2.2.2.1)
      have h2980 := (hf2556.1 (a + 7) (by omega)).trans (hw2528.2.2.2.2.2.2.2)
      have hs2972 : C_ws S2552 B (X_ug D wc (X_wu (D wc) 2 (fun _ => kd))) (X_ug W wc (W wc)) := C_ws.upd2 (P := fun r => r = 496 ∨ r = 497 ∨ r = B ∨ (a ≤ r ∧ r ≤ a + 7)) hs (((X_Fr.rf).tr (X_Fr.of n2525 e2526 (by first | decide | exact ⟨Nat.le_add_right _ _, Nat.add_le_add_left (by decide) _⟩ | omega))).tr (X_Fr.mono ⟨hf2556.1, hf2556.2⟩ (fun q hq => (by omega)))) haa (fun r h1 h2 h3 => by omega) (by omega) ⟨h2973, h2974, h2975, h2976, h2977, h2978, h2979, h2980⟩ hr2527
      have h2981 := (hf2556.1 (B + 1) (by omega)).trans ((n2525 (B + 1) (by first | exact (fun h => absurd (Nat.add_left_cancel h) (by decide)) | omega)).trans (hb1))
      have h2982 := (hf2556.1 (B + 2) (by omega)).trans ((n2525 (B + 2) (by first | exact (fun h => absurd (Nat.add_left_cancel h) (by decide)) | omega)).trans (hb2))
      have h2983 := (hf2556.1 (B + 3) (by omega)).trans ((n2525 (B + 3) (by first | exact (fun h => absurd (Nat.add_left_cancel h) (by decide)) | omega)).trans (hb3))
      have h2984 := (hf2556.1 (B + 4) (by omega)).trans ((n2525 (B + 4) (by first | exact (fun h => absurd (Nat.add_left_cancel h) (by decide)) | omega)).trans (hb4))
      have h2987 := (hf2556.1 (B + 5) (by omega)).trans ((n2525 (B + 5) (by first | exact (fun h => absurd (Nat.add_left_cancel h) (by decide)) | omega)).trans (hb5))
      have h2988 := (hf2556.1 498 (by first | decide | omega)).trans (h2539)
      have h2989 := (hf2556.1 499 (by first | decide | omega)).trans (h2540)
      have h2990 := (hf2556.1 500 (by first | decide | omega)).trans (h2541)
      have hb2985 : C_bk S2552 B rc kc wc rn lo kn ab := ⟨h2971, h2981, h2982, h2983, h2984, ⟨f, h2987, hf⟩, ⟨by omega, by omega⟩, ⟨by omega, by omega⟩, ⟨by omega, by omega⟩⟩
      have hc2986 : 0 ≤ cur ∧ cur < n := by omega
      refine Or.inr ⟨?_, fl2557, fp2558, (cur, rc, kc, wc, rn, lo, kn, ab, (X_ug D wc (X_wu (D wc) 2 (fun _ => kd))), (X_ug W wc (W wc))), by omega, ⟨hp2554, ⟨hl2555, h2988, h2989, h2990⟩, hb2985, hs2972, hc2986⟩, ((X_Fr.rf).tr (X_Fr.of n2525 e2526 (by first | decide | exact ⟨Nat.le_add_right _ _, Nat.add_le_add_left (by decide) _⟩ | omega))).tr (X_Fr.mono ⟨hf2556.1, hf2556.2⟩ (fun q hq => (by omega)))⟩
      (repeat (first | unfold sp_wk | unfold sp_wb | unfold sp_we | (rw [Option.bind_some]; dsimp only) | rw [Option.bind_none] | rw [if_pos (by assumption)] | rw [if_neg (by assumption)]))
      all_goals first | rfl | ((repeat' split) <;> first | rfl | (exfalso; omega))
theorem c_parseWord (sc : X_Sc) (S : X_S) (B : Nat) (fp at_ n : Int) (so pl : Int → Int) (ct : Int → Int64) (cur rc kc wc : Int) (rn : Int → Int64) (lo : Int → Int) (kn : Int → Int64) (ab : Int → Int) (D : Int → Nat → Int → Int) (W : Int → Int → Int64) (hB : 4 ≤ B ∧ B + 246 ≤ 496) (hn : n ≤ 2001) (hso : ∀ i, 0 ≤ i → i < n → 0 ≤ so i ∧ so i ≤ 255) (hK : C_K S B 0 fp at_ n so pl ct (cur, rc, kc, wc, rn, lo, kn, ab, D, W)) : X_T sc 75 (0, [(0, .ref 496)], [], S) (fun v S' => (∃ K, sp_word n so ct (cur, rc, kc, wc, rn, lo, kn, ab, D, W) = some K ∧ ∃ fp', C_K S' B 0 fp' at_ n so pl ct K ∧ X_Fr (fun q => q = 496 ∨ q = 497 ∨ (B ≤ q ∧ q < B + 246)) S S') ∨ (sp_word n so ct (cur, rc, kc, wc, rn, lo, kn, ab, D, W) = none ∧ ∃ fl' fp' K, (¬ fl' = 0 ∧ 0 ≤ fl' ∧ fl' ≤ 5) ∧ C_K S' B fl' fp' at_ n so pl ct K ∧ X_Fr (fun q => q = 496 ∨ q = 497 ∨ (B ≤ q ∧ q < B + 246)) S S')) := by
  obtain ⟨hp, hx, hb, hs, hcu⟩ := id hK
  simp only at hx hb hs hcu
  obtain ⟨hb0, hb1, hb2, hb3, hb4, ⟨f, hb5, hf⟩, ⟨hrc, hrcb⟩, ⟨hkc, hkcb⟩, ⟨hwc, hwcb⟩⟩ := id hb
  refine X_QI (fun Q hQ => ?_)
  refine T_p xr_75_0 xn_75 (pc' := 1) (ls' := [(0, .ref 496)]) (st' := [.ref 496]) rfl ?_
  refine T_get xr_75_1 hp rfl (v := .ref B) rfl (pc' := 4) rfl ?_
  refine T_get xr_75_4 hb0 rfl (v := .int (iI wc)) rfl (pc' := 7) rfl ?_
  refine T_p xr_75_7 xn_75 (pc' := 9) (ls' := [(0, .ref 496)]) (st' := [.int (iI 30), .int (iI wc)]) rfl ?_
  refine T_zicmp_ne xr_75_9 (t := 17) (pc' := 12) rfl rfl (fun c2991 => ?_) (fun c2991 => ?_)
  · skip
    have c2991 : ¬ wc = 30 := c2991
    refine T_p xr_75_17 xn_75 (pc' := 18) (ls' := [(0, .ref 496)]) (st' := [.ref 496]) rfl ?_
    refine T_get xr_75_18 hp rfl (v := .ref 497) rfl (pc' := 21) rfl ?_
    refine T_cv (S := S) (q := 497) xr_75_21 xf_52.1 xf_52.2.1 xn_52 (as := []) (r := []) rfl hx.1 (Nat.le_of_ble_eq_true rfl) (Nat.le_of_ble_eq_true rfl) (pc' := 24) rfl (ls' := [(0, .ref 497)]) rfl ?_
    refine T_mono (c_advance sc S at_ n cur so pl ct ⟨hx.1, hx.2.1, hx.2.2.1, hx.2.2.2⟩ (by omega)) (fun v2993 S2994 h2992 => ?_)
    obtain ⟨h2995, h2997, h2996⟩ := h2992
    rw [h2995]
    show X_T sc 75 (24, [(0, .ref 496)], [], S2994) _
    have hv2998 := X_av_r (n := n) (c := cur) (by omega)
    refine T_p xr_75_24 xn_75 (pc' := 25) (ls' := [(0, .ref 496)]) (st' := [.ref 496]) rfl ?_
    have h2999 := (h2996.1 496 (by first | decide | omega)).trans (hp)
    refine T_cv (S := S2994) (q := 496) xr_75_25 xf_72.1 xf_72.2.1 xn_72 (as := []) (r := []) rfl h2999 (Nat.le_of_ble_eq_true rfl) (Nat.le_of_ble_eq_true rfl) (pc' := 28) rfl (ls' := [(0, .ref 496)]) rfl ?_
    have h3000 := (h2996.1 498 (by first | decide | omega)).trans (hx.2.1)
    have h3001 := (h2996.1 499 (by first | decide | omega)).trans (hx.2.2.1)
    have h3002 := (h2996.1 500 (by first | decide | omega)).trans (hx.2.2.2)
    have h3003 := (h2996.1 B (by omega)).trans (hb0)
    have h3004 := (h2996.1 (B + 1) (by omega)).trans (hb1)
    have h3010 := (h2996.1 (B + 2) (by omega)).trans (hb2)
    have h3011 := (h2996.1 (B + 3) (by omega)).trans (hb3)
    have h3012 := (h2996.1 (B + 4) (by omega)).trans (hb4)
    have h3013 := (h2996.1 (B + 5) (by omega)).trans (hb5)
    have hb3014 : C_bk S2994 B rc kc wc rn lo kn ab := ⟨h3003, h3004, h3010, h3011, h3012, ⟨f, h3013, hf⟩, ⟨by omega, by omega⟩, ⟨by omega, by omega⟩, ⟨by omega, by omega⟩⟩
    refine T_mono (c_passRank sc S2994 B 0 fp at_ n (X_av n cur) so pl ct rc kc wc rn lo kn ab h2999 ⟨h2997, h3000, h3001, h3002⟩ (by omega) hso hB hb3014) (fun v3016 S3017 h3018 => ?_)
    rcases h3018 with ⟨h3005, h3006, h3007, h3008, hp3019, hl3020, hf3021⟩ | ⟨h3005, h3009, ⟨fl3022, fp3023, hn3024, hp3019⟩, hl3020, hf3021⟩
    · skip
      rw [h3005]
      have hv3015 := X_av_r (n := n) (c := (X_av n cur)) (by omega)
      show X_T sc 75 (28, [(0, .ref 496)], [.int (iI (X_ix rn rc (ct (X_av n cur))))], S3017) _
      refine T_p xr_75_28 xn_75 (pc' := 29) (ls' := [(1, .int (iI (X_ix rn rc (ct (X_av n cur))))), (0, .ref 496)]) (st' := []) rfl ?_
      refine T_p xr_75_29 xn_75 (pc' := 30) (ls' := [(1, .int (iI (X_ix rn rc (ct (X_av n cur))))), (0, .ref 496)]) (st' := [.int (iI (X_ix rn rc (ct (X_av n cur))))]) rfl ?_
      refine T_p xr_75_30 xn_75 (pc' := 31) (ls' := [(1, .int (iI (X_ix rn rc (ct (X_av n cur))))), (0, .ref 496)]) (st' := [.int (iI (-1)), .int (iI (X_ix rn rc (ct (X_av n cur))))]) rfl ?_
      refine T_zicmp_ne xr_75_31 (t := 35) (pc' := 34) rfl rfl (fun c3025 => ?_) (fun c3025 => ?_)
      · skip
        have c3025 : ¬ (X_ix rn rc (ct (X_av n cur))) = (-1) := c3025
        refine T_p xr_75_35 xn_75 (pc' := 36) (ls' := [(1, .int (iI (X_ix rn rc (ct (X_av n cur))))), (0, .ref 496)]) (st' := [.ref 496]) rfl ?_
        refine T_get xr_75_36 hp3019 rfl (v := .ref B) rfl (pc' := 39) rfl ?_
        have h3026 := (hf3021.1 B (by omega)).trans (h3003)
        refine T_get xr_75_39 h3026 rfl (v := .ref (B + 5)) rfl (pc' := 42) rfl ?_
        refine T_p xr_75_42 xn_75 (pc' := 43) (ls' := [(1, .int (iI (X_ix rn rc (ct (X_av n cur))))), (0, .ref 496)]) (st' := [.ref 496, .ref (B + 5)]) rfl ?_
        refine T_get xr_75_43 hp3019 rfl (v := .ref B) rfl (pc' := 46) rfl ?_
        refine T_get xr_75_46 h3026 rfl (v := .int (iI wc)) rfl (pc' := 49) rfl ?_
        have h3027 := (hf3021.1 (B + 5) (by omega)).trans (h3013)
        have hs3028 : C_ws S3017 B D W := C_ws.fr (P := fun r => ¬ (B + 6 ≤ r ∧ r < B + 246)) hs (((X_Fr.rf).tr (X_Fr.mono ⟨h2996.1, h2996.2⟩ (fun q hq => (by omega)))).tr (X_Fr.mono ⟨hf3021.1, hf3021.2⟩ (fun q hq => (by omega)))) (fun k h1 h2 => by omega)
        have hwa := hs3028 wc (by omega) (by omega)
        obtain ⟨a, haa⟩ : ∃ z : Nat, z = B + 6 + 8 * (wc : Int).toNat := ⟨_, rfl⟩
        rw [← haa] at hwa
        obtain ⟨⟨_, _⟩, ⟨_, _⟩, ⟨_, _⟩, ⟨_, _⟩, ⟨_, _⟩, ⟨_, _⟩, ⟨_, _⟩, ⟨_, _⟩⟩ := id hwa.2
        refine T_zaald xr_75_49 h3027 (w := a) (by rw [haa]; exact hf _ (by omega)) (pc' := 50) rfl ?_
        refine T_p xr_75_50 xn_75 (pc' := 51) (ls' := [(2, .ref a), (1, .int (iI (X_ix rn rc (ct (X_av n cur))))), (0, .ref 496)]) (st' := []) rfl ?_
        refine T_p xr_75_51 xn_75 (pc' := 52) (ls' := [(2, .ref a), (1, .int (iI (X_ix rn rc (ct (X_av n cur))))), (0, .ref 496)]) (st' := [.ref a]) rfl ?_
        refine T_p xr_75_52 xn_75 (pc' := 53) (ls' := [(2, .ref a), (1, .int (iI (X_ix rn rc (ct (X_av n cur))))), (0, .ref 496)]) (st' := [.int (iI (X_ix rn rc (ct (X_av n cur)))), .ref a]) rfl ?_
        refine T_cv (S := S3017) (q := a) xr_75_53 xf_95.1 xf_95.2.1 xn_95 (as := [.int (iI (X_ix rn rc (ct (X_av n cur))))]) (r := []) rfl hwa.1.1 (Nat.le_of_ble_eq_true rfl) (Nat.le_of_ble_eq_true rfl) (pc' := 56) rfl (ls' := [(0, .ref a), (1, .int (iI (X_ix rn rc (ct (X_av n cur)))))]) rfl ?_
        have hr3038 : X_wr (X_clr (D wc) (X_ix rn rc (ct (X_av n cur)))) := X_wr_clr (by omega)
        refine T_mono (c_clearw sc S3017 a (D wc) (W wc) (X_ix rn rc (ct (X_av n cur))) ⟨hwa.1.1, hwa.1.2.1, hwa.1.2.2.1, hwa.1.2.2.2.1, hwa.1.2.2.2.2.1, hwa.1.2.2.2.2.2.1, hwa.1.2.2.2.2.2.2.1, hwa.1.2.2.2.2.2.2.2⟩ hwa.2 ) (fun v3032 S3033 h3034 => ?_)
        obtain ⟨h3035, hw3036, hf3037⟩ := h3034
        rw [h3035]
        have hw3036 : C_wd S3033 a (X_clr (D wc) (X_ix rn rc (ct (X_av n cur)))) (W wc) := hw3036
        show X_T sc 75 (56, [(2, .ref a), (1, .int (iI (X_ix rn rc (ct (X_av n cur))))), (0, .ref 496)], [], S3033) _
        refine T_p xr_75_56 xn_75 (pc' := 57) (ls' := [(2, .ref a), (1, .int (iI (X_ix rn rc (ct (X_av n cur))))), (0, .ref 496)]) (st' := [.ref 496]) rfl ?_
        refine T_p xr_75_57 xn_75 (pc' := 58) (ls' := [(2, .ref a), (1, .int (iI (X_ix rn rc (ct (X_av n cur))))), (0, .ref 496)]) (st' := [.ref a, .ref 496]) rfl ?_
        have h3039 := (hf3037.1 496 (by first | decide | omega)).trans (hp3019)
        refine T_cv (S := S3033) (q := 496) xr_75_58 xf_76.1 xf_76.2.1 xn_76 (as := [.ref a]) (r := []) rfl h3039 (Nat.le_of_ble_eq_true rfl) (Nat.le_of_ble_eq_true rfl) (pc' := 61) rfl (ls' := [(0, .ref 496), (1, .ref a)]) rfl ?_
        have h3049 := (hf3037.1 497 (by first | decide | omega)).trans (hl3020)
        have h3050 := (hf3037.1 498 (by first | decide | omega)).trans ((hf3021.1 498 (by first | decide | omega)).trans (h3000))
        have h3051 := (hf3037.1 499 (by first | decide | omega)).trans ((hf3021.1 499 (by first | decide | omega)).trans (h3001))
        have h3052 := (hf3037.1 500 (by first | decide | omega)).trans ((hf3021.1 500 (by first | decide | omega)).trans (h3002))
        have h3053 := (hf3037.1 B (by omega)).trans (h3026)
        have h3054 := (hf3037.1 (B + 1) (by omega)).trans ((hf3021.1 (B + 1) (by omega)).trans (h3004))
        have h3055 := (hf3037.1 (B + 2) (by omega)).trans ((hf3021.1 (B + 2) (by omega)).trans (h3010))
        have h3056 := (hf3037.1 (B + 3) (by omega)).trans ((hf3021.1 (B + 3) (by omega)).trans (h3011))
        have h3057 := (hf3037.1 (B + 4) (by omega)).trans ((hf3021.1 (B + 4) (by omega)).trans (h3012))
        have h3058 := (hf3037.1 (B + 5) (by omega)).trans (h3027)
        have hb3059 : C_bk S3033 B rc kc wc rn lo kn ab := ⟨h3053, h3054, h3055, h3056, h3057, ⟨f, h3058, hf⟩, ⟨by omega, by omega⟩, ⟨by omega, by omega⟩, ⟨by omega, by omega⟩⟩
        refine T_mono (c_parseLean sc S3033 B 0 fp at_ n (X_av n (X_av n cur)) so pl ct rc kc wc rn lo kn ab a (X_clr (D wc) (X_ix rn rc (ct (X_av n cur)))) (W wc) hB (by omega) h3039 ⟨h3049, h3050, h3051, h3052⟩ (by omega) hso hb3059 ⟨hw3036.1, hw3036.2.1, hw3036.2.2.1, hw3036.2.2.2.1, hw3036.2.2.2.2.1, hw3036.2.2.2.2.2.1, hw3036.2.2.2.2.2.2.1, hw3036.2.2.2.2.2.2.2⟩ hr3038) (fun v3040 S3041 h3042 => ?_)
        obtain ⟨hv3043, hp3044, hl3045, hw3046, hf3047⟩ := h3042
        rw [hv3043]
        have hw3046 : C_wd S3041 a (X_wu (X_clr (D wc) (X_ix rn rc (ct (X_av n cur)))) 1 (fun _ => X_lnV so ct (X_av n (X_av n cur)) 0)) (W wc) := hw3046
        have hr3048 : X_wr (X_wu (X_clr (D wc) (X_ix rn rc (ct (X_av n cur)))) 1 (fun _ => X_lnV so ct (X_av n (X_av n cur)) 0)) := X_wr_1 hr3038 (X_lnV_r (by omega))
        have hc3060 := X_lnC_r (n := n) (so := so) (ct := ct) (c := (X_av n (X_av n cur))) (by omega)
        show X_T sc 75 (61, [(2, .ref a), (1, .int (iI (X_ix rn rc (ct (X_av n cur))))), (0, .ref 496)], [], S3041) _
        refine T_p xr_75_61 xn_75 (pc' := 62) (ls' := [(2, .ref a), (1, .int (iI (X_ix rn rc (ct (X_av n cur))))), (0, .ref 496)]) (st' := [.ref a]) rfl ?_
        refine T_p xr_75_62 xn_75 (pc' := 63) (ls' := [(2, .ref a), (1, .int (iI (X_ix rn rc (ct (X_av n cur))))), (0, .ref 496)]) (st' := [.ref 496, .ref a]) rfl ?_
        refine T_get xr_75_63 hp3044 rfl (v := .ref 497) rfl (pc' := 66) rfl ?_
        refine T_cv (S := S3041) (q := 497) xr_75_66 xf_48.1 xf_48.2.1 xn_48 (as := []) (r := [.ref a]) rfl hl3045 (Nat.le_of_ble_eq_true rfl) (Nat.le_of_ble_eq_true rfl) (pc' := 69) rfl (ls' := [(0, .ref 497)]) rfl ?_
        have h3061 := (hf3047.1 498 (by first | decide | omega)).trans (h3050)
        have h3062 := (hf3047.1 499 (by first | decide | omega)).trans (h3051)
        have h3063 := (hf3047.1 500 (by first | decide | omega)).trans (h3052)
        refine T_mono (c_sort sc S3041 at_ n (X_lnC n so ct (X_av n (X_av n cur))) so pl ct ⟨hl3045, h3061, h3062, h3063⟩ (by omega)) (fun v3065 S3066 h3064 => ?_)
        obtain ⟨h3067, h3068⟩ := h3064
        rw [h3067, h3068]
        show X_T sc 75 (69, [(2, .ref a), (1, .int (iI (X_ix rn rc (ct (X_av n cur))))), (0, .ref 496)], [.int (iI (so (X_lnC n so ct (X_av n (X_av n cur))))), .ref a], S3041) _
        have hs3069 := hso (X_lnC n so ct (X_av n (X_av n cur))) (by omega) (by omega)
        refine T_p xr_75_69 xn_75 (pc' := 70) (ls' := [(2, .ref a), (1, .int (iI (X_ix rn rc (ct (X_av n cur))))), (0, .ref 496)]) (st' := [.int (iI 2), .int (iI (so (X_lnC n so ct (X_av n (X_av n cur))))), .ref a]) rfl ?_
        refine T_zicmp_ne xr_75_70 (t := 80) (pc' := 73) rfl rfl (fun c3070 => ?_) (fun c3070 => ?_)
        · skip
          have c3070 : ¬ (so (X_lnC n so ct (X_av n (X_av n cur)))) = 2 := c3070
          refine T_p xr_75_80 xn_75 (pc' := 81) (ls' := [(2, .ref a), (1, .int (iI (X_ix rn rc (ct (X_av n cur))))), (0, .ref 496)]) (st' := [.int (iI 0), .ref a]) rfl ?_
          have h3071 := (hf3047.1 B (by omega)).trans (h3053)
          have hs3072 : C_ws S3041 B (X_ug D wc (X_wu (X_clr (D wc) (X_ix rn rc (ct (X_av n cur)))) 1 (fun _ => X_lnV so ct (X_av n (X_av n cur)) 0))) (X_ug W wc (W wc)) := C_ws.upd2 (P := fun r => r = 496 ∨ r = 497 ∨ r = B ∨ (a ≤ r ∧ r ≤ a + 7)) hs3028 (((X_Fr.rf).tr (X_Fr.mono ⟨hf3037.1, hf3037.2⟩ (fun q hq => (by omega)))).tr (X_Fr.mono ⟨hf3047.1, hf3047.2⟩ (fun q hq => (by omega)))) haa (fun r h1 h2 h3 => by omega) (by omega) ⟨hw3046.1, hw3046.2.1, hw3046.2.2.1, hw3046.2.2.2.1, hw3046.2.2.2.2.1, hw3046.2.2.2.2.2.1, hw3046.2.2.2.2.2.2.1, hw3046.2.2.2.2.2.2.2⟩ hr3048
          have h3073 := (hf3047.1 (B + 1) (by omega)).trans (h3054)
          have h3074 := (hf3047.1 (B + 2) (by omega)).trans (h3055)
          have h3075 := (hf3047.1 (B + 3) (by omega)).trans (h3056)
          have h3076 := (hf3047.1 (B + 4) (by omega)).trans (h3057)
          have h3079 := (hf3047.1 (B + 5) (by omega)).trans (h3058)
          have hb3077 : C_bk S3041 B rc kc wc rn lo kn ab := ⟨h3071, h3073, h3074, h3075, h3076, ⟨f, h3079, hf⟩, ⟨by omega, by omega⟩, ⟨by omega, by omega⟩, ⟨by omega, by omega⟩⟩
          have hc3078 : 0 ≤ (X_lnC n so ct (X_av n (X_av n cur))) ∧ (X_lnC n so ct (X_av n (X_av n cur))) < n := by omega
          skip
          refine T_mono (c_pwT sc S3041 B fp at_ n so pl ct (X_lnC n so ct (X_av n (X_av n cur))) rc kc wc rn lo kn ab (X_ug D wc (X_wu (X_clr (D wc) (X_ix rn rc (ct (X_av n cur)))) 1 (fun _ => X_lnV so ct (X_av n (X_av n cur)) 0))) (X_ug W wc (W wc)) a (X_ix rn rc (ct (X_av n cur))) 0 hB hn hso ⟨hp3044, ⟨hl3045, h3061, h3062, h3063⟩, hb3077, hs3072, hc3078⟩ (by omega) (by omega) haa) (fun v3080 S3081 h3082 => hQ _ _ ?_)
          rw [X_ug_s, X_ug_s] at h3082
          simp only [X_ug_ug] at h3082
          rcases h3082 with ⟨r3084, hsp3085, fp3086, hK3087, hf3088⟩ | ⟨hsp3085, fl3089, fp3086, K3091, hn3090, hK3087, hf3088⟩
          · refine Or.inl ⟨_, ?_, fp3086, hK3087, ((((((X_Fr.rf).tr (X_Fr.mono ⟨h2996.1, h2996.2⟩ (fun q hq => (by omega)))).tr (X_Fr.mono ⟨hf3021.1, hf3021.2⟩ (fun q hq => (by omega)))).tr (X_Fr.mono ⟨hf3037.1, hf3037.2⟩ (fun q hq => (by omega)))).tr (X_Fr.mono ⟨hf3047.1, hf3047.2⟩ (fun q hq => (by omega)))).tr hf3088)⟩
            simp only [sp_word]
            (repeat (first | unfold sp_wk | rw [if_pos (by assumption)] | rw [if_neg (by assumption)]))
            first | exact congrArg (fun o => Option.bind o _) hsp3085 | (refine (congrArg (fun o => Option.bind o _) hsp3085).trans ?_; rfl)
          · refine Or.inr ⟨?_, fl3089, fp3086, K3091, hn3090, hK3087, ((((((X_Fr.rf).tr (X_Fr.mono ⟨h2996.1, h2996.2⟩ (fun q hq => (by omega)))).tr (X_Fr.mono ⟨hf3021.1, hf3021.2⟩ (fun q hq => (by omega)))).tr (X_Fr.mono ⟨hf3037.1, hf3037.2⟩ (fun q hq => (by omega)))).tr (X_Fr.mono ⟨hf3047.1, hf3047.2⟩ (fun q hq => (by omega)))).tr hf3088)⟩
            simp only [sp_word]
            (repeat (first | unfold sp_wk | rw [if_pos (by assumption)] | rw [if_neg (by assumption)]))
            first | exact congrArg (fun o => Option.bind o _) hsp3085 | (refine (congrArg (fun o => Option.bind o _) hsp3085).trans ?_; rfl)
        · skip
          have c3070 : ¬ (¬ (so (X_lnC n so ct (X_av n (X_av n cur)))) = 2) := c3070
          refine T_p xr_75_73 xn_75 (pc' := 74) (ls' := [(2, .ref a), (1, .int (iI (X_ix rn rc (ct (X_av n cur))))), (0, .ref 496)]) (st' := [.ref 496, .ref a]) rfl ?_
          refine T_cv (S := S3041) (q := 496) xr_75_74 xf_73.1 xf_73.2.1 xn_73 (as := []) (r := [.ref a]) rfl hp3044 (Nat.le_of_ble_eq_true rfl) (Nat.le_of_ble_eq_true rfl) (pc' := 77) rfl (ls' := [(0, .ref 496)]) rfl ?_
          have h3092 := (hf3047.1 B (by omega)).trans (h3053)
          have h3093 := (hf3047.1 (B + 3) (by omega)).trans (h3056)
          have h3099 := (hf3047.1 (B + 1) (by omega)).trans (h3054)
          have h3100 := (hf3047.1 (B + 2) (by omega)).trans (h3055)
          have h3101 := (hf3047.1 (B + 4) (by omega)).trans (h3057)
          have h3102 := (hf3047.1 (B + 5) (by omega)).trans (h3058)
          have hb3103 : C_bk S3041 B rc kc wc rn lo kn ab := ⟨h3092, h3099, h3100, h3093, h3101, ⟨f, h3102, hf⟩, ⟨by omega, by omega⟩, ⟨by omega, by omega⟩, ⟨by omega, by omega⟩⟩
          refine T_mono (c_passKind sc S3041 B 0 fp at_ n (X_lnC n so ct (X_av n (X_av n cur))) so pl ct rc kc wc rn lo kn ab hp3044 ⟨hl3045, h3061, h3062, h3063⟩ (by omega) hso hB hb3103) (fun v3105 S3106 h3107 => ?_)
          rcases h3107 with ⟨h3094, h3095, h3096, h3097, hp3108, hl3109, hf3110⟩ | ⟨h3094, h3098, ⟨fl3111, fp3112, hn3113, hp3108⟩, hl3109, hf3110⟩
          · skip
            rw [h3094]
            have hv3104 := X_av_r (n := n) (c := (X_lnC n so ct (X_av n (X_av n cur)))) (by omega)
            show X_T sc 75 (77, [(2, .ref a), (1, .int (iI (X_ix rn rc (ct (X_av n cur))))), (0, .ref 496)], [.int (iI (X_ix kn kc (ct (X_lnC n so ct (X_av n (X_av n cur)))))), .ref a], S3106) _
            refine T_p xr_75_77 xn_75 (pc' := 81) (ls' := [(2, .ref a), (1, .int (iI (X_ix rn rc (ct (X_av n cur))))), (0, .ref 496)]) (st' := [.int (iI (X_ix kn kc (ct (X_lnC n so ct (X_av n (X_av n cur)))))), .ref a]) rfl ?_
            have h3114 := (hf3110.1 B (by omega)).trans (h3092)
            have h3116 := (hf3110.1 a (by omega)).trans (hw3046.1)
            have h3117 := (hf3110.1 (a + 1) (by omega)).trans (hw3046.2.1)
            have h3118 := (hf3110.1 (a + 2) (by omega)).trans (hw3046.2.2.1)
            have h3119 := (hf3110.1 (a + 3) (by omega)).trans (hw3046.2.2.2.1)
            have h3120 := (hf3110.1 (a + 4) (by omega)).trans (hw3046.2.2.2.2.1)
            have h3121 := (hf3110.1 (a + 5) (by omega)).trans (hw3046.2.2.2.2.2.1)
            have h3122 := (hf3110.1 (a + 6) (by omega)).trans (hw3046.2.2.2.2.2.2.1)
            have h3123 := (hf3110.1 (a + 7) (by omega)).trans (hw3046.2.2.2.2.2.2.2)
            have hs3115 : C_ws S3106 B (X_ug D wc (X_wu (X_clr (D wc) (X_ix rn rc (ct (X_av n cur)))) 1 (fun _ => X_lnV so ct (X_av n (X_av n cur)) 0))) (X_ug W wc (W wc)) := C_ws.upd2 (P := fun r => r = 496 ∨ r = 497 ∨ r = B ∨ (a ≤ r ∧ r ≤ a + 7)) hs3028 ((((X_Fr.rf).tr (X_Fr.mono ⟨hf3037.1, hf3037.2⟩ (fun q hq => (by omega)))).tr (X_Fr.mono ⟨hf3047.1, hf3047.2⟩ (fun q hq => (by omega)))).tr (X_Fr.mono ⟨hf3110.1, hf3110.2⟩ (fun q hq => (by omega)))) haa (fun r h1 h2 h3 => by omega) (by omega) ⟨h3116, h3117, h3118, h3119, h3120, h3121, h3122, h3123⟩ hr3048
            have h3124 := (hf3110.1 (B + 1) (by omega)).trans (h3099)
            have h3125 := (hf3110.1 (B + 2) (by omega)).trans (h3100)
            have h3126 := (hf3110.1 (B + 3) (by omega)).trans (h3093)
            have h3127 := (hf3110.1 (B + 4) (by omega)).trans (h3101)
            have h3130 := (hf3110.1 (B + 5) (by omega)).trans (h3102)
            have h3131 := (hf3110.1 498 (by first | decide | omega)).trans (h3061)
            have h3132 := (hf3110.1 499 (by first | decide | omega)).trans (h3062)
            have h3133 := (hf3110.1 500 (by first | decide | omega)).trans (h3063)
            have hb3128 : C_bk S3106 B rc kc wc rn lo kn ab := ⟨h3114, h3124, h3125, h3126, h3127, ⟨f, h3130, hf⟩, ⟨by omega, by omega⟩, ⟨by omega, by omega⟩, ⟨by omega, by omega⟩⟩
            have hc3129 : 0 ≤ (X_av n (X_lnC n so ct (X_av n (X_av n cur)))) ∧ (X_av n (X_lnC n so ct (X_av n (X_av n cur)))) < n := by omega
            skip
            refine T_mono (c_pwT sc S3106 B fp at_ n so pl ct (X_av n (X_lnC n so ct (X_av n (X_av n cur)))) rc kc wc rn lo kn ab (X_ug D wc (X_wu (X_clr (D wc) (X_ix rn rc (ct (X_av n cur)))) 1 (fun _ => X_lnV so ct (X_av n (X_av n cur)) 0))) (X_ug W wc (W wc)) a (X_ix rn rc (ct (X_av n cur))) (X_ix kn kc (ct (X_lnC n so ct (X_av n (X_av n cur))))) hB hn hso ⟨hp3108, ⟨hl3109, h3131, h3132, h3133⟩, hb3128, hs3115, hc3129⟩ (by omega) (by omega) haa) (fun v3134 S3135 h3136 => hQ _ _ ?_)
            rw [X_ug_s, X_ug_s] at h3136
            simp only [X_ug_ug] at h3136
            rcases h3136 with ⟨r3138, hsp3139, fp3140, hK3141, hf3142⟩ | ⟨hsp3139, fl3143, fp3140, K3145, hn3144, hK3141, hf3142⟩
            · refine Or.inl ⟨_, ?_, fp3140, hK3141, (((((((X_Fr.rf).tr (X_Fr.mono ⟨h2996.1, h2996.2⟩ (fun q hq => (by omega)))).tr (X_Fr.mono ⟨hf3021.1, hf3021.2⟩ (fun q hq => (by omega)))).tr (X_Fr.mono ⟨hf3037.1, hf3037.2⟩ (fun q hq => (by omega)))).tr (X_Fr.mono ⟨hf3047.1, hf3047.2⟩ (fun q hq => (by omega)))).tr (X_Fr.mono ⟨hf3110.1, hf3110.2⟩ (fun q hq => (by omega)))).tr hf3142)⟩
              simp only [sp_word]
              (repeat (first | unfold sp_wk | rw [if_pos (by assumption)] | rw [if_neg (by assumption)]))
              first | exact congrArg (fun o => Option.bind o _) hsp3139 | (refine (congrArg (fun o => Option.bind o _) hsp3139).trans ?_; rfl)
            · refine Or.inr ⟨?_, fl3143, fp3140, K3145, hn3144, hK3141, (((((((X_Fr.rf).tr (X_Fr.mono ⟨h2996.1, h2996.2⟩ (fun q hq => (by omega)))).tr (X_Fr.mono ⟨hf3021.1, hf3021.2⟩ (fun q hq => (by omega)))).tr (X_Fr.mono ⟨hf3037.1, hf3037.2⟩ (fun q hq => (by omega)))).tr (X_Fr.mono ⟨hf3047.1, hf3047.2⟩ (fun q hq => (by omega)))).tr (X_Fr.mono ⟨hf3110.1, hf3110.2⟩ (fun q hq => (by omega)))).tr hf3142)⟩
              simp only [sp_word]
              (repeat (first | unfold sp_wk | rw [if_pos (by assumption)] | rw [if_neg (by assumption)]))
              first | exact congrArg (fun o => Option.bind o _) hsp3139 | (refine (congrArg (fun o => Option.bind o _) hsp3139).trans ?_; rfl)
          · skip
            rw [h3094]
            show X_T sc 75 (77, [(2, .ref a), (1, .int (iI (X_ix rn rc (ct (X_av n cur))))), (0, .ref 496)], [.int (iI (-1)), .ref a], S3106) _
            refine T_p xr_75_77 xn_75 (pc' := 81) (ls' := [(2, .ref a), (1, .int (iI (X_ix rn rc (ct (X_av n cur))))), (0, .ref 496)]) (st' := [.int (iI (-1)), .ref a]) rfl ?_
            have h3146 := (hf3110.1 a (by omega)).trans (hw3046.1)
            refine T_put xr_75_81 h3146 rfl (Nat.le_of_ble_eq_true rfl) rfl (fs' := [.int (iI ((X_wu (X_clr (D wc) (X_ix rn rc (ct (X_av n cur)))) 1 (fun _ => X_lnV so ct (X_av n (X_av n cur)) 0)) 0 0)), .int (iI ((X_wu (X_clr (D wc) (X_ix rn rc (ct (X_av n cur)))) 1 (fun _ => X_lnV so ct (X_av n (X_av n cur)) 0)) 1 0)), .int (iI (-1)), .int (iI ((X_wu (X_clr (D wc) (X_ix rn rc (ct (X_av n cur)))) 1 (fun _ => X_lnV so ct (X_av n (X_av n cur)) 0)) 3 0)), .int (iI ((X_wu (X_clr (D wc) (X_ix rn rc (ct (X_av n cur)))) 1 (fun _ => X_lnV so ct (X_av n (X_av n cur)) 0)) 4 0)), .int (iI ((X_wu (X_clr (D wc) (X_ix rn rc (ct (X_av n cur)))) 1 (fun _ => X_lnV so ct (X_av n (X_av n cur)) 0)) 5 0)), .int (iI ((X_wu (X_clr (D wc) (X_ix rn rc (ct (X_av n cur)))) 1 (fun _ => X_lnV so ct (X_av n (X_av n cur)) 0)) 6 0)), .int (iI ((X_wu (X_clr (D wc) (X_ix rn rc (ct (X_av n cur)))) 1 (fun _ => X_lnV so ct (X_av n (X_av n cur)) 0)) 7 0)), .ref (a + 1), .ref (a + 2), .ref (a + 3), .ref (a + 4), .ref (a + 5), .ref (a + 6), .ref (a + 7)]) rfl (pc' := 84) rfl (fun S3147 h3148 n3149 e3150 => ?_)
            have hr3151 : X_wr (X_wu (X_wu (X_clr (D wc) (X_ix rn rc (ct (X_av n cur)))) 1 (fun _ => X_lnV so ct (X_av n (X_av n cur)) 0)) 2 (fun _ => (-1))) := X_wr_2 hr3048 (by omega)
            have h3153 := (n3149 (a + 1) (by first | exact (fun h => absurd (Nat.add_left_cancel h) (by decide)) | omega)).trans ((hf3110.1 (a + 1) (by omega)).trans (hw3046.2.1))
            have h3154 := (n3149 (a + 2) (by first | exact (fun h => absurd (Nat.add_left_cancel h) (by decide)) | omega)).trans ((hf3110.1 (a + 2) (by omega)).trans (hw3046.2.2.1))
            have h3155 := (n3149 (a + 3) (by first | exact (fun h => absurd (Nat.add_left_cancel h) (by decide)) | omega)).trans ((hf3110.1 (a + 3) (by omega)).trans (hw3046.2.2.2.1))
            have h3156 := (n3149 (a + 4) (by first | exact (fun h => absurd (Nat.add_left_cancel h) (by decide)) | omega)).trans ((hf3110.1 (a + 4) (by omega)).trans (hw3046.2.2.2.2.1))
            have h3157 := (n3149 (a + 5) (by first | exact (fun h => absurd (Nat.add_left_cancel h) (by decide)) | omega)).trans ((hf3110.1 (a + 5) (by omega)).trans (hw3046.2.2.2.2.2.1))
            have h3158 := (n3149 (a + 6) (by first | exact (fun h => absurd (Nat.add_left_cancel h) (by decide)) | omega)).trans ((hf3110.1 (a + 6) (by omega)).trans (hw3046.2.2.2.2.2.2.1))
            have h3159 := (n3149 (a + 7) (by first | exact (fun h => absurd (Nat.add_left_cancel h) (by decide)) | omega)).trans ((hf3110.1 (a + 7) (by omega)).trans (hw3046.2.2.2.2.2.2.2))
            have hw3152 : C_wd S3147 a (X_wu (X_wu (X_clr (D wc) (X_ix rn rc (ct (X_av n cur)))) 1 (fun _ => X_lnV so ct (X_av n (X_av n cur)) 0)) 2 (fun _ => (-1))) (W wc) := ⟨h3148, h3153, h3154, h3155, h3156, h3157, h3158, h3159⟩
            have h3160 : S3147.1 a = .inr (8, [.int (iI ((X_wu (X_wu (X_clr (D wc) (X_ix rn rc (ct (X_av n cur)))) 1 (fun _ => X_lnV so ct (X_av n (X_av n cur)) 0)) 2 (fun _ => (-1))) 0 0)), .int (iI ((X_wu (X_wu (X_clr (D wc) (X_ix rn rc (ct (X_av n cur)))) 1 (fun _ => X_lnV so ct (X_av n (X_av n cur)) 0)) 2 (fun _ => (-1))) 1 0)), .int (iI (-1)), .int (iI ((X_wu (X_wu (X_clr (D wc) (X_ix rn rc (ct (X_av n cur)))) 1 (fun _ => X_lnV so ct (X_av n (X_av n cur)) 0)) 2 (fun _ => (-1))) 3 0)), .int (iI ((X_wu (X_wu (X_clr (D wc) (X_ix rn rc (ct (X_av n cur)))) 1 (fun _ => X_lnV so ct (X_av n (X_av n cur)) 0)) 2 (fun _ => (-1))) 4 0)), .int (iI ((X_wu (X_wu (X_clr (D wc) (X_ix rn rc (ct (X_av n cur)))) 1 (fun _ => X_lnV so ct (X_av n (X_av n cur)) 0)) 2 (fun _ => (-1))) 5 0)), .int (iI ((X_wu (X_wu (X_clr (D wc) (X_ix rn rc (ct (X_av n cur)))) 1 (fun _ => X_lnV so ct (X_av n (X_av n cur)) 0)) 2 (fun _ => (-1))) 6 0)), .int (iI ((X_wu (X_wu (X_clr (D wc) (X_ix rn rc (ct (X_av n cur)))) 1 (fun _ => X_lnV so ct (X_av n (X_av n cur)) 0)) 2 (fun _ => (-1))) 7 0)), .ref (a + 1), .ref (a + 2), .ref (a + 3), .ref (a + 4), .ref (a + 5), .ref (a + 6), .ref (a + 7)]) := hw3152.1
            refine T_p xr_75_84 xn_75 (pc' := 85) (ls' := [(2, .ref a), (1, .int (iI (X_ix rn rc (ct (X_av n cur))))), (0, .ref 496)]) (st' := [.ref 496]) rfl ?_
            have h3161 := (n3149 496 (by omega)).trans (hp3108)
            refine T_get xr_75_85 h3161 rfl (v := .ref 497) rfl (pc' := 88) rfl ?_
            have h3162 := (n3149 497 (by omega)).trans (hl3109)
            refine T_cv (S := S3147) (q := 497) xr_75_88 xf_49.1 xf_49.2.1 xn_49 (as := []) (r := []) rfl h3162 (Nat.le_of_ble_eq_true rfl) (Nat.le_of_ble_eq_true rfl) (pc' := 91) rfl (ls' := [(0, .ref 497)]) rfl ?_
            have h3163 := (n3149 498 (by omega)).trans ((hf3110.1 498 (by first | decide | omega)).trans (h3061))
            have h3164 := (n3149 499 (by omega)).trans ((hf3110.1 499 (by first | decide | omega)).trans (h3062))
            have h3165 := (n3149 500 (by omega)).trans ((hf3110.1 500 (by first | decide | omega)).trans (h3063))
            refine T_mono (c_place sc S3147 at_ n (X_lnC n so ct (X_av n (X_av n cur))) so pl ct ⟨h3162, h3163, h3164, h3165⟩ (by omega)) (fun v3167 S3168 h3166 => ?_)
            obtain ⟨h3169, h3170⟩ := h3166
            rw [h3169, h3170]
            show X_T sc 75 (91, [(2, .ref a), (1, .int (iI (X_ix rn rc (ct (X_av n cur))))), (0, .ref 496)], [.int (iI (pl (X_lnC n so ct (X_av n (X_av n cur)))))], S3147) _
            refine T_p xr_75_91 xn_75 (pc' := 92) (ls' := [(3, .int (iI (pl (X_lnC n so ct (X_av n (X_av n cur)))))), (2, .ref a), (1, .int (iI (X_ix rn rc (ct (X_av n cur))))), (0, .ref 496)]) (st' := []) rfl ?_
            refine T_p xr_75_92 xn_75 (pc' := 93) (ls' := [(3, .int (iI (pl (X_lnC n so ct (X_av n (X_av n cur)))))), (2, .ref a), (1, .int (iI (X_ix rn rc (ct (X_av n cur))))), (0, .ref 496)]) (st' := [.ref a]) rfl ?_
            refine T_get xr_75_93 h3160 rfl (v := .int (iI (-1))) rfl (pc' := 96) rfl ?_
            refine T_p xr_75_96 xn_75 (pc' := 97) (ls' := [(3, .int (iI (pl (X_lnC n so ct (X_av n (X_av n cur)))))), (2, .ref a), (1, .int (iI (X_ix rn rc (ct (X_av n cur))))), (0, .ref 496)]) (st' := [.int (iI (-1)), .int (iI (-1))]) rfl ?_
            refine T_zicmp_eqt xr_75_97 (t := 117) rfl (by decide) ?_
            refine T_vret xr_75_117 xf_75.2.2 ?_
            refine hQ _ _ ?_
            have h3171 := (n3149 B (by omega)).trans ((hf3110.1 B (by omega)).trans (h3092))
            have hs3172 : C_ws S3147 B (X_ug D wc (X_wu (X_wu (X_clr (D wc) (X_ix rn rc (ct (X_av n cur)))) 1 (fun _ => X_lnV so ct (X_av n (X_av n cur)) 0)) 2 (fun _ => (-1)))) (X_ug W wc (W wc)) := C_ws.upd2 (P := fun r => r = 496 ∨ r = 497 ∨ r = B ∨ (a ≤ r ∧ r ≤ a + 7)) hs3028 (((((X_Fr.rf).tr (X_Fr.mono ⟨hf3037.1, hf3037.2⟩ (fun q hq => (by omega)))).tr (X_Fr.mono ⟨hf3047.1, hf3047.2⟩ (fun q hq => (by omega)))).tr (X_Fr.mono ⟨hf3110.1, hf3110.2⟩ (fun q hq => (by omega)))).tr (X_Fr.of n3149 e3150 (by first | decide | exact ⟨Nat.le_add_right _ _, Nat.add_le_add_left (by decide) _⟩ | omega))) haa (fun r h1 h2 h3 => by omega) (by omega) ⟨h3160, hw3152.2.1, hw3152.2.2.1, hw3152.2.2.2.1, hw3152.2.2.2.2.1, hw3152.2.2.2.2.2.1, hw3152.2.2.2.2.2.2.1, hw3152.2.2.2.2.2.2.2⟩ hr3151
            have h3173 := (n3149 (B + 1) (by first | exact (fun h => absurd (Nat.add_left_cancel h) (by decide)) | omega)).trans ((hf3110.1 (B + 1) (by omega)).trans (h3099))
            have h3174 := (n3149 (B + 2) (by first | exact (fun h => absurd (Nat.add_left_cancel h) (by decide)) | omega)).trans ((hf3110.1 (B + 2) (by omega)).trans (h3100))
            have h3175 := (n3149 (B + 3) (by first | exact (fun h => absurd (Nat.add_left_cancel h) (by decide)) | omega)).trans ((hf3110.1 (B + 3) (by omega)).trans (h3093))
            have h3176 := (n3149 (B + 4) (by first | exact (fun h => absurd (Nat.add_left_cancel h) (by decide)) | omega)).trans ((hf3110.1 (B + 4) (by omega)).trans (h3101))
            have h3179 := (n3149 (B + 5) (by first | exact (fun h => absurd (Nat.add_left_cancel h) (by decide)) | omega)).trans ((hf3110.1 (B + 5) (by omega)).trans (h3102))
            have hb3177 : C_bk S3147 B rc kc wc rn lo kn ab := ⟨h3171, h3173, h3174, h3175, h3176, ⟨f, h3179, hf⟩, ⟨by omega, by omega⟩, ⟨by omega, by omega⟩, ⟨by omega, by omega⟩⟩
            have hc3178 : 0 ≤ (X_lnC n so ct (X_av n (X_av n cur))) ∧ (X_lnC n so ct (X_av n (X_av n cur))) < n := by omega
            refine Or.inr ⟨?_, fl3111, fp3112, ((X_lnC n so ct (X_av n (X_av n cur))), rc, kc, wc, rn, lo, kn, ab, (X_ug D wc (X_wu (X_wu (X_clr (D wc) (X_ix rn rc (ct (X_av n cur)))) 1 (fun _ => X_lnV so ct (X_av n (X_av n cur)) 0)) 2 (fun _ => (-1)))), (X_ug W wc (W wc))), by omega, ⟨h3161, ⟨h3162, h3163, h3164, h3165⟩, hb3177, hs3172, hc3178⟩, ((((((X_Fr.rf).tr (X_Fr.mono ⟨h2996.1, h2996.2⟩ (fun q hq => (by omega)))).tr (X_Fr.mono ⟨hf3021.1, hf3021.2⟩ (fun q hq => (by omega)))).tr (X_Fr.mono ⟨hf3037.1, hf3037.2⟩ (fun q hq => (by omega)))).tr (X_Fr.mono ⟨hf3047.1, hf3047.2⟩ (fun q hq => (by omega)))).tr (X_Fr.mono ⟨hf3110.1, hf3110.2⟩ (fun q hq => (by omega)))).tr (X_Fr.of n3149 e3150 (by first | decide | exact ⟨Nat.le_add_right _ _, Nat.add_le_add_left (by decide) _⟩ | omega))⟩
            simp only [sp_word]
            unfold sp_wk
            (repeat (first | rw [if_pos (by assumption)] | rw [if_neg (by assumption)]))
            all_goals first | rfl | ((repeat' split) <;> first | rfl | (exfalso; omega))
      · skip
        have c3025 : ¬ (¬ (X_ix rn rc (ct (X_av n cur))) = (-1)) := c3025
        exact (show False by first | contradiction | omega).elim
    · skip
      rw [h3005]
      show X_T sc 75 (28, [(0, .ref 496)], [.int (iI (-1))], S3017) _
      refine T_p xr_75_28 xn_75 (pc' := 29) (ls' := [(1, .int (iI (-1))), (0, .ref 496)]) (st' := []) rfl ?_
      refine T_p xr_75_29 xn_75 (pc' := 30) (ls' := [(1, .int (iI (-1))), (0, .ref 496)]) (st' := [.int (iI (-1))]) rfl ?_
      refine T_p xr_75_30 xn_75 (pc' := 31) (ls' := [(1, .int (iI (-1))), (0, .ref 496)]) (st' := [.int (iI (-1)), .int (iI (-1))]) rfl ?_
      refine T_zicmp_nef xr_75_31 (t := 35) (pc' := 34) rfl rfl (by decide) ?_
      refine T_vret xr_75_34 xf_75.2.2 ?_
      refine hQ _ _ ?_
      have h3180 := (hf3021.1 B (by omega)).trans (h3003)
      have hs3181 : C_ws S3017 B D W := C_ws.fr (P := fun r => ¬ (B + 6 ≤ r ∧ r < B + 246)) hs (((X_Fr.rf).tr (X_Fr.mono ⟨h2996.1, h2996.2⟩ (fun q hq => (by omega)))).tr (X_Fr.mono ⟨hf3021.1, hf3021.2⟩ (fun q hq => (by omega)))) (fun k h1 h2 => by omega)
      have h3182 := (hf3021.1 (B + 1) (by omega)).trans (h3004)
      have h3183 := (hf3021.1 (B + 2) (by omega)).trans (h3010)
      have h3184 := (hf3021.1 (B + 3) (by omega)).trans (h3011)
      have h3185 := (hf3021.1 (B + 4) (by omega)).trans (h3012)
      have h3188 := (hf3021.1 (B + 5) (by omega)).trans (h3013)
      have h3189 := (hf3021.1 498 (by first | decide | omega)).trans (h3000)
      have h3190 := (hf3021.1 499 (by first | decide | omega)).trans (h3001)
      have h3191 := (hf3021.1 500 (by first | decide | omega)).trans (h3002)
      have hb3186 : C_bk S3017 B rc kc wc rn lo kn ab := ⟨h3180, h3182, h3183, h3184, h3185, ⟨f, h3188, hf⟩, ⟨by omega, by omega⟩, ⟨by omega, by omega⟩, ⟨by omega, by omega⟩⟩
      have hc3187 : 0 ≤ (X_av n cur) ∧ (X_av n cur) < n := by omega
      refine Or.inr ⟨?_, fl3022, fp3023, ((X_av n cur), rc, kc, wc, rn, lo, kn, ab, D, W), by omega, ⟨hp3019, ⟨hl3020, h3189, h3190, h3191⟩, hb3186, hs3181, hc3187⟩, ((X_Fr.rf).tr (X_Fr.mono ⟨h2996.1, h2996.2⟩ (fun q hq => (by omega)))).tr (X_Fr.mono ⟨hf3021.1, hf3021.2⟩ (fun q hq => (by omega)))⟩
      simp only [sp_word]
      (repeat (first | rw [if_pos (by assumption)] | rw [if_neg (by assumption)]))
      all_goals first | rfl | ((repeat' split) <;> first | rfl | (exfalso; omega))
  · skip
    have c2991 : ¬ (¬ wc = 30) := c2991
    refine T_p xr_75_12 xn_75 (pc' := 13) (ls' := [(0, .ref 496)]) (st' := [.ref 496]) rfl ?_
    refine T_cv (S := S) (q := 496) xr_75_13 xf_67.1 xf_67.2.1 xn_67 (as := []) (r := []) rfl hp (Nat.le_of_ble_eq_true rfl) (Nat.le_of_ble_eq_true rfl) (pc' := 16) rfl (ls' := [(0, .ref 496)]) rfl ?_
    refine T_mono (c_refuse sc S B 0 fp at_ n cur so pl ct hp ⟨hx.1, hx.2.1, hx.2.2.1, hx.2.2.2⟩ (by omega) hso) (fun v3192 S3193 h3194 => ?_)
    obtain ⟨h3195, ⟨fl3196, fp3197, hn3198, hp3199⟩, hf3200⟩ := h3194
    rw [h3195]
    show X_T sc 75 (16, [(0, .ref 496)], [], S3193) _
    refine T_vret xr_75_16 xf_75.2.2 ?_
    refine hQ _ _ ?_
    have h3201 := (hf3200.1 B (by omega)).trans (hb0)
    have hs3202 : C_ws S3193 B D W := C_ws.fr (P := fun r => ¬ (B + 6 ≤ r ∧ r < B + 246)) hs ((X_Fr.rf).tr (X_Fr.mono ⟨hf3200.1, hf3200.2⟩ (fun q hq => (by omega)))) (fun k h1 h2 => by omega)
    have h3203 := (hf3200.1 497 (by first | decide | omega)).trans (hx.1)
    have h3204 := (hf3200.1 (B + 1) (by omega)).trans (hb1)
    have h3205 := (hf3200.1 (B + 2) (by omega)).trans (hb2)
    have h3206 := (hf3200.1 (B + 3) (by omega)).trans (hb3)
    have h3207 := (hf3200.1 (B + 4) (by omega)).trans (hb4)
    have h3210 := (hf3200.1 (B + 5) (by omega)).trans (hb5)
    have h3211 := (hf3200.1 498 (by first | decide | omega)).trans (hx.2.1)
    have h3212 := (hf3200.1 499 (by first | decide | omega)).trans (hx.2.2.1)
    have h3213 := (hf3200.1 500 (by first | decide | omega)).trans (hx.2.2.2)
    have hb3208 : C_bk S3193 B rc kc wc rn lo kn ab := ⟨h3201, h3204, h3205, h3206, h3207, ⟨f, h3210, hf⟩, ⟨by omega, by omega⟩, ⟨by omega, by omega⟩, ⟨by omega, by omega⟩⟩
    have hc3209 : 0 ≤ cur ∧ cur < n := by omega
    refine Or.inr ⟨?_, fl3196, fp3197, (cur, rc, kc, wc, rn, lo, kn, ab, D, W), by omega, ⟨hp3199, ⟨h3203, h3211, h3212, h3213⟩, hb3208, hs3202, hc3209⟩, (X_Fr.rf).tr (X_Fr.mono ⟨hf3200.1, hf3200.2⟩ (fun q hq => (by omega)))⟩
    simp only [sp_word]
    (repeat (first | rw [if_pos (by assumption)] | rw [if_neg (by assumption)]))
    all_goals first | rfl | ((repeat' split) <;> first | rfl | (exfalso; omega))
end
section
theorem xr_65_0 : X_row 65 0 = some (0, (.aload_n 0, 1), (0, 0, 0)) := by decide +kernel
theorem xr_65_1 : X_row 65 1 = some (1, (.aload_n 1, 1), (0, 0, 0)) := by decide +kernel
theorem xr_65_2 : X_row 65 2 = some (2, (.putfield 27, 3), (4, 1, 20)) := by decide +kernel
theorem xr_65_5 : X_row 65 5 = some (5, (.aload_n 0, 1), (0, 0, 0)) := by decide +kernel
theorem xr_65_6 : X_row 65 6 = some (6, (.getfield 27, 3), (4, 1, 20)) := by decide +kernel
theorem xr_65_9 : X_row 65 9 = some (9, (.invokevirtual 31, 3), (1, 2, 0)) := by decide +kernel
theorem xr_65_12 : X_row 65 12 = some (12, (.aload_n 0, 1), (0, 0, 0)) := by decide +kernel
theorem xr_65_13 : X_row 65 13 = some (13, (.iconst 0, 1), (0, 0, 0)) := by decide +kernel
theorem xr_65_14 : X_row 65 14 = some (14, (.putfield 9, 3), (4, 2, 22)) := by decide +kernel
theorem xr_65_17 : X_row 65 17 = some (17, (.aload_n 0, 1), (0, 0, 0)) := by decide +kernel
theorem xr_65_18 : X_row 65 18 = some (18, (.iconst (-1), 1), (0, 0, 0)) := by decide +kernel
theorem xr_65_19 : X_row 65 19 = some (19, (.putfield 15, 3), (4, 3, 24)) := by decide +kernel
theorem xr_65_22 : X_row 65 22 = some (22, (.aload_n 0, 1), (0, 0, 0)) := by decide +kernel
theorem xr_65_23 : X_row 65 23 = some (23, (.getfield 23, 3), (4, 0, 18)) := by decide +kernel
theorem xr_65_26 : X_row 65 26 = some (26, (.invokevirtual 36, 3), (53, 4, 0)) := by decide +kernel
theorem xr_65_29 : X_row 65 29 = some (29, (.iconst 0, 1), (0, 0, 0)) := by decide +kernel
theorem xr_65_30 : X_row 65 30 = some (30, (.istore_n 2, 1), (0, 0, 0)) := by decide +kernel
theorem xr_65_31 : X_row 65 31 = some (31, (.iload_n 2, 1), (0, 0, 0)) := by decide +kernel
theorem xr_65_32 : X_row 65 32 = some (32, (.sipush 2000, 3), (0, 0, 0)) := by decide +kernel
theorem xr_65_35 : X_row 65 35 = some (35, (.if_icmp .gt 110, 3), (0, 0, 0)) := by decide +kernel
theorem xr_65_38 : X_row 65 38 = some (38, (.aload_n 0, 1), (0, 0, 0)) := by decide +kernel
theorem xr_65_39 : X_row 65 39 = some (39, (.getfield 9, 3), (4, 2, 22)) := by decide +kernel
theorem xr_65_42 : X_row 65 42 = some (42, (.ifCond .ne 103, 3), (0, 0, 0)) := by decide +kernel
theorem xr_65_45 : X_row 65 45 = some (45, (.aload_n 0, 1), (0, 0, 0)) := by decide +kernel
theorem xr_65_46 : X_row 65 46 = some (46, (.getfield 23, 3), (4, 0, 18)) := by decide +kernel
theorem xr_65_49 : X_row 65 49 = some (49, (.invokevirtual 39, 3), (48, 6, 0)) := by decide +kernel
theorem xr_65_52 : X_row 65 52 = some (52, (.ifCond .eq 93, 3), (0, 0, 0)) := by decide +kernel
theorem xr_65_55 : X_row 65 55 = some (55, (.aload_n 0, 1), (0, 0, 0)) := by decide +kernel
theorem xr_65_56 : X_row 65 56 = some (56, (.getfield 23, 3), (4, 0, 18)) := by decide +kernel
theorem xr_65_59 : X_row 65 59 = some (59, (.ldc2_w 43, 3), (1918987883, 591, 0)) := by decide +kernel
theorem xr_65_62 : X_row 65 62 = some (62, (.invokevirtual 45, 3), (51, 8, 0)) := by decide +kernel
theorem xr_65_65 : X_row 65 65 = some (65, (.ifCond .eq 10, 3), (0, 0, 0)) := by decide +kernel
theorem xr_65_68 : X_row 65 68 = some (68, (.aload_n 0, 1), (0, 0, 0)) := by decide +kernel
theorem xr_65_69 : X_row 65 69 = some (69, (.invokevirtual 49, 3), (69, 10, 0)) := by decide +kernel
theorem xr_65_72 : X_row 65 72 = some (72, (.goto 67, 3), (0, 0, 0)) := by decide +kernel
theorem xr_65_75 : X_row 65 75 = some (75, (.aload_n 0, 1), (0, 0, 0)) := by decide +kernel
theorem xr_65_76 : X_row 65 76 = some (76, (.getfield 23, 3), (4, 0, 18)) := by decide +kernel
theorem xr_65_79 : X_row 65 79 = some (79, (.ldc2_w 52, 3), (32766990153442674, 637, 0)) := by decide +kernel
theorem xr_65_82 : X_row 65 82 = some (82, (.invokevirtual 45, 3), (51, 8, 0)) := by decide +kernel
theorem xr_65_85 : X_row 65 85 = some (85, (.ifCond .eq 10, 3), (0, 0, 0)) := by decide +kernel
theorem xr_65_88 : X_row 65 88 = some (88, (.aload_n 0, 1), (0, 0, 0)) := by decide +kernel
theorem xr_65_89 : X_row 65 89 = some (89, (.invokevirtual 54, 3), (70, 28, 0)) := by decide +kernel
theorem xr_65_92 : X_row 65 92 = some (92, (.goto 47, 3), (0, 0, 0)) := by decide +kernel
theorem xr_65_95 : X_row 65 95 = some (95, (.aload_n 0, 1), (0, 0, 0)) := by decide +kernel
theorem xr_65_96 : X_row 65 96 = some (96, (.getfield 23, 3), (4, 0, 18)) := by decide +kernel
theorem xr_65_99 : X_row 65 99 = some (99, (.ldc2_w 57, 3), (1802071652, 662, 0)) := by decide +kernel
theorem xr_65_102 : X_row 65 102 = some (102, (.invokevirtual 45, 3), (51, 8, 0)) := by decide +kernel
theorem xr_65_105 : X_row 65 105 = some (105, (.ifCond .eq 10, 3), (0, 0, 0)) := by decide +kernel
theorem xr_65_108 : X_row 65 108 = some (108, (.aload_n 0, 1), (0, 0, 0)) := by decide +kernel
theorem xr_65_109 : X_row 65 109 = some (109, (.invokevirtual 59, 3), (71, 38, 0)) := by decide +kernel
theorem xr_65_112 : X_row 65 112 = some (112, (.goto 27, 3), (0, 0, 0)) := by decide +kernel
theorem xr_65_115 : X_row 65 115 = some (115, (.aload_n 0, 1), (0, 0, 0)) := by decide +kernel
theorem xr_65_116 : X_row 65 116 = some (116, (.getfield 23, 3), (4, 0, 18)) := by decide +kernel
theorem xr_65_119 : X_row 65 119 = some (119, (.ldc2_w 62, 3), (2003792484, 684, 0)) := by decide +kernel
theorem xr_65_122 : X_row 65 122 = some (122, (.invokevirtual 45, 3), (51, 8, 0)) := by decide +kernel
theorem xr_65_125 : X_row 65 125 = some (125, (.ifCond .eq 10, 3), (0, 0, 0)) := by decide +kernel
theorem xr_65_128 : X_row 65 128 = some (128, (.aload_n 0, 1), (0, 0, 0)) := by decide +kernel
theorem xr_65_129 : X_row 65 129 = some (129, (.invokevirtual 64, 3), (75, 46, 0)) := by decide +kernel
theorem xr_65_132 : X_row 65 132 = some (132, (.goto 7, 3), (0, 0, 0)) := by decide +kernel
theorem xr_65_135 : X_row 65 135 = some (135, (.aload_n 0, 1), (0, 0, 0)) := by decide +kernel
theorem xr_65_136 : X_row 65 136 = some (136, (.invokevirtual 67, 3), (67, 12, 0)) := by decide +kernel
theorem xr_65_139 : X_row 65 139 = some (139, (.iinc 2 1, 3), (0, 0, 0)) := by decide +kernel
theorem xr_65_142 : X_row 65 142 = some (142, (.goto (-111), 3), (0, 0, 0)) := by decide +kernel
theorem xr_65_145 : X_row 65 145 = some (145, (.aload_n 0, 1), (0, 0, 0)) := by decide +kernel
theorem xr_65_146 : X_row 65 146 = some (146, (.getfield 9, 3), (4, 2, 22)) := by decide +kernel
theorem xr_65_149 : X_row 65 149 = some (149, (.ifCond .eq 5, 3), (0, 0, 0)) := by decide +kernel
theorem xr_65_152 : X_row 65 152 = some (152, (.iconst 0, 1), (0, 0, 0)) := by decide +kernel
theorem xr_65_153 : X_row 65 153 = some (153, (.ireturn, 1), (0, 0, 0)) := by decide +kernel
theorem xr_65_154 : X_row 65 154 = some (154, (.aload_n 0, 1), (0, 0, 0)) := by decide +kernel
theorem xr_65_155 : X_row 65 155 = some (155, (.getfield 27, 3), (4, 1, 20)) := by decide +kernel
theorem xr_65_158 : X_row 65 158 = some (158, (.invokevirtual 70, 3), (16, 72, 0)) := by decide +kernel
theorem xr_65_161 : X_row 65 161 = some (161, (.iconst 1, 1), (0, 0, 0)) := by decide +kernel
theorem xr_65_162 : X_row 65 162 = some (162, (.ireturn, 1), (0, 0, 0)) := by decide +kernel
theorem xn_65 : X_nL 65 = 3 := by decide +kernel
theorem xf_65 : X_na 65 = 1 ∧ X_ci 65 = 4 ∧ X_rt 65 = (some .boolean) := by decide +kernel
/-- how many holes stand ahead of an element -/
def X_hc (q : Int → Int64) : Nat → Int
  | 0 => 0
  | n + 1 => X_hc q n + (if q (n : Int) = 0 then 1 else 0)
def X_hn (q : Int → Int64) (e : Int) : Int := X_hc q e.toNat
theorem X_hn_s {q : Int → Int64} {e : Int} (h : 0 ≤ e) : X_hn q (e + 1) = X_hn q e + (if q e = 0 then 1 else 0) := by
  unfold X_hn
  rw [show (e + 1).toNat = e.toNat + 1 by omega]
  show X_hc q e.toNat + (if q (e.toNat : Int) = 0 then 1 else 0) = _
  rw [show (e.toNat : Int) = e by omega]
theorem X_hc_c {q q' : Int → Int64} : ∀ n : Nat, (∀ k : Int, 0 ≤ k → k < n → q k = q' k) → X_hc q n = X_hc q' n := by
  intro n
  induction n with
  | zero => intro _; rfl
  | succ n ih =>
    intro h
    show X_hc q n + _ = X_hc q' n + _
    rw [ih (fun k h1 h2 => h k h1 (by omega)), h (n : Int) (by omega) (by omega)]
theorem X_hn_c {q q' : Int → Int64} {e : Int} (h : ∀ k, 0 ≤ k → k < e → q k = q' k) : X_hn q e = X_hn q' e := X_hc_c e.toNat (fun k h1 h2 => h k h1 (by omega))
theorem X_hc_m {q : Int → Int64} : ∀ n m : Nat, X_hc q n ≤ X_hc q (n + m) := by
  intro n m
  induction m with
  | zero => exact Int.le_refl _
  | succ m ih =>
    show _ ≤ X_hc q (n + m) + (if q ((n + m : Nat) : Int) = 0 then 1 else 0)
    split <;> omega
theorem X_hn_m {q : Int → Int64} {a b : Int} (h1 : a ≤ b) : X_hn q a ≤ X_hn q b := by
  unfold X_hn
  have := X_hc_m (q := q) a.toNat (b.toNat - a.toNat)
  rw [show a.toNat + (b.toNat - a.toNat) = b.toNat by omega] at this
  exact this
theorem X_hn_l {q : Int → Int64} {a b : Int} (h0 : 0 ≤ a) (h1 : a < b) (h : q a = 0) : X_hn q a < X_hn q b := by
  have h2 := X_hn_m (q := q) (a := a + 1) (b := b) (by omega)
  rw [X_hn_s h0, if_pos h] at h2
  omega
theorem X_hc_b {q : Int → Int64} : ∀ n : Nat, 0 ≤ X_hc q n ∧ X_hc q n ≤ n := by
  intro n
  induction n with
  | zero => exact ⟨Int.le_refl _, Int.le_refl _⟩
  | succ n ih =>
    show 0 ≤ X_hc q n + (if q (n : Int) = 0 then 1 else 0) ∧ X_hc q n + (if q (n : Int) = 0 then 1 else 0) ≤ ((n + 1 : Nat) : Int)
    split <;> omega
theorem X_hn_b {q : Int → Int64} {e : Int} (h : 0 ≤ e) : 0 ≤ X_hn q e ∧ X_hn q e ≤ e := by
  have := X_hc_b (q := q) e.toNat
  unfold X_hn
  omega
/-- a word's elements are told rightly -/
def X_eok (kc : Int) (d : Nat → Int → Int) (q : Int → Int64) : Prop := (0 ≤ d 3 0 ∧ d 3 0 ≤ 8) ∧ d 4 0 = X_hn q (d 3 0) ∧ (∀ e, 0 ≤ e → e < d 3 0 → q e = 0 → d 8 e = X_hn q e) ∧ (∀ h, 0 ≤ h → h < d 4 0 → 0 ≤ d 9 h ∧ d 9 h < kc)
theorem X_eok_P {kc : Int} {d : Nat → Int → Int} {q : Int → Int64} {t : Int64} (h : X_eok kc d q) (h3 : d 3 0 < 8) (ht : ¬ t = 0) : X_eok kc (X_aP d) (X_ug q (d 3 0) t) := by
  obtain ⟨⟨a1, a1b⟩, a2, a3, a4⟩ := h
  have hc : X_hn q (d 3 0) = X_hn (X_ug q (d 3 0) t) (d 3 0) := X_hn_c (fun k h1 h2 => (X_ug_n _ _ (by omega)).symm)
  refine ⟨⟨show 0 ≤ d 3 0 + 1 by omega, show d 3 0 + 1 ≤ 8 by omega⟩, ?_, ?_, a4⟩
  · show d 4 0 = X_hn _ (d 3 0 + 1)
    rw [X_hn_s a1, X_ug_s, if_neg ht, ← hc]
    omega
  · intro e h1 h2 he
    have h2 : e < d 3 0 + 1 := h2
    by_cases hk : e = d 3 0
    · subst hk
      rw [X_ug_s] at he
      exact absurd he ht
    · rw [X_ug_n _ _ hk] at he
      show d 8 e = _
      rw [a3 e h1 (by omega) he]
      exact X_hn_c (fun k g1 g2 => (X_ug_n _ _ (by omega)).symm)
theorem X_eok_H {kc k : Int} {d : Nat → Int → Int} {q : Int → Int64} (h : X_eok kc d q) (h3 : d 3 0 < 8) (hk : 0 ≤ k ∧ k < kc) : X_eok kc (X_aH d k) (X_ug q (d 3 0) 0) := by
  obtain ⟨⟨a1, a1b⟩, a2, a3, a4⟩ := h
  have hc : X_hn q (d 3 0) = X_hn (X_ug q (d 3 0) 0) (d 3 0) := X_hn_c (fun k h1 h2 => (X_ug_n _ _ (by omega)).symm)
  refine ⟨⟨show 0 ≤ d 3 0 + 1 by omega, show d 3 0 + 1 ≤ 8 by omega⟩, ?_, ?_, ?_⟩
  · show d 4 0 + 1 = X_hn _ (d 3 0 + 1)
    rw [X_hn_s a1, X_ug_s, if_pos rfl, ← hc]
    omega
  · intro e h1 h2 he
    have h2 : e < d 3 0 + 1 := h2
    show X_ug (d 8) (d 3 0) (d 4 0) e = _
    by_cases hk : e = d 3 0
    · subst hk
      rw [X_ug_s, a2]
      exact hc
    · rw [X_ug_n _ _ hk] at he ⊢
      rw [a3 e h1 (by omega) he]
      exact X_hn_c (fun k g1 g2 => (X_ug_n _ _ (by omega)).symm)
  · intro h h1 h2
    have h2 : h < d 4 0 + 1 := h2
    show 0 ≤ X_ug (d 9) (d 4 0) k h ∧ X_ug (d 9) (d 4 0) k h < kc
    by_cases hh : h = d 4 0
    · subst hh
      rw [X_ug_s]
      exact hk
    · rw [X_ug_n _ _ hh]
      exact a4 h h1 (by omega)
theorem X_ix_r {g : Int → Int64} {n : Int} {x : Int64} (hn : 0 ≤ n) : -1 ≤ X_ix g n x ∧ X_ix g n x < n := by
  unfold X_ix
  split
  · rename_i h
    exact X_Ix_r hn (Classical.choose_spec h)
  · omega
theorem sp_el_ok {n : Int} {so : Int → Int} {ct : Int → Int64} {kn : Int → Int64} {kc : Int} (hkc : 1 ≤ kc) (hct : ∀ i, 0 ≤ i → i < n → so i = 6 → ¬ ct i = 0) : ∀ (k : Nat) (c : Int) (d : Nat → Int → Int) (q : Int → Int64) (r : Int × (Nat → Int → Int) × (Int → Int64)), (0 ≤ c ∧ c < n) → sp_el n so ct kn kc k c d q = some r → X_eok kc d q → X_eok kc r.2.1 r.2.2 ∧ (∀ f, f ≠ 3 → f ≠ 4 → f ≠ 8 → f ≠ 9 → r.2.1 f = d f) ∧ (so r.1 = 61 ∨ so r.1 = 59) ∧ (0 ≤ r.1 ∧ r.1 < n) := by
  intro k
  induction k with
  | zero => intro c d q r hcr h; cases h
  | succ k ih =>
    intro c d q r hcr h ho
    unfold sp_el at h
    split at h
    · cases h; exact ⟨ho, fun _ _ _ _ _ => rfl, Or.inl (by assumption), hcr⟩
    · split at h
      · cases h; exact ⟨ho, fun _ _ _ _ _ => rfl, Or.inr (by assumption), hcr⟩
      · split at h
        · rename_i h6
          obtain ⟨b1, b2, b3⟩ := ih _ _ _ _ (X_av_r hcr) h (X_eok_P ho h6.2 (hct _ hcr.1 hcr.2 h6.1))
          refine ⟨b1, fun f f1 f2 f3 f4 => (b2 f f1 f2 f3 f4).trans ?_, b3⟩
          unfold X_aP X_wu
          rw [if_neg f1]
        · split at h
          · rename_i h6
            have key : ∀ kk, (∀ f, f ≠ 3 → f ≠ 4 → f ≠ 8 → f ≠ 9 → X_aH d kk f = d f) := fun kk f f1 f2 f3 f4 => by
              unfold X_aH X_wu
              rw [if_neg f2, if_neg f1, if_neg f4, if_neg f3]
            split at h
            · split at h
              · cases h
              · rename_i h7
                have hr := X_ix_r (g := kn) (n := kc) (x := ct (X_av n c)) (by omega)
                obtain ⟨b1, b2, b3⟩ := ih _ _ _ _ (X_av_r (X_av_r hcr)) h (X_eok_H ho h6.2.1 (by omega))
                exact ⟨b1, fun f f1 f2 f3 f4 => (b2 f f1 f2 f3 f4).trans (key _ f f1 f2 f3 f4), b3⟩
            · obtain ⟨b1, b2, b3⟩ := ih _ _ _ _ (X_av_r hcr) h (X_eok_H ho h6.2.1 (by omega))
              exact ⟨b1, fun f f1 f2 f3 f4 => (b2 f f1 f2 f3 f4).trans (key _ f f1 f2 f3 f4), b3⟩
          · cases h
/-- the pile's height behind so many steps -/
noncomputable def X_ph (s : Int → Int) : Nat → Int
  | 0 => 0
  | k + 1 => X_ph s k + @ite Int (X_isOp (s (k : Int))) (Classical.propDecidable _) (-1) 1
theorem X_ph_c {s s' : Int → Int} : ∀ n : Nat, (∀ k : Int, 0 ≤ k → k < n → s k = s' k) → X_ph s n = X_ph s' n := by
  intro n
  induction n with
  | zero => intro _; rfl
  | succ n ih =>
    intro h
    show X_ph s n + _ = X_ph s' n + _
    rw [ih (fun k h1 h2 => h k h1 (by omega)), h (n : Int) (by omega) (by omega)]
/-- the steps that are told are sound -/
def X_st1 (ho : Int) (s y : Int → Int) (k : Int) : Prop := (X_isOp (s k) ∧ 2 ≤ X_ph s k.toNat ∧ X_ph s k.toNat ≤ 16) ∨ (¬ X_isOp (s k) ∧ (s k = 4 ∨ (s k = 64 ∧ 1 ≤ y k ∧ y k ≤ ho)) ∧ 0 ≤ X_ph s k.toNat ∧ X_ph s k.toNat < 16)
def X_sok (d : Nat → Int → Int) : Prop := 0 ≤ d 5 0 ∧ (0 ≤ X_ph (d 12) (d 5 0).toNat ∧ X_ph (d 12) (d 5 0).toNat ≤ 16) ∧ ∀ k, 0 ≤ k → k < d 5 0 → X_st1 (d 4 0) (d 12) (d 13) k
theorem X_sok_S {d : Nat → Int → Int} {s v : Int} (h : X_sok d) (hs : (X_isOp s ∧ 2 ≤ X_ph (d 12) (d 5 0).toNat) ∨ (¬ X_isOp s ∧ (s = 4 ∨ (s = 64 ∧ 1 ≤ v ∧ v ≤ d 4 0)) ∧ X_ph (d 12) (d 5 0).toNat < 16)) :
    X_sok (X_aS d s v) ∧ X_ph (X_aS d s v 12) (d 5 0 + 1).toNat = X_ph (d 12) (d 5 0).toNat + @ite Int (X_isOp s) (Classical.propDecidable _) (-1) 1 := by
  obtain ⟨a1, a2, a3⟩ := h
  have e12 : X_aS d s v 12 = X_ug (d 12) (d 5 0) s := rfl
  have e13 : X_aS d s v 13 = X_ug (d 13) (d 5 0) v := rfl
  have e5 : X_aS d s v 5 0 = d 5 0 + 1 := rfl
  have e4 : X_aS d s v 4 0 = d 4 0 := rfl
  have hp : ∀ k : Nat, (k : Int) ≤ d 5 0 → X_ph (X_ug (d 12) (d 5 0) s) k = X_ph (d 12) k := fun k hk => X_ph_c k (fun i h1 h2 => X_ug_n _ _ (by omega))
  have hn : X_ph (X_aS d s v 12) (d 5 0 + 1).toNat = X_ph (d 12) (d 5 0).toNat + @ite Int (X_isOp s) (Classical.propDecidable _) (-1) 1 := by
    rw [e12, show (d 5 0 + 1).toNat = (d 5 0).toNat + 1 by omega]
    show X_ph (X_ug (d 12) (d 5 0) s) (d 5 0).toNat + @ite Int (X_isOp (X_ug (d 12) (d 5 0) s ((d 5 0).toNat : Int))) (Classical.propDecidable _) (-1) 1 = _
    rw [hp _ (by omega), show ((d 5 0).toNat : Int) = d 5 0 by omega, X_ug_s]
  refine ⟨⟨by rw [e5]; omega, ?_, ?_⟩, hn⟩
  · rw [e5, hn]
    rcases hs with ⟨h1, h2⟩ | ⟨h1, -, h2⟩
    · rw [if_pos h1]; omega
    · rw [if_neg h1]; omega
  · intro k h1 h2
    rw [e5] at h2
    rw [e12, e13, e4]
    unfold X_st1
    rw [hp _ (by omega)]
    by_cases hk : k = d 5 0
    · subst hk
      rw [X_ug_s, X_ug_s]
      rcases hs with ⟨g1, g2⟩ | ⟨g1, g3, g2⟩
      · exact Or.inl ⟨g1, g2, a2.2⟩
      · exact Or.inr ⟨g1, g3, a2.1, g2⟩
    · rw [X_ug_n _ _ hk, X_ug_n _ _ hk]
      exact a3 k h1 (by omega)
theorem sp_step_ok {n : Int} {so : Int → Int} {ct : Int → Int64} {c : Int} {d : Nat → Int → Int} {pile : Int} {r : Int × (Nat → Int → Int) × Int} (hcr : 0 ≤ c ∧ c < n) (h : sp_step n so ct c d pile = some r) (ho : X_sok d) (hp : pile = X_ph (d 12) (d 5 0).toNat) :
    X_sok r.2.1 ∧ r.2.2 = X_ph (r.2.1 12) (r.2.1 5 0).toNat ∧ (∀ f, f ≠ 5 → f ≠ 12 → f ≠ 13 → r.2.1 f = d f) ∧ r.2.1 5 0 = d 5 0 + 1 ∧ (0 ≤ r.1 ∧ r.1 < n) := by
  have h16 := ho.2.1
  have key : ∀ c s v, (0 ≤ c ∧ c < n) → (s = 4 ∨ s = 64 ∨ X_isOp s) → sp_stF n c s v d pile = some r → X_sok r.2.1 ∧ r.2.2 = X_ph (r.2.1 12) (r.2.1 5 0).toNat ∧ (∀ f, f ≠ 5 → f ≠ 12 → f ≠ 13 → r.2.1 f = d f) ∧ r.2.1 5 0 = d 5 0 + 1 ∧ (0 ≤ r.1 ∧ r.1 < n) := by
    intro c s v hcr hsv h
    unfold sp_stF at h
    by_cases h1 : s = 64 ∧ (v < 1 ∨ d 4 0 < v)
    · rw [if_pos h1] at h; cases h
    · rw [if_neg h1] at h
      by_cases h2 : ¬ X_isOp s ∧ pile = 16
      · rw [if_pos h2] at h; cases h
      · rw [if_neg h2] at h
        by_cases h3 : X_isOp s ∧ pile < 2
        · rw [if_pos h3] at h; cases h
        · rw [if_neg h3] at h
          cases h
          have key2 : (X_isOp s ∧ 2 ≤ X_ph (d 12) (d 5 0).toNat) ∨ (¬ X_isOp s ∧ (s = 4 ∨ (s = 64 ∧ 1 ≤ v ∧ v ≤ d 4 0)) ∧ X_ph (d 12) (d 5 0).toNat < 16) := by
            by_cases h4 : X_isOp s
            · exact Or.inl ⟨h4, by have : ¬ pile < 2 := fun z => h3 ⟨h4, z⟩; omega⟩
            · refine Or.inr ⟨h4, ?_, by have : ¬ pile = 16 := fun z => h2 ⟨h4, z⟩; omega⟩
              rcases hsv with h5 | h5 | h5
              · exact Or.inl h5
              · exact Or.inr ⟨h5, by omega⟩
              · exact absurd h5 h4
          obtain ⟨b1, b2⟩ := X_sok_S ho key2
          refine ⟨b1, ?_, ?_, rfl, X_av_r hcr⟩
          · show @ite Int (X_isOp s) (Classical.propDecidable _) (pile - 1) (pile + 1) = X_ph (X_aS d s v 12) (d 5 0 + 1).toNat
            rw [b2, ← hp]
            by_cases h4 : X_isOp s
            · rw [if_pos h4, if_pos h4]; omega
            · rw [if_neg h4, if_neg h4]
          · intro f f1 f2 f3
            show X_aS d s v f = d f
            unfold X_aS X_wu
            rw [if_neg f1, if_neg f3, if_neg f2]
  unfold sp_step at h
  by_cases g1 : so c = 4 ∨ so c = 5
  · rw [if_pos g1] at h
    exact key _ _ _ hcr (Or.inl rfl) h
  · rw [if_neg g1] at h
    by_cases g2 : so c = 64
    · rw [if_pos g2] at h
      split at h
      · exact key _ _ _ (X_av_r hcr) (Or.inr (Or.inl g2)) h
      · cases h
    · rw [if_neg g2] at h
      by_cases g3 : X_isOp (so c)
      · rw [if_pos g3] at h
        exact key _ _ _ hcr (Or.inr (Or.inr g3)) h
      · rw [if_neg g3] at h
        cases h
theorem sp_sl_ok {n : Int} {so : Int → Int} {ct : Int → Int64} : ∀ (k : Nat) (c : Int) (d : Nat → Int → Int) (p : Int) (r : Int × (Nat → Int → Int) × Int), (0 ≤ c ∧ c < n) → sp_sl n so ct k c d p = some r → X_sok d → p = X_ph (d 12) (d 5 0).toNat → X_sok r.2.1 ∧ r.2.2 = X_ph (r.2.1 12) (r.2.1 5 0).toNat ∧ (∀ f, f ≠ 5 → f ≠ 12 → f ≠ 13 → r.2.1 f = d f) ∧ r.2.1 5 0 ≤ d 5 0 + k ∧ (0 ≤ r.1 ∧ r.1 < n) := by
  intro k
  induction k with
  | zero => intro c d p r hcr h ho hp; cases h; exact ⟨ho, hp, fun _ _ _ _ => rfl, by show d 5 0 ≤ d 5 0 + _; omega, hcr⟩
  | succ k ih =>
    intro c d p r hcr h ho hp
    unfold sp_sl at h
    split at h
    · cases h; exact ⟨ho, hp, fun _ _ _ _ => rfl, by show d 5 0 ≤ d 5 0 + _; omega, hcr⟩
    · cases hs : sp_step n so ct c d p with
      | none => rw [hs] at h; cases h
      | some z =>
        rw [hs] at h
        obtain ⟨b1, b2, b3, b4, b5⟩ := sp_step_ok hcr hs ho hp
        obtain ⟨e1, e2, e3, e4, e5⟩ := ih _ _ _ _ b5 h b1 b2
        exact ⟨e1, e2, fun f f1 f2 f3 => (e3 f f1 f2 f3).trans (b3 f f1 f2 f3), by omega, e5⟩
/-- a word is told rightly -/
def X_wok (rc kc : Int) (d : Nat → Int → Int) (q : Int → Int64) : Prop := X_eok kc d q ∧ ¬ d 4 0 = d 3 0 ∧ (0 ≤ d 0 0 ∧ d 0 0 < rc) ∧ (0 ≤ d 2 0 ∧ d 2 0 < kc) ∧ (0 ≤ d 1 0 ∧ d 1 0 ≤ 2) ∧ (d 6 0 = 0) ∧ (d 5 0 = -1 ∨ (X_sok d ∧ d 5 0 ≤ 30 ∧ X_ph (d 12) (d 5 0).toNat = 1))
theorem X_wok.mono {rc rc' kc kc' : Int} {d : Nat → Int → Int} {q : Int → Int64} (h : X_wok rc kc d q) (h1 : rc ≤ rc') (h2 : kc ≤ kc') : X_wok rc' kc' d q := by
  obtain ⟨⟨a1, a2, a3, a4⟩, b1, b2, b3, b4⟩ := h
  exact ⟨⟨a1, a2, a3, fun h g1 g2 => by have := a4 h g1 g2; omega⟩, b1, by omega, by omega, b4⟩
theorem X_eok.wg {kc : Int} {d : Nat → Int → Int} {q : Int → Int64} (h : X_eok kc d q) : X_wg d q := by
  obtain ⟨⟨a1, a1b⟩, a2, a3, a4⟩ := h
  constructor
  · rintro e ⟨h1, h2, h3⟩
    rw [a3 e h1 h2 h3, a2]
    exact ⟨(X_hn_b h1).1, X_hn_l h1 h2 h3⟩
  · rintro e e' ⟨h1, h2, h3⟩ ⟨g1, g2, g3⟩ he
    rw [a3 e h1 h2 h3, a3 e' g1 g2 g3] at he
    by_cases hl : e < e'
    · have := X_hn_l (q := q) h1 hl h3; omega
    · by_cases hl2 : e' < e
      · have := X_hn_l (q := q) g1 hl2 g3; omega
      · omega
theorem sp_steps_ok {n : Int} {so : Int → Int} {ct : Int → Int64} {c : Int} {d : Nat → Int → Int} {r : Int × (Nat → Int → Int)} (hcr : 0 ≤ c ∧ c < n) (h : sp_steps n so ct c d = some r) : X_sok r.2 ∧ r.2 5 0 ≤ 30 ∧ X_ph (r.2 12) (r.2 5 0).toNat = 1 ∧ (∀ f, f ≠ 5 → f ≠ 12 → f ≠ 13 → r.2 f = d f) ∧ (0 ≤ r.1 ∧ r.1 < n) := by
  unfold sp_steps at h
  cases hs : sp_sl n so ct 30 (X_av n c) (X_wu d 5 (fun _ => 0)) 0 with
  | none => rw [hs] at h; cases h
  | some z =>
    rw [hs] at h
    have h : (if so z.1 = 59 then (if z.2.2 = 1 then some (X_av n z.1, z.2.1) else none) else none) = some r := h
    split at h
    · split at h
      · cases h
        have e5 : X_wu d 5 (fun _ => 0) 5 0 = 0 := rfl
        obtain ⟨b1, b2, b3, b4, b5⟩ := sp_sl_ok _ _ _ _ _ (X_av_r hcr) hs ⟨by rw [e5]; omega, by rw [e5]; exact ⟨Int.le_refl _, (show (0 : Int) ≤ 16 by omega)⟩, fun k h1 h2 => by rw [e5] at h2; omega⟩ rfl
        rw [e5] at b4
        refine ⟨b1, by show z.2.1 5 0 ≤ 30; omega, by rw [← b2]; assumption, fun f f1 f2 f3 => (b3 f f1 f2 f3).trans ?_, X_av_r b5⟩
        unfold X_wu
        rw [if_neg f1]
      · cases h
    · cases h
theorem sp_we_ok {n : Int} {so : Int → Int} {ct : Int → Int64} {c : Int} {d : Nat → Int → Int} {q : Int → Int64} {r : Int × (Nat → Int → Int) × (Int → Int64)} (hcr : 0 ≤ c ∧ c < n) (h : sp_we n so ct c d q = some r) : r.2.2 = q ∧ ¬ d 4 0 = d 3 0 ∧ (∀ f, f ≠ 5 → f ≠ 12 → f ≠ 13 → r.2.1 f = d f) ∧ (r.2.1 = d ∨ (X_sok r.2.1 ∧ r.2.1 5 0 ≤ 30 ∧ X_ph (r.2.1 12) (r.2.1 5 0).toNat = 1)) ∧ (0 ≤ r.1 ∧ r.1 < n) := by
  have key : (if d 4 0 = d 3 0 then none else if so c = 61 then (sp_steps n so ct c d).bind fun r => some (r.1, r.2, q) else if so c = 59 then some (X_av n c, d, q) else none) = some r → r.2.2 = q ∧ ¬ d 4 0 = d 3 0 ∧ (∀ f, f ≠ 5 → f ≠ 12 → f ≠ 13 → r.2.1 f = d f) ∧ (r.2.1 = d ∨ (X_sok r.2.1 ∧ r.2.1 5 0 ≤ 30 ∧ X_ph (r.2.1 12) (r.2.1 5 0).toNat = 1)) ∧ (0 ≤ r.1 ∧ r.1 < n) := by
    intro h
    split at h
    · cases h
    · split at h
      · cases hs : sp_steps n so ct c d with
        | none => rw [hs] at h; cases h
        | some z =>
          rw [hs] at h
          cases h
          obtain ⟨b1, b2, b3, b4, b5⟩ := sp_steps_ok hcr hs
          exact ⟨rfl, by assumption, b4, Or.inr ⟨b1, b2, b3⟩, b5⟩
      · split at h
        · cases h
          exact ⟨rfl, by assumption, fun _ _ _ _ => rfl, Or.inl rfl, X_av_r hcr⟩
        · cases h
  unfold sp_we at h
  split at h
  · split at h
    · cases h
    · exact key h
  · exact key h
theorem X_lnV_r0 {so : Int → Int} {ct : Int → Int64} {c : Int} : 0 ≤ X_lnV so ct c 0 ∧ X_lnV so ct c 0 ≤ 2 := X_lnV_r (by omega)
theorem X_eok_0 {kc : Int} {d : Nat → Int → Int} {q : Int → Int64} (h3 : d 3 0 = 0) (h4 : d 4 0 = 0) : X_eok kc d q := ⟨by omega, by rw [h3, h4]; rfl, fun e h1 h2 => by omega, fun e h1 h2 => by omega⟩
theorem sp_wb_ok {n : Int} {so : Int → Int} {ct : Int → Int64} {kn : Int → Int64} {rc kc c : Int} {d : Nat → Int → Int} {q : Int → Int64} {r : Int × (Nat → Int → Int) × (Int → Int64)} (hkc : 1 ≤ kc) (hct : ∀ i, 0 ≤ i → i < n → so i = 6 → ¬ ct i = 0) (hcr : 0 ≤ c ∧ c < n) (h0 : 0 ≤ d 0 0 ∧ d 0 0 < rc) (h1 : 0 ≤ d 1 0 ∧ d 1 0 ≤ 2) (h2 : 0 ≤ d 2 0 ∧ d 2 0 < kc) (h3 : d 3 0 = 0) (h4 : d 4 0 = 0) (h5 : d 5 0 = -1) (h6 : d 6 0 = 0) (h : sp_wb n so ct kn kc c d q = some r) : X_wok rc kc r.2.1 r.2.2 ∧ (0 ≤ r.1 ∧ r.1 < n) := by
  unfold sp_wb at h
  split at h
  · cases hs : sp_el n so ct kn kc 9 (X_av n c) d q with
    | none => rw [hs] at h; cases h
    | some z =>
      rw [hs] at h
      have h : sp_we n so ct z.1 z.2.1 z.2.2 = some r := h
      obtain ⟨b1, b2, -, b3⟩ := sp_el_ok hkc hct _ _ _ _ _ (X_av_r hcr) hs (X_eok_0 h3 h4)
      obtain ⟨e1, e2, e3, e4, e5⟩ := sp_we_ok b3 h
      have g : ∀ f, f ≠ 5 → f ≠ 12 → f ≠ 13 → r.2.1 f = z.2.1 f := e3
      have q0 : r.2.1 0 = d 0 := (g 0 (by decide) (by decide) (by decide)).trans (b2 0 (by decide) (by decide) (by decide) (by decide))
      have q1 : r.2.1 1 = d 1 := (g 1 (by decide) (by decide) (by decide)).trans (b2 1 (by decide) (by decide) (by decide) (by decide))
      have q2 : r.2.1 2 = d 2 := (g 2 (by decide) (by decide) (by decide)).trans (b2 2 (by decide) (by decide) (by decide) (by decide))
      have q6 : r.2.1 6 = d 6 := (g 6 (by decide) (by decide) (by decide)).trans (b2 6 (by decide) (by decide) (by decide) (by decide))
      have q3 := g 3 (by decide) (by decide) (by decide)
      have q4 := g 4 (by decide) (by decide) (by decide)
      have q8 := g 8 (by decide) (by decide) (by decide)
      have q9 := g 9 (by decide) (by decide) (by decide)
      refine ⟨⟨?_, by rw [q3, q4]; exact e2, by rw [q0]; exact h0, by rw [q2]; exact h2, by rw [q1]; exact h1, by rw [q6]; exact h6, ?_⟩, e5⟩
      · rw [e1]
        unfold X_eok
        rw [q3, q4, q8, q9]
        exact b1
      · rcases e4 with e4 | e4
        · left
          rw [e4, b2 5 (by decide) (by decide) (by decide) (by decide)]
          exact h5
        · exact Or.inr e4
  · cases h
theorem sp_wk_ok {n : Int} {so : Int → Int} {ct : Int → Int64} {kn : Int → Int64} {rc kc c : Int} {d : Nat → Int → Int} {q : Int → Int64} {r : Int × (Nat → Int → Int) × (Int → Int64)} (hkc : 1 ≤ kc) (hct : ∀ i, 0 ≤ i → i < n → so i = 6 → ¬ ct i = 0) (hcr : 0 ≤ c ∧ c < n) (h0 : 0 ≤ d 0 0 ∧ d 0 0 < rc) (h1 : 0 ≤ d 1 0 ∧ d 1 0 ≤ 2) (h3 : d 3 0 = 0) (h4 : d 4 0 = 0) (h5 : d 5 0 = -1) (h6 : d 6 0 = 0) (h : sp_wk n so ct kn kc c d q = some r) : X_wok rc kc r.2.1 r.2.2 ∧ (0 ≤ r.1 ∧ r.1 < n) := by
  unfold sp_wk at h
  split at h
  · split at h
    · cases h
    · rename_i h7
      have hr := X_ix_r (g := kn) (n := kc) (x := ct c) (by omega)
      exact sp_wb_ok (d := X_wu d 2 (fun _ => X_ix kn kc (ct c))) hkc hct (X_av_r hcr) h0 h1 (show 0 ≤ X_ix kn kc (ct c) ∧ X_ix kn kc (ct c) < kc by omega) h3 h4 h5 h6 h
  · exact sp_wb_ok (d := X_wu d 2 (fun _ => 0)) hkc hct hcr h0 h1 (show (0 : Int) ≤ 0 ∧ (0 : Int) < kc by omega) h3 h4 h5 h6 h
/-- a text read so far is told rightly -/
def X_Kok (K : X_Kp) : Prop := (0 ≤ K.2.1 ∧ K.2.1 ≤ 12) ∧ (1 ≤ K.2.2.1 ∧ K.2.2.1 ≤ 11) ∧ (0 ≤ K.2.2.2.1 ∧ K.2.2.2.1 ≤ 30) ∧ ∀ w, 0 ≤ w → w < K.2.2.2.1 → X_wok K.2.1 K.2.2.1 (K.2.2.2.2.2.2.2.2.1 w) (K.2.2.2.2.2.2.2.2.2 w)
noncomputable def sp_line (n : Int) (so : Int → Int) (ct : Int → Int64) (K : X_Kp) : Option X_Kp :=
  if so K.1 = 3 ∧ ct K.1 = Int64.ofNat 1918987883 then sp_rank n so ct K else if so K.1 = 3 ∧ ct K.1 = Int64.ofNat 32766990153442674 then sp_tight n so ct K else
  if so K.1 = 3 ∧ ct K.1 = Int64.ofNat 1802071652 then sp_kind n so ct K else if so K.1 = 3 ∧ ct K.1 = Int64.ofNat 2003792484 then sp_word n so ct K else none
noncomputable def sp_lines (n : Int) (so : Int → Int) (ct : Int → Int64) : Nat → X_Kp → Option X_Kp
  | 0, K => some K
  | m + 1, K => if so K.1 = 0 then some K else (sp_line n so ct K).bind (sp_lines n so ct m)
theorem sp_rank_ok {n : Int} {so : Int → Int} {ct : Int → Int64} {K K' : X_Kp} (hcr : 0 ≤ K.1 ∧ K.1 < n) (hK : X_Kok K) (h : sp_rank n so ct K = some K') : X_Kok K' ∧ (0 ≤ K'.1 ∧ K'.1 < n) := by
  obtain ⟨c, rc, kc, wc, rn, lo, kn, ab, D, W⟩ := K
  obtain ⟨a1, a2, a3, a4⟩ := hK
  simp only [sp_rank] at h a1 a2 a3 a4 hcr
  repeat' split at h
  all_goals first | cases h | skip
  exact ⟨⟨show 0 ≤ rc + 1 ∧ rc + 1 ≤ 12 by omega, a2, a3, fun w h1 h2 => (a4 w h1 h2).mono (show rc ≤ rc + 1 by omega) (Int.le_refl _)⟩, X_av_r (X_av_r (X_av_r hcr))⟩
theorem sp_tight_ok {n : Int} {so : Int → Int} {ct : Int → Int64} {K K' : X_Kp} (hcr : 0 ≤ K.1 ∧ K.1 < n) (hK : X_Kok K) (h : sp_tight n so ct K = some K') : X_Kok K' ∧ (0 ≤ K'.1 ∧ K'.1 < n) := by
  obtain ⟨c, rc, kc, wc, rn, lo, kn, ab, D, W⟩ := K
  obtain ⟨a1, a2, a3, a4⟩ := hK
  simp only [sp_tight] at h a1 a2 a3 a4 hcr
  repeat' split at h
  all_goals first | cases h | skip
  exact ⟨⟨a1, a2, a3, a4⟩, X_av_r (X_av_r (X_av_r (X_av_r hcr)))⟩
theorem sp_kind_ok {n : Int} {so : Int → Int} {ct : Int → Int64} {K K' : X_Kp} (hcr : 0 ≤ K.1 ∧ K.1 < n) (hK : X_Kok K) (h : sp_kind n so ct K = some K') : X_Kok K' ∧ (0 ≤ K'.1 ∧ K'.1 < n) := by
  obtain ⟨c, rc, kc, wc, rn, lo, kn, ab, D, W⟩ := K
  obtain ⟨a1, a2, a3, a4⟩ := hK
  simp only [sp_kind] at h a1 a2 a3 a4 hcr
  repeat' split at h
  all_goals first | cases h | skip
  · exact ⟨⟨a1, show 1 ≤ kc + 1 ∧ kc + 1 ≤ 11 by omega, a3, fun w h1 h2 => (a4 w h1 h2).mono (Int.le_refl _) (show kc ≤ kc + 1 by omega)⟩, X_av_r (X_av_r (X_av_r (X_av_r (X_av_r hcr))))⟩
  · exact ⟨⟨a1, show 1 ≤ kc + 1 ∧ kc + 1 ≤ 11 by omega, a3, fun w h1 h2 => (a4 w h1 h2).mono (Int.le_refl _) (show kc ≤ kc + 1 by omega)⟩, X_av_r (X_av_r (X_av_r hcr))⟩
theorem sp_word_ok {n : Int} {so : Int → Int} {ct : Int → Int64} {K K' : X_Kp} (hct : ∀ i, 0 ≤ i → i < n → so i = 6 → ¬ ct i = 0) (hcr : 0 ≤ K.1 ∧ K.1 < n) (hK : X_Kok K) (h : sp_word n so ct K = some K') : X_Kok K' ∧ (0 ≤ K'.1 ∧ K'.1 < n) := by
  obtain ⟨c, rc, kc, wc, rn, lo, kn, ab, D, W⟩ := K
  obtain ⟨a1, a2, a3, a4⟩ := hK
  simp only [sp_word] at h a1 a2 a3 a4 hcr
  split at h
  · cases h
  · split at h
    · split at h
      · cases h
      · rename_i h1 h2 h3
        cases hs : sp_wk n so ct kn kc (X_lnC n so ct (X_av n (X_av n c))) (X_wu (X_clr (D wc) (X_ix rn rc (ct (X_av n c)))) 1 (fun _ => X_lnV so ct (X_av n (X_av n c)) 0)) (W wc) with
        | none => rw [hs] at h; cases h
        | some z =>
          rw [hs] at h
          cases h
          have hr := X_ix_r (g := rn) (n := rc) (x := ct (X_av n c)) (by omega)
          obtain ⟨b1, b2⟩ := sp_wk_ok (rc := rc) a2.1 hct (X_lnC_r (X_av_r (X_av_r hcr))) (show 0 ≤ X_ix rn rc (ct (X_av n c)) ∧ X_ix rn rc (ct (X_av n c)) < rc by omega) X_lnV_r0 rfl rfl rfl rfl hs
          refine ⟨⟨a1, a2, show 0 ≤ wc + 1 ∧ wc + 1 ≤ 30 by omega, fun w g1 g2 => ?_⟩, b2⟩
          have g2 : w < wc + 1 := g2
          show X_wok rc kc (X_ug D wc z.2.1 w) (X_ug W wc z.2.2 w)
          by_cases hw : w = wc
          · subst hw
            rw [X_ug_s, X_ug_s]
            exact b1
          · rw [X_ug_n _ _ hw, X_ug_n _ _ hw]
            exact a4 w g1 (by omega)
    · cases h
theorem sp_line_ok {n : Int} {so : Int → Int} {ct : Int → Int64} {K K' : X_Kp} (hct : ∀ i, 0 ≤ i → i < n → so i = 6 → ¬ ct i = 0) (hcr : 0 ≤ K.1 ∧ K.1 < n) (hK : X_Kok K) (h : sp_line n so ct K = some K') : X_Kok K' ∧ (0 ≤ K'.1 ∧ K'.1 < n) := by
  unfold sp_line at h
  split at h
  · exact sp_rank_ok hcr hK h
  · split at h
    · exact sp_tight_ok hcr hK h
    · split at h
      · exact sp_kind_ok hcr hK h
      · split at h
        · exact sp_word_ok hct hcr hK h
        · cases h
theorem sp_lines_s {n : Int} {so : Int → Int} {ct : Int → Int64} {i : Int} {K : X_Kp} (h : 0 ≤ i ∧ i ≤ 2000) : sp_lines n so ct (2001 - i).toNat K = if so K.1 = 0 then some K else (sp_line n so ct K).bind (sp_lines n so ct (2001 - (i + 1)).toNat) := by
  rw [show (2001 - i).toNat = (2001 - (i + 1)).toNat + 1 by omega]
  rfl
/-- part's texts are not nothing -/
theorem X_pk_b {tb : Int → Int} {len p : Int} : ∀ k : Nat, k ≤ 8 → (∀ i : Int, 0 ≤ i → i < k → 0 < X_at tb len (p + i) ∧ X_at tb len (p + i) < 256) → (X_pk tb len p k).toBitVec.toNat < 256 ^ k ∧ (0 < k → 0 < (X_pk tb len p k).toBitVec.toNat) ∧ ∀ j : Nat, j < k → (X_pk tb len p k).toBitVec.toNat / 256 ^ (k - 1 - j) % 256 = (X_at tb len (p + j)).toNat := by
  intro k
  induction k with
  | zero => intro _ _; exact ⟨(show (0 : Int64).toBitVec.toNat < 1 by decide), fun h => absurd h (by decide), fun j h => absurd h (by omega)⟩
  | succ k ih =>
    intro hk hb
    obtain ⟨a1, a2, a3⟩ := ih (by omega) (fun i h1 h2 => hb i h1 (by omega))
    have hc := hb (k : Int) (by omega) (by omega)
    have e0 : (iI (X_at tb len (p + k))).toInt64.toBitVec.toNat = (X_at tb len (p + k)).toNat := by
      rw [show (iI (X_at tb len (p + k))).toInt64 = iL (X_at tb len (p + k)) from Int32.toInt64_ofInt (by show -2147483648 ≤ _; omega) (by show _ ≤ 2147483647; omega)]
      show (BitVec.ofInt 64 _).toNat = _
      rw [BitVec.toNat_ofInt]
      have h64 : (((2 : Nat) ^ 64 : Nat) : Int) = 18446744073709551616 := by decide
      have : (X_at tb len (p + k)) % ((2 ^ 64 : Nat) : Int) = X_at tb len (p + k) := Int.emod_eq_of_lt (by omega) (by rw [h64]; omega)
      rw [this]
    have hpow : (256 : Nat) ^ k ≤ 256 ^ 7 := Nat.pow_le_pow_right (by decide) (by omega)
    have hp7 : (256 : Nat) ^ 7 = 72057594037927936 := by decide
    have e1 : (X_pk tb len p (k + 1)).toBitVec.toNat = (X_pk tb len p k).toBitVec.toNat * 256 + (X_at tb len (p + k)).toNat := by
      show (X_pk1 (X_pk tb len p k) (X_at tb len (p + k))).toBitVec.toNat = _
      unfold X_pk1
      rw [Int64.toBitVec_or, BitVec.toNat_or, e0, Int64.toBitVec_shiftLeft]
      have es : ((iI 8).toInt64 &&& 63).toBitVec.smod 64 = 8#64 := by decide
      rw [es]
      show ((X_pk tb len p k).toBitVec <<< (8 : Nat)).toNat ||| _ = _
      rw [BitVec.toNat_shiftLeft, Nat.shiftLeft_eq, Nat.mod_eq_of_lt (by omega)]
      rw [show (X_pk tb len p k).toBitVec.toNat * 2 ^ 8 = 2 ^ 8 * (X_pk tb len p k).toBitVec.toNat by omega, ← Nat.two_pow_add_eq_or_of_lt (by omega)]
    have hpk : (256 : Nat) ^ (k + 1) = 256 ^ k * 256 := Nat.pow_succ 256 k
    refine ⟨by omega, fun _ => by omega, ?_⟩
    intro j hj
    by_cases hjk : j = k
    · subst hjk
      rw [show j + 1 - 1 - j = 0 by omega, e1]
      omega
    · rw [show k + 1 - 1 - j = (k - 1 - j) + 1 by omega, e1, Nat.pow_succ, Nat.mul_comm (256 ^ (k - 1 - j)) 256, ← Nat.div_div_eq_div_mul]
      rw [show ((X_pk tb len p k).toBitVec.toNat * 256 + (X_at tb len (p + k)).toNat) / 256 = (X_pk tb len p k).toBitVec.toNat by omega]
      exact a3 j (by omega)
/-- where a run ends, what is in it is so -/
theorem X_sf_in {P : Int → Prop} {tb : Int → Int} {len : Int} : ∀ (n : Nat) (p k : Int), p ≤ k → k < X_sf P tb len n p → P (X_at tb len k) := by
  intro n
  induction n with
  | zero => intro p k h1 h2; exact absurd (show k < p from h2) (by omega)
  | succ n ih =>
    intro p k h1 h2
    by_cases h : p < len ∧ P (X_at tb len p)
    · have e : X_sf P tb len (n + 1) p = X_sf P tb len n (p + 1) := by
        show @ite Int (p < len ∧ P (X_at tb len p)) (Classical.propDecidable _) _ p = _
        rw [if_pos h]
      rw [e] at h2
      by_cases hk : k = p
      · subst hk; exact h.2
      · exact ih (p + 1) k (by omega) h2
    · have e : X_sf P tb len (n + 1) p = p := by
        show @ite Int (p < len ∧ P (X_at tb len p)) (Classical.propDecidable _) _ p = _
        rw [if_neg h]
      rw [e] at h2
      omega
theorem X_se_in {P : Int → Prop} {tb : Int → Int} {len p k : Int} (h1 : p ≤ k) (h2 : k < X_se P tb len p) : P (X_at tb len k) := X_sf_in _ p k h1 h2
/-- a part's bytes: how many, and what they are not -/
theorem X_Tok_part {tb : Int → Int} {len p r : Int} {ct : Int64} {e : Int} (h : X_Tok tb len p r ct e) (h6 : r = 6) : ∃ k : Nat, 1 ≤ k ∧ k ≤ 8 ∧ ct = X_pk tb len (p + 1) k ∧ ∀ i : Int, 0 ≤ i → i < k → X_isPB (X_at tb len (p + 1 + i)) := by
  rcases h with ⟨h1, h2, h3, h4⟩ | h | h | h | h
  · omega
  · obtain ⟨h1, h2, h3⟩ := h
    exfalso
    rcases h3 with h | ⟨-, -, h | h⟩
    · omega
    · have := h.2; omega
    · have := h.2; omega
  · obtain ⟨h1, h2, h3⟩ := h
    exfalso
    rcases h3 with h | ⟨-, -, -, h | h⟩
    · have := h.2.1; omega
    · have := h.2; omega
    · have := h.2; omega
  · obtain ⟨h1, m, h2, h3⟩ := h
    rcases h3 with ⟨-, h4, -, h5⟩ | ⟨h4, h5, h6', -, h7, -⟩
    · omega
    · have hm := X_se_r X_isPB tb len (p + 1)
      by_cases hz : m = p + 1
      · exact absurd (fun k g1 g2 => by omega) h6'
      · refine ⟨(m - (p + 1)).toNat, by omega, by omega, h7, fun i g1 g2 => X_se_in (p := p + 1) (by omega) (by rw [← h2]; omega)⟩
  · obtain ⟨h1, h2, h3, h4, h5, h6', h7⟩ := h
    exfalso
    rcases h7 with h | h
    · have h8 := h.2.2
      have h9 := h.1
      unfold X_isSg at h9
      omega
    · have := h.2; omega
theorem X_Tks_part {tb : Int → Int} {len n : Int} {so pl : Int → Int} {ct : Int → Int64} {E : Int → Int} (h : X_Tks tb len n so pl ct E) : ∀ i, 0 ≤ i → i < n → so i = 6 → ¬ ct i = 0 := by
  intro i h1 h2 h6 h0
  obtain ⟨k, k1, k2, k3, k4⟩ := X_Tok_part (h.2 i h1 h2).2 h6
  have := (X_pk_b (tb := tb) (len := len) (p := pl i + 1) k k2 (fun i g1 g2 => by have := k4 i g1 g2; unfold X_isPB at this; omega)).2.1 (by omega)
  rw [← k3, h0] at this
  exact absurd this (by decide)

theorem X_Tks_r {tb : Int → Int} {len n : Int} {so pl : Int → Int} {ct : Int → Int64} {E : Int → Int} (hl : 0 ≤ len) (h : X_Tks tb len n so pl ct E) : ∀ i : Nat, (i : Int) ≤ n → 0 ≤ E i ∧ E i ≤ len := by
  intro i
  induction i with
  | zero => intro _; have := h.1; exact ⟨by show 0 ≤ E 0; omega, by show E 0 ≤ len; omega⟩
  | succ i ih =>
    intro hi
    have h1 := ih (by omega)
    obtain ⟨h2, h3⟩ := h.2 (i : Int) (by omega) (by omega)
    have h4 := X_se_r X_isBl tb len (E i)
    have h5 := X_Tok_r (by omega) h3
    show 0 ≤ E ((i : Int) + 1) ∧ E ((i : Int) + 1) ≤ len
    omega
theorem X_Tks_q {tb : Int → Int} {len n : Int} {so pl : Int → Int} {ct : Int → Int64} {E : Int → Int} (hl : 0 ≤ len) (h : X_Tks tb len n so pl ct E) : ∀ i, 0 ≤ i → i < n → (0 ≤ so i ∧ so i ≤ 255) ∧ (E i ≤ pl i ∧ pl i ≤ len) := by
  intro i h1 h2
  have h0 := X_Tks_r hl h i.toNat (by omega)
  rw [show (i.toNat : Int) = i by omega] at h0
  obtain ⟨h3, h4⟩ := h.2 i h1 h2
  have h5 := X_se_r X_isBl tb len (E i)
  have h6 := X_Tok_r (by omega) h4
  omega
/-- a text and its tokens, up to the first END or to what is no token -/
def X_Txt (tb : Int → Int) (len n : Int) (so pl : Int → Int) (ct : Int → Int64) : Prop := (1 ≤ n ∧ n ≤ 2001) ∧ (∃ E, X_Tks tb len n so pl ct E) ∧ (∀ i, 0 ≤ i → i < n - 1 → so i ≠ 0 ∧ so i ≠ 1) ∧ (so (n - 1) = 0 ∨ so (n - 1) = 1)
theorem c_parse (sc : X_Sc) (S : X_S) (B B0 : Nat) (len : Int) (tb : Int → Int) (fl0 fp0 at0 n0 cur0 : Int) (so0 pl0 : Int → Int) (ct0 : Int → Int64) (rc kc wc : Int) (rn : Int → Int64) (lo : Int → Int) (kn : Int → Int64) (ab : Int → Int) (D : Int → Nat → Int → Int) (W : Int → Int → Int64) (hB : 4 ≤ B ∧ B + 246 ≤ 496) (ht : C_tp S len tb) (hp0 : C_pa S B0 fl0 fp0) (hx0 : C_lx S at0 n0 cur0 so0 pl0 ct0) (hb : C_bk S B rc kc wc rn lo kn ab) (hs : C_ws S B D W) : X_T sc 65 (0, [(0, .ref 496), (1, .ref B)], [], S) (fun v S' => ∃ (n : Int) (so pl : Int → Int) (ct : Int → Int64) (at_ : Int), X_Txt tb len n so pl ct ∧ ((v = some (.int (iI 1)) ∧ ∃ (c1 rc1 kc1 wc1 : Int) (rn1 : Int → Int64) (lo1 : Int → Int) (kn1 : Int → Int64) (ab1 : Int → Int) (D1 : Int → Nat → Int → Int) (W1 : Int → Int → Int64) (D2 : Int → Nat → Int → Int) (fp1 : Int), sp_lines n so ct 2001 (0, 0, 1, 0, rn, lo, X_ug kn 0 (Int64.ofNat 6384748), X_ug ab 0 1, D, W) = some (c1, rc1, kc1, wc1, rn1, lo1, kn1, ab1, D1, W1) ∧ X_Kok (c1, rc1, kc1, wc1, rn1, lo1, kn1, ab1, D1, W1) ∧ X_sD D1 D2 ∧ (∀ w, 0 ≤ w → w < wc1 → ∀ e, X_hl (D1 w) (W1 w) e → X_tkn lo1 ab1 kc1 wc1 D1 W1 w e (D2 w 11 (D1 w 8 e)) (D2 w 10 (D1 w 8 e))) ∧ C_K S' B 0 fp1 at_ n so pl ct (c1, rc1, kc1, wc1, rn1, lo1, kn1, ab1, D2, W1)) ∨
  (v = some (.int (iI 0)) ∧ sp_lines n so ct 2001 (0, 0, 1, 0, rn, lo, X_ug kn 0 (Int64.ofNat 6384748), X_ug ab 0 1, D, W) = none ∧ ∃ fl1 fp1 K, ¬ fl1 = 0 ∧ C_K S' B fl1 fp1 at_ n so pl ct K)) ∧ X_Fr (fun q => (496 ≤ q ∧ q ≤ 500) ∨ (B ≤ q ∧ q < B + 246)) S S') := by
  obtain ⟨hb0, hb1, hb2, hb3, hb4, ⟨f, hb5, hf⟩, ⟨hrc, hrcb⟩, ⟨hkc, hkcb⟩, ⟨hwc, hwcb⟩⟩ := id hb
  refine X_QI (fun Q hQ => ?_)
  refine T_p xr_65_0 xn_65 (pc' := 1) (ls' := [(0, .ref 496), (1, .ref B)]) (st' := [.ref 496]) rfl ?_
  refine T_p xr_65_1 xn_65 (pc' := 2) (ls' := [(0, .ref 496), (1, .ref B)]) (st' := [.ref B, .ref 496]) rfl ?_
  refine T_put xr_65_2 hp0 rfl (Nat.le_of_ble_eq_true rfl) rfl (fs' := [.ref 497, .ref B, .int (iI fl0), .int (iI fp0)]) rfl (pc' := 5) rfl (fun S3214 h3215 n3216 e3217 => ?_)
  refine T_p xr_65_5 xn_65 (pc' := 6) (ls' := [(0, .ref 496), (1, .ref B)]) (st' := [.ref 496]) rfl ?_
  refine T_get xr_65_6 h3215 rfl (v := .ref B) rfl (pc' := 9) rfl ?_
  have h3218 := (n3216 B (by omega)).trans (hb0)
  refine T_cv (S := S3214) (q := B) xr_65_9 xf_1.1 xf_1.2.1 xn_1 (as := []) (r := []) rfl h3218 (Nat.le_of_ble_eq_true rfl) (Nat.le_of_ble_eq_true rfl) (pc' := 12) rfl (ls' := [(0, .ref B)]) rfl ?_
  have h3225 := (n3216 (B + 1) (by first | exact (fun h => absurd (Nat.add_left_cancel h) (by decide)) | omega)).trans (hb1)
  have h3226 := (n3216 (B + 2) (by first | exact (fun h => absurd (Nat.add_left_cancel h) (by decide)) | omega)).trans (hb2)
  have h3227 := (n3216 (B + 3) (by first | exact (fun h => absurd (Nat.add_left_cancel h) (by decide)) | omega)).trans (hb3)
  have h3228 := (n3216 (B + 4) (by first | exact (fun h => absurd (Nat.add_left_cancel h) (by decide)) | omega)).trans (hb4)
  have h3229 := (n3216 (B + 5) (by first | exact (fun h => absurd (Nat.add_left_cancel h) (by decide)) | omega)).trans (hb5)
  refine T_mono (c_clearb sc S3214 B rc kc wc rn lo kn ab  ⟨h3218, h3225, h3226, h3227, h3228, ⟨f, h3229, hf⟩, ⟨by omega, by omega⟩, ⟨by omega, by omega⟩, ⟨by omega, by omega⟩⟩ ) (fun v3219 S3220 h3221 => ?_)
  obtain ⟨h3222, hb3223, h3224⟩ := h3221
  rw [h3222]
  show X_T sc 65 (12, [(0, .ref 496), (1, .ref B)], [], S3220) _
  refine T_p xr_65_12 xn_65 (pc' := 13) (ls' := [(0, .ref 496), (1, .ref B)]) (st' := [.ref 496]) rfl ?_
  refine T_p xr_65_13 xn_65 (pc' := 14) (ls' := [(0, .ref 496), (1, .ref B)]) (st' := [.int (iI 0), .ref 496]) rfl ?_
  have h3230 := (h3224.1 496 (by first | decide | omega)).trans (h3215)
  refine T_put xr_65_14 h3230 rfl (Nat.le_of_ble_eq_true rfl) rfl (fs' := [.ref 497, .ref B, .int (iI 0), .int (iI fp0)]) rfl (pc' := 17) rfl (fun S3231 h3232 n3233 e3234 => ?_)
  refine T_p xr_65_17 xn_65 (pc' := 18) (ls' := [(0, .ref 496), (1, .ref B)]) (st' := [.ref 496]) rfl ?_
  refine T_p xr_65_18 xn_65 (pc' := 19) (ls' := [(0, .ref 496), (1, .ref B)]) (st' := [.int (iI (-1)), .ref 496]) rfl ?_
  refine T_put xr_65_19 h3232 rfl (Nat.le_of_ble_eq_true rfl) rfl (fs' := [.ref 497, .ref B, .int (iI 0), .int (iI (-1))]) rfl (pc' := 22) rfl (fun S3235 h3236 n3237 e3238 => ?_)
  refine T_p xr_65_22 xn_65 (pc' := 23) (ls' := [(0, .ref 496), (1, .ref B)]) (st' := [.ref 496]) rfl ?_
  refine T_get xr_65_23 h3236 rfl (v := .ref 497) rfl (pc' := 26) rfl ?_
  have h3239 := (n3237 497 (by decide)).trans ((n3233 497 (by decide)).trans ((h3224.1 497 (by first | decide | omega)).trans ((n3216 497 (by decide)).trans (hx0.1))))
  refine T_cv (S := S3235) (q := 497) xr_65_26 xf_53.1 xf_53.2.1 xn_53 (as := []) (r := []) rfl h3239 (Nat.le_of_ble_eq_true rfl) (Nat.le_of_ble_eq_true rfl) (pc' := 29) rfl (ls' := [(0, .ref 497)]) rfl ?_
  have h3243 := (n3237 498 (by decide)).trans ((n3233 498 (by decide)).trans ((h3224.1 498 (by first | decide | omega)).trans ((n3216 498 (by decide)).trans (hx0.2.1))))
  have h3244 := (n3237 499 (by decide)).trans ((n3233 499 (by decide)).trans ((h3224.1 499 (by first | decide | omega)).trans ((n3216 499 (by decide)).trans (hx0.2.2.1))))
  have h3245 := (n3237 500 (by decide)).trans ((n3233 500 (by decide)).trans ((h3224.1 500 (by first | decide | omega)).trans ((n3216 500 (by decide)).trans (hx0.2.2.2))))
  have h3246 := (n3237 2 (by decide)).trans ((n3233 2 (by decide)).trans ((h3224.1 2 (by first | decide | omega)).trans ((n3216 2 (by decide)).trans (ht.1))))
  have h3247 := (n3237 3 (by decide)).trans ((n3233 3 (by decide)).trans ((h3224.1 3 (by first | decide | omega)).trans ((n3216 3 (by decide)).trans (ht.2.1))))
  refine T_mono (c_start sc S3235 len tb at0 n0 cur0 so0 pl0 ct0 ⟨h3246, h3247, ht.2.2⟩ ⟨h3239, h3243, h3244, h3245⟩) (fun v3240 S3241 h3242 => ?_)
  obtain ⟨hv, n, so, pl, ct, E, hn1, hx, hT, hnt, hlast, hfr⟩ := h3242
  rw [hv]
  obtain ⟨at_, hat⟩ : ∃ z, z = E n := ⟨_, rfl⟩
  rw [← hat] at hx
  have hso : ∀ i, 0 ≤ i → i < n → 0 ≤ so i ∧ so i ≤ 255 := fun i h1 h2 => (X_Tks_q ht.2.2.1 hT i h1 h2).1
  have hct := X_Tks_part hT
  show X_T sc 65 (29, [(0, .ref 496), (1, .ref B)], [], S3241) _
  refine T_p xr_65_29 xn_65 (pc' := 30) (ls' := [(0, .ref 496), (1, .ref B)]) (st' := [.int (iI 0)]) rfl ?_
  refine T_p xr_65_30 xn_65 (pc' := 31) (ls' := [(2, .int (iI 0)), (0, .ref 496), (1, .ref B)]) (st' := []) rfl ?_
  have L3248 : ∀ (m3250 : Nat) (S1 : X_S) (line : Int) (K : X_Kp) (fl : Int) (fp : Int) (hF3252 : X_Fr (fun q => (496 ≤ q ∧ q ≤ 500) ∨ (B ≤ q ∧ q < B + 246)) S3241 S1) (hli : 0 ≤ line ∧ line ≤ 2001) (hflr : 0 ≤ fl ∧ fl ≤ 5) (hK : C_K S1 B fl fp at_ n so pl ct K) (hR0 : fl = 0 → sp_lines n so ct (2001 - line).toNat K = sp_lines n so ct 2001 (0, 0, 1, 0, rn, lo, X_ug kn 0 (Int64.ofNat 6384748), X_ug ab 0 1, D, W) ∧ X_Kok K) (hR1 : ¬ fl = 0 → sp_lines n so ct 2001 (0, 0, 1, 0, rn, lo, X_ug kn 0 (Int64.ofNat 6384748), X_ug ab 0 1, D, W) = none) (hm3251 : 2001 - line < m3250), X_T sc 65 (31, [(2, .int (iI line)), (0, .ref 496)], [], S1) Q := by
    intro m3250
    induction m3250 with
    | zero =>
      intro S1 line K fl fp hF3252 hli hflr hK hR0 hR1 hm3251
      exact (show False by omega).elim
    | succ m3250 ih3249 =>
      intro S1 line K fl fp hF3252 hli hflr hK hR0 hR1 hm3251
      obtain ⟨cur, rc, kc, wc, rn, lo, kn, ab, D, W⟩ := K
      obtain ⟨hp, hx, hb, hs, hcu⟩ := id hK
      simp only at hx hb hs hcu
      obtain ⟨hb0, hb1, hb2, hb3, hb4, ⟨f, hb5, hf⟩, ⟨hrc, hrcb⟩, ⟨hkc, hkcb⟩, ⟨hwc, hwcb⟩⟩ := id hb
      refine T_p xr_65_31 xn_65 (pc' := 32) (ls' := [(2, .int (iI line)), (0, .ref 496)]) (st' := [.int (iI line)]) rfl ?_
      refine T_p xr_65_32 xn_65 (pc' := 35) (ls' := [(2, .int (iI line)), (0, .ref 496)]) (st' := [.int (iI 2000), .int (iI line)]) rfl ?_
      refine T_zicmp_gt xr_65_35 (t := 145) (pc' := 38) rfl rfl (fun c3253 => ?_) (fun c3253 => ?_)
      · skip
        have c3253 : 2000 < line := c3253
        refine T_p xr_65_145 xn_65 (pc' := 146) (ls' := [(2, .int (iI line)), (0, .ref 496)]) (st' := [.ref 496]) rfl ?_
        refine T_get xr_65_146 hp rfl (v := .int (iI fl)) rfl (pc' := 149) rfl ?_
        refine T_zif_eq xr_65_149 (t := 154) (pc' := 152) rfl rfl (fun c3254 => ?_) (fun c3254 => ?_)
        · skip
          have c3254 : fl = 0 := c3254
          obtain rfl : fl = 0 := by omega
          obtain ⟨hR, hok⟩ := hR0 rfl
          refine T_p xr_65_154 xn_65 (pc' := 155) (ls' := [(2, .int (iI line)), (0, .ref 496)]) (st' := [.ref 496]) rfl ?_
          refine T_get xr_65_155 hp rfl (v := .ref B) rfl (pc' := 158) rfl ?_
          refine T_cv (S := S1) (q := B) xr_65_158 xf_16.1 xf_16.2.1 xn_16 (as := []) (r := []) rfl hb0 (Nat.le_of_ble_eq_true rfl) (Nat.le_of_ble_eq_true rfl) (pc' := 161) rfl (ls' := [(0, .ref B)]) rfl ?_
          refine T_mono (c_settleHoles sc S1 B rc kc wc rn lo kn ab D W hb hs (fun w h1 h2 => (hok.2.2.2 w h1 h2).1.wg)) (fun v3255 S3256 h3257 => ?_)
          obtain ⟨hv3258, ⟨D3259, hw3260, hd3261, ht3262⟩, hf3263⟩ := h3257
          rw [hv3258]
          show X_T sc 65 (161, [(2, .int (iI line)), (0, .ref 496)], [], S3256) _
          refine T_p xr_65_161 xn_65 (pc' := 162) (ls' := [(2, .int (iI line)), (0, .ref 496)]) (st' := [.int (iI 1)]) rfl ?_
          refine T_iret xr_65_162 xf_65.2.2 (by decide) ?_
          refine hQ _ _ ?_
          refine ⟨n, so, pl, ct, at_, ⟨hn1, ⟨E, hT⟩, hnt, hlast⟩, Or.inl ⟨rfl, cur, rc, kc, wc, rn, lo, kn, ab, D, W, D3259, fp, ?_, hok, hd3261, ht3262, ⟨(hf3263.1 496 (by first | decide | omega)).trans hp, ⟨(hf3263.1 497 (by first | decide | omega)).trans hx.1, (hf3263.1 498 (by first | decide | omega)).trans hx.2.1, (hf3263.1 499 (by first | decide | omega)).trans hx.2.2.1, (hf3263.1 500 (by first | decide | omega)).trans hx.2.2.2⟩, hb.fr hf3263 (fun k hk => by omega), hw3260, hcu⟩⟩, (((((((X_Fr.rf).tr (X_Fr.of n3216 e3217 (by first | decide | exact ⟨Nat.le_add_right _ _, Nat.add_le_add_left (by decide) _⟩ | omega))).tr (X_Fr.mono ⟨h3224.1, h3224.2⟩ (fun q hq => (by omega)))).tr (X_Fr.of n3233 e3234 (by first | decide | exact ⟨Nat.le_add_right _ _, Nat.add_le_add_left (by decide) _⟩ | omega))).tr (X_Fr.of n3237 e3238 (by first | decide | exact ⟨Nat.le_add_right _ _, Nat.add_le_add_left (by decide) _⟩ | omega))).tr (X_Fr.mono ⟨hfr.1, hfr.2⟩ (fun q hq => (by omega)))).tr (X_Fr.mono ⟨hF3252.1, hF3252.2⟩ (fun q hq => (by omega)))).tr (X_Fr.mono ⟨hf3263.1, hf3263.2⟩ (fun q hq => (by omega)))⟩
          rw [← hR]
          first
            | (rw [show (2001 - line).toNat = 0 by omega]; rfl)
            | (rw [sp_lines_s (i := line) (by omega), if_pos (by first | assumption | omega)])
        · skip
          have c3254 : ¬ (fl = 0) := c3254
          refine T_p xr_65_152 xn_65 (pc' := 153) (ls' := [(2, .int (iI line)), (0, .ref 496)]) (st' := [.int (iI 0)]) rfl ?_
          refine T_iret xr_65_153 xf_65.2.2 (by decide) ?_
          refine hQ _ _ ?_
          exact ⟨n, so, pl, ct, at_, ⟨hn1, ⟨E, hT⟩, hnt, hlast⟩, Or.inr ⟨rfl, hR1 (by assumption), fl, fp, _, by assumption, hK⟩, ((((((X_Fr.rf).tr (X_Fr.of n3216 e3217 (by first | decide | exact ⟨Nat.le_add_right _ _, Nat.add_le_add_left (by decide) _⟩ | omega))).tr (X_Fr.mono ⟨h3224.1, h3224.2⟩ (fun q hq => (by omega)))).tr (X_Fr.of n3233 e3234 (by first | decide | exact ⟨Nat.le_add_right _ _, Nat.add_le_add_left (by decide) _⟩ | omega))).tr (X_Fr.of n3237 e3238 (by first | decide | exact ⟨Nat.le_add_right _ _, Nat.add_le_add_left (by decide) _⟩ | omega))).tr (X_Fr.mono ⟨hfr.1, hfr.2⟩ (fun q hq => (by omega)))).tr (X_Fr.mono ⟨hF3252.1, hF3252.2⟩ (fun q hq => (by omega)))⟩
      · skip
        have c3253 : ¬ (2000 < line) := c3253
        refine T_p xr_65_38 xn_65 (pc' := 39) (ls' := [(2, .int (iI line)), (0, .ref 496)]) (st' := [.ref 496]) rfl ?_
        refine T_get xr_65_39 hp rfl (v := .int (iI fl)) rfl (pc' := 42) rfl ?_
        refine T_zif_ne xr_65_42 (t := 145) (pc' := 45) rfl rfl (fun c3264 => ?_) (fun c3264 => ?_)
        · skip
          have c3264 : ¬ fl = 0 := c3264
          refine T_p xr_65_145 xn_65 (pc' := 146) (ls' := [(2, .int (iI line)), (0, .ref 496)]) (st' := [.ref 496]) rfl ?_
          refine T_get xr_65_146 hp rfl (v := .int (iI fl)) rfl (pc' := 149) rfl ?_
          refine T_zif_eq xr_65_149 (t := 154) (pc' := 152) rfl rfl (fun c3265 => ?_) (fun c3265 => ?_)
          · skip
            have c3265 : fl = 0 := c3265
            obtain rfl : fl = 0 := by omega
            obtain ⟨hR, hok⟩ := hR0 rfl
            refine T_p xr_65_154 xn_65 (pc' := 155) (ls' := [(2, .int (iI line)), (0, .ref 496)]) (st' := [.ref 496]) rfl ?_
            refine T_get xr_65_155 hp rfl (v := .ref B) rfl (pc' := 158) rfl ?_
            refine T_cv (S := S1) (q := B) xr_65_158 xf_16.1 xf_16.2.1 xn_16 (as := []) (r := []) rfl hb0 (Nat.le_of_ble_eq_true rfl) (Nat.le_of_ble_eq_true rfl) (pc' := 161) rfl (ls' := [(0, .ref B)]) rfl ?_
            refine T_mono (c_settleHoles sc S1 B rc kc wc rn lo kn ab D W hb hs (fun w h1 h2 => (hok.2.2.2 w h1 h2).1.wg)) (fun v3266 S3267 h3268 => ?_)
            obtain ⟨hv3269, ⟨D3270, hw3271, hd3272, ht3273⟩, hf3274⟩ := h3268
            rw [hv3269]
            show X_T sc 65 (161, [(2, .int (iI line)), (0, .ref 496)], [], S3267) _
            refine T_p xr_65_161 xn_65 (pc' := 162) (ls' := [(2, .int (iI line)), (0, .ref 496)]) (st' := [.int (iI 1)]) rfl ?_
            refine T_iret xr_65_162 xf_65.2.2 (by decide) ?_
            refine hQ _ _ ?_
            refine ⟨n, so, pl, ct, at_, ⟨hn1, ⟨E, hT⟩, hnt, hlast⟩, Or.inl ⟨rfl, cur, rc, kc, wc, rn, lo, kn, ab, D, W, D3270, fp, ?_, hok, hd3272, ht3273, ⟨(hf3274.1 496 (by first | decide | omega)).trans hp, ⟨(hf3274.1 497 (by first | decide | omega)).trans hx.1, (hf3274.1 498 (by first | decide | omega)).trans hx.2.1, (hf3274.1 499 (by first | decide | omega)).trans hx.2.2.1, (hf3274.1 500 (by first | decide | omega)).trans hx.2.2.2⟩, hb.fr hf3274 (fun k hk => by omega), hw3271, hcu⟩⟩, (((((((X_Fr.rf).tr (X_Fr.of n3216 e3217 (by first | decide | exact ⟨Nat.le_add_right _ _, Nat.add_le_add_left (by decide) _⟩ | omega))).tr (X_Fr.mono ⟨h3224.1, h3224.2⟩ (fun q hq => (by omega)))).tr (X_Fr.of n3233 e3234 (by first | decide | exact ⟨Nat.le_add_right _ _, Nat.add_le_add_left (by decide) _⟩ | omega))).tr (X_Fr.of n3237 e3238 (by first | decide | exact ⟨Nat.le_add_right _ _, Nat.add_le_add_left (by decide) _⟩ | omega))).tr (X_Fr.mono ⟨hfr.1, hfr.2⟩ (fun q hq => (by omega)))).tr (X_Fr.mono ⟨hF3252.1, hF3252.2⟩ (fun q hq => (by omega)))).tr (X_Fr.mono ⟨hf3274.1, hf3274.2⟩ (fun q hq => (by omega)))⟩
            rw [← hR]
            first
              | (rw [show (2001 - line).toNat = 0 by omega]; rfl)
              | (rw [sp_lines_s (i := line) (by omega), if_pos (by first | assumption | omega)])
          · skip
            have c3265 : ¬ (fl = 0) := c3265
            refine T_p xr_65_152 xn_65 (pc' := 153) (ls' := [(2, .int (iI line)), (0, .ref 496)]) (st' := [.int (iI 0)]) rfl ?_
            refine T_iret xr_65_153 xf_65.2.2 (by decide) ?_
            refine hQ _ _ ?_
            exact ⟨n, so, pl, ct, at_, ⟨hn1, ⟨E, hT⟩, hnt, hlast⟩, Or.inr ⟨rfl, hR1 (by assumption), fl, fp, _, by assumption, hK⟩, ((((((X_Fr.rf).tr (X_Fr.of n3216 e3217 (by first | decide | exact ⟨Nat.le_add_right _ _, Nat.add_le_add_left (by decide) _⟩ | omega))).tr (X_Fr.mono ⟨h3224.1, h3224.2⟩ (fun q hq => (by omega)))).tr (X_Fr.of n3233 e3234 (by first | decide | exact ⟨Nat.le_add_right _ _, Nat.add_le_add_left (by decide) _⟩ | omega))).tr (X_Fr.of n3237 e3238 (by first | decide | exact ⟨Nat.le_add_right _ _, Nat.add_le_add_left (by decide) _⟩ | omega))).tr (X_Fr.mono ⟨hfr.1, hfr.2⟩ (fun q hq => (by omega)))).tr (X_Fr.mono ⟨hF3252.1, hF3252.2⟩ (fun q hq => (by omega)))⟩
        · skip
          have c3264 : ¬ (¬ fl = 0) := c3264
          obtain rfl : fl = 0 := by omega
          obtain ⟨hR, hok⟩ := hR0 rfl
          refine T_p xr_65_45 xn_65 (pc' := 46) (ls' := [(2, .int (iI line)), (0, .ref 496)]) (st' := [.ref 496]) rfl ?_
          refine T_get xr_65_46 hp rfl (v := .ref 497) rfl (pc' := 49) rfl ?_
          refine T_cv (S := S1) (q := 497) xr_65_49 xf_48.1 xf_48.2.1 xn_48 (as := []) (r := []) rfl hx.1 (Nat.le_of_ble_eq_true rfl) (Nat.le_of_ble_eq_true rfl) (pc' := 52) rfl (ls' := [(0, .ref 497)]) rfl ?_
          refine T_mono (c_sort sc S1 at_ n cur so pl ct ⟨hx.1, hx.2.1, hx.2.2.1, hx.2.2.2⟩ (by omega)) (fun v3276 S3277 h3275 => ?_)
          obtain ⟨h3278, h3279⟩ := h3275
          rw [h3278, h3279]
          show X_T sc 65 (52, [(2, .int (iI line)), (0, .ref 496)], [.int (iI (so cur))], S1) _
          have hs3280 := hso cur (by omega) (by omega)
          refine T_zif_eq xr_65_52 (t := 145) (pc' := 55) rfl rfl (fun c3281 => ?_) (fun c3281 => ?_)
          · skip
            have c3281 : (so cur) = 0 := c3281
            refine T_p xr_65_145 xn_65 (pc' := 146) (ls' := [(2, .int (iI line)), (0, .ref 496)]) (st' := [.ref 496]) rfl ?_
            refine T_get xr_65_146 hp rfl (v := .int (iI 0)) rfl (pc' := 149) rfl ?_
            refine T_zif_eqt xr_65_149 (t := 154) rfl (by decide) ?_
            refine T_p xr_65_154 xn_65 (pc' := 155) (ls' := [(2, .int (iI line)), (0, .ref 496)]) (st' := [.ref 496]) rfl ?_
            refine T_get xr_65_155 hp rfl (v := .ref B) rfl (pc' := 158) rfl ?_
            refine T_cv (S := S1) (q := B) xr_65_158 xf_16.1 xf_16.2.1 xn_16 (as := []) (r := []) rfl hb0 (Nat.le_of_ble_eq_true rfl) (Nat.le_of_ble_eq_true rfl) (pc' := 161) rfl (ls' := [(0, .ref B)]) rfl ?_
            refine T_mono (c_settleHoles sc S1 B rc kc wc rn lo kn ab D W hb hs (fun w h1 h2 => (hok.2.2.2 w h1 h2).1.wg)) (fun v3282 S3283 h3284 => ?_)
            obtain ⟨hv3285, ⟨D3286, hw3287, hd3288, ht3289⟩, hf3290⟩ := h3284
            rw [hv3285]
            show X_T sc 65 (161, [(2, .int (iI line)), (0, .ref 496)], [], S3283) _
            refine T_p xr_65_161 xn_65 (pc' := 162) (ls' := [(2, .int (iI line)), (0, .ref 496)]) (st' := [.int (iI 1)]) rfl ?_
            refine T_iret xr_65_162 xf_65.2.2 (by decide) ?_
            refine hQ _ _ ?_
            refine ⟨n, so, pl, ct, at_, ⟨hn1, ⟨E, hT⟩, hnt, hlast⟩, Or.inl ⟨rfl, cur, rc, kc, wc, rn, lo, kn, ab, D, W, D3286, fp, ?_, hok, hd3288, ht3289, ⟨(hf3290.1 496 (by first | decide | omega)).trans hp, ⟨(hf3290.1 497 (by first | decide | omega)).trans hx.1, (hf3290.1 498 (by first | decide | omega)).trans hx.2.1, (hf3290.1 499 (by first | decide | omega)).trans hx.2.2.1, (hf3290.1 500 (by first | decide | omega)).trans hx.2.2.2⟩, hb.fr hf3290 (fun k hk => by omega), hw3287, hcu⟩⟩, (((((((X_Fr.rf).tr (X_Fr.of n3216 e3217 (by first | decide | exact ⟨Nat.le_add_right _ _, Nat.add_le_add_left (by decide) _⟩ | omega))).tr (X_Fr.mono ⟨h3224.1, h3224.2⟩ (fun q hq => (by omega)))).tr (X_Fr.of n3233 e3234 (by first | decide | exact ⟨Nat.le_add_right _ _, Nat.add_le_add_left (by decide) _⟩ | omega))).tr (X_Fr.of n3237 e3238 (by first | decide | exact ⟨Nat.le_add_right _ _, Nat.add_le_add_left (by decide) _⟩ | omega))).tr (X_Fr.mono ⟨hfr.1, hfr.2⟩ (fun q hq => (by omega)))).tr (X_Fr.mono ⟨hF3252.1, hF3252.2⟩ (fun q hq => (by omega)))).tr (X_Fr.mono ⟨hf3290.1, hf3290.2⟩ (fun q hq => (by omega)))⟩
            rw [← hR]
            first
              | (rw [show (2001 - line).toNat = 0 by omega]; rfl)
              | (rw [sp_lines_s (i := line) (by omega), if_pos (by first | assumption | omega)])
          · skip
            have c3281 : ¬ ((so cur) = 0) := c3281
            refine T_p xr_65_55 xn_65 (pc' := 56) (ls' := [(2, .int (iI line)), (0, .ref 496)]) (st' := [.ref 496]) rfl ?_
            refine T_get xr_65_56 hp rfl (v := .ref 497) rfl (pc' := 59) rfl ?_
            refine T_p xr_65_59 xn_65 (pc' := 62) (ls' := [(2, .int (iI line)), (0, .ref 496)]) (st' := [.long (Int64.ofNat 1918987883), .ref 497]) rfl ?_
            refine T_cv (S := S1) (q := 497) xr_65_62 xf_51.1 xf_51.2.1 xn_51 (as := [.long (Int64.ofNat 1918987883)]) (r := []) rfl hx.1 (Nat.le_of_ble_eq_true rfl) (Nat.le_of_ble_eq_true rfl) (pc' := 65) rfl (ls' := [(0, .ref 497), (1, .long (Int64.ofNat 1918987883))]) rfl ?_
            refine T_mono (c_isKeyword sc S1 at_ n cur so pl ct (Int64.ofNat 1918987883) ⟨hx.1, hx.2.1, hx.2.2.1, hx.2.2.2⟩ (by omega) hso) (fun v3292 S3293 h3291 => ?_)
            obtain ⟨h3294, h3295⟩ := h3291
            rw [h3294, h3295]
            show X_T sc 65 (65, [(2, .int (iI line)), (0, .ref 496)], [.int (iI (bI (so cur = 3 ∧ ct cur = (Int64.ofNat 1918987883))))], S1) _
            refine T_bif_eq xr_65_65 (t := 75) (pc' := 68) rfl rfl (fun c3296 => ?_) (fun c3296 => ?_)
            · skip
              have c3296 : ¬ (so cur = 3 ∧ ct cur = (Int64.ofNat 1918987883)) := c3296
              refine T_p xr_65_75 xn_65 (pc' := 76) (ls' := [(2, .int (iI line)), (0, .ref 496)]) (st' := [.ref 496]) rfl ?_
              refine T_get xr_65_76 hp rfl (v := .ref 497) rfl (pc' := 79) rfl ?_
              refine T_p xr_65_79 xn_65 (pc' := 82) (ls' := [(2, .int (iI line)), (0, .ref 496)]) (st' := [.long (Int64.ofNat 32766990153442674), .ref 497]) rfl ?_
              refine T_cv (S := S1) (q := 497) xr_65_82 xf_51.1 xf_51.2.1 xn_51 (as := [.long (Int64.ofNat 32766990153442674)]) (r := []) rfl hx.1 (Nat.le_of_ble_eq_true rfl) (Nat.le_of_ble_eq_true rfl) (pc' := 85) rfl (ls' := [(0, .ref 497), (1, .long (Int64.ofNat 32766990153442674))]) rfl ?_
              refine T_mono (c_isKeyword sc S1 at_ n cur so pl ct (Int64.ofNat 32766990153442674) ⟨hx.1, hx.2.1, hx.2.2.1, hx.2.2.2⟩ (by omega) hso) (fun v3298 S3299 h3297 => ?_)
              obtain ⟨h3300, h3301⟩ := h3297
              rw [h3300, h3301]
              show X_T sc 65 (85, [(2, .int (iI line)), (0, .ref 496)], [.int (iI (bI (so cur = 3 ∧ ct cur = (Int64.ofNat 32766990153442674))))], S1) _
              refine T_bif_eq xr_65_85 (t := 95) (pc' := 88) rfl rfl (fun c3302 => ?_) (fun c3302 => ?_)
              · skip
                have c3302 : ¬ (so cur = 3 ∧ ct cur = (Int64.ofNat 32766990153442674)) := c3302
                refine T_p xr_65_95 xn_65 (pc' := 96) (ls' := [(2, .int (iI line)), (0, .ref 496)]) (st' := [.ref 496]) rfl ?_
                refine T_get xr_65_96 hp rfl (v := .ref 497) rfl (pc' := 99) rfl ?_
                refine T_p xr_65_99 xn_65 (pc' := 102) (ls' := [(2, .int (iI line)), (0, .ref 496)]) (st' := [.long (Int64.ofNat 1802071652), .ref 497]) rfl ?_
                refine T_cv (S := S1) (q := 497) xr_65_102 xf_51.1 xf_51.2.1 xn_51 (as := [.long (Int64.ofNat 1802071652)]) (r := []) rfl hx.1 (Nat.le_of_ble_eq_true rfl) (Nat.le_of_ble_eq_true rfl) (pc' := 105) rfl (ls' := [(0, .ref 497), (1, .long (Int64.ofNat 1802071652))]) rfl ?_
                refine T_mono (c_isKeyword sc S1 at_ n cur so pl ct (Int64.ofNat 1802071652) ⟨hx.1, hx.2.1, hx.2.2.1, hx.2.2.2⟩ (by omega) hso) (fun v3304 S3305 h3303 => ?_)
                obtain ⟨h3306, h3307⟩ := h3303
                rw [h3306, h3307]
                show X_T sc 65 (105, [(2, .int (iI line)), (0, .ref 496)], [.int (iI (bI (so cur = 3 ∧ ct cur = (Int64.ofNat 1802071652))))], S1) _
                refine T_bif_eq xr_65_105 (t := 115) (pc' := 108) rfl rfl (fun c3308 => ?_) (fun c3308 => ?_)
                · skip
                  have c3308 : ¬ (so cur = 3 ∧ ct cur = (Int64.ofNat 1802071652)) := c3308
                  refine T_p xr_65_115 xn_65 (pc' := 116) (ls' := [(2, .int (iI line)), (0, .ref 496)]) (st' := [.ref 496]) rfl ?_
                  refine T_get xr_65_116 hp rfl (v := .ref 497) rfl (pc' := 119) rfl ?_
                  refine T_p xr_65_119 xn_65 (pc' := 122) (ls' := [(2, .int (iI line)), (0, .ref 496)]) (st' := [.long (Int64.ofNat 2003792484), .ref 497]) rfl ?_
                  refine T_cv (S := S1) (q := 497) xr_65_122 xf_51.1 xf_51.2.1 xn_51 (as := [.long (Int64.ofNat 2003792484)]) (r := []) rfl hx.1 (Nat.le_of_ble_eq_true rfl) (Nat.le_of_ble_eq_true rfl) (pc' := 125) rfl (ls' := [(0, .ref 497), (1, .long (Int64.ofNat 2003792484))]) rfl ?_
                  refine T_mono (c_isKeyword sc S1 at_ n cur so pl ct (Int64.ofNat 2003792484) ⟨hx.1, hx.2.1, hx.2.2.1, hx.2.2.2⟩ (by omega) hso) (fun v3310 S3311 h3309 => ?_)
                  obtain ⟨h3312, h3313⟩ := h3309
                  rw [h3312, h3313]
                  show X_T sc 65 (125, [(2, .int (iI line)), (0, .ref 496)], [.int (iI (bI (so cur = 3 ∧ ct cur = (Int64.ofNat 2003792484))))], S1) _
                  refine T_bif_eq xr_65_125 (t := 135) (pc' := 128) rfl rfl (fun c3314 => ?_) (fun c3314 => ?_)
                  · skip
                    have c3314 : ¬ (so cur = 3 ∧ ct cur = (Int64.ofNat 2003792484)) := c3314
                    refine T_p xr_65_135 xn_65 (pc' := 136) (ls' := [(2, .int (iI line)), (0, .ref 496)]) (st' := [.ref 496]) rfl ?_
                    refine T_cv (S := S1) (q := 496) xr_65_136 xf_67.1 xf_67.2.1 xn_67 (as := []) (r := []) rfl hp (Nat.le_of_ble_eq_true rfl) (Nat.le_of_ble_eq_true rfl) (pc' := 139) rfl (ls' := [(0, .ref 496)]) rfl ?_
                    refine T_mono (c_refuse sc S1 B 0 fp at_ n cur so pl ct hp hx ⟨by omega, by omega, by omega⟩ hso) (fun v3315 S3316 h3317 => ?_)
                    obtain ⟨h3318, ⟨fl3319, fp3320, hn3321, hp3322⟩, hf3323⟩ := h3317
                    rw [h3318]
                    have hK3324 : C_K S3316 B fl3319 fp3320 at_ n so pl ct (cur, rc, kc, wc, rn, lo, kn, ab, D, W) := ⟨hp3322, ⟨(hf3323.1 497 (by first | decide | omega)).trans hx.1, (hf3323.1 498 (by first | decide | omega)).trans hx.2.1, (hf3323.1 499 (by first | decide | omega)).trans hx.2.2.1, (hf3323.1 500 (by first | decide | omega)).trans hx.2.2.2⟩, hb.fr hf3323 (fun k hk => by omega), hs.fr hf3323 (fun k h1 h2 => by omega), hcu⟩
                    show X_T sc 65 (139, [(2, .int (iI line)), (0, .ref 496)], [], S3316) _
                    refine T_ziinc xr_65_139 xn_65 (a := line) (z := line + 1) rfl (Nat.le_of_ble_eq_true rfl) (by omega) (ls' := [(2, .int (iI (line + 1))), (0, .ref 496)]) rfl (pc' := 142) rfl ?_
                    refine T_p xr_65_142 xn_65 (pc' := 31) (ls' := [(2, .int (iI (line + 1))), (0, .ref 496)]) (st' := []) rfl ?_
                    exact ih3249 S3316 (line + 1) (cur, rc, kc, wc, rn, lo, kn, ab, D, W) fl3319 fp3320 (hF3252.tr ((X_Fr.rf).tr (X_Fr.mono ⟨hf3323.1, hf3323.2⟩ (fun q hq => (by omega))))) (by omega) hn3321.2 hK3324 (fun z => absurd z hn3321.1) (fun _ => by
                          have hl3325 : sp_line n so ct (cur, rc, kc, wc, rn, lo, kn, ab, D, W) = none := (by unfold sp_line; (repeat (first | rw [if_pos (by assumption)] | rw [if_neg (by assumption)])))
                          rw [← hR, sp_lines_s (i := line) (by omega), if_neg (by assumption), hl3325]
                          rfl) (by omega)
                  · skip
                    have c3314 : (so cur = 3 ∧ ct cur = (Int64.ofNat 2003792484)) := c3314
                    refine T_p xr_65_128 xn_65 (pc' := 129) (ls' := [(2, .int (iI line)), (0, .ref 496)]) (st' := [.ref 496]) rfl ?_
                    refine T_cv (S := S1) (q := 496) xr_65_129 xf_75.1 xf_75.2.1 xn_75 (as := []) (r := []) rfl hp (Nat.le_of_ble_eq_true rfl) (Nat.le_of_ble_eq_true rfl) (pc' := 132) rfl (ls' := [(0, .ref 496)]) rfl ?_
                    have hs3330c : C_K S1 B 0 fp at_ n so pl ct (cur, rc, kc, wc, rn, lo, kn, ab, D, W) := hK
                    refine T_mono (T_void xf_75.2.2 (c_parseWord sc S1 B fp at_ n so pl ct cur rc kc wc rn lo kn ab D W hB (by omega) hso hK)) (fun v3326 S3327 h3328 => ?_)
                    obtain ⟨hv3336, h3328⟩ := h3328
                    rw [hv3336]
                    rcases h3328 with ⟨K3329, hs3330, fp3331, hK3332, hf3333⟩ | ⟨hs3330, fl3334, fp3331, K3329, hn3335, hK3332, hf3333⟩
                    · skip
                      show X_T sc 65 (132, [(2, .int (iI line)), (0, .ref 496)], [], S3327) _
                      refine T_p xr_65_132 xn_65 (pc' := 139) (ls' := [(2, .int (iI line)), (0, .ref 496)]) (st' := []) rfl ?_
                      refine T_ziinc xr_65_139 xn_65 (a := line) (z := line + 1) rfl (Nat.le_of_ble_eq_true rfl) (by omega) (ls' := [(2, .int (iI (line + 1))), (0, .ref 496)]) rfl (pc' := 142) rfl ?_
                      refine T_p xr_65_142 xn_65 (pc' := 31) (ls' := [(2, .int (iI (line + 1))), (0, .ref 496)]) (st' := []) rfl ?_
                      exact ih3249 S3327 (line + 1) K3329 0 fp3331 (hF3252.tr ((X_Fr.rf).tr (X_Fr.mono ⟨hf3333.1, hf3333.2⟩ (fun q hq => (by omega))))) (by omega) (by omega) hK3332 (fun _ => by
                            have hl3337 : sp_line n so ct (cur, rc, kc, wc, rn, lo, kn, ab, D, W) = some K3329 := (by unfold sp_line; (repeat (first | rw [if_pos (by assumption)] | rw [if_neg (by assumption)])); exact hs3330)
                            refine ⟨?_, (sp_line_ok hct hcu hok hl3337).1⟩
                            rw [← hR, sp_lines_s (i := line) (by omega), if_neg (by assumption), hl3337]
                            rfl) (fun z => absurd rfl z) (by omega)
                    · skip
                      show X_T sc 65 (132, [(2, .int (iI line)), (0, .ref 496)], [], S3327) _
                      refine T_p xr_65_132 xn_65 (pc' := 139) (ls' := [(2, .int (iI line)), (0, .ref 496)]) (st' := []) rfl ?_
                      refine T_ziinc xr_65_139 xn_65 (a := line) (z := line + 1) rfl (Nat.le_of_ble_eq_true rfl) (by omega) (ls' := [(2, .int (iI (line + 1))), (0, .ref 496)]) rfl (pc' := 142) rfl ?_
                      refine T_p xr_65_142 xn_65 (pc' := 31) (ls' := [(2, .int (iI (line + 1))), (0, .ref 496)]) (st' := []) rfl ?_
                      exact ih3249 S3327 (line + 1) K3329 fl3334 fp3331 (hF3252.tr ((X_Fr.rf).tr (X_Fr.mono ⟨hf3333.1, hf3333.2⟩ (fun q hq => (by omega))))) (by omega) hn3335.2 hK3332 (fun z => absurd z hn3335.1) (fun _ => by
                            have hl3339 : sp_line n so ct (cur, rc, kc, wc, rn, lo, kn, ab, D, W) = none := (by unfold sp_line; (repeat (first | rw [if_pos (by assumption)] | rw [if_neg (by assumption)])); exact hs3330)
                            rw [← hR, sp_lines_s (i := line) (by omega), if_neg (by assumption), hl3339]
                            rfl) (by omega)
                · skip
                  have c3308 : (so cur = 3 ∧ ct cur = (Int64.ofNat 1802071652)) := c3308
                  refine T_p xr_65_108 xn_65 (pc' := 109) (ls' := [(2, .int (iI line)), (0, .ref 496)]) (st' := [.ref 496]) rfl ?_
                  refine T_cv (S := S1) (q := 496) xr_65_109 xf_71.1 xf_71.2.1 xn_71 (as := []) (r := []) rfl hp (Nat.le_of_ble_eq_true rfl) (Nat.le_of_ble_eq_true rfl) (pc' := 112) rfl (ls' := [(0, .ref 496)]) rfl ?_
                  have hs3344c : C_K S1 B 0 fp at_ n so pl ct (cur, rc, kc, wc, rn, lo, kn, ab, D, W) := hK
                  refine T_mono (T_void xf_71.2.2 (c_parseKind sc S1 B fp at_ n so pl ct cur rc kc wc rn lo kn ab D W hB (by omega) hso hK)) (fun v3340 S3341 h3342 => ?_)
                  obtain ⟨hv3350, h3342⟩ := h3342
                  rw [hv3350]
                  rcases h3342 with ⟨K3343, hs3344, fp3345, hK3346, hf3347⟩ | ⟨hs3344, fl3348, fp3345, K3343, hn3349, hK3346, hf3347⟩
                  · skip
                    show X_T sc 65 (112, [(2, .int (iI line)), (0, .ref 496)], [], S3341) _
                    refine T_p xr_65_112 xn_65 (pc' := 139) (ls' := [(2, .int (iI line)), (0, .ref 496)]) (st' := []) rfl ?_
                    refine T_ziinc xr_65_139 xn_65 (a := line) (z := line + 1) rfl (Nat.le_of_ble_eq_true rfl) (by omega) (ls' := [(2, .int (iI (line + 1))), (0, .ref 496)]) rfl (pc' := 142) rfl ?_
                    refine T_p xr_65_142 xn_65 (pc' := 31) (ls' := [(2, .int (iI (line + 1))), (0, .ref 496)]) (st' := []) rfl ?_
                    exact ih3249 S3341 (line + 1) K3343 0 fp3345 (hF3252.tr ((X_Fr.rf).tr (X_Fr.mono ⟨hf3347.1, hf3347.2⟩ (fun q hq => (by omega))))) (by omega) (by omega) hK3346 (fun _ => by
                          have hl3351 : sp_line n so ct (cur, rc, kc, wc, rn, lo, kn, ab, D, W) = some K3343 := (by unfold sp_line; (repeat (first | rw [if_pos (by assumption)] | rw [if_neg (by assumption)])); exact hs3344)
                          refine ⟨?_, (sp_line_ok hct hcu hok hl3351).1⟩
                          rw [← hR, sp_lines_s (i := line) (by omega), if_neg (by assumption), hl3351]
                          rfl) (fun z => absurd rfl z) (by omega)
                  · skip
                    show X_T sc 65 (112, [(2, .int (iI line)), (0, .ref 496)], [], S3341) _
                    refine T_p xr_65_112 xn_65 (pc' := 139) (ls' := [(2, .int (iI line)), (0, .ref 496)]) (st' := []) rfl ?_
                    refine T_ziinc xr_65_139 xn_65 (a := line) (z := line + 1) rfl (Nat.le_of_ble_eq_true rfl) (by omega) (ls' := [(2, .int (iI (line + 1))), (0, .ref 496)]) rfl (pc' := 142) rfl ?_
                    refine T_p xr_65_142 xn_65 (pc' := 31) (ls' := [(2, .int (iI (line + 1))), (0, .ref 496)]) (st' := []) rfl ?_
                    exact ih3249 S3341 (line + 1) K3343 fl3348 fp3345 (hF3252.tr ((X_Fr.rf).tr (X_Fr.mono ⟨hf3347.1, hf3347.2⟩ (fun q hq => (by omega))))) (by omega) hn3349.2 hK3346 (fun z => absurd z hn3349.1) (fun _ => by
                          have hl3353 : sp_line n so ct (cur, rc, kc, wc, rn, lo, kn, ab, D, W) = none := (by unfold sp_line; (repeat (first | rw [if_pos (by assumption)] | rw [if_neg (by assumption)])); exact hs3344)
                          rw [← hR, sp_lines_s (i := line) (by omega), if_neg (by assumption), hl3353]
                          rfl) (by omega)
              · skip
                have c3302 : (so cur = 3 ∧ ct cur = (Int64.ofNat 32766990153442674)) := c3302
                refine T_p xr_65_88 xn_65 (pc' := 89) (ls' := [(2, .int (iI line)), (0, .ref 496)]) (st' := [.ref 496]) rfl ?_
                refine T_cv (S := S1) (q := 496) xr_65_89 xf_70.1 xf_70.2.1 xn_70 (as := []) (r := []) rfl hp (Nat.le_of_ble_eq_true rfl) (Nat.le_of_ble_eq_true rfl) (pc' := 92) rfl (ls' := [(0, .ref 496)]) rfl ?_
                have hs3358c : C_K S1 B 0 fp at_ n so pl ct (cur, rc, kc, wc, rn, lo, kn, ab, D, W) := hK
                refine T_mono (T_void xf_70.2.2 (c_parseTighter sc S1 B fp at_ n so pl ct cur rc kc wc rn lo kn ab D W hB (by omega) hso hK)) (fun v3354 S3355 h3356 => ?_)
                obtain ⟨hv3364, h3356⟩ := h3356
                rw [hv3364]
                rcases h3356 with ⟨K3357, hs3358, fp3359, hK3360, hf3361⟩ | ⟨hs3358, fl3362, fp3359, K3357, hn3363, hK3360, hf3361⟩
                · skip
                  show X_T sc 65 (92, [(2, .int (iI line)), (0, .ref 496)], [], S3355) _
                  refine T_p xr_65_92 xn_65 (pc' := 139) (ls' := [(2, .int (iI line)), (0, .ref 496)]) (st' := []) rfl ?_
                  refine T_ziinc xr_65_139 xn_65 (a := line) (z := line + 1) rfl (Nat.le_of_ble_eq_true rfl) (by omega) (ls' := [(2, .int (iI (line + 1))), (0, .ref 496)]) rfl (pc' := 142) rfl ?_
                  refine T_p xr_65_142 xn_65 (pc' := 31) (ls' := [(2, .int (iI (line + 1))), (0, .ref 496)]) (st' := []) rfl ?_
                  exact ih3249 S3355 (line + 1) K3357 0 fp3359 (hF3252.tr ((X_Fr.rf).tr (X_Fr.mono ⟨hf3361.1, hf3361.2⟩ (fun q hq => (by omega))))) (by omega) (by omega) hK3360 (fun _ => by
                        have hl3365 : sp_line n so ct (cur, rc, kc, wc, rn, lo, kn, ab, D, W) = some K3357 := (by unfold sp_line; (repeat (first | rw [if_pos (by assumption)] | rw [if_neg (by assumption)])); exact hs3358)
                        refine ⟨?_, (sp_line_ok hct hcu hok hl3365).1⟩
                        rw [← hR, sp_lines_s (i := line) (by omega), if_neg (by assumption), hl3365]
                        rfl) (fun z => absurd rfl z) (by omega)
                · skip
                  show X_T sc 65 (92, [(2, .int (iI line)), (0, .ref 496)], [], S3355) _
                  refine T_p xr_65_92 xn_65 (pc' := 139) (ls' := [(2, .int (iI line)), (0, .ref 496)]) (st' := []) rfl ?_
                  refine T_ziinc xr_65_139 xn_65 (a := line) (z := line + 1) rfl (Nat.le_of_ble_eq_true rfl) (by omega) (ls' := [(2, .int (iI (line + 1))), (0, .ref 496)]) rfl (pc' := 142) rfl ?_
                  refine T_p xr_65_142 xn_65 (pc' := 31) (ls' := [(2, .int (iI (line + 1))), (0, .ref 496)]) (st' := []) rfl ?_
                  exact ih3249 S3355 (line + 1) K3357 fl3362 fp3359 (hF3252.tr ((X_Fr.rf).tr (X_Fr.mono ⟨hf3361.1, hf3361.2⟩ (fun q hq => (by omega))))) (by omega) hn3363.2 hK3360 (fun z => absurd z hn3363.1) (fun _ => by
                        have hl3367 : sp_line n so ct (cur, rc, kc, wc, rn, lo, kn, ab, D, W) = none := (by unfold sp_line; (repeat (first | rw [if_pos (by assumption)] | rw [if_neg (by assumption)])); exact hs3358)
                        rw [← hR, sp_lines_s (i := line) (by omega), if_neg (by assumption), hl3367]
                        rfl) (by omega)
            · skip
              have c3296 : (so cur = 3 ∧ ct cur = (Int64.ofNat 1918987883)) := c3296
              refine T_p xr_65_68 xn_65 (pc' := 69) (ls' := [(2, .int (iI line)), (0, .ref 496)]) (st' := [.ref 496]) rfl ?_
              refine T_cv (S := S1) (q := 496) xr_65_69 xf_69.1 xf_69.2.1 xn_69 (as := []) (r := []) rfl hp (Nat.le_of_ble_eq_true rfl) (Nat.le_of_ble_eq_true rfl) (pc' := 72) rfl (ls' := [(0, .ref 496)]) rfl ?_
              have hs3372c : C_K S1 B 0 fp at_ n so pl ct (cur, rc, kc, wc, rn, lo, kn, ab, D, W) := hK
              refine T_mono (T_void xf_69.2.2 (c_parseRank sc S1 B fp at_ n so pl ct cur rc kc wc rn lo kn ab D W hB (by omega) hso hK)) (fun v3368 S3369 h3370 => ?_)
              obtain ⟨hv3378, h3370⟩ := h3370
              rw [hv3378]
              rcases h3370 with ⟨K3371, hs3372, fp3373, hK3374, hf3375⟩ | ⟨hs3372, fl3376, fp3373, K3371, hn3377, hK3374, hf3375⟩
              · skip
                show X_T sc 65 (72, [(2, .int (iI line)), (0, .ref 496)], [], S3369) _
                refine T_p xr_65_72 xn_65 (pc' := 139) (ls' := [(2, .int (iI line)), (0, .ref 496)]) (st' := []) rfl ?_
                refine T_ziinc xr_65_139 xn_65 (a := line) (z := line + 1) rfl (Nat.le_of_ble_eq_true rfl) (by omega) (ls' := [(2, .int (iI (line + 1))), (0, .ref 496)]) rfl (pc' := 142) rfl ?_
                refine T_p xr_65_142 xn_65 (pc' := 31) (ls' := [(2, .int (iI (line + 1))), (0, .ref 496)]) (st' := []) rfl ?_
                exact ih3249 S3369 (line + 1) K3371 0 fp3373 (hF3252.tr ((X_Fr.rf).tr (X_Fr.mono ⟨hf3375.1, hf3375.2⟩ (fun q hq => (by omega))))) (by omega) (by omega) hK3374 (fun _ => by
                      have hl3379 : sp_line n so ct (cur, rc, kc, wc, rn, lo, kn, ab, D, W) = some K3371 := (by unfold sp_line; (repeat (first | rw [if_pos (by assumption)] | rw [if_neg (by assumption)])); exact hs3372)
                      refine ⟨?_, (sp_line_ok hct hcu hok hl3379).1⟩
                      rw [← hR, sp_lines_s (i := line) (by omega), if_neg (by assumption), hl3379]
                      rfl) (fun z => absurd rfl z) (by omega)
              · skip
                show X_T sc 65 (72, [(2, .int (iI line)), (0, .ref 496)], [], S3369) _
                refine T_p xr_65_72 xn_65 (pc' := 139) (ls' := [(2, .int (iI line)), (0, .ref 496)]) (st' := []) rfl ?_
                refine T_ziinc xr_65_139 xn_65 (a := line) (z := line + 1) rfl (Nat.le_of_ble_eq_true rfl) (by omega) (ls' := [(2, .int (iI (line + 1))), (0, .ref 496)]) rfl (pc' := 142) rfl ?_
                refine T_p xr_65_142 xn_65 (pc' := 31) (ls' := [(2, .int (iI (line + 1))), (0, .ref 496)]) (st' := []) rfl ?_
                exact ih3249 S3369 (line + 1) K3371 fl3376 fp3373 (hF3252.tr ((X_Fr.rf).tr (X_Fr.mono ⟨hf3375.1, hf3375.2⟩ (fun q hq => (by omega))))) (by omega) hn3377.2 hK3374 (fun z => absurd z hn3377.1) (fun _ => by
                      have hl3381 : sp_line n so ct (cur, rc, kc, wc, rn, lo, kn, ab, D, W) = none := (by unfold sp_line; (repeat (first | rw [if_pos (by assumption)] | rw [if_neg (by assumption)])); exact hs3372)
                      rw [← hR, sp_lines_s (i := line) (by omega), if_neg (by assumption), hl3381]
                      rfl) (by omega)
  have h3382 := (hfr.1 B (by omega)).trans ((n3237 B (by omega)).trans ((n3233 B (by omega)).trans (hb3223.1)))
  have h3383 := (hfr.1 (B + 1) (by omega)).trans ((n3237 (B + 1) (by first | exact (fun h => absurd (Nat.add_left_cancel h) (by decide)) | omega)).trans ((n3233 (B + 1) (by first | exact (fun h => absurd (Nat.add_left_cancel h) (by decide)) | omega)).trans (hb3223.2.1)))
  have h3384 := (hfr.1 (B + 2) (by omega)).trans ((n3237 (B + 2) (by first | exact (fun h => absurd (Nat.add_left_cancel h) (by decide)) | omega)).trans ((n3233 (B + 2) (by first | exact (fun h => absurd (Nat.add_left_cancel h) (by decide)) | omega)).trans (hb3223.2.2.1)))
  have h3385 := (hfr.1 (B + 3) (by omega)).trans ((n3237 (B + 3) (by first | exact (fun h => absurd (Nat.add_left_cancel h) (by decide)) | omega)).trans ((n3233 (B + 3) (by first | exact (fun h => absurd (Nat.add_left_cancel h) (by decide)) | omega)).trans (hb3223.2.2.2.1)))
  have h3386 := (hfr.1 (B + 4) (by omega)).trans ((n3237 (B + 4) (by first | exact (fun h => absurd (Nat.add_left_cancel h) (by decide)) | omega)).trans ((n3233 (B + 4) (by first | exact (fun h => absurd (Nat.add_left_cancel h) (by decide)) | omega)).trans (hb3223.2.2.2.2.1)))
  have h3387 := (hfr.1 (B + 5) (by omega)).trans ((n3237 (B + 5) (by first | exact (fun h => absurd (Nat.add_left_cancel h) (by decide)) | omega)).trans ((n3233 (B + 5) (by first | exact (fun h => absurd (Nat.add_left_cancel h) (by decide)) | omega)).trans ((h3224.1 (B + 5) (by omega)).trans (h3229))))
  have hb3388 : C_bk S3241 B 0 1 0 rn lo (X_ug kn 0 (Int64.ofNat 6384748)) (X_ug ab 0 1) := ⟨h3382, h3383, h3384, h3385, h3386, ⟨f, h3387, hf⟩, ⟨by omega, by omega⟩, ⟨by omega, by omega⟩, ⟨by omega, by omega⟩⟩
  have h3389 := (hfr.1 496 (by first | decide | omega)).trans (h3236)
  have hs3390 : C_ws S3241 B D W := C_ws.fr (P := fun r => (B ≤ r ∧ r ≤ B + 4) ∨ (496 ≤ r ∧ r ≤ 500)) hs ((((((X_Fr.rf).tr (X_Fr.of n3216 e3217 (by first | decide | exact ⟨Nat.le_add_right _ _, Nat.add_le_add_left (by decide) _⟩ | omega))).tr (X_Fr.mono ⟨h3224.1, h3224.2⟩ (fun q hq => (by omega)))).tr (X_Fr.of n3233 e3234 (by first | decide | exact ⟨Nat.le_add_right _ _, Nat.add_le_add_left (by decide) _⟩ | omega))).tr (X_Fr.of n3237 e3238 (by first | decide | exact ⟨Nat.le_add_right _ _, Nat.add_le_add_left (by decide) _⟩ | omega))).tr (X_Fr.mono ⟨hfr.1, hfr.2⟩ (fun q hq => (by omega)))) (fun k h1 h2 => by omega)
  have hK0 : C_K S3241 B 0 (-1) at_ n so pl ct (0, 0, 1, 0, rn, lo, X_ug kn 0 (Int64.ofNat 6384748), X_ug ab 0 1, D, W) := ⟨h3389, ⟨hx.1, hx.2.1, hx.2.2.1, hx.2.2.2⟩, hb3388, hs3390, by show (0 : Int) ≤ 0 ∧ (0 : Int) < n; omega⟩
  refine T_sub (ls := [(2, .int (iI 0)), (0, .ref 496)]) ⟨rfl, rfl, trivial⟩ rfl rfl ?_
  exact L3248 ((2001 : Int) + 1).toNat S3241 0 (0, 0, 1, 0, rn, lo, X_ug kn 0 (Int64.ofNat 6384748), X_ug ab 0 1, D, W) 0 (-1) ((X_Fr.rf)) (by omega) (by omega) hK0 (fun _ => ⟨rfl, ⟨by show (0 : Int) ≤ 0 ∧ (0 : Int) ≤ 12; omega, by show (1 : Int) ≤ 1 ∧ (1 : Int) ≤ 11; omega, by show (0 : Int) ≤ 0 ∧ (0 : Int) ≤ 30; omega, fun w h1 h2 => absurd (show w < 0 from h2) (by omega)⟩⟩) (fun z => absurd rfl z) (by omega)
end
