theorem xr_72_0 : X_row 72 0 = some (0, (.aload_n 0, 1), (0, 0, 0)) := by decide +kernel
theorem xr_72_1 : X_row 72 1 = some (1, (.getfield 23, 3), (4, 0, 18)) := by decide +kernel
theorem xr_72_4 : X_row 72 4 = some (4, (.invokevirtual 39, 3), (48, 6, 0)) := by decide +kernel
theorem xr_72_7 : X_row 72 7 = some (7, (.iconst 2, 1), (0, 0, 0)) := by decide +kernel
theorem xr_72_8 : X_row 72 8 = some (8, (.if_icmp .eq 9, 3), (0, 0, 0)) := by decide +kernel
theorem xr_72_11 : X_row 72 11 = some (11, (.aload_n 0, 1), (0, 0, 0)) := by decide +kernel
theorem xr_72_12 : X_row 72 12 = some (12, (.invokevirtual 67, 3), (67, 12, 0)) := by decide +kernel
theorem xr_72_15 : X_row 72 15 = some (15, (.iconst (-1), 1), (0, 0, 0)) := by decide +kernel
theorem xr_72_16 : X_row 72 16 = some (16, (.ireturn, 1), (0, 0, 0)) := by decide +kernel
theorem xr_72_17 : X_row 72 17 = some (17, (.aload_n 0, 1), (0, 0, 0)) := by decide +kernel
theorem xr_72_18 : X_row 72 18 = some (18, (.aload_n 0, 1), (0, 0, 0)) := by decide +kernel
theorem xr_72_19 : X_row 72 19 = some (19, (.getfield 27, 3), (4, 1, 20)) := by decide +kernel
theorem xr_72_22 : X_row 72 22 = some (22, (.aload_n 0, 1), (0, 0, 0)) := by decide +kernel
theorem xr_72_23 : X_row 72 23 = some (23, (.getfield 23, 3), (4, 0, 18)) := by decide +kernel
theorem xr_72_26 : X_row 72 26 = some (26, (.invokevirtual 86, 3), (50, 20, 0)) := by decide +kernel
theorem xr_72_29 : X_row 72 29 = some (29, (.invokevirtual 90, 3), (5, 22, 0)) := by decide +kernel
theorem xr_72_32 : X_row 72 32 = some (32, (.invokevirtual 127, 3), (74, 32, 0)) := by decide +kernel
theorem xr_72_35 : X_row 72 35 = some (35, (.ireturn, 1), (0, 0, 0)) := by decide +kernel
theorem xr_73_0 : X_row 73 0 = some (0, (.aload_n 0, 1), (0, 0, 0)) := by decide +kernel
theorem xr_73_1 : X_row 73 1 = some (1, (.getfield 23, 3), (4, 0, 18)) := by decide +kernel
theorem xr_73_4 : X_row 73 4 = some (4, (.invokevirtual 39, 3), (48, 6, 0)) := by decide +kernel
theorem xr_73_7 : X_row 73 7 = some (7, (.iconst 2, 1), (0, 0, 0)) := by decide +kernel
theorem xr_73_8 : X_row 73 8 = some (8, (.if_icmp .eq 9, 3), (0, 0, 0)) := by decide +kernel
theorem xr_73_11 : X_row 73 11 = some (11, (.aload_n 0, 1), (0, 0, 0)) := by decide +kernel
theorem xr_73_12 : X_row 73 12 = some (12, (.invokevirtual 67, 3), (67, 12, 0)) := by decide +kernel
theorem xr_73_15 : X_row 73 15 = some (15, (.iconst (-1), 1), (0, 0, 0)) := by decide +kernel
theorem xr_73_16 : X_row 73 16 = some (16, (.ireturn, 1), (0, 0, 0)) := by decide +kernel
theorem xr_73_17 : X_row 73 17 = some (17, (.aload_n 0, 1), (0, 0, 0)) := by decide +kernel
theorem xr_73_18 : X_row 73 18 = some (18, (.aload_n 0, 1), (0, 0, 0)) := by decide +kernel
theorem xr_73_19 : X_row 73 19 = some (19, (.getfield 27, 3), (4, 1, 20)) := by decide +kernel
theorem xr_73_22 : X_row 73 22 = some (22, (.aload_n 0, 1), (0, 0, 0)) := by decide +kernel
theorem xr_73_23 : X_row 73 23 = some (23, (.getfield 23, 3), (4, 0, 18)) := by decide +kernel
theorem xr_73_26 : X_row 73 26 = some (26, (.invokevirtual 86, 3), (50, 20, 0)) := by decide +kernel
theorem xr_73_29 : X_row 73 29 = some (29, (.invokevirtual 115, 3), (6, 40, 0)) := by decide +kernel
theorem xr_73_32 : X_row 73 32 = some (32, (.invokevirtual 127, 3), (74, 32, 0)) := by decide +kernel
theorem xr_73_35 : X_row 73 35 = some (35, (.ireturn, 1), (0, 0, 0)) := by decide +kernel
theorem xr_74_0 : X_row 74 0 = some (0, (.iload_n 1, 1), (0, 0, 0)) := by decide +kernel
theorem xr_74_1 : X_row 74 1 = some (1, (.iconst (-1), 1), (0, 0, 0)) := by decide +kernel
theorem xr_74_2 : X_row 74 2 = some (2, (.if_icmp .ne 18, 3), (0, 0, 0)) := by decide +kernel
theorem xr_74_5 : X_row 74 5 = some (5, (.aload_n 0, 1), (0, 0, 0)) := by decide +kernel
theorem xr_74_6 : X_row 74 6 = some (6, (.iconst 3, 1), (0, 0, 0)) := by decide +kernel
theorem xr_74_7 : X_row 74 7 = some (7, (.aload_n 0, 1), (0, 0, 0)) := by decide +kernel
theorem xr_74_8 : X_row 74 8 = some (8, (.getfield 23, 3), (4, 0, 18)) := by decide +kernel
theorem xr_74_11 : X_row 74 11 = some (11, (.invokevirtual 73, 3), (49, 14, 0)) := by decide +kernel
theorem xr_74_14 : X_row 74 14 = some (14, (.invokevirtual 76, 3), (66, 16, 0)) := by decide +kernel
theorem xr_74_17 : X_row 74 17 = some (17, (.goto 10, 3), (0, 0, 0)) := by decide +kernel
theorem xr_74_20 : X_row 74 20 = some (20, (.aload_n 0, 1), (0, 0, 0)) := by decide +kernel
theorem xr_74_21 : X_row 74 21 = some (21, (.getfield 23, 3), (4, 0, 18)) := by decide +kernel
theorem xr_74_24 : X_row 74 24 = some (24, (.invokevirtual 80, 3), (52, 18, 0)) := by decide +kernel
theorem xr_74_27 : X_row 74 27 = some (27, (.iload_n 1, 1), (0, 0, 0)) := by decide +kernel
theorem xr_74_28 : X_row 74 28 = some (28, (.ireturn, 1), (0, 0, 0)) := by decide +kernel
theorem xn_72 : X_nL 72 = 1 := by decide +kernel
theorem xf_72 : X_na 72 = 0 ∧ X_ci 72 = 4 ∧ X_rt 72 = (some .int) := by decide +kernel
theorem xn_73 : X_nL 73 = 1 := by decide +kernel
theorem xf_73 : X_na 73 = 0 ∧ X_ci 73 = 4 ∧ X_rt 73 = (some .int) := by decide +kernel
theorem xn_74 : X_nL 74 = 2 := by decide +kernel
theorem xf_74 : X_na 74 = 1 ∧ X_ci 74 = 4 ∧ X_rt 74 = (some .int) := by decide +kernel
noncomputable def sp_tight (n : Int) (so : Int → Int) (ct : Int → Int64) : X_Kp → Option X_Kp
  | (c, rc, kc, wc, rn, lo, kn, ab, D, W) =>
    if so (X_av n c) = 2 then (if X_ix rn rc (ct (X_av n c)) = -1 then none else if so (X_av n (X_av n c)) = 2 then (if X_ix rn rc (ct (X_av n (X_av n c))) = -1 then none else
      if X_ix rn rc (ct (X_av n c)) = X_ix rn rc (ct (X_av n (X_av n c))) then none else
      @ite _ (X_bt (lo (X_ix rn rc (ct (X_av n (X_av n c))))) (X_ix rn rc (ct (X_av n c)))) (Classical.propDecidable _) none (
      if so (X_av n (X_av n (X_av n c))) = 59 then
        some (X_av n (X_av n (X_av n (X_av n c))), rc, kc, wc, rn, X_tf rc lo (X_ix rn rc (ct (X_av n c))) (X_ix rn rc (ct (X_av n (X_av n c)))), kn, ab, D, W) else none)) else none) else none
theorem c_refuse (sc : X_Sc) (S : X_S) (B : Nat) (fl fp at_ n cur : Int) (so pl : Int → Int) (ct : Int → Int64) (hp : C_pa S B fl fp) (hx : C_lx S at_ n cur so pl ct) (hcu : 0 ≤ cur ∧ cur < n ∧ n ≤ 2001) (hso : ∀ i, 0 ≤ i → i < n → 0 ≤ so i ∧ so i ≤ 255) : X_T sc 67 (0, [(0, .ref 496)], [], S) (fun v S' => v = none ∧ (∃ fl' fp', (¬ fl' = 0 ∧ 0 ≤ fl' ∧ fl' ≤ 5) ∧ C_pa S' B fl' fp') ∧ X_Fr (fun q => q = 496) S S') := by
  refine X_QI (fun Q hQ => ?_)
  refine T_p xr_67_0 xn_67 (pc' := 1) (ls' := [(0, .ref 496)]) (st' := [.ref 496]) rfl ?_
  refine T_p xr_67_1 xn_67 (pc' := 2) (ls' := [(0, .ref 496)]) (st' := [.ref 496, .ref 496]) rfl ?_
  refine T_get xr_67_2 hp rfl (v := .ref 497) rfl (pc' := 5) rfl ?_
  refine T_cv (S := S) (q := 497) xr_67_5 xf_48.1 xf_48.2.1 xn_48 (as := []) (r := [.ref 496]) rfl hx.1 (Nat.le_of_ble_eq_true rfl) (Nat.le_of_ble_eq_true rfl) (pc' := 8) rfl (ls' := [(0, .ref 497)]) rfl ?_
  refine T_mono (c_sort sc S at_ n cur so pl ct ⟨hx.1, hx.2.1, hx.2.2.1, hx.2.2.2⟩ (by omega)) (fun v878 S879 h877 => ?_)
  obtain ⟨h880, h881⟩ := h877
  rw [h880, h881]
  show X_T sc 67 (8, [(0, .ref 496)], [.int (iI (so cur)), .ref 496], S) _
  have hs882 := hso cur (by omega) (by omega)
  refine T_p xr_67_8 xn_67 (pc' := 9) (ls' := [(0, .ref 496)]) (st' := [.int (iI 1), .int (iI (so cur)), .ref 496]) rfl ?_
  refine T_zicmp_ne xr_67_9 (t := 16) (pc' := 12) rfl rfl (fun c883 => ?_) (fun c883 => ?_)
  · skip
    have c883 : ¬ (so cur) = 1 := c883
    refine T_p xr_67_16 xn_67 (pc' := 17) (ls' := [(0, .ref 496)]) (st' := [.int (iI 2), .ref 496]) rfl ?_
    refine T_p xr_67_17 xn_67 (pc' := 18) (ls' := [(0, .ref 496)]) (st' := [.ref 496, .int (iI 2), .ref 496]) rfl ?_
    refine T_get xr_67_18 hp rfl (v := .ref 497) rfl (pc' := 21) rfl ?_
    refine T_cv (S := S) (q := 497) xr_67_21 xf_49.1 xf_49.2.1 xn_49 (as := []) (r := [.int (iI 2), .ref 496]) rfl hx.1 (Nat.le_of_ble_eq_true rfl) (Nat.le_of_ble_eq_true rfl) (pc' := 24) rfl (ls' := [(0, .ref 497)]) rfl ?_
    refine T_mono (c_place sc S at_ n cur so pl ct ⟨hx.1, hx.2.1, hx.2.2.1, hx.2.2.2⟩ (by omega)) (fun v885 S886 h884 => ?_)
    obtain ⟨h887, h888⟩ := h884
    rw [h887, h888]
    show X_T sc 67 (24, [(0, .ref 496)], [.int (iI (pl cur)), .int (iI 2), .ref 496], S) _
    refine T_cv (S := S) (q := 496) xr_67_24 xf_66.1 xf_66.2.1 xn_66 (as := [.int (iI 2), .int (iI (pl cur))]) (r := []) rfl hp (Nat.le_of_ble_eq_true rfl) (Nat.le_of_ble_eq_true rfl) (pc' := 27) rfl (ls' := [(0, .ref 496), (1, .int (iI 2)), (2, .int (iI (pl cur)))]) rfl ?_
    refine T_p xr_66_0 xn_66 (pc' := 1) (ls' := [(0, .ref 496), (1, .int (iI 2)), (2, .int (iI (pl cur)))]) (st' := [.ref 496]) rfl ?_
    refine T_p xr_66_1 xn_66 (pc' := 2) (ls' := [(0, .ref 496), (1, .int (iI 2)), (2, .int (iI (pl cur)))]) (st' := [.int (iI 2), .ref 496]) rfl ?_
    refine T_put xr_66_2 hp rfl (Nat.le_of_ble_eq_true rfl) rfl (fs' := [.ref 497, .ref B, .int (iI 2), .int (iI fp)]) rfl (pc' := 5) rfl (fun S889 h890 n891 e892 => ?_)
    refine T_p xr_66_5 xn_66 (pc' := 6) (ls' := [(0, .ref 496), (1, .int (iI 2)), (2, .int (iI (pl cur)))]) (st' := [.ref 496]) rfl ?_
    refine T_p xr_66_6 xn_66 (pc' := 7) (ls' := [(0, .ref 496), (1, .int (iI 2)), (2, .int (iI (pl cur)))]) (st' := [.int (iI (pl cur)), .ref 496]) rfl ?_
    refine T_put xr_66_7 h890 rfl (Nat.le_of_ble_eq_true rfl) rfl (fs' := [.ref 497, .ref B, .int (iI 2), .int (iI (pl cur))]) rfl (pc' := 10) rfl (fun S893 h894 n895 e896 => ?_)
    refine T_vret xr_66_10 xf_66.2.2 ?_
    show X_T sc 67 (27, [(0, .ref 496)], [], S893) _
    refine T_vret xr_67_27 xf_67.2.2 ?_
    refine hQ _ _ ?_
    exact ⟨rfl, ⟨2, pl cur, by omega, h894⟩, ((X_Fr.rf).tr (X_Fr.of n891 e892 (by omega))).tr (X_Fr.of n895 e896 (by omega))⟩
  · skip
    have c883 : ¬ (¬ (so cur) = 1) := c883
    refine T_p xr_67_12 xn_67 (pc' := 13) (ls' := [(0, .ref 496)]) (st' := [.int (iI 1), .ref 496]) rfl ?_
    refine T_p xr_67_13 xn_67 (pc' := 17) (ls' := [(0, .ref 496)]) (st' := [.int (iI 1), .ref 496]) rfl ?_
    refine T_p xr_67_17 xn_67 (pc' := 18) (ls' := [(0, .ref 496)]) (st' := [.ref 496, .int (iI 1), .ref 496]) rfl ?_
    refine T_get xr_67_18 hp rfl (v := .ref 497) rfl (pc' := 21) rfl ?_
    refine T_cv (S := S) (q := 497) xr_67_21 xf_49.1 xf_49.2.1 xn_49 (as := []) (r := [.int (iI 1), .ref 496]) rfl hx.1 (Nat.le_of_ble_eq_true rfl) (Nat.le_of_ble_eq_true rfl) (pc' := 24) rfl (ls' := [(0, .ref 497)]) rfl ?_
    refine T_mono (c_place sc S at_ n cur so pl ct ⟨hx.1, hx.2.1, hx.2.2.1, hx.2.2.2⟩ (by omega)) (fun v898 S899 h897 => ?_)
    obtain ⟨h900, h901⟩ := h897
    rw [h900, h901]
    show X_T sc 67 (24, [(0, .ref 496)], [.int (iI (pl cur)), .int (iI 1), .ref 496], S) _
    refine T_cv (S := S) (q := 496) xr_67_24 xf_66.1 xf_66.2.1 xn_66 (as := [.int (iI 1), .int (iI (pl cur))]) (r := []) rfl hp (Nat.le_of_ble_eq_true rfl) (Nat.le_of_ble_eq_true rfl) (pc' := 27) rfl (ls' := [(0, .ref 496), (1, .int (iI 1)), (2, .int (iI (pl cur)))]) rfl ?_
    refine T_p xr_66_0 xn_66 (pc' := 1) (ls' := [(0, .ref 496), (1, .int (iI 1)), (2, .int (iI (pl cur)))]) (st' := [.ref 496]) rfl ?_
    refine T_p xr_66_1 xn_66 (pc' := 2) (ls' := [(0, .ref 496), (1, .int (iI 1)), (2, .int (iI (pl cur)))]) (st' := [.int (iI 1), .ref 496]) rfl ?_
    refine T_put xr_66_2 hp rfl (Nat.le_of_ble_eq_true rfl) rfl (fs' := [.ref 497, .ref B, .int (iI 1), .int (iI fp)]) rfl (pc' := 5) rfl (fun S902 h903 n904 e905 => ?_)
    refine T_p xr_66_5 xn_66 (pc' := 6) (ls' := [(0, .ref 496), (1, .int (iI 1)), (2, .int (iI (pl cur)))]) (st' := [.ref 496]) rfl ?_
    refine T_p xr_66_6 xn_66 (pc' := 7) (ls' := [(0, .ref 496), (1, .int (iI 1)), (2, .int (iI (pl cur)))]) (st' := [.int (iI (pl cur)), .ref 496]) rfl ?_
    refine T_put xr_66_7 h903 rfl (Nat.le_of_ble_eq_true rfl) rfl (fs' := [.ref 497, .ref B, .int (iI 1), .int (iI (pl cur))]) rfl (pc' := 10) rfl (fun S906 h907 n908 e909 => ?_)
    refine T_vret xr_66_10 xf_66.2.2 ?_
    show X_T sc 67 (27, [(0, .ref 496)], [], S906) _
    refine T_vret xr_67_27 xf_67.2.2 ?_
    refine hQ _ _ ?_
    exact ⟨rfl, ⟨1, pl cur, by omega, h907⟩, ((X_Fr.rf).tr (X_Fr.of n904 e905 (by omega))).tr (X_Fr.of n908 e909 (by omega))⟩
theorem c_pass (sc : X_Sc) (S : X_S) (B : Nat) (fl fp at_ n cur : Int) (so pl : Int → Int) (ct : Int → Int64) (s : Int) (hp : C_pa S B fl fp) (hx : C_lx S at_ n cur so pl ct) (hcu : 0 ≤ cur ∧ cur < n ∧ n ≤ 2001) (hso : ∀ i, 0 ≤ i → i < n → 0 ≤ so i ∧ so i ≤ 255) (hs_ : 0 ≤ s ∧ s ≤ 255) : X_T sc 68 (0, [(0, .ref 496), (1, .int (iI s))], [], S) (fun v S' => (v = some (.int (iI 1)) ∧ so cur = s ∧ C_pa S' B fl fp ∧ S'.1 497 = .inr (3, [.ref 2, .int (iI at_), .int (iI n), .ref 498, .ref 499, .ref 500, .int (iI (X_av n cur))]) ∧ X_Fr (fun q => q = 496 ∨ q = 497) S S') ∨ (v = some (.int (iI 0)) ∧ ¬ so cur = s ∧ (∃ fl' fp', (¬ fl' = 0 ∧ 0 ≤ fl' ∧ fl' ≤ 5) ∧ C_pa S' B fl' fp') ∧ S'.1 497 = .inr (3, [.ref 2, .int (iI at_), .int (iI n), .ref 498, .ref 499, .ref 500, .int (iI (cur))]) ∧ X_Fr (fun q => q = 496 ∨ q = 497) S S')) := by
  refine X_QI (fun Q hQ => ?_)
  refine T_p xr_68_0 xn_68 (pc' := 1) (ls' := [(0, .ref 496), (1, .int (iI s))]) (st' := [.ref 496]) rfl ?_
  refine T_get xr_68_1 hp rfl (v := .ref 497) rfl (pc' := 4) rfl ?_
  refine T_cv (S := S) (q := 497) xr_68_4 xf_48.1 xf_48.2.1 xn_48 (as := []) (r := []) rfl hx.1 (Nat.le_of_ble_eq_true rfl) (Nat.le_of_ble_eq_true rfl) (pc' := 7) rfl (ls' := [(0, .ref 497)]) rfl ?_
  refine T_mono (c_sort sc S at_ n cur so pl ct ⟨hx.1, hx.2.1, hx.2.2.1, hx.2.2.2⟩ (by omega)) (fun v911 S912 h910 => ?_)
  obtain ⟨h913, h914⟩ := h910
  rw [h913, h914]
  show X_T sc 68 (7, [(0, .ref 496), (1, .int (iI s))], [.int (iI (so cur))], S) _
  have hs915 := hso cur (by omega) (by omega)
  refine T_p xr_68_7 xn_68 (pc' := 8) (ls' := [(0, .ref 496), (1, .int (iI s))]) (st' := [.int (iI s), .int (iI (so cur))]) rfl ?_
  refine T_zicmp_eq xr_68_8 (t := 17) (pc' := 11) rfl rfl (fun c916 => ?_) (fun c916 => ?_)
  · skip
    have c916 : (so cur) = s := c916
    refine T_p xr_68_17 xn_68 (pc' := 18) (ls' := [(0, .ref 496), (1, .int (iI s))]) (st' := [.ref 496]) rfl ?_
    refine T_get xr_68_18 hp rfl (v := .ref 497) rfl (pc' := 21) rfl ?_
    refine T_cv (S := S) (q := 497) xr_68_21 xf_52.1 xf_52.2.1 xn_52 (as := []) (r := []) rfl hx.1 (Nat.le_of_ble_eq_true rfl) (Nat.le_of_ble_eq_true rfl) (pc' := 24) rfl (ls' := [(0, .ref 497)]) rfl ?_
    refine T_mono (c_advance sc S at_ n cur so pl ct ⟨hx.1, hx.2.1, hx.2.2.1, hx.2.2.2⟩ (by omega)) (fun v918 S919 h917 => ?_)
    obtain ⟨h920, h922, h921⟩ := h917
    rw [h920]
    show X_T sc 68 (24, [(0, .ref 496), (1, .int (iI s))], [], S919) _
    have hv923 := X_av_r (n := n) (c := cur) (by omega)
    refine T_p xr_68_24 xn_68 (pc' := 25) (ls' := [(0, .ref 496), (1, .int (iI s))]) (st' := [.int (iI 1)]) rfl ?_
    refine T_iret xr_68_25 xf_68.2.2 (by decide) ?_
    refine hQ _ _ ?_
    have h924 := (h921.1 496 (by omega)).trans (hp)
    exact Or.inl ⟨rfl, by assumption, h924, h922, (X_Fr.rf).tr (X_Fr.mono ⟨h921.1, h921.2⟩ (fun q hq => (by omega)))⟩
  · skip
    have c916 : ¬ ((so cur) = s) := c916
    refine T_p xr_68_11 xn_68 (pc' := 12) (ls' := [(0, .ref 496), (1, .int (iI s))]) (st' := [.ref 496]) rfl ?_
    refine T_cv (S := S) (q := 496) xr_68_12 xf_67.1 xf_67.2.1 xn_67 (as := []) (r := []) rfl hp (Nat.le_of_ble_eq_true rfl) (Nat.le_of_ble_eq_true rfl) (pc' := 15) rfl (ls' := [(0, .ref 496)]) rfl ?_
    refine T_mono (c_refuse sc S B fl fp at_ n cur so pl ct hp ⟨hx.1, hx.2.1, hx.2.2.1, hx.2.2.2⟩ (by omega) hso) (fun v925 S926 h927 => ?_)
    obtain ⟨h928, ⟨fl929, fp930, hn931, hp932⟩, hf933⟩ := h927
    rw [h928]
    show X_T sc 68 (15, [(0, .ref 496), (1, .int (iI s))], [], S926) _
    refine T_p xr_68_15 xn_68 (pc' := 16) (ls' := [(0, .ref 496), (1, .int (iI s))]) (st' := [.int (iI 0)]) rfl ?_
    refine T_iret xr_68_16 xf_68.2.2 (by decide) ?_
    refine hQ _ _ ?_
    have h934 := (hf933.1 497 (by omega)).trans (hx.1)
    exact Or.inr ⟨rfl, by assumption, ⟨_, _, by omega, hp932⟩, h934, (X_Fr.rf).tr (X_Fr.mono ⟨hf933.1, hf933.2⟩ (fun q hq => (by omega)))⟩
theorem c_passRank (sc : X_Sc) (S : X_S) (B : Nat) (fl fp at_ n cur : Int) (so pl : Int → Int) (ct : Int → Int64) (rc kc wc : Int) (rn : Int → Int64) (lo : Int → Int) (kn : Int → Int64) (ab : Int → Int) (hp : C_pa S B fl fp) (hx : C_lx S at_ n cur so pl ct) (hcu : 0 ≤ cur ∧ cur < n ∧ n ≤ 2001) (hso : ∀ i, 0 ≤ i → i < n → 0 ≤ so i ∧ so i ≤ 255) (hB : 4 ≤ B ∧ B + 246 ≤ 496) (hb : C_bk S B rc kc wc rn lo kn ab) : X_T sc 72 (0, [(0, .ref 496)], [], S) (fun v S' => (v = some (.int (iI (X_ix rn rc (ct cur)))) ∧ so cur = 2 ∧ ¬ X_ix rn rc (ct cur) = -1 ∧ (0 ≤ X_ix rn rc (ct cur) ∧ X_ix rn rc (ct cur) < rc) ∧ C_pa S' B fl fp ∧ S'.1 497 = .inr (3, [.ref 2, .int (iI at_), .int (iI n), .ref 498, .ref 499, .ref 500, .int (iI (X_av n cur))]) ∧ X_Fr (fun q => q = 496 ∨ q = 497) S S') ∨ (v = some (.int (iI (-1))) ∧ (¬ so cur = 2 ∨ X_ix rn rc (ct cur) = -1) ∧ (∃ fl' fp', (¬ fl' = 0 ∧ 0 ≤ fl' ∧ fl' ≤ 5) ∧ C_pa S' B fl' fp') ∧ S'.1 497 = .inr (3, [.ref 2, .int (iI at_), .int (iI n), .ref 498, .ref 499, .ref 500, .int (iI (cur))]) ∧ X_Fr (fun q => q = 496 ∨ q = 497) S S')) := by
  obtain ⟨hb0, hb1, hb2, hb3, hb4, ⟨f, hb5, hf⟩, ⟨hrc, hrcb⟩, ⟨hkc, hkcb⟩, ⟨hwc, hwcb⟩⟩ := id hb
  refine X_QI (fun Q hQ => ?_)
  refine T_p xr_72_0 xn_72 (pc' := 1) (ls' := [(0, .ref 496)]) (st' := [.ref 496]) rfl ?_
  refine T_get xr_72_1 hp rfl (v := .ref 497) rfl (pc' := 4) rfl ?_
  refine T_cv (S := S) (q := 497) xr_72_4 xf_48.1 xf_48.2.1 xn_48 (as := []) (r := []) rfl hx.1 (Nat.le_of_ble_eq_true rfl) (Nat.le_of_ble_eq_true rfl) (pc' := 7) rfl (ls' := [(0, .ref 497)]) rfl ?_
  refine T_mono (c_sort sc S at_ n cur so pl ct ⟨hx.1, hx.2.1, hx.2.2.1, hx.2.2.2⟩ (by omega)) (fun v936 S937 h935 => ?_)
  obtain ⟨h938, h939⟩ := h935
  rw [h938, h939]
  show X_T sc 72 (7, [(0, .ref 496)], [.int (iI (so cur))], S) _
  have hs940 := hso cur (by omega) (by omega)
  refine T_p xr_72_7 xn_72 (pc' := 8) (ls' := [(0, .ref 496)]) (st' := [.int (iI 2), .int (iI (so cur))]) rfl ?_
  refine T_zicmp_eq xr_72_8 (t := 17) (pc' := 11) rfl rfl (fun c941 => ?_) (fun c941 => ?_)
  · skip
    have c941 : (so cur) = 2 := c941
    refine T_p xr_72_17 xn_72 (pc' := 18) (ls' := [(0, .ref 496)]) (st' := [.ref 496]) rfl ?_
    refine T_p xr_72_18 xn_72 (pc' := 19) (ls' := [(0, .ref 496)]) (st' := [.ref 496, .ref 496]) rfl ?_
    refine T_get xr_72_19 hp rfl (v := .ref B) rfl (pc' := 22) rfl ?_
    refine T_p xr_72_22 xn_72 (pc' := 23) (ls' := [(0, .ref 496)]) (st' := [.ref 496, .ref B, .ref 496]) rfl ?_
    refine T_get xr_72_23 hp rfl (v := .ref 497) rfl (pc' := 26) rfl ?_
    refine T_cv (S := S) (q := 497) xr_72_26 xf_50.1 xf_50.2.1 xn_50 (as := []) (r := [.ref B, .ref 496]) rfl hx.1 (Nat.le_of_ble_eq_true rfl) (Nat.le_of_ble_eq_true rfl) (pc' := 29) rfl (ls' := [(0, .ref 497)]) rfl ?_
    refine T_mono (c_content sc S at_ n cur so pl ct ⟨hx.1, hx.2.1, hx.2.2.1, hx.2.2.2⟩ (by omega)) (fun v943 S944 h942 => ?_)
    obtain ⟨h945, h946⟩ := h942
    rw [h945, h946]
    show X_T sc 72 (29, [(0, .ref 496)], [.long (ct cur), .ref B, .ref 496], S) _
    refine T_cv (S := S) (q := B) xr_72_29 xf_5.1 xf_5.2.1 xn_5 (as := [.long (ct cur)]) (r := [.ref 496]) rfl hb0 (Nat.le_of_ble_eq_true rfl) (Nat.le_of_ble_eq_true rfl) (pc' := 32) rfl (ls' := [(0, .ref B), (1, .long (ct cur))]) rfl ?_
    refine T_mono (c_rankNamed sc S B rc kc wc rn lo kn ab (ct cur) ⟨hb0, hb1, hb2, hb3, hb4, ⟨f, hb5, hf⟩, ⟨by omega, by omega⟩, ⟨by omega, by omega⟩, ⟨by omega, by omega⟩⟩) (fun v947 S948 h949 => ?_)
    obtain ⟨r950, h951, hx952, h953⟩ := h949
    rw [h951, h953]
    have hr954 := X_Ix_r (by omega) hx952
    have hq955 := X_ix_e hx952
    show X_T sc 72 (32, [(0, .ref 496)], [.int (iI r950), .ref 496], S) _
    refine T_cv (S := S) (q := 496) xr_72_32 xf_74.1 xf_74.2.1 xn_74 (as := [.int (iI r950)]) (r := []) rfl hp (Nat.le_of_ble_eq_true rfl) (Nat.le_of_ble_eq_true rfl) (pc' := 35) rfl (ls' := [(0, .ref 496), (1, .int (iI r950))]) rfl ?_
    refine T_p xr_74_0 xn_74 (pc' := 1) (ls' := [(0, .ref 496), (1, .int (iI r950))]) (st' := [.int (iI r950)]) rfl ?_
    refine T_p xr_74_1 xn_74 (pc' := 2) (ls' := [(0, .ref 496), (1, .int (iI r950))]) (st' := [.int (iI (-1)), .int (iI r950)]) rfl ?_
    refine T_zicmp_ne xr_74_2 (t := 20) (pc' := 5) rfl rfl (fun c956 => ?_) (fun c956 => ?_)
    · skip
      have c956 : ¬ r950 = (-1) := c956
      refine T_p xr_74_20 xn_74 (pc' := 21) (ls' := [(0, .ref 496), (1, .int (iI r950))]) (st' := [.ref 496]) rfl ?_
      refine T_get xr_74_21 hp rfl (v := .ref 497) rfl (pc' := 24) rfl ?_
      refine T_cv (S := S) (q := 497) xr_74_24 xf_52.1 xf_52.2.1 xn_52 (as := []) (r := []) rfl hx.1 (Nat.le_of_ble_eq_true rfl) (Nat.le_of_ble_eq_true rfl) (pc' := 27) rfl (ls' := [(0, .ref 497)]) rfl ?_
      refine T_mono (c_advance sc S at_ n cur so pl ct ⟨hx.1, hx.2.1, hx.2.2.1, hx.2.2.2⟩ (by omega)) (fun v958 S959 h957 => ?_)
      obtain ⟨h960, h962, h961⟩ := h957
      rw [h960]
      show X_T sc 74 (27, [(0, .ref 496), (1, .int (iI r950))], [], S959) _
      have hv963 := X_av_r (n := n) (c := cur) (by omega)
      refine T_p xr_74_27 xn_74 (pc' := 28) (ls' := [(0, .ref 496), (1, .int (iI r950))]) (st' := [.int (iI r950)]) rfl ?_
      refine T_iret xr_74_28 xf_74.2.2 rfl ?_
      show X_T sc 72 (35, [(0, .ref 496)], [.int (iI r950)], S959) _
      refine T_iret xr_72_35 xf_72.2.2 rfl ?_
      refine hQ _ _ ?_
      have h964 := (h961.1 496 (by omega)).trans (hp)
      exact Or.inl ⟨by subst_vars; rfl, by assumption, by omega, by omega, h964, h962, (X_Fr.rf).tr (X_Fr.mono ⟨h961.1, h961.2⟩ (fun q hq => (by omega)))⟩
    · skip
      have c956 : ¬ (¬ r950 = (-1)) := c956
      refine T_p xr_74_5 xn_74 (pc' := 6) (ls' := [(0, .ref 496), (1, .int (iI r950))]) (st' := [.ref 496]) rfl ?_
      refine T_p xr_74_6 xn_74 (pc' := 7) (ls' := [(0, .ref 496), (1, .int (iI r950))]) (st' := [.int (iI 3), .ref 496]) rfl ?_
      refine T_p xr_74_7 xn_74 (pc' := 8) (ls' := [(0, .ref 496), (1, .int (iI r950))]) (st' := [.ref 496, .int (iI 3), .ref 496]) rfl ?_
      refine T_get xr_74_8 hp rfl (v := .ref 497) rfl (pc' := 11) rfl ?_
      refine T_cv (S := S) (q := 497) xr_74_11 xf_49.1 xf_49.2.1 xn_49 (as := []) (r := [.int (iI 3), .ref 496]) rfl hx.1 (Nat.le_of_ble_eq_true rfl) (Nat.le_of_ble_eq_true rfl) (pc' := 14) rfl (ls' := [(0, .ref 497)]) rfl ?_
      refine T_mono (c_place sc S at_ n cur so pl ct ⟨hx.1, hx.2.1, hx.2.2.1, hx.2.2.2⟩ (by omega)) (fun v966 S967 h965 => ?_)
      obtain ⟨h968, h969⟩ := h965
      rw [h968, h969]
      show X_T sc 74 (14, [(0, .ref 496), (1, .int (iI r950))], [.int (iI (pl cur)), .int (iI 3), .ref 496], S) _
      refine T_cv (S := S) (q := 496) xr_74_14 xf_66.1 xf_66.2.1 xn_66 (as := [.int (iI 3), .int (iI (pl cur))]) (r := []) rfl hp (Nat.le_of_ble_eq_true rfl) (Nat.le_of_ble_eq_true rfl) (pc' := 17) rfl (ls' := [(0, .ref 496), (1, .int (iI 3)), (2, .int (iI (pl cur)))]) rfl ?_
      refine T_p xr_66_0 xn_66 (pc' := 1) (ls' := [(0, .ref 496), (1, .int (iI 3)), (2, .int (iI (pl cur)))]) (st' := [.ref 496]) rfl ?_
      refine T_p xr_66_1 xn_66 (pc' := 2) (ls' := [(0, .ref 496), (1, .int (iI 3)), (2, .int (iI (pl cur)))]) (st' := [.int (iI 3), .ref 496]) rfl ?_
      refine T_put xr_66_2 hp rfl (Nat.le_of_ble_eq_true rfl) rfl (fs' := [.ref 497, .ref B, .int (iI 3), .int (iI fp)]) rfl (pc' := 5) rfl (fun S970 h971 n972 e973 => ?_)
      refine T_p xr_66_5 xn_66 (pc' := 6) (ls' := [(0, .ref 496), (1, .int (iI 3)), (2, .int (iI (pl cur)))]) (st' := [.ref 496]) rfl ?_
      refine T_p xr_66_6 xn_66 (pc' := 7) (ls' := [(0, .ref 496), (1, .int (iI 3)), (2, .int (iI (pl cur)))]) (st' := [.int (iI (pl cur)), .ref 496]) rfl ?_
      refine T_put xr_66_7 h971 rfl (Nat.le_of_ble_eq_true rfl) rfl (fs' := [.ref 497, .ref B, .int (iI 3), .int (iI (pl cur))]) rfl (pc' := 10) rfl (fun S974 h975 n976 e977 => ?_)
      refine T_vret xr_66_10 xf_66.2.2 ?_
      show X_T sc 74 (17, [(0, .ref 496), (1, .int (iI r950))], [], S974) _
      refine T_p xr_74_17 xn_74 (pc' := 27) (ls' := [(0, .ref 496), (1, .int (iI r950))]) (st' := []) rfl ?_
      refine T_p xr_74_27 xn_74 (pc' := 28) (ls' := [(0, .ref 496), (1, .int (iI r950))]) (st' := [.int (iI r950)]) rfl ?_
      refine T_iret xr_74_28 xf_74.2.2 rfl ?_
      show X_T sc 72 (35, [(0, .ref 496)], [.int (iI r950)], S974) _
      refine T_iret xr_72_35 xf_72.2.2 rfl ?_
      refine hQ _ _ ?_
      have h978 := (n976 497 (by decide)).trans ((n972 497 (by decide)).trans (hx.1))
      exact Or.inr ⟨by rw [show r950 = -1 by omega], by first | exact Or.inl (by assumption) | exact Or.inr (by omega), ⟨_, _, by omega, h975⟩, h978, ((X_Fr.rf).tr (X_Fr.of n972 e973 (by omega))).tr (X_Fr.of n976 e977 (by omega))⟩
  · skip
    have c941 : ¬ ((so cur) = 2) := c941
    refine T_p xr_72_11 xn_72 (pc' := 12) (ls' := [(0, .ref 496)]) (st' := [.ref 496]) rfl ?_
    refine T_cv (S := S) (q := 496) xr_72_12 xf_67.1 xf_67.2.1 xn_67 (as := []) (r := []) rfl hp (Nat.le_of_ble_eq_true rfl) (Nat.le_of_ble_eq_true rfl) (pc' := 15) rfl (ls' := [(0, .ref 496)]) rfl ?_
    refine T_mono (c_refuse sc S B fl fp at_ n cur so pl ct hp ⟨hx.1, hx.2.1, hx.2.2.1, hx.2.2.2⟩ (by omega) hso) (fun v979 S980 h981 => ?_)
    obtain ⟨h982, ⟨fl983, fp984, hn985, hp986⟩, hf987⟩ := h981
    rw [h982]
    show X_T sc 72 (15, [(0, .ref 496)], [], S980) _
    refine T_p xr_72_15 xn_72 (pc' := 16) (ls' := [(0, .ref 496)]) (st' := [.int (iI (-1))]) rfl ?_
    refine T_iret xr_72_16 xf_72.2.2 rfl ?_
    refine hQ _ _ ?_
    have h988 := (hf987.1 497 (by omega)).trans (hx.1)
    exact Or.inr ⟨rfl, by first | exact Or.inl (by assumption) | exact Or.inr (by omega), ⟨_, _, by omega, hp986⟩, h988, (X_Fr.rf).tr (X_Fr.mono ⟨hf987.1, hf987.2⟩ (fun q hq => (by omega)))⟩
theorem c_passKind (sc : X_Sc) (S : X_S) (B : Nat) (fl fp at_ n cur : Int) (so pl : Int → Int) (ct : Int → Int64) (rc kc wc : Int) (rn : Int → Int64) (lo : Int → Int) (kn : Int → Int64) (ab : Int → Int) (hp : C_pa S B fl fp) (hx : C_lx S at_ n cur so pl ct) (hcu : 0 ≤ cur ∧ cur < n ∧ n ≤ 2001) (hso : ∀ i, 0 ≤ i → i < n → 0 ≤ so i ∧ so i ≤ 255) (hB : 4 ≤ B ∧ B + 246 ≤ 496) (hb : C_bk S B rc kc wc rn lo kn ab) : X_T sc 73 (0, [(0, .ref 496)], [], S) (fun v S' => (v = some (.int (iI (X_ix kn kc (ct cur)))) ∧ so cur = 2 ∧ ¬ X_ix kn kc (ct cur) = -1 ∧ (0 ≤ X_ix kn kc (ct cur) ∧ X_ix kn kc (ct cur) < kc) ∧ C_pa S' B fl fp ∧ S'.1 497 = .inr (3, [.ref 2, .int (iI at_), .int (iI n), .ref 498, .ref 499, .ref 500, .int (iI (X_av n cur))]) ∧ X_Fr (fun q => q = 496 ∨ q = 497) S S') ∨ (v = some (.int (iI (-1))) ∧ (¬ so cur = 2 ∨ X_ix kn kc (ct cur) = -1) ∧ (∃ fl' fp', (¬ fl' = 0 ∧ 0 ≤ fl' ∧ fl' ≤ 5) ∧ C_pa S' B fl' fp') ∧ S'.1 497 = .inr (3, [.ref 2, .int (iI at_), .int (iI n), .ref 498, .ref 499, .ref 500, .int (iI (cur))]) ∧ X_Fr (fun q => q = 496 ∨ q = 497) S S')) := by
  obtain ⟨hb0, hb1, hb2, hb3, hb4, ⟨f, hb5, hf⟩, ⟨hrc, hrcb⟩, ⟨hkc, hkcb⟩, ⟨hwc, hwcb⟩⟩ := id hb
  refine X_QI (fun Q hQ => ?_)
  refine T_p xr_73_0 xn_73 (pc' := 1) (ls' := [(0, .ref 496)]) (st' := [.ref 496]) rfl ?_
  refine T_get xr_73_1 hp rfl (v := .ref 497) rfl (pc' := 4) rfl ?_
  refine T_cv (S := S) (q := 497) xr_73_4 xf_48.1 xf_48.2.1 xn_48 (as := []) (r := []) rfl hx.1 (Nat.le_of_ble_eq_true rfl) (Nat.le_of_ble_eq_true rfl) (pc' := 7) rfl (ls' := [(0, .ref 497)]) rfl ?_
  refine T_mono (c_sort sc S at_ n cur so pl ct ⟨hx.1, hx.2.1, hx.2.2.1, hx.2.2.2⟩ (by omega)) (fun v990 S991 h989 => ?_)
  obtain ⟨h992, h993⟩ := h989
  rw [h992, h993]
  show X_T sc 73 (7, [(0, .ref 496)], [.int (iI (so cur))], S) _
  have hs994 := hso cur (by omega) (by omega)
  refine T_p xr_73_7 xn_73 (pc' := 8) (ls' := [(0, .ref 496)]) (st' := [.int (iI 2), .int (iI (so cur))]) rfl ?_
  refine T_zicmp_eq xr_73_8 (t := 17) (pc' := 11) rfl rfl (fun c995 => ?_) (fun c995 => ?_)
  · skip
    have c995 : (so cur) = 2 := c995
    refine T_p xr_73_17 xn_73 (pc' := 18) (ls' := [(0, .ref 496)]) (st' := [.ref 496]) rfl ?_
    refine T_p xr_73_18 xn_73 (pc' := 19) (ls' := [(0, .ref 496)]) (st' := [.ref 496, .ref 496]) rfl ?_
    refine T_get xr_73_19 hp rfl (v := .ref B) rfl (pc' := 22) rfl ?_
    refine T_p xr_73_22 xn_73 (pc' := 23) (ls' := [(0, .ref 496)]) (st' := [.ref 496, .ref B, .ref 496]) rfl ?_
    refine T_get xr_73_23 hp rfl (v := .ref 497) rfl (pc' := 26) rfl ?_
    refine T_cv (S := S) (q := 497) xr_73_26 xf_50.1 xf_50.2.1 xn_50 (as := []) (r := [.ref B, .ref 496]) rfl hx.1 (Nat.le_of_ble_eq_true rfl) (Nat.le_of_ble_eq_true rfl) (pc' := 29) rfl (ls' := [(0, .ref 497)]) rfl ?_
    refine T_mono (c_content sc S at_ n cur so pl ct ⟨hx.1, hx.2.1, hx.2.2.1, hx.2.2.2⟩ (by omega)) (fun v997 S998 h996 => ?_)
    obtain ⟨h999, h1000⟩ := h996
    rw [h999, h1000]
    show X_T sc 73 (29, [(0, .ref 496)], [.long (ct cur), .ref B, .ref 496], S) _
    refine T_cv (S := S) (q := B) xr_73_29 xf_6.1 xf_6.2.1 xn_6 (as := [.long (ct cur)]) (r := [.ref 496]) rfl hb0 (Nat.le_of_ble_eq_true rfl) (Nat.le_of_ble_eq_true rfl) (pc' := 32) rfl (ls' := [(0, .ref B), (1, .long (ct cur))]) rfl ?_
    refine T_mono (c_kindNamed sc S B rc kc wc rn lo kn ab (ct cur) ⟨hb0, hb1, hb2, hb3, hb4, ⟨f, hb5, hf⟩, ⟨by omega, by omega⟩, ⟨by omega, by omega⟩, ⟨by omega, by omega⟩⟩) (fun v1001 S1002 h1003 => ?_)
    obtain ⟨r1004, h1005, hx1006, h1007⟩ := h1003
    rw [h1005, h1007]
    have hr1008 := X_Ix_r (by omega) hx1006
    have hq1009 := X_ix_e hx1006
    show X_T sc 73 (32, [(0, .ref 496)], [.int (iI r1004), .ref 496], S) _
    refine T_cv (S := S) (q := 496) xr_73_32 xf_74.1 xf_74.2.1 xn_74 (as := [.int (iI r1004)]) (r := []) rfl hp (Nat.le_of_ble_eq_true rfl) (Nat.le_of_ble_eq_true rfl) (pc' := 35) rfl (ls' := [(0, .ref 496), (1, .int (iI r1004))]) rfl ?_
    refine T_p xr_74_0 xn_74 (pc' := 1) (ls' := [(0, .ref 496), (1, .int (iI r1004))]) (st' := [.int (iI r1004)]) rfl ?_
    refine T_p xr_74_1 xn_74 (pc' := 2) (ls' := [(0, .ref 496), (1, .int (iI r1004))]) (st' := [.int (iI (-1)), .int (iI r1004)]) rfl ?_
    refine T_zicmp_ne xr_74_2 (t := 20) (pc' := 5) rfl rfl (fun c1010 => ?_) (fun c1010 => ?_)
    · skip
      have c1010 : ¬ r1004 = (-1) := c1010
      refine T_p xr_74_20 xn_74 (pc' := 21) (ls' := [(0, .ref 496), (1, .int (iI r1004))]) (st' := [.ref 496]) rfl ?_
      refine T_get xr_74_21 hp rfl (v := .ref 497) rfl (pc' := 24) rfl ?_
      refine T_cv (S := S) (q := 497) xr_74_24 xf_52.1 xf_52.2.1 xn_52 (as := []) (r := []) rfl hx.1 (Nat.le_of_ble_eq_true rfl) (Nat.le_of_ble_eq_true rfl) (pc' := 27) rfl (ls' := [(0, .ref 497)]) rfl ?_
      refine T_mono (c_advance sc S at_ n cur so pl ct ⟨hx.1, hx.2.1, hx.2.2.1, hx.2.2.2⟩ (by omega)) (fun v1012 S1013 h1011 => ?_)
      obtain ⟨h1014, h1016, h1015⟩ := h1011
      rw [h1014]
      show X_T sc 74 (27, [(0, .ref 496), (1, .int (iI r1004))], [], S1013) _
      have hv1017 := X_av_r (n := n) (c := cur) (by omega)
      refine T_p xr_74_27 xn_74 (pc' := 28) (ls' := [(0, .ref 496), (1, .int (iI r1004))]) (st' := [.int (iI r1004)]) rfl ?_
      refine T_iret xr_74_28 xf_74.2.2 rfl ?_
      show X_T sc 73 (35, [(0, .ref 496)], [.int (iI r1004)], S1013) _
      refine T_iret xr_73_35 xf_73.2.2 rfl ?_
      refine hQ _ _ ?_
      have h1018 := (h1015.1 496 (by omega)).trans (hp)
      exact Or.inl ⟨by subst_vars; rfl, by assumption, by omega, by omega, h1018, h1016, (X_Fr.rf).tr (X_Fr.mono ⟨h1015.1, h1015.2⟩ (fun q hq => (by omega)))⟩
    · skip
      have c1010 : ¬ (¬ r1004 = (-1)) := c1010
      refine T_p xr_74_5 xn_74 (pc' := 6) (ls' := [(0, .ref 496), (1, .int (iI r1004))]) (st' := [.ref 496]) rfl ?_
      refine T_p xr_74_6 xn_74 (pc' := 7) (ls' := [(0, .ref 496), (1, .int (iI r1004))]) (st' := [.int (iI 3), .ref 496]) rfl ?_
      refine T_p xr_74_7 xn_74 (pc' := 8) (ls' := [(0, .ref 496), (1, .int (iI r1004))]) (st' := [.ref 496, .int (iI 3), .ref 496]) rfl ?_
      refine T_get xr_74_8 hp rfl (v := .ref 497) rfl (pc' := 11) rfl ?_
      refine T_cv (S := S) (q := 497) xr_74_11 xf_49.1 xf_49.2.1 xn_49 (as := []) (r := [.int (iI 3), .ref 496]) rfl hx.1 (Nat.le_of_ble_eq_true rfl) (Nat.le_of_ble_eq_true rfl) (pc' := 14) rfl (ls' := [(0, .ref 497)]) rfl ?_
      refine T_mono (c_place sc S at_ n cur so pl ct ⟨hx.1, hx.2.1, hx.2.2.1, hx.2.2.2⟩ (by omega)) (fun v1020 S1021 h1019 => ?_)
      obtain ⟨h1022, h1023⟩ := h1019
      rw [h1022, h1023]
      show X_T sc 74 (14, [(0, .ref 496), (1, .int (iI r1004))], [.int (iI (pl cur)), .int (iI 3), .ref 496], S) _
      refine T_cv (S := S) (q := 496) xr_74_14 xf_66.1 xf_66.2.1 xn_66 (as := [.int (iI 3), .int (iI (pl cur))]) (r := []) rfl hp (Nat.le_of_ble_eq_true rfl) (Nat.le_of_ble_eq_true rfl) (pc' := 17) rfl (ls' := [(0, .ref 496), (1, .int (iI 3)), (2, .int (iI (pl cur)))]) rfl ?_
      refine T_p xr_66_0 xn_66 (pc' := 1) (ls' := [(0, .ref 496), (1, .int (iI 3)), (2, .int (iI (pl cur)))]) (st' := [.ref 496]) rfl ?_
      refine T_p xr_66_1 xn_66 (pc' := 2) (ls' := [(0, .ref 496), (1, .int (iI 3)), (2, .int (iI (pl cur)))]) (st' := [.int (iI 3), .ref 496]) rfl ?_
      refine T_put xr_66_2 hp rfl (Nat.le_of_ble_eq_true rfl) rfl (fs' := [.ref 497, .ref B, .int (iI 3), .int (iI fp)]) rfl (pc' := 5) rfl (fun S1024 h1025 n1026 e1027 => ?_)
      refine T_p xr_66_5 xn_66 (pc' := 6) (ls' := [(0, .ref 496), (1, .int (iI 3)), (2, .int (iI (pl cur)))]) (st' := [.ref 496]) rfl ?_
      refine T_p xr_66_6 xn_66 (pc' := 7) (ls' := [(0, .ref 496), (1, .int (iI 3)), (2, .int (iI (pl cur)))]) (st' := [.int (iI (pl cur)), .ref 496]) rfl ?_
      refine T_put xr_66_7 h1025 rfl (Nat.le_of_ble_eq_true rfl) rfl (fs' := [.ref 497, .ref B, .int (iI 3), .int (iI (pl cur))]) rfl (pc' := 10) rfl (fun S1028 h1029 n1030 e1031 => ?_)
      refine T_vret xr_66_10 xf_66.2.2 ?_
      show X_T sc 74 (17, [(0, .ref 496), (1, .int (iI r1004))], [], S1028) _
      refine T_p xr_74_17 xn_74 (pc' := 27) (ls' := [(0, .ref 496), (1, .int (iI r1004))]) (st' := []) rfl ?_
      refine T_p xr_74_27 xn_74 (pc' := 28) (ls' := [(0, .ref 496), (1, .int (iI r1004))]) (st' := [.int (iI r1004)]) rfl ?_
      refine T_iret xr_74_28 xf_74.2.2 rfl ?_
      show X_T sc 73 (35, [(0, .ref 496)], [.int (iI r1004)], S1028) _
      refine T_iret xr_73_35 xf_73.2.2 rfl ?_
      refine hQ _ _ ?_
      have h1032 := (n1030 497 (by decide)).trans ((n1026 497 (by decide)).trans (hx.1))
      exact Or.inr ⟨by rw [show r1004 = -1 by omega], by first | exact Or.inl (by assumption) | exact Or.inr (by omega), ⟨_, _, by omega, h1029⟩, h1032, ((X_Fr.rf).tr (X_Fr.of n1026 e1027 (by omega))).tr (X_Fr.of n1030 e1031 (by omega))⟩
  · skip
    have c995 : ¬ ((so cur) = 2) := c995
    refine T_p xr_73_11 xn_73 (pc' := 12) (ls' := [(0, .ref 496)]) (st' := [.ref 496]) rfl ?_
    refine T_cv (S := S) (q := 496) xr_73_12 xf_67.1 xf_67.2.1 xn_67 (as := []) (r := []) rfl hp (Nat.le_of_ble_eq_true rfl) (Nat.le_of_ble_eq_true rfl) (pc' := 15) rfl (ls' := [(0, .ref 496)]) rfl ?_
    refine T_mono (c_refuse sc S B fl fp at_ n cur so pl ct hp ⟨hx.1, hx.2.1, hx.2.2.1, hx.2.2.2⟩ (by omega) hso) (fun v1033 S1034 h1035 => ?_)
    obtain ⟨h1036, ⟨fl1037, fp1038, hn1039, hp1040⟩, hf1041⟩ := h1035
    rw [h1036]
    show X_T sc 73 (15, [(0, .ref 496)], [], S1034) _
    refine T_p xr_73_15 xn_73 (pc' := 16) (ls' := [(0, .ref 496)]) (st' := [.int (iI (-1))]) rfl ?_
    refine T_iret xr_73_16 xf_73.2.2 rfl ?_
    refine hQ _ _ ?_
    have h1042 := (hf1041.1 497 (by omega)).trans (hx.1)
    exact Or.inr ⟨rfl, by first | exact Or.inl (by assumption) | exact Or.inr (by omega), ⟨_, _, by omega, hp1040⟩, h1042, (X_Fr.rf).tr (X_Fr.mono ⟨hf1041.1, hf1041.2⟩ (fun q hq => (by omega)))⟩
