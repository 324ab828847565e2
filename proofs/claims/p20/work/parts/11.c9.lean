theorem xr_68_0 : X_row 68 0 = some (0, (.aload_n 0, 1), (0, 0, 0)) := by decide +kernel
theorem xr_68_1 : X_row 68 1 = some (1, (.getfield 23, 3), (4, 0, 18)) := by decide +kernel
theorem xr_68_4 : X_row 68 4 = some (4, (.invokevirtual 39, 3), (44, 6, 0)) := by decide +kernel
theorem xr_68_7 : X_row 68 7 = some (7, (.iconst 2, 1), (0, 0, 0)) := by decide +kernel
theorem xr_68_8 : X_row 68 8 = some (8, (.if_icmp .eq 9, 3), (0, 0, 0)) := by decide +kernel
theorem xr_68_11 : X_row 68 11 = some (11, (.aload_n 0, 1), (0, 0, 0)) := by decide +kernel
theorem xr_68_12 : X_row 68 12 = some (12, (.invokevirtual 67, 3), (63, 12, 0)) := by decide +kernel
theorem xr_68_15 : X_row 68 15 = some (15, (.iconst (-1), 1), (0, 0, 0)) := by decide +kernel
theorem xr_68_16 : X_row 68 16 = some (16, (.ireturn, 1), (0, 0, 0)) := by decide +kernel
theorem xr_68_17 : X_row 68 17 = some (17, (.aload_n 0, 1), (0, 0, 0)) := by decide +kernel
theorem xr_68_18 : X_row 68 18 = some (18, (.aload_n 0, 1), (0, 0, 0)) := by decide +kernel
theorem xr_68_19 : X_row 68 19 = some (19, (.getfield 27, 3), (4, 1, 20)) := by decide +kernel
theorem xr_68_22 : X_row 68 22 = some (22, (.aload_n 0, 1), (0, 0, 0)) := by decide +kernel
theorem xr_68_23 : X_row 68 23 = some (23, (.getfield 23, 3), (4, 0, 18)) := by decide +kernel
theorem xr_68_26 : X_row 68 26 = some (26, (.invokevirtual 86, 3), (46, 20, 0)) := by decide +kernel
theorem xr_68_29 : X_row 68 29 = some (29, (.invokevirtual 90, 3), (4, 22, 0)) := by decide +kernel
theorem xr_68_32 : X_row 68 32 = some (32, (.invokevirtual 127, 3), (70, 32, 0)) := by decide +kernel
theorem xr_68_35 : X_row 68 35 = some (35, (.ireturn, 1), (0, 0, 0)) := by decide +kernel
theorem xr_69_0 : X_row 69 0 = some (0, (.aload_n 0, 1), (0, 0, 0)) := by decide +kernel
theorem xr_69_1 : X_row 69 1 = some (1, (.getfield 23, 3), (4, 0, 18)) := by decide +kernel
theorem xr_69_4 : X_row 69 4 = some (4, (.invokevirtual 39, 3), (44, 6, 0)) := by decide +kernel
theorem xr_69_7 : X_row 69 7 = some (7, (.iconst 2, 1), (0, 0, 0)) := by decide +kernel
theorem xr_69_8 : X_row 69 8 = some (8, (.if_icmp .eq 9, 3), (0, 0, 0)) := by decide +kernel
theorem xr_69_11 : X_row 69 11 = some (11, (.aload_n 0, 1), (0, 0, 0)) := by decide +kernel
theorem xr_69_12 : X_row 69 12 = some (12, (.invokevirtual 67, 3), (63, 12, 0)) := by decide +kernel
theorem xr_69_15 : X_row 69 15 = some (15, (.iconst (-1), 1), (0, 0, 0)) := by decide +kernel
theorem xr_69_16 : X_row 69 16 = some (16, (.ireturn, 1), (0, 0, 0)) := by decide +kernel
theorem xr_69_17 : X_row 69 17 = some (17, (.aload_n 0, 1), (0, 0, 0)) := by decide +kernel
theorem xr_69_18 : X_row 69 18 = some (18, (.aload_n 0, 1), (0, 0, 0)) := by decide +kernel
theorem xr_69_19 : X_row 69 19 = some (19, (.getfield 27, 3), (4, 1, 20)) := by decide +kernel
theorem xr_69_22 : X_row 69 22 = some (22, (.aload_n 0, 1), (0, 0, 0)) := by decide +kernel
theorem xr_69_23 : X_row 69 23 = some (23, (.getfield 23, 3), (4, 0, 18)) := by decide +kernel
theorem xr_69_26 : X_row 69 26 = some (26, (.invokevirtual 86, 3), (46, 20, 0)) := by decide +kernel
theorem xr_69_29 : X_row 69 29 = some (29, (.invokevirtual 115, 3), (5, 40, 0)) := by decide +kernel
theorem xr_69_32 : X_row 69 32 = some (32, (.invokevirtual 127, 3), (70, 32, 0)) := by decide +kernel
theorem xr_69_35 : X_row 69 35 = some (35, (.ireturn, 1), (0, 0, 0)) := by decide +kernel
theorem xr_70_0 : X_row 70 0 = some (0, (.iload_n 1, 1), (0, 0, 0)) := by decide +kernel
theorem xr_70_1 : X_row 70 1 = some (1, (.iconst (-1), 1), (0, 0, 0)) := by decide +kernel
theorem xr_70_2 : X_row 70 2 = some (2, (.if_icmp .ne 18, 3), (0, 0, 0)) := by decide +kernel
theorem xr_70_5 : X_row 70 5 = some (5, (.aload_n 0, 1), (0, 0, 0)) := by decide +kernel
theorem xr_70_6 : X_row 70 6 = some (6, (.iconst 3, 1), (0, 0, 0)) := by decide +kernel
theorem xr_70_7 : X_row 70 7 = some (7, (.aload_n 0, 1), (0, 0, 0)) := by decide +kernel
theorem xr_70_8 : X_row 70 8 = some (8, (.getfield 23, 3), (4, 0, 18)) := by decide +kernel
theorem xr_70_11 : X_row 70 11 = some (11, (.invokevirtual 73, 3), (45, 14, 0)) := by decide +kernel
theorem xr_70_14 : X_row 70 14 = some (14, (.invokevirtual 76, 3), (62, 16, 0)) := by decide +kernel
theorem xr_70_17 : X_row 70 17 = some (17, (.goto 10, 3), (0, 0, 0)) := by decide +kernel
theorem xr_70_20 : X_row 70 20 = some (20, (.aload_n 0, 1), (0, 0, 0)) := by decide +kernel
theorem xr_70_21 : X_row 70 21 = some (21, (.getfield 23, 3), (4, 0, 18)) := by decide +kernel
theorem xr_70_24 : X_row 70 24 = some (24, (.invokevirtual 80, 3), (48, 18, 0)) := by decide +kernel
theorem xr_70_27 : X_row 70 27 = some (27, (.iload_n 1, 1), (0, 0, 0)) := by decide +kernel
theorem xr_70_28 : X_row 70 28 = some (28, (.ireturn, 1), (0, 0, 0)) := by decide +kernel
theorem xn_68 : X_nL 68 = 1 := by decide +kernel
theorem xf_68 : X_na 68 = 0 ∧ X_ci 68 = 4 ∧ X_rt 68 = (some .int) := by decide +kernel
theorem xn_69 : X_nL 69 = 1 := by decide +kernel
theorem xf_69 : X_na 69 = 0 ∧ X_ci 69 = 4 ∧ X_rt 69 = (some .int) := by decide +kernel
theorem xn_70 : X_nL 70 = 2 := by decide +kernel
theorem xf_70 : X_na 70 = 1 ∧ X_ci 70 = 4 ∧ X_rt 70 = (some .int) := by decide +kernel
noncomputable def sp_tight (n : Int) (so : Int → Int) (ct : Int → Int64) : X_Kp → Option X_Kp
  | (c, rc, kc, wc, rn, lo, kn, ab, D, W) =>
    if so (X_av n c) = 2 then (if X_ix rn rc (ct (X_av n c)) = -1 then none else if so (X_av n (X_av n c)) = 2 then (if X_ix rn rc (ct (X_av n (X_av n c))) = -1 then none else
      if X_ix rn rc (ct (X_av n c)) = X_ix rn rc (ct (X_av n (X_av n c))) then none else
      @ite _ (X_bt (lo (X_ix rn rc (ct (X_av n (X_av n c))))) (X_ix rn rc (ct (X_av n c)))) (Classical.propDecidable _) none (
      if so (X_av n (X_av n (X_av n c))) = 59 then
        some (X_av n (X_av n (X_av n (X_av n c))), rc, kc, wc, rn, X_tf rc lo (X_ix rn rc (ct (X_av n c))) (X_ix rn rc (ct (X_av n (X_av n c)))), kn, ab, D, W) else none)) else none) else none
theorem c_refuse (sc : X_Sc) (S : X_S) (B : Nat) (fl fp at_ n cur : Int) (so pl : Int → Int) (ct : Int → Int64) (hp : C_pa S B fl fp) (hx : C_lx S at_ n cur so pl ct) (hcu : 0 ≤ cur ∧ cur < n ∧ n ≤ 2001) (hso : ∀ i, 0 ≤ i → i < n → 0 ≤ so i ∧ so i ≤ 255) : X_T sc 63 (0, [(0, .ref 496)], [], S) (fun v S' => v = none ∧ (∃ fl' fp', (¬ fl' = 0 ∧ 0 ≤ fl' ∧ fl' ≤ 5) ∧ C_pa S' B fl' fp') ∧ X_Fr (fun q => q = 496) S S') := by
  refine X_QI (fun Q hQ => ?_)
  refine T_p xr_63_0 xn_63 (pc' := 1) (ls' := [(0, .ref 496)]) (st' := [.ref 496]) rfl ?_
  refine T_p xr_63_1 xn_63 (pc' := 2) (ls' := [(0, .ref 496)]) (st' := [.ref 496, .ref 496]) rfl ?_
  refine T_get xr_63_2 hp rfl (v := .ref 497) rfl (pc' := 5) rfl ?_
  refine T_cv (S := S) (q := 497) xr_63_5 xf_44.1 xf_44.2.1 xn_44 (as := []) (r := [.ref 496]) rfl hx.1 (Nat.le_of_ble_eq_true rfl) (Nat.le_of_ble_eq_true rfl) (pc' := 8) rfl (ls' := [(0, .ref 497)]) rfl ?_
  refine T_mono (c_sort sc S at_ n cur so pl ct ⟨hx.1, hx.2.1, hx.2.2.1, hx.2.2.2⟩ (by omega)) (fun v777 S778 h776 => ?_)
  obtain ⟨h779, h780⟩ := h776
  rw [h779, h780]
  show X_T sc 63 (8, [(0, .ref 496)], [.int (iI (so cur)), .ref 496], S) _
  have hs781 := hso cur (by omega) (by omega)
  refine T_p xr_63_8 xn_63 (pc' := 9) (ls' := [(0, .ref 496)]) (st' := [.int (iI 1), .int (iI (so cur)), .ref 496]) rfl ?_
  refine T_zicmp_ne xr_63_9 (t := 16) (pc' := 12) rfl rfl (fun c782 => ?_) (fun c782 => ?_)
  · skip
    have c782 : ¬ (so cur) = 1 := c782
    refine T_p xr_63_16 xn_63 (pc' := 17) (ls' := [(0, .ref 496)]) (st' := [.int (iI 2), .ref 496]) rfl ?_
    refine T_p xr_63_17 xn_63 (pc' := 18) (ls' := [(0, .ref 496)]) (st' := [.ref 496, .int (iI 2), .ref 496]) rfl ?_
    refine T_get xr_63_18 hp rfl (v := .ref 497) rfl (pc' := 21) rfl ?_
    refine T_cv (S := S) (q := 497) xr_63_21 xf_45.1 xf_45.2.1 xn_45 (as := []) (r := [.int (iI 2), .ref 496]) rfl hx.1 (Nat.le_of_ble_eq_true rfl) (Nat.le_of_ble_eq_true rfl) (pc' := 24) rfl (ls' := [(0, .ref 497)]) rfl ?_
    refine T_mono (c_place sc S at_ n cur so pl ct ⟨hx.1, hx.2.1, hx.2.2.1, hx.2.2.2⟩ (by omega)) (fun v784 S785 h783 => ?_)
    obtain ⟨h786, h787⟩ := h783
    rw [h786, h787]
    show X_T sc 63 (24, [(0, .ref 496)], [.int (iI (pl cur)), .int (iI 2), .ref 496], S) _
    refine T_cv (S := S) (q := 496) xr_63_24 xf_62.1 xf_62.2.1 xn_62 (as := [.int (iI 2), .int (iI (pl cur))]) (r := []) rfl hp (Nat.le_of_ble_eq_true rfl) (Nat.le_of_ble_eq_true rfl) (pc' := 27) rfl (ls' := [(0, .ref 496), (1, .int (iI 2)), (2, .int (iI (pl cur)))]) rfl ?_
    refine T_p xr_62_0 xn_62 (pc' := 1) (ls' := [(0, .ref 496), (1, .int (iI 2)), (2, .int (iI (pl cur)))]) (st' := [.ref 496]) rfl ?_
    refine T_p xr_62_1 xn_62 (pc' := 2) (ls' := [(0, .ref 496), (1, .int (iI 2)), (2, .int (iI (pl cur)))]) (st' := [.int (iI 2), .ref 496]) rfl ?_
    refine T_put xr_62_2 hp rfl (Nat.le_of_ble_eq_true rfl) rfl (fs' := [.ref 497, .ref B, .int (iI 2), .int (iI fp)]) rfl (pc' := 5) rfl (fun S788 h789 n790 e791 => ?_)
    refine T_p xr_62_5 xn_62 (pc' := 6) (ls' := [(0, .ref 496), (1, .int (iI 2)), (2, .int (iI (pl cur)))]) (st' := [.ref 496]) rfl ?_
    refine T_p xr_62_6 xn_62 (pc' := 7) (ls' := [(0, .ref 496), (1, .int (iI 2)), (2, .int (iI (pl cur)))]) (st' := [.int (iI (pl cur)), .ref 496]) rfl ?_
    refine T_put xr_62_7 h789 rfl (Nat.le_of_ble_eq_true rfl) rfl (fs' := [.ref 497, .ref B, .int (iI 2), .int (iI (pl cur))]) rfl (pc' := 10) rfl (fun S792 h793 n794 e795 => ?_)
    refine T_vret xr_62_10 xf_62.2.2 ?_
    show X_T sc 63 (27, [(0, .ref 496)], [], S792) _
    refine T_vret xr_63_27 xf_63.2.2 ?_
    refine hQ _ _ ?_
    exact ⟨rfl, ⟨2, pl cur, by omega, h793⟩, ((X_Fr.rf).tr (X_Fr.of n790 e791 (by omega))).tr (X_Fr.of n794 e795 (by omega))⟩
  · skip
    have c782 : ¬ (¬ (so cur) = 1) := c782
    refine T_p xr_63_12 xn_63 (pc' := 13) (ls' := [(0, .ref 496)]) (st' := [.int (iI 1), .ref 496]) rfl ?_
    refine T_p xr_63_13 xn_63 (pc' := 17) (ls' := [(0, .ref 496)]) (st' := [.int (iI 1), .ref 496]) rfl ?_
    refine T_p xr_63_17 xn_63 (pc' := 18) (ls' := [(0, .ref 496)]) (st' := [.ref 496, .int (iI 1), .ref 496]) rfl ?_
    refine T_get xr_63_18 hp rfl (v := .ref 497) rfl (pc' := 21) rfl ?_
    refine T_cv (S := S) (q := 497) xr_63_21 xf_45.1 xf_45.2.1 xn_45 (as := []) (r := [.int (iI 1), .ref 496]) rfl hx.1 (Nat.le_of_ble_eq_true rfl) (Nat.le_of_ble_eq_true rfl) (pc' := 24) rfl (ls' := [(0, .ref 497)]) rfl ?_
    refine T_mono (c_place sc S at_ n cur so pl ct ⟨hx.1, hx.2.1, hx.2.2.1, hx.2.2.2⟩ (by omega)) (fun v797 S798 h796 => ?_)
    obtain ⟨h799, h800⟩ := h796
    rw [h799, h800]
    show X_T sc 63 (24, [(0, .ref 496)], [.int (iI (pl cur)), .int (iI 1), .ref 496], S) _
    refine T_cv (S := S) (q := 496) xr_63_24 xf_62.1 xf_62.2.1 xn_62 (as := [.int (iI 1), .int (iI (pl cur))]) (r := []) rfl hp (Nat.le_of_ble_eq_true rfl) (Nat.le_of_ble_eq_true rfl) (pc' := 27) rfl (ls' := [(0, .ref 496), (1, .int (iI 1)), (2, .int (iI (pl cur)))]) rfl ?_
    refine T_p xr_62_0 xn_62 (pc' := 1) (ls' := [(0, .ref 496), (1, .int (iI 1)), (2, .int (iI (pl cur)))]) (st' := [.ref 496]) rfl ?_
    refine T_p xr_62_1 xn_62 (pc' := 2) (ls' := [(0, .ref 496), (1, .int (iI 1)), (2, .int (iI (pl cur)))]) (st' := [.int (iI 1), .ref 496]) rfl ?_
    refine T_put xr_62_2 hp rfl (Nat.le_of_ble_eq_true rfl) rfl (fs' := [.ref 497, .ref B, .int (iI 1), .int (iI fp)]) rfl (pc' := 5) rfl (fun S801 h802 n803 e804 => ?_)
    refine T_p xr_62_5 xn_62 (pc' := 6) (ls' := [(0, .ref 496), (1, .int (iI 1)), (2, .int (iI (pl cur)))]) (st' := [.ref 496]) rfl ?_
    refine T_p xr_62_6 xn_62 (pc' := 7) (ls' := [(0, .ref 496), (1, .int (iI 1)), (2, .int (iI (pl cur)))]) (st' := [.int (iI (pl cur)), .ref 496]) rfl ?_
    refine T_put xr_62_7 h802 rfl (Nat.le_of_ble_eq_true rfl) rfl (fs' := [.ref 497, .ref B, .int (iI 1), .int (iI (pl cur))]) rfl (pc' := 10) rfl (fun S805 h806 n807 e808 => ?_)
    refine T_vret xr_62_10 xf_62.2.2 ?_
    show X_T sc 63 (27, [(0, .ref 496)], [], S805) _
    refine T_vret xr_63_27 xf_63.2.2 ?_
    refine hQ _ _ ?_
    exact ⟨rfl, ⟨1, pl cur, by omega, h806⟩, ((X_Fr.rf).tr (X_Fr.of n803 e804 (by omega))).tr (X_Fr.of n807 e808 (by omega))⟩
theorem c_pass (sc : X_Sc) (S : X_S) (B : Nat) (fl fp at_ n cur : Int) (so pl : Int → Int) (ct : Int → Int64) (s : Int) (hp : C_pa S B fl fp) (hx : C_lx S at_ n cur so pl ct) (hcu : 0 ≤ cur ∧ cur < n ∧ n ≤ 2001) (hso : ∀ i, 0 ≤ i → i < n → 0 ≤ so i ∧ so i ≤ 255) (hs_ : 0 ≤ s ∧ s ≤ 255) : X_T sc 64 (0, [(0, .ref 496), (1, .int (iI s))], [], S) (fun v S' => (v = some (.int (iI 1)) ∧ so cur = s ∧ C_pa S' B fl fp ∧ S'.1 497 = .inr (3, [.ref 2, .int (iI at_), .int (iI n), .ref 498, .ref 499, .ref 500, .int (iI (X_av n cur))]) ∧ X_Fr (fun q => q = 496 ∨ q = 497) S S') ∨ (v = some (.int (iI 0)) ∧ ¬ so cur = s ∧ (∃ fl' fp', (¬ fl' = 0 ∧ 0 ≤ fl' ∧ fl' ≤ 5) ∧ C_pa S' B fl' fp') ∧ S'.1 497 = .inr (3, [.ref 2, .int (iI at_), .int (iI n), .ref 498, .ref 499, .ref 500, .int (iI (cur))]) ∧ X_Fr (fun q => q = 496 ∨ q = 497) S S')) := by
  refine X_QI (fun Q hQ => ?_)
  refine T_p xr_64_0 xn_64 (pc' := 1) (ls' := [(0, .ref 496), (1, .int (iI s))]) (st' := [.ref 496]) rfl ?_
  refine T_get xr_64_1 hp rfl (v := .ref 497) rfl (pc' := 4) rfl ?_
  refine T_cv (S := S) (q := 497) xr_64_4 xf_44.1 xf_44.2.1 xn_44 (as := []) (r := []) rfl hx.1 (Nat.le_of_ble_eq_true rfl) (Nat.le_of_ble_eq_true rfl) (pc' := 7) rfl (ls' := [(0, .ref 497)]) rfl ?_
  refine T_mono (c_sort sc S at_ n cur so pl ct ⟨hx.1, hx.2.1, hx.2.2.1, hx.2.2.2⟩ (by omega)) (fun v810 S811 h809 => ?_)
  obtain ⟨h812, h813⟩ := h809
  rw [h812, h813]
  show X_T sc 64 (7, [(0, .ref 496), (1, .int (iI s))], [.int (iI (so cur))], S) _
  have hs814 := hso cur (by omega) (by omega)
  refine T_p xr_64_7 xn_64 (pc' := 8) (ls' := [(0, .ref 496), (1, .int (iI s))]) (st' := [.int (iI s), .int (iI (so cur))]) rfl ?_
  refine T_zicmp_eq xr_64_8 (t := 17) (pc' := 11) rfl rfl (fun c815 => ?_) (fun c815 => ?_)
  · skip
    have c815 : (so cur) = s := c815
    refine T_p xr_64_17 xn_64 (pc' := 18) (ls' := [(0, .ref 496), (1, .int (iI s))]) (st' := [.ref 496]) rfl ?_
    refine T_get xr_64_18 hp rfl (v := .ref 497) rfl (pc' := 21) rfl ?_
    refine T_cv (S := S) (q := 497) xr_64_21 xf_48.1 xf_48.2.1 xn_48 (as := []) (r := []) rfl hx.1 (Nat.le_of_ble_eq_true rfl) (Nat.le_of_ble_eq_true rfl) (pc' := 24) rfl (ls' := [(0, .ref 497)]) rfl ?_
    refine T_mono (c_advance sc S at_ n cur so pl ct ⟨hx.1, hx.2.1, hx.2.2.1, hx.2.2.2⟩ (by omega)) (fun v817 S818 h816 => ?_)
    obtain ⟨h819, h821, h820⟩ := h816
    rw [h819]
    show X_T sc 64 (24, [(0, .ref 496), (1, .int (iI s))], [], S818) _
    have hv822 := X_av_r (n := n) (c := cur) (by omega)
    refine T_p xr_64_24 xn_64 (pc' := 25) (ls' := [(0, .ref 496), (1, .int (iI s))]) (st' := [.int (iI 1)]) rfl ?_
    refine T_iret xr_64_25 xf_64.2.2 (by decide) ?_
    refine hQ _ _ ?_
    have h823 := (h820.1 496 (by omega)).trans (hp)
    exact Or.inl ⟨rfl, by assumption, h823, h821, (X_Fr.rf).tr (X_Fr.mono ⟨h820.1, h820.2⟩ (fun q hq => (by omega)))⟩
  · skip
    have c815 : ¬ ((so cur) = s) := c815
    refine T_p xr_64_11 xn_64 (pc' := 12) (ls' := [(0, .ref 496), (1, .int (iI s))]) (st' := [.ref 496]) rfl ?_
    refine T_cv (S := S) (q := 496) xr_64_12 xf_63.1 xf_63.2.1 xn_63 (as := []) (r := []) rfl hp (Nat.le_of_ble_eq_true rfl) (Nat.le_of_ble_eq_true rfl) (pc' := 15) rfl (ls' := [(0, .ref 496)]) rfl ?_
    refine T_mono (c_refuse sc S B fl fp at_ n cur so pl ct hp ⟨hx.1, hx.2.1, hx.2.2.1, hx.2.2.2⟩ (by omega) hso) (fun v824 S825 h826 => ?_)
    obtain ⟨h827, ⟨fl828, fp829, hn830, hp831⟩, hf832⟩ := h826
    rw [h827]
    show X_T sc 64 (15, [(0, .ref 496), (1, .int (iI s))], [], S825) _
    refine T_p xr_64_15 xn_64 (pc' := 16) (ls' := [(0, .ref 496), (1, .int (iI s))]) (st' := [.int (iI 0)]) rfl ?_
    refine T_iret xr_64_16 xf_64.2.2 (by decide) ?_
    refine hQ _ _ ?_
    have h833 := (hf832.1 497 (by omega)).trans (hx.1)
    exact Or.inr ⟨rfl, by assumption, ⟨_, _, by omega, hp831⟩, h833, (X_Fr.rf).tr (X_Fr.mono ⟨hf832.1, hf832.2⟩ (fun q hq => (by omega)))⟩
theorem c_passRank (sc : X_Sc) (S : X_S) (B : Nat) (fl fp at_ n cur : Int) (so pl : Int → Int) (ct : Int → Int64) (rc kc wc : Int) (rn : Int → Int64) (lo : Int → Int) (kn : Int → Int64) (ab : Int → Int) (hp : C_pa S B fl fp) (hx : C_lx S at_ n cur so pl ct) (hcu : 0 ≤ cur ∧ cur < n ∧ n ≤ 2001) (hso : ∀ i, 0 ≤ i → i < n → 0 ≤ so i ∧ so i ≤ 255) (hB : 4 ≤ B ∧ B + 246 ≤ 496) (hb : C_bk S B rc kc wc rn lo kn ab) : X_T sc 68 (0, [(0, .ref 496)], [], S) (fun v S' => (v = some (.int (iI (X_ix rn rc (ct cur)))) ∧ so cur = 2 ∧ ¬ X_ix rn rc (ct cur) = -1 ∧ (0 ≤ X_ix rn rc (ct cur) ∧ X_ix rn rc (ct cur) < rc) ∧ C_pa S' B fl fp ∧ S'.1 497 = .inr (3, [.ref 2, .int (iI at_), .int (iI n), .ref 498, .ref 499, .ref 500, .int (iI (X_av n cur))]) ∧ X_Fr (fun q => q = 496 ∨ q = 497) S S') ∨ (v = some (.int (iI (-1))) ∧ (¬ so cur = 2 ∨ X_ix rn rc (ct cur) = -1) ∧ (∃ fl' fp', (¬ fl' = 0 ∧ 0 ≤ fl' ∧ fl' ≤ 5) ∧ C_pa S' B fl' fp') ∧ S'.1 497 = .inr (3, [.ref 2, .int (iI at_), .int (iI n), .ref 498, .ref 499, .ref 500, .int (iI (cur))]) ∧ X_Fr (fun q => q = 496 ∨ q = 497) S S')) := by
  obtain ⟨hb0, hb1, hb2, hb3, hb4, ⟨f, hb5, hf⟩, ⟨hrc, hrcb⟩, ⟨hkc, hkcb⟩, ⟨hwc, hwcb⟩⟩ := id hb
  refine X_QI (fun Q hQ => ?_)
  refine T_p xr_68_0 xn_68 (pc' := 1) (ls' := [(0, .ref 496)]) (st' := [.ref 496]) rfl ?_
  refine T_get xr_68_1 hp rfl (v := .ref 497) rfl (pc' := 4) rfl ?_
  refine T_cv (S := S) (q := 497) xr_68_4 xf_44.1 xf_44.2.1 xn_44 (as := []) (r := []) rfl hx.1 (Nat.le_of_ble_eq_true rfl) (Nat.le_of_ble_eq_true rfl) (pc' := 7) rfl (ls' := [(0, .ref 497)]) rfl ?_
  refine T_mono (c_sort sc S at_ n cur so pl ct ⟨hx.1, hx.2.1, hx.2.2.1, hx.2.2.2⟩ (by omega)) (fun v835 S836 h834 => ?_)
  obtain ⟨h837, h838⟩ := h834
  rw [h837, h838]
  show X_T sc 68 (7, [(0, .ref 496)], [.int (iI (so cur))], S) _
  have hs839 := hso cur (by omega) (by omega)
  refine T_p xr_68_7 xn_68 (pc' := 8) (ls' := [(0, .ref 496)]) (st' := [.int (iI 2), .int (iI (so cur))]) rfl ?_
  refine T_zicmp_eq xr_68_8 (t := 17) (pc' := 11) rfl rfl (fun c840 => ?_) (fun c840 => ?_)
  · skip
    have c840 : (so cur) = 2 := c840
    refine T_p xr_68_17 xn_68 (pc' := 18) (ls' := [(0, .ref 496)]) (st' := [.ref 496]) rfl ?_
    refine T_p xr_68_18 xn_68 (pc' := 19) (ls' := [(0, .ref 496)]) (st' := [.ref 496, .ref 496]) rfl ?_
    refine T_get xr_68_19 hp rfl (v := .ref B) rfl (pc' := 22) rfl ?_
    refine T_p xr_68_22 xn_68 (pc' := 23) (ls' := [(0, .ref 496)]) (st' := [.ref 496, .ref B, .ref 496]) rfl ?_
    refine T_get xr_68_23 hp rfl (v := .ref 497) rfl (pc' := 26) rfl ?_
    refine T_cv (S := S) (q := 497) xr_68_26 xf_46.1 xf_46.2.1 xn_46 (as := []) (r := [.ref B, .ref 496]) rfl hx.1 (Nat.le_of_ble_eq_true rfl) (Nat.le_of_ble_eq_true rfl) (pc' := 29) rfl (ls' := [(0, .ref 497)]) rfl ?_
    refine T_mono (c_content sc S at_ n cur so pl ct ⟨hx.1, hx.2.1, hx.2.2.1, hx.2.2.2⟩ (by omega)) (fun v842 S843 h841 => ?_)
    obtain ⟨h844, h845⟩ := h841
    rw [h844, h845]
    show X_T sc 68 (29, [(0, .ref 496)], [.long (ct cur), .ref B, .ref 496], S) _
    refine T_cv (S := S) (q := B) xr_68_29 xf_4.1 xf_4.2.1 xn_4 (as := [.long (ct cur)]) (r := [.ref 496]) rfl hb0 (Nat.le_of_ble_eq_true rfl) (Nat.le_of_ble_eq_true rfl) (pc' := 32) rfl (ls' := [(0, .ref B), (1, .long (ct cur))]) rfl ?_
    refine T_mono (c_rankNamed sc S B rc kc wc rn lo kn ab (ct cur) ⟨hb0, hb1, hb2, hb3, hb4, ⟨f, hb5, hf⟩, ⟨by omega, by omega⟩, ⟨by omega, by omega⟩, ⟨by omega, by omega⟩⟩) (fun v846 S847 h848 => ?_)
    obtain ⟨r849, h850, hx851, h852⟩ := h848
    rw [h850, h852]
    have hr853 := X_Ix_r (by omega) hx851
    have hq854 := X_ix_e hx851
    show X_T sc 68 (32, [(0, .ref 496)], [.int (iI r849), .ref 496], S) _
    refine T_cv (S := S) (q := 496) xr_68_32 xf_70.1 xf_70.2.1 xn_70 (as := [.int (iI r849)]) (r := []) rfl hp (Nat.le_of_ble_eq_true rfl) (Nat.le_of_ble_eq_true rfl) (pc' := 35) rfl (ls' := [(0, .ref 496), (1, .int (iI r849))]) rfl ?_
    refine T_p xr_70_0 xn_70 (pc' := 1) (ls' := [(0, .ref 496), (1, .int (iI r849))]) (st' := [.int (iI r849)]) rfl ?_
    refine T_p xr_70_1 xn_70 (pc' := 2) (ls' := [(0, .ref 496), (1, .int (iI r849))]) (st' := [.int (iI (-1)), .int (iI r849)]) rfl ?_
    refine T_zicmp_ne xr_70_2 (t := 20) (pc' := 5) rfl rfl (fun c855 => ?_) (fun c855 => ?_)
    · skip
      have c855 : ¬ r849 = (-1) := c855
      refine T_p xr_70_20 xn_70 (pc' := 21) (ls' := [(0, .ref 496), (1, .int (iI r849))]) (st' := [.ref 496]) rfl ?_
      refine T_get xr_70_21 hp rfl (v := .ref 497) rfl (pc' := 24) rfl ?_
      refine T_cv (S := S) (q := 497) xr_70_24 xf_48.1 xf_48.2.1 xn_48 (as := []) (r := []) rfl hx.1 (Nat.le_of_ble_eq_true rfl) (Nat.le_of_ble_eq_true rfl) (pc' := 27) rfl (ls' := [(0, .ref 497)]) rfl ?_
      refine T_mono (c_advance sc S at_ n cur so pl ct ⟨hx.1, hx.2.1, hx.2.2.1, hx.2.2.2⟩ (by omega)) (fun v857 S858 h856 => ?_)
      obtain ⟨h859, h861, h860⟩ := h856
      rw [h859]
      show X_T sc 70 (27, [(0, .ref 496), (1, .int (iI r849))], [], S858) _
      have hv862 := X_av_r (n := n) (c := cur) (by omega)
      refine T_p xr_70_27 xn_70 (pc' := 28) (ls' := [(0, .ref 496), (1, .int (iI r849))]) (st' := [.int (iI r849)]) rfl ?_
      refine T_iret xr_70_28 xf_70.2.2 rfl ?_
      show X_T sc 68 (35, [(0, .ref 496)], [.int (iI r849)], S858) _
      refine T_iret xr_68_35 xf_68.2.2 rfl ?_
      refine hQ _ _ ?_
      have h863 := (h860.1 496 (by omega)).trans (hp)
      exact Or.inl ⟨by subst_vars; rfl, by assumption, by omega, by omega, h863, h861, (X_Fr.rf).tr (X_Fr.mono ⟨h860.1, h860.2⟩ (fun q hq => (by omega)))⟩
    · skip
      have c855 : ¬ (¬ r849 = (-1)) := c855
      refine T_p xr_70_5 xn_70 (pc' := 6) (ls' := [(0, .ref 496), (1, .int (iI r849))]) (st' := [.ref 496]) rfl ?_
      refine T_p xr_70_6 xn_70 (pc' := 7) (ls' := [(0, .ref 496), (1, .int (iI r849))]) (st' := [.int (iI 3), .ref 496]) rfl ?_
      refine T_p xr_70_7 xn_70 (pc' := 8) (ls' := [(0, .ref 496), (1, .int (iI r849))]) (st' := [.ref 496, .int (iI 3), .ref 496]) rfl ?_
      refine T_get xr_70_8 hp rfl (v := .ref 497) rfl (pc' := 11) rfl ?_
      refine T_cv (S := S) (q := 497) xr_70_11 xf_45.1 xf_45.2.1 xn_45 (as := []) (r := [.int (iI 3), .ref 496]) rfl hx.1 (Nat.le_of_ble_eq_true rfl) (Nat.le_of_ble_eq_true rfl) (pc' := 14) rfl (ls' := [(0, .ref 497)]) rfl ?_
      refine T_mono (c_place sc S at_ n cur so pl ct ⟨hx.1, hx.2.1, hx.2.2.1, hx.2.2.2⟩ (by omega)) (fun v865 S866 h864 => ?_)
      obtain ⟨h867, h868⟩ := h864
      rw [h867, h868]
      show X_T sc 70 (14, [(0, .ref 496), (1, .int (iI r849))], [.int (iI (pl cur)), .int (iI 3), .ref 496], S) _
      refine T_cv (S := S) (q := 496) xr_70_14 xf_62.1 xf_62.2.1 xn_62 (as := [.int (iI 3), .int (iI (pl cur))]) (r := []) rfl hp (Nat.le_of_ble_eq_true rfl) (Nat.le_of_ble_eq_true rfl) (pc' := 17) rfl (ls' := [(0, .ref 496), (1, .int (iI 3)), (2, .int (iI (pl cur)))]) rfl ?_
      refine T_p xr_62_0 xn_62 (pc' := 1) (ls' := [(0, .ref 496), (1, .int (iI 3)), (2, .int (iI (pl cur)))]) (st' := [.ref 496]) rfl ?_
      refine T_p xr_62_1 xn_62 (pc' := 2) (ls' := [(0, .ref 496), (1, .int (iI 3)), (2, .int (iI (pl cur)))]) (st' := [.int (iI 3), .ref 496]) rfl ?_
      refine T_put xr_62_2 hp rfl (Nat.le_of_ble_eq_true rfl) rfl (fs' := [.ref 497, .ref B, .int (iI 3), .int (iI fp)]) rfl (pc' := 5) rfl (fun S869 h870 n871 e872 => ?_)
      refine T_p xr_62_5 xn_62 (pc' := 6) (ls' := [(0, .ref 496), (1, .int (iI 3)), (2, .int (iI (pl cur)))]) (st' := [.ref 496]) rfl ?_
      refine T_p xr_62_6 xn_62 (pc' := 7) (ls' := [(0, .ref 496), (1, .int (iI 3)), (2, .int (iI (pl cur)))]) (st' := [.int (iI (pl cur)), .ref 496]) rfl ?_
      refine T_put xr_62_7 h870 rfl (Nat.le_of_ble_eq_true rfl) rfl (fs' := [.ref 497, .ref B, .int (iI 3), .int (iI (pl cur))]) rfl (pc' := 10) rfl (fun S873 h874 n875 e876 => ?_)
      refine T_vret xr_62_10 xf_62.2.2 ?_
      show X_T sc 70 (17, [(0, .ref 496), (1, .int (iI r849))], [], S873) _
      refine T_p xr_70_17 xn_70 (pc' := 27) (ls' := [(0, .ref 496), (1, .int (iI r849))]) (st' := []) rfl ?_
      refine T_p xr_70_27 xn_70 (pc' := 28) (ls' := [(0, .ref 496), (1, .int (iI r849))]) (st' := [.int (iI r849)]) rfl ?_
      refine T_iret xr_70_28 xf_70.2.2 rfl ?_
      show X_T sc 68 (35, [(0, .ref 496)], [.int (iI r849)], S873) _
      refine T_iret xr_68_35 xf_68.2.2 rfl ?_
      refine hQ _ _ ?_
      have h877 := (n875 497 (by decide)).trans ((n871 497 (by decide)).trans (hx.1))
      exact Or.inr ⟨by rw [show r849 = -1 by omega], by first | exact Or.inl (by assumption) | exact Or.inr (by omega), ⟨_, _, by omega, h874⟩, h877, ((X_Fr.rf).tr (X_Fr.of n871 e872 (by omega))).tr (X_Fr.of n875 e876 (by omega))⟩
  · skip
    have c840 : ¬ ((so cur) = 2) := c840
    refine T_p xr_68_11 xn_68 (pc' := 12) (ls' := [(0, .ref 496)]) (st' := [.ref 496]) rfl ?_
    refine T_cv (S := S) (q := 496) xr_68_12 xf_63.1 xf_63.2.1 xn_63 (as := []) (r := []) rfl hp (Nat.le_of_ble_eq_true rfl) (Nat.le_of_ble_eq_true rfl) (pc' := 15) rfl (ls' := [(0, .ref 496)]) rfl ?_
    refine T_mono (c_refuse sc S B fl fp at_ n cur so pl ct hp ⟨hx.1, hx.2.1, hx.2.2.1, hx.2.2.2⟩ (by omega) hso) (fun v878 S879 h880 => ?_)
    obtain ⟨h881, ⟨fl882, fp883, hn884, hp885⟩, hf886⟩ := h880
    rw [h881]
    show X_T sc 68 (15, [(0, .ref 496)], [], S879) _
    refine T_p xr_68_15 xn_68 (pc' := 16) (ls' := [(0, .ref 496)]) (st' := [.int (iI (-1))]) rfl ?_
    refine T_iret xr_68_16 xf_68.2.2 rfl ?_
    refine hQ _ _ ?_
    have h887 := (hf886.1 497 (by omega)).trans (hx.1)
    exact Or.inr ⟨rfl, by first | exact Or.inl (by assumption) | exact Or.inr (by omega), ⟨_, _, by omega, hp885⟩, h887, (X_Fr.rf).tr (X_Fr.mono ⟨hf886.1, hf886.2⟩ (fun q hq => (by omega)))⟩
theorem c_passKind (sc : X_Sc) (S : X_S) (B : Nat) (fl fp at_ n cur : Int) (so pl : Int → Int) (ct : Int → Int64) (rc kc wc : Int) (rn : Int → Int64) (lo : Int → Int) (kn : Int → Int64) (ab : Int → Int) (hp : C_pa S B fl fp) (hx : C_lx S at_ n cur so pl ct) (hcu : 0 ≤ cur ∧ cur < n ∧ n ≤ 2001) (hso : ∀ i, 0 ≤ i → i < n → 0 ≤ so i ∧ so i ≤ 255) (hB : 4 ≤ B ∧ B + 246 ≤ 496) (hb : C_bk S B rc kc wc rn lo kn ab) : X_T sc 69 (0, [(0, .ref 496)], [], S) (fun v S' => (v = some (.int (iI (X_ix kn kc (ct cur)))) ∧ so cur = 2 ∧ ¬ X_ix kn kc (ct cur) = -1 ∧ (0 ≤ X_ix kn kc (ct cur) ∧ X_ix kn kc (ct cur) < kc) ∧ C_pa S' B fl fp ∧ S'.1 497 = .inr (3, [.ref 2, .int (iI at_), .int (iI n), .ref 498, .ref 499, .ref 500, .int (iI (X_av n cur))]) ∧ X_Fr (fun q => q = 496 ∨ q = 497) S S') ∨ (v = some (.int (iI (-1))) ∧ (¬ so cur = 2 ∨ X_ix kn kc (ct cur) = -1) ∧ (∃ fl' fp', (¬ fl' = 0 ∧ 0 ≤ fl' ∧ fl' ≤ 5) ∧ C_pa S' B fl' fp') ∧ S'.1 497 = .inr (3, [.ref 2, .int (iI at_), .int (iI n), .ref 498, .ref 499, .ref 500, .int (iI (cur))]) ∧ X_Fr (fun q => q = 496 ∨ q = 497) S S')) := by
  obtain ⟨hb0, hb1, hb2, hb3, hb4, ⟨f, hb5, hf⟩, ⟨hrc, hrcb⟩, ⟨hkc, hkcb⟩, ⟨hwc, hwcb⟩⟩ := id hb
  refine X_QI (fun Q hQ => ?_)
  refine T_p xr_69_0 xn_69 (pc' := 1) (ls' := [(0, .ref 496)]) (st' := [.ref 496]) rfl ?_
  refine T_get xr_69_1 hp rfl (v := .ref 497) rfl (pc' := 4) rfl ?_
  refine T_cv (S := S) (q := 497) xr_69_4 xf_44.1 xf_44.2.1 xn_44 (as := []) (r := []) rfl hx.1 (Nat.le_of_ble_eq_true rfl) (Nat.le_of_ble_eq_true rfl) (pc' := 7) rfl (ls' := [(0, .ref 497)]) rfl ?_
  refine T_mono (c_sort sc S at_ n cur so pl ct ⟨hx.1, hx.2.1, hx.2.2.1, hx.2.2.2⟩ (by omega)) (fun v889 S890 h888 => ?_)
  obtain ⟨h891, h892⟩ := h888
  rw [h891, h892]
  show X_T sc 69 (7, [(0, .ref 496)], [.int (iI (so cur))], S) _
  have hs893 := hso cur (by omega) (by omega)
  refine T_p xr_69_7 xn_69 (pc' := 8) (ls' := [(0, .ref 496)]) (st' := [.int (iI 2), .int (iI (so cur))]) rfl ?_
  refine T_zicmp_eq xr_69_8 (t := 17) (pc' := 11) rfl rfl (fun c894 => ?_) (fun c894 => ?_)
  · skip
    have c894 : (so cur) = 2 := c894
    refine T_p xr_69_17 xn_69 (pc' := 18) (ls' := [(0, .ref 496)]) (st' := [.ref 496]) rfl ?_
    refine T_p xr_69_18 xn_69 (pc' := 19) (ls' := [(0, .ref 496)]) (st' := [.ref 496, .ref 496]) rfl ?_
    refine T_get xr_69_19 hp rfl (v := .ref B) rfl (pc' := 22) rfl ?_
    refine T_p xr_69_22 xn_69 (pc' := 23) (ls' := [(0, .ref 496)]) (st' := [.ref 496, .ref B, .ref 496]) rfl ?_
    refine T_get xr_69_23 hp rfl (v := .ref 497) rfl (pc' := 26) rfl ?_
    refine T_cv (S := S) (q := 497) xr_69_26 xf_46.1 xf_46.2.1 xn_46 (as := []) (r := [.ref B, .ref 496]) rfl hx.1 (Nat.le_of_ble_eq_true rfl) (Nat.le_of_ble_eq_true rfl) (pc' := 29) rfl (ls' := [(0, .ref 497)]) rfl ?_
    refine T_mono (c_content sc S at_ n cur so pl ct ⟨hx.1, hx.2.1, hx.2.2.1, hx.2.2.2⟩ (by omega)) (fun v896 S897 h895 => ?_)
    obtain ⟨h898, h899⟩ := h895
    rw [h898, h899]
    show X_T sc 69 (29, [(0, .ref 496)], [.long (ct cur), .ref B, .ref 496], S) _
    refine T_cv (S := S) (q := B) xr_69_29 xf_5.1 xf_5.2.1 xn_5 (as := [.long (ct cur)]) (r := [.ref 496]) rfl hb0 (Nat.le_of_ble_eq_true rfl) (Nat.le_of_ble_eq_true rfl) (pc' := 32) rfl (ls' := [(0, .ref B), (1, .long (ct cur))]) rfl ?_
    refine T_mono (c_kindNamed sc S B rc kc wc rn lo kn ab (ct cur) ⟨hb0, hb1, hb2, hb3, hb4, ⟨f, hb5, hf⟩, ⟨by omega, by omega⟩, ⟨by omega, by omega⟩, ⟨by omega, by omega⟩⟩) (fun v900 S901 h902 => ?_)
    obtain ⟨r903, h904, hx905, h906⟩ := h902
    rw [h904, h906]
    have hr907 := X_Ix_r (by omega) hx905
    have hq908 := X_ix_e hx905
    show X_T sc 69 (32, [(0, .ref 496)], [.int (iI r903), .ref 496], S) _
    refine T_cv (S := S) (q := 496) xr_69_32 xf_70.1 xf_70.2.1 xn_70 (as := [.int (iI r903)]) (r := []) rfl hp (Nat.le_of_ble_eq_true rfl) (Nat.le_of_ble_eq_true rfl) (pc' := 35) rfl (ls' := [(0, .ref 496), (1, .int (iI r903))]) rfl ?_
    refine T_p xr_70_0 xn_70 (pc' := 1) (ls' := [(0, .ref 496), (1, .int (iI r903))]) (st' := [.int (iI r903)]) rfl ?_
    refine T_p xr_70_1 xn_70 (pc' := 2) (ls' := [(0, .ref 496), (1, .int (iI r903))]) (st' := [.int (iI (-1)), .int (iI r903)]) rfl ?_
    refine T_zicmp_ne xr_70_2 (t := 20) (pc' := 5) rfl rfl (fun c909 => ?_) (fun c909 => ?_)
    · skip
      have c909 : ¬ r903 = (-1) := c909
      refine T_p xr_70_20 xn_70 (pc' := 21) (ls' := [(0, .ref 496), (1, .int (iI r903))]) (st' := [.ref 496]) rfl ?_
      refine T_get xr_70_21 hp rfl (v := .ref 497) rfl (pc' := 24) rfl ?_
      refine T_cv (S := S) (q := 497) xr_70_24 xf_48.1 xf_48.2.1 xn_48 (as := []) (r := []) rfl hx.1 (Nat.le_of_ble_eq_true rfl) (Nat.le_of_ble_eq_true rfl) (pc' := 27) rfl (ls' := [(0, .ref 497)]) rfl ?_
      refine T_mono (c_advance sc S at_ n cur so pl ct ⟨hx.1, hx.2.1, hx.2.2.1, hx.2.2.2⟩ (by omega)) (fun v911 S912 h910 => ?_)
      obtain ⟨h913, h915, h914⟩ := h910
      rw [h913]
      show X_T sc 70 (27, [(0, .ref 496), (1, .int (iI r903))], [], S912) _
      have hv916 := X_av_r (n := n) (c := cur) (by omega)
      refine T_p xr_70_27 xn_70 (pc' := 28) (ls' := [(0, .ref 496), (1, .int (iI r903))]) (st' := [.int (iI r903)]) rfl ?_
      refine T_iret xr_70_28 xf_70.2.2 rfl ?_
      show X_T sc 69 (35, [(0, .ref 496)], [.int (iI r903)], S912) _
      refine T_iret xr_69_35 xf_69.2.2 rfl ?_
      refine hQ _ _ ?_
      have h917 := (h914.1 496 (by omega)).trans (hp)
      exact Or.inl ⟨by subst_vars; rfl, by assumption, by omega, by omega, h917, h915, (X_Fr.rf).tr (X_Fr.mono ⟨h914.1, h914.2⟩ (fun q hq => (by omega)))⟩
    · skip
      have c909 : ¬ (¬ r903 = (-1)) := c909
      refine T_p xr_70_5 xn_70 (pc' := 6) (ls' := [(0, .ref 496), (1, .int (iI r903))]) (st' := [.ref 496]) rfl ?_
      refine T_p xr_70_6 xn_70 (pc' := 7) (ls' := [(0, .ref 496), (1, .int (iI r903))]) (st' := [.int (iI 3), .ref 496]) rfl ?_
      refine T_p xr_70_7 xn_70 (pc' := 8) (ls' := [(0, .ref 496), (1, .int (iI r903))]) (st' := [.ref 496, .int (iI 3), .ref 496]) rfl ?_
      refine T_get xr_70_8 hp rfl (v := .ref 497) rfl (pc' := 11) rfl ?_
      refine T_cv (S := S) (q := 497) xr_70_11 xf_45.1 xf_45.2.1 xn_45 (as := []) (r := [.int (iI 3), .ref 496]) rfl hx.1 (Nat.le_of_ble_eq_true rfl) (Nat.le_of_ble_eq_true rfl) (pc' := 14) rfl (ls' := [(0, .ref 497)]) rfl ?_
      refine T_mono (c_place sc S at_ n cur so pl ct ⟨hx.1, hx.2.1, hx.2.2.1, hx.2.2.2⟩ (by omega)) (fun v919 S920 h918 => ?_)
      obtain ⟨h921, h922⟩ := h918
      rw [h921, h922]
      show X_T sc 70 (14, [(0, .ref 496), (1, .int (iI r903))], [.int (iI (pl cur)), .int (iI 3), .ref 496], S) _
      refine T_cv (S := S) (q := 496) xr_70_14 xf_62.1 xf_62.2.1 xn_62 (as := [.int (iI 3), .int (iI (pl cur))]) (r := []) rfl hp (Nat.le_of_ble_eq_true rfl) (Nat.le_of_ble_eq_true rfl) (pc' := 17) rfl (ls' := [(0, .ref 496), (1, .int (iI 3)), (2, .int (iI (pl cur)))]) rfl ?_
      refine T_p xr_62_0 xn_62 (pc' := 1) (ls' := [(0, .ref 496), (1, .int (iI 3)), (2, .int (iI (pl cur)))]) (st' := [.ref 496]) rfl ?_
      refine T_p xr_62_1 xn_62 (pc' := 2) (ls' := [(0, .ref 496), (1, .int (iI 3)), (2, .int (iI (pl cur)))]) (st' := [.int (iI 3), .ref 496]) rfl ?_
      refine T_put xr_62_2 hp rfl (Nat.le_of_ble_eq_true rfl) rfl (fs' := [.ref 497, .ref B, .int (iI 3), .int (iI fp)]) rfl (pc' := 5) rfl (fun S923 h924 n925 e926 => ?_)
      refine T_p xr_62_5 xn_62 (pc' := 6) (ls' := [(0, .ref 496), (1, .int (iI 3)), (2, .int (iI (pl cur)))]) (st' := [.ref 496]) rfl ?_
      refine T_p xr_62_6 xn_62 (pc' := 7) (ls' := [(0, .ref 496), (1, .int (iI 3)), (2, .int (iI (pl cur)))]) (st' := [.int (iI (pl cur)), .ref 496]) rfl ?_
      refine T_put xr_62_7 h924 rfl (Nat.le_of_ble_eq_true rfl) rfl (fs' := [.ref 497, .ref B, .int (iI 3), .int (iI (pl cur))]) rfl (pc' := 10) rfl (fun S927 h928 n929 e930 => ?_)
      refine T_vret xr_62_10 xf_62.2.2 ?_
      show X_T sc 70 (17, [(0, .ref 496), (1, .int (iI r903))], [], S927) _
      refine T_p xr_70_17 xn_70 (pc' := 27) (ls' := [(0, .ref 496), (1, .int (iI r903))]) (st' := []) rfl ?_
      refine T_p xr_70_27 xn_70 (pc' := 28) (ls' := [(0, .ref 496), (1, .int (iI r903))]) (st' := [.int (iI r903)]) rfl ?_
      refine T_iret xr_70_28 xf_70.2.2 rfl ?_
      show X_T sc 69 (35, [(0, .ref 496)], [.int (iI r903)], S927) _
      refine T_iret xr_69_35 xf_69.2.2 rfl ?_
      refine hQ _ _ ?_
      have h931 := (n929 497 (by decide)).trans ((n925 497 (by decide)).trans (hx.1))
      exact Or.inr ⟨by rw [show r903 = -1 by omega], by first | exact Or.inl (by assumption) | exact Or.inr (by omega), ⟨_, _, by omega, h928⟩, h931, ((X_Fr.rf).tr (X_Fr.of n925 e926 (by omega))).tr (X_Fr.of n929 e930 (by omega))⟩
  · skip
    have c894 : ¬ ((so cur) = 2) := c894
    refine T_p xr_69_11 xn_69 (pc' := 12) (ls' := [(0, .ref 496)]) (st' := [.ref 496]) rfl ?_
    refine T_cv (S := S) (q := 496) xr_69_12 xf_63.1 xf_63.2.1 xn_63 (as := []) (r := []) rfl hp (Nat.le_of_ble_eq_true rfl) (Nat.le_of_ble_eq_true rfl) (pc' := 15) rfl (ls' := [(0, .ref 496)]) rfl ?_
    refine T_mono (c_refuse sc S B fl fp at_ n cur so pl ct hp ⟨hx.1, hx.2.1, hx.2.2.1, hx.2.2.2⟩ (by omega) hso) (fun v932 S933 h934 => ?_)
    obtain ⟨h935, ⟨fl936, fp937, hn938, hp939⟩, hf940⟩ := h934
    rw [h935]
    show X_T sc 69 (15, [(0, .ref 496)], [], S933) _
    refine T_p xr_69_15 xn_69 (pc' := 16) (ls' := [(0, .ref 496)]) (st' := [.int (iI (-1))]) rfl ?_
    refine T_iret xr_69_16 xf_69.2.2 rfl ?_
    refine hQ _ _ ?_
    have h941 := (hf940.1 497 (by omega)).trans (hx.1)
    exact Or.inr ⟨rfl, by first | exact Or.inl (by assumption) | exact Or.inr (by omega), ⟨_, _, by omega, hp939⟩, h941, (X_Fr.rf).tr (X_Fr.mono ⟨hf940.1, hf940.2⟩ (fun q hq => (by omega)))⟩
