theorem xr_78_0 : X_row 78 0 = some (0, (.iconst 0, 1), (0, 0, 0)) := by decide +kernel
theorem xr_78_1 : X_row 78 1 = some (1, (.istore_n 2, 1), (0, 0, 0)) := by decide +kernel
theorem xr_78_2 : X_row 78 2 = some (2, (.aload_n 1, 1), (0, 0, 0)) := by decide +kernel
theorem xr_78_3 : X_row 78 3 = some (3, (.iconst 0, 1), (0, 0, 0)) := by decide +kernel
theorem xr_78_4 : X_row 78 4 = some (4, (.putfield 183, 3), (8, 5, 9)) := by decide +kernel
theorem xr_78_7 : X_row 78 7 = some (7, (.aload_n 0, 1), (0, 0, 0)) := by decide +kernel
theorem xr_78_8 : X_row 78 8 = some (8, (.getfield 23, 3), (4, 0, 18)) := by decide +kernel
theorem xr_78_11 : X_row 78 11 = some (11, (.invokevirtual 80, 3), (52, 18, 0)) := by decide +kernel
theorem xr_78_14 : X_row 78 14 = some (14, (.iconst 0, 1), (0, 0, 0)) := by decide +kernel
theorem xr_78_15 : X_row 78 15 = some (15, (.istore_n 3, 1), (0, 0, 0)) := by decide +kernel
theorem xr_78_16 : X_row 78 16 = some (16, (.iload_n 3, 1), (0, 0, 0)) := by decide +kernel
theorem xr_78_17 : X_row 78 17 = some (17, (.bipush 30, 2), (0, 0, 0)) := by decide +kernel
theorem xr_78_19 : X_row 78 19 = some (19, (.if_icmp .ge 35, 3), (0, 0, 0)) := by decide +kernel
theorem xr_78_22 : X_row 78 22 = some (22, (.aload_n 0, 1), (0, 0, 0)) := by decide +kernel
theorem xr_78_23 : X_row 78 23 = some (23, (.getfield 23, 3), (4, 0, 18)) := by decide +kernel
theorem xr_78_26 : X_row 78 26 = some (26, (.invokevirtual 39, 3), (48, 6, 0)) := by decide +kernel
theorem xr_78_29 : X_row 78 29 = some (29, (.bipush 59, 2), (0, 0, 0)) := by decide +kernel
theorem xr_78_31 : X_row 78 31 = some (31, (.if_icmp .eq 23, 3), (0, 0, 0)) := by decide +kernel
theorem xr_78_34 : X_row 78 34 = some (34, (.aload_n 0, 1), (0, 0, 0)) := by decide +kernel
theorem xr_78_35 : X_row 78 35 = some (35, (.aload_n 1, 1), (0, 0, 0)) := by decide +kernel
theorem xr_78_36 : X_row 78 36 = some (36, (.iload_n 2, 1), (0, 0, 0)) := by decide +kernel
theorem xr_78_37 : X_row 78 37 = some (37, (.invokevirtual 186, 3), (79, 64, 0)) := by decide +kernel
theorem xr_78_40 : X_row 78 40 = some (40, (.istore_n 2, 1), (0, 0, 0)) := by decide +kernel
theorem xr_78_41 : X_row 78 41 = some (41, (.iload_n 2, 1), (0, 0, 0)) := by decide +kernel
theorem xr_78_42 : X_row 78 42 = some (42, (.iconst (-1), 1), (0, 0, 0)) := by decide +kernel
theorem xr_78_43 : X_row 78 43 = some (43, (.if_icmp .ne 5, 3), (0, 0, 0)) := by decide +kernel
theorem xr_78_46 : X_row 78 46 = some (46, (.iconst 0, 1), (0, 0, 0)) := by decide +kernel
theorem xr_78_47 : X_row 78 47 = some (47, (.ireturn, 1), (0, 0, 0)) := by decide +kernel
theorem xr_78_48 : X_row 78 48 = some (48, (.iinc 3 1, 3), (0, 0, 0)) := by decide +kernel
theorem xr_78_51 : X_row 78 51 = some (51, (.goto (-35), 3), (0, 0, 0)) := by decide +kernel
theorem xr_78_54 : X_row 78 54 = some (54, (.aload_n 0, 1), (0, 0, 0)) := by decide +kernel
theorem xr_78_55 : X_row 78 55 = some (55, (.getfield 23, 3), (4, 0, 18)) := by decide +kernel
theorem xr_78_58 : X_row 78 58 = some (58, (.invokevirtual 39, 3), (48, 6, 0)) := by decide +kernel
theorem xr_78_61 : X_row 78 61 = some (61, (.bipush 59, 2), (0, 0, 0)) := by decide +kernel
theorem xr_78_63 : X_row 78 63 = some (63, (.if_icmp .eq 10, 3), (0, 0, 0)) := by decide +kernel
theorem xr_78_66 : X_row 78 66 = some (66, (.aload_n 0, 1), (0, 0, 0)) := by decide +kernel
theorem xr_78_67 : X_row 78 67 = some (67, (.invokevirtual 67, 3), (67, 12, 0)) := by decide +kernel
theorem xr_78_70 : X_row 78 70 = some (70, (.goto 30, 3), (0, 0, 0)) := by decide +kernel
theorem xr_78_73 : X_row 78 73 = some (73, (.iload_n 2, 1), (0, 0, 0)) := by decide +kernel
theorem xr_78_74 : X_row 78 74 = some (74, (.iconst 1, 1), (0, 0, 0)) := by decide +kernel
theorem xr_78_75 : X_row 78 75 = some (75, (.if_icmp .eq 18, 3), (0, 0, 0)) := by decide +kernel
theorem xr_78_78 : X_row 78 78 = some (78, (.aload_n 0, 1), (0, 0, 0)) := by decide +kernel
theorem xr_78_79 : X_row 78 79 = some (79, (.iconst 5, 1), (0, 0, 0)) := by decide +kernel
theorem xr_78_80 : X_row 78 80 = some (80, (.aload_n 0, 1), (0, 0, 0)) := by decide +kernel
theorem xr_78_81 : X_row 78 81 = some (81, (.getfield 23, 3), (4, 0, 18)) := by decide +kernel
theorem xr_78_84 : X_row 78 84 = some (84, (.invokevirtual 73, 3), (49, 14, 0)) := by decide +kernel
theorem xr_78_87 : X_row 78 87 = some (87, (.invokevirtual 76, 3), (66, 16, 0)) := by decide +kernel
theorem xr_78_90 : X_row 78 90 = some (90, (.goto 10, 3), (0, 0, 0)) := by decide +kernel
theorem xr_78_93 : X_row 78 93 = some (93, (.aload_n 0, 1), (0, 0, 0)) := by decide +kernel
theorem xr_78_94 : X_row 78 94 = some (94, (.getfield 23, 3), (4, 0, 18)) := by decide +kernel
theorem xr_78_97 : X_row 78 97 = some (97, (.invokevirtual 80, 3), (52, 18, 0)) := by decide +kernel
theorem xr_78_100 : X_row 78 100 = some (100, (.aload_n 0, 1), (0, 0, 0)) := by decide +kernel
theorem xr_78_101 : X_row 78 101 = some (101, (.getfield 9, 3), (4, 2, 22)) := by decide +kernel
theorem xr_78_104 : X_row 78 104 = some (104, (.ifCond .ne 7, 3), (0, 0, 0)) := by decide +kernel
theorem xr_78_107 : X_row 78 107 = some (107, (.iconst 1, 1), (0, 0, 0)) := by decide +kernel
theorem xr_78_108 : X_row 78 108 = some (108, (.goto 4, 3), (0, 0, 0)) := by decide +kernel
theorem xr_78_111 : X_row 78 111 = some (111, (.iconst 0, 1), (0, 0, 0)) := by decide +kernel
theorem xr_78_112 : X_row 78 112 = some (112, (.ireturn, 1), (0, 0, 0)) := by decide +kernel
theorem xn_78 : X_nL 78 = 4 := by decide +kernel
theorem xf_78 : X_na 78 = 1 ∧ X_ci 78 = 4 ∧ X_rt 78 = (some .boolean) := by decide +kernel
theorem sp_step_r {n : Int} {so : Int → Int} {ct : Int → Int64} {c : Int} {d : Nat → Int → Int} {pile c2 p2 : Int} {d2 : Nat → Int → Int} (hp : 0 ≤ pile ∧ pile ≤ 16) (h : sp_step n so ct c d pile = some (c2, d2, p2)) : (0 ≤ p2 ∧ p2 ≤ 16) ∧ d2 5 0 = d 5 0 + 1 := by
  have key : ∀ c s v, sp_stF n c s v d pile = some (c2, d2, p2) → (0 ≤ p2 ∧ p2 ≤ 16) ∧ d2 5 0 = d 5 0 + 1 := by
    intro c s v h
    unfold sp_stF at h
    by_cases h1 : s = 64 ∧ (v < 1 ∨ d 4 0 < v)
    · rw [if_pos h1] at h; cases h
    · rw [if_neg h1] at h
      by_cases h2 : ¬ X_isOp s ∧ pile = 16
      · rw [if_pos h2] at h; cases h
      · rw [if_neg h2] at h
        by_cases h3 : X_isOp s ∧ pile < 2
        · rw [if_pos h3] at h; cases h
        · rw [if_neg h3] at h
          by_cases h4 : X_isOp s
          · rw [if_pos h4] at h
            cases h
            have : ¬ pile < 2 := fun z => h3 ⟨h4, z⟩
            exact ⟨by omega, rfl⟩
          · rw [if_neg h4] at h
            cases h
            have : ¬ pile = 16 := fun z => h2 ⟨h4, z⟩
            exact ⟨by omega, rfl⟩
  unfold sp_step at h
  repeat' split at h
  all_goals first | exact key _ _ _ h | cases h
/-- the steps up to a ; (or thirty of them), then the pile -/
noncomputable def sp_sl (n : Int) (so : Int → Int) (ct : Int → Int64) : Nat → Int → (Nat → Int → Int) → Int → Option (Int × (Nat → Int → Int) × Int)
  | 0, c, d, p => some (c, d, p)
  | k + 1, c, d, p => if so c = 59 then some (c, d, p) else (sp_step n so ct c d p).bind fun r => sp_sl n so ct k r.1 r.2.1 r.2.2
noncomputable def sp_steps (n : Int) (so : Int → Int) (ct : Int → Int64) (c : Int) (d : Nat → Int → Int) : Option (Int × (Nat → Int → Int)) :=
  (sp_sl n so ct 30 (X_av n c) (X_wu d 5 (fun _ => 0)) 0).bind fun r => if so r.1 = 59 then (if r.2.2 = 1 then some (X_av n r.1, r.2.1) else none) else none
theorem sp_sl_s {n : Int} {so : Int → Int} {ct : Int → Int64} {i c p : Int} {d : Nat → Int → Int} (h : 0 ≤ i ∧ i ≤ 29) : sp_sl n so ct (30 - i).toNat c d p = if so c = 59 then some (c, d, p) else (sp_step n so ct c d p).bind fun r => sp_sl n so ct (30 - (i + 1)).toNat r.1 r.2.1 r.2.2 := by
  rw [show (30 - i).toNat = (30 - (i + 1)).toNat + 1 by omega]
  rfl
theorem c_parseSteps (sc : X_Sc) (S : X_S) (B : Nat) (fl fp at_ n cur : Int) (so pl : Int → Int) (ct : Int → Int64) (rc kc wc : Int) (rn : Int → Int64) (lo : Int → Int) (kn : Int → Int64) (ab : Int → Int) (a : Nat) (d : Nat → Int → Int) (q : Int → Int64) (hB : 4 ≤ B ∧ B + 246 ≤ 496) (ha : B + 6 ≤ a ∧ a + 7 < B + 246) (hp : C_pa S B fl fp) (hx : C_lx S at_ n cur so pl ct) (hcu : 0 ≤ cur ∧ cur < n ∧ n ≤ 2001) (hso : ∀ i, 0 ≤ i → i < n → 0 ≤ so i ∧ so i ≤ 255) (hb : C_bk S B rc kc wc rn lo kn ab) (hw : C_wd S a d q) (hr : X_wr d) (hfl : fl = 0) : X_T sc 78 (0, [(0, .ref 496), (1, .ref a)], [], S) (fun v S' => (v = some (.int (iI 1)) ∧ ∃ c2 d2, sp_steps n so ct cur d = some (c2, d2) ∧ C_pa S' B fl fp ∧ S'.1 497 = .inr (3, [.ref 2, .int (iI at_), .int (iI n), .ref 498, .ref 499, .ref 500, .int (iI (c2))]) ∧ (0 ≤ c2 ∧ c2 < n) ∧ C_wd S' a d2 q ∧ X_wr d2 ∧ X_Fr (fun q => q = 496 ∨ q = 497 ∨ (a ≤ q ∧ q ≤ a + 7)) S S') ∨ (v = some (.int (iI 0)) ∧ sp_steps n so ct cur d = none ∧ (∃ fl' fp', (¬ fl' = 0 ∧ 0 ≤ fl' ∧ fl' ≤ 5) ∧ C_pa S' B fl' fp') ∧ (∃ c2, S'.1 497 = .inr (3, [.ref 2, .int (iI at_), .int (iI n), .ref 498, .ref 499, .ref 500, .int (iI (c2))]) ∧ (0 ≤ c2 ∧ c2 < n)) ∧ (∃ d2, C_wd S' a d2 q ∧ X_wr d2) ∧ X_Fr (fun q => q = 496 ∨ q = 497 ∨ (a ≤ q ∧ q ≤ a + 7)) S S')) := by
  obtain ⟨hb0, hb1, hb2, hb3, hb4, ⟨f, hb5, hf⟩, ⟨hrc, hrcb⟩, ⟨hkc, hkcb⟩, ⟨hwc, hwcb⟩⟩ := id hb
  obtain ⟨⟨hr0, hr0b⟩, ⟨hr1, hr1b⟩, ⟨hr2, hr2b⟩, ⟨hr3, hr3b⟩, ⟨hr4, hr4b⟩, ⟨hr5, hr5b⟩, ⟨hr6, hr6b⟩, ⟨hr7, hr7b⟩⟩ := id hr
  refine X_QI (fun Q hQ => ?_)
  refine T_p xr_78_0 xn_78 (pc' := 1) (ls' := [(0, .ref 496), (1, .ref a)]) (st' := [.int (iI 0)]) rfl ?_
  refine T_p xr_78_1 xn_78 (pc' := 2) (ls' := [(2, .int (iI 0)), (0, .ref 496), (1, .ref a)]) (st' := []) rfl ?_
  refine T_p xr_78_2 xn_78 (pc' := 3) (ls' := [(2, .int (iI 0)), (0, .ref 496), (1, .ref a)]) (st' := [.ref a]) rfl ?_
  refine T_p xr_78_3 xn_78 (pc' := 4) (ls' := [(2, .int (iI 0)), (0, .ref 496), (1, .ref a)]) (st' := [.int (iI 0), .ref a]) rfl ?_
  refine T_put xr_78_4 hw.1 rfl (Nat.le_of_ble_eq_true rfl) rfl (fs' := [.int (iI (d 0 0)), .int (iI (d 1 0)), .int (iI (d 2 0)), .int (iI (d 3 0)), .int (iI (d 4 0)), .int (iI 0), .int (iI (d 6 0)), .int (iI (d 7 0)), .ref (a + 1), .ref (a + 2), .ref (a + 3), .ref (a + 4), .ref (a + 5), .ref (a + 6), .ref (a + 7)]) rfl (pc' := 7) rfl (fun S2338 h2339 n2340 e2341 => ?_)
  have hr5z : X_wr (X_wu d 5 (fun _ => 0)) := X_wr_5 hr (by omega)
  refine T_p xr_78_7 xn_78 (pc' := 8) (ls' := [(2, .int (iI 0)), (0, .ref 496), (1, .ref a)]) (st' := [.ref 496]) rfl ?_
  have h2342 := (n2340 496 (by omega)).trans (hp)
  refine T_get xr_78_8 h2342 rfl (v := .ref 497) rfl (pc' := 11) rfl ?_
  have h2343 := (n2340 497 (by omega)).trans (hx.1)
  refine T_cv (S := S2338) (q := 497) xr_78_11 xf_52.1 xf_52.2.1 xn_52 (as := []) (r := []) rfl h2343 (Nat.le_of_ble_eq_true rfl) (Nat.le_of_ble_eq_true rfl) (pc' := 14) rfl (ls' := [(0, .ref 497)]) rfl ?_
  have h2344 := (n2340 498 (by omega)).trans (hx.2.1)
  have h2345 := (n2340 499 (by omega)).trans (hx.2.2.1)
  have h2346 := (n2340 500 (by omega)).trans (hx.2.2.2)
  refine T_mono (c_advance sc S2338 at_ n cur so pl ct ⟨h2343, h2344, h2345, h2346⟩ (by omega)) (fun v2348 S2349 h2347 => ?_)
  obtain ⟨h2350, h2352, h2351⟩ := h2347
  rw [h2350]
  show X_T sc 78 (14, [(2, .int (iI 0)), (0, .ref 496), (1, .ref a)], [], S2349) _
  have hv2353 := X_av_r (n := n) (c := cur) (by omega)
  refine T_p xr_78_14 xn_78 (pc' := 15) (ls' := [(2, .int (iI 0)), (0, .ref 496), (1, .ref a)]) (st' := [.int (iI 0)]) rfl ?_
  refine T_p xr_78_15 xn_78 (pc' := 16) (ls' := [(3, .int (iI 0)), (2, .int (iI 0)), (0, .ref 496), (1, .ref a)]) (st' := []) rfl ?_
  have h2359 := (h2351.1 496 (by omega)).trans (h2342)
  have h2360 := (h2351.1 a (by omega)).trans (h2339)
  have h2361 := (h2351.1 (a + 1) (by omega)).trans ((n2340 (a + 1) (by omega)).trans (hw.2.1))
  have h2362 := (h2351.1 (a + 2) (by omega)).trans ((n2340 (a + 2) (by omega)).trans (hw.2.2.1))
  have h2363 := (h2351.1 (a + 3) (by omega)).trans ((n2340 (a + 3) (by omega)).trans (hw.2.2.2.1))
  have h2364 := (h2351.1 (a + 4) (by omega)).trans ((n2340 (a + 4) (by omega)).trans (hw.2.2.2.2.1))
  have h2365 := (h2351.1 (a + 5) (by omega)).trans ((n2340 (a + 5) (by omega)).trans (hw.2.2.2.2.2.1))
  have h2366 := (h2351.1 (a + 6) (by omega)).trans ((n2340 (a + 6) (by omega)).trans (hw.2.2.2.2.2.2.1))
  have h2367 := (h2351.1 (a + 7) (by omega)).trans ((n2340 (a + 7) (by omega)).trans (hw.2.2.2.2.2.2.2))
  have L2354 : ∀ (m2356 : Nat) (S2368 : X_S) (i : Int) (c1 : Int) (d1 : Nat → Int → Int) (pile : Int) (hp1 : S2368.1 496 = .inr (4, [.ref 497, .ref B, .int (iI fl), .int (iI fp)])) (hx1 : S2368.1 497 = .inr (3, [.ref 2, .int (iI at_), .int (iI n), .ref 498, .ref 499, .ref 500, .int (iI c1)])) (hw0 : S2368.1 a = .inr (8, [.int (iI (d1 0 0)), .int (iI (d1 1 0)), .int (iI (d1 2 0)), .int (iI (d1 3 0)), .int (iI (d1 4 0)), .int (iI (d1 5 0)), .int (iI (d1 6 0)), .int (iI (d1 7 0)), .ref (a + 1), .ref (a + 2), .ref (a + 3), .ref (a + 4), .ref (a + 5), .ref (a + 6), .ref (a + 7)])) (hw1 : S2368.1 (a + 1) = .inl (.long, 8, .inr (.inl fun k : Nat => q (k : Int)))) (hw2 : S2368.1 (a + 2) = .inl (.int, 8, .inl fun k : Nat => iI ((d1 8) (k : Int)))) (hw3 : S2368.1 (a + 3) = .inl (.int, 4, .inl fun k : Nat => iI ((d1 9) (k : Int)))) (hw4 : S2368.1 (a + 4) = .inl (.int, 4, .inl fun k : Nat => iI ((d1 10) (k : Int)))) (hw5 : S2368.1 (a + 5) = .inl (.int, 4, .inl fun k : Nat => iI ((d1 11) (k : Int)))) (hw6 : S2368.1 (a + 6) = .inl (.int, 30, .inl fun k : Nat => iI ((d1 12) (k : Int)))) (hw7 : S2368.1 (a + 7) = .inl (.int, 30, .inl fun k : Nat => iI ((d1 13) (k : Int)))) (hF2358 : X_Fr (fun q => q = 496 ∨ q = 497 ∨ (a ≤ q ∧ q ≤ a + 7)) S2349 S2368) (hi : 0 ≤ i ∧ i ≤ 30) (hr1 : X_wr d1) (hc1 : 0 ≤ c1 ∧ c1 < n) (hpi : 0 ≤ pile ∧ pile ≤ 16) (h5 : d1 5 0 = i) (hR : sp_sl n so ct (30 - i).toNat c1 d1 pile = sp_sl n so ct 30 (X_av n cur) (X_wu d 5 (fun _ => 0)) 0) (hm2357 : 30 - i < m2356), X_T sc 78 (16, [(3, .int (iI i)), (2, .int (iI pile)), (0, .ref 496), (1, .ref a)], [], S2368) Q := by
    intro m2356
    induction m2356 with
    | zero =>
      intro S2368 i c1 d1 pile hp1 hx1 hw0 hw1 hw2 hw3 hw4 hw5 hw6 hw7 hF2358 hi hr1 hc1 hpi h5 hR hm2357
      exact (show False by omega).elim
    | succ m2356 ih2355 =>
      intro S2368 i c1 d1 pile hp1 hx1 hw0 hw1 hw2 hw3 hw4 hw5 hw6 hw7 hF2358 hi hr1 hc1 hpi h5 hR hm2357
      obtain ⟨⟨_, _⟩, ⟨_, _⟩, ⟨_, _⟩, ⟨_, _⟩, ⟨_, _⟩, ⟨_, _⟩, ⟨_, _⟩, ⟨_, _⟩⟩ := id hr1
      refine T_p xr_78_16 xn_78 (pc' := 17) (ls' := [(3, .int (iI i)), (2, .int (iI pile)), (0, .ref 496), (1, .ref a)]) (st' := [.int (iI i)]) rfl ?_
      refine T_p xr_78_17 xn_78 (pc' := 19) (ls' := [(3, .int (iI i)), (2, .int (iI pile)), (0, .ref 496), (1, .ref a)]) (st' := [.int (iI 30), .int (iI i)]) rfl ?_
      refine T_zicmp_ge xr_78_19 (t := 54) (pc' := 22) rfl rfl (fun c2369 => ?_) (fun c2369 => ?_)
      · skip
        have c2369 : 30 ≤ i := c2369
        refine T_p xr_78_54 xn_78 (pc' := 55) (ls' := [(3, .int (iI i)), (2, .int (iI pile)), (0, .ref 496), (1, .ref a)]) (st' := [.ref 496]) rfl ?_
        refine T_get xr_78_55 hp1 rfl (v := .ref 497) rfl (pc' := 58) rfl ?_
        refine T_cv (S := S2368) (q := 497) xr_78_58 xf_48.1 xf_48.2.1 xn_48 (as := []) (r := []) rfl hx1 (Nat.le_of_ble_eq_true rfl) (Nat.le_of_ble_eq_true rfl) (pc' := 61) rfl (ls' := [(0, .ref 497)]) rfl ?_
        have h2370 := (hF2358.1 498 (by omega)).trans ((h2351.1 498 (by omega)).trans (h2344))
        have h2371 := (hF2358.1 499 (by omega)).trans ((h2351.1 499 (by omega)).trans (h2345))
        have h2372 := (hF2358.1 500 (by omega)).trans ((h2351.1 500 (by omega)).trans (h2346))
        refine T_mono (c_sort sc S2368 at_ n c1 so pl ct ⟨hx1, h2370, h2371, h2372⟩ (by omega)) (fun v2374 S2375 h2373 => ?_)
        obtain ⟨h2376, h2377⟩ := h2373
        rw [h2376, h2377]
        show X_T sc 78 (61, [(3, .int (iI i)), (2, .int (iI pile)), (0, .ref 496), (1, .ref a)], [.int (iI (so c1))], S2368) _
        have hs2378 := hso c1 (by omega) (by omega)
        refine T_p xr_78_61 xn_78 (pc' := 63) (ls' := [(3, .int (iI i)), (2, .int (iI pile)), (0, .ref 496), (1, .ref a)]) (st' := [.int (iI 59), .int (iI (so c1))]) rfl ?_
        refine T_zicmp_eq xr_78_63 (t := 73) (pc' := 66) rfl rfl (fun c2379 => ?_) (fun c2379 => ?_)
        · skip
          have c2379 : (so c1) = 59 := c2379
          refine T_p xr_78_73 xn_78 (pc' := 74) (ls' := [(3, .int (iI i)), (2, .int (iI pile)), (0, .ref 496), (1, .ref a)]) (st' := [.int (iI pile)]) rfl ?_
          refine T_p xr_78_74 xn_78 (pc' := 75) (ls' := [(3, .int (iI i)), (2, .int (iI pile)), (0, .ref 496), (1, .ref a)]) (st' := [.int (iI 1), .int (iI pile)]) rfl ?_
          refine T_zicmp_eq xr_78_75 (t := 93) (pc' := 78) rfl rfl (fun c2380 => ?_) (fun c2380 => ?_)
          · skip
            have c2380 : pile = 1 := c2380
            refine T_p xr_78_93 xn_78 (pc' := 94) (ls' := [(3, .int (iI i)), (2, .int (iI pile)), (0, .ref 496), (1, .ref a)]) (st' := [.ref 496]) rfl ?_
            refine T_get xr_78_94 hp1 rfl (v := .ref 497) rfl (pc' := 97) rfl ?_
            refine T_cv (S := S2368) (q := 497) xr_78_97 xf_52.1 xf_52.2.1 xn_52 (as := []) (r := []) rfl hx1 (Nat.le_of_ble_eq_true rfl) (Nat.le_of_ble_eq_true rfl) (pc' := 100) rfl (ls' := [(0, .ref 497)]) rfl ?_
            refine T_mono (c_advance sc S2368 at_ n c1 so pl ct ⟨hx1, h2370, h2371, h2372⟩ (by omega)) (fun v2382 S2383 h2381 => ?_)
            obtain ⟨h2384, h2386, h2385⟩ := h2381
            rw [h2384]
            show X_T sc 78 (100, [(3, .int (iI i)), (2, .int (iI pile)), (0, .ref 496), (1, .ref a)], [], S2383) _
            have hv2387 := X_av_r (n := n) (c := c1) (by omega)
            refine T_p xr_78_100 xn_78 (pc' := 101) (ls' := [(3, .int (iI i)), (2, .int (iI pile)), (0, .ref 496), (1, .ref a)]) (st' := [.ref 496]) rfl ?_
            have h2388 := (h2385.1 496 (by omega)).trans (hp1)
            refine T_get xr_78_101 h2388 rfl (v := .int (iI fl)) rfl (pc' := 104) rfl ?_
            refine T_zif_ne xr_78_104 (t := 111) (pc' := 107) rfl rfl (fun c2389 => ?_) (fun c2389 => ?_)
            · skip
              have c2389 : ¬ fl = 0 := c2389
              exact (show False by first | contradiction | omega).elim
            · skip
              have c2389 : ¬ (¬ fl = 0) := c2389
              refine T_p xr_78_107 xn_78 (pc' := 108) (ls' := [(3, .int (iI i)), (2, .int (iI pile)), (0, .ref 496), (1, .ref a)]) (st' := [.int (iI 1)]) rfl ?_
              refine T_p xr_78_108 xn_78 (pc' := 112) (ls' := [(3, .int (iI i)), (2, .int (iI pile)), (0, .ref 496), (1, .ref a)]) (st' := [.int (iI 1)]) rfl ?_
              refine T_iret xr_78_112 xf_78.2.2 (by decide) ?_
              refine hQ _ _ ?_
              have h2390 := (h2385.1 a (by omega)).trans (hw0)
              have h2391 := (h2385.1 (a + 1) (by omega)).trans (hw1)
              have h2392 := (h2385.1 (a + 2) (by omega)).trans (hw2)
              have h2393 := (h2385.1 (a + 3) (by omega)).trans (hw3)
              have h2394 := (h2385.1 (a + 4) (by omega)).trans (hw4)
              have h2395 := (h2385.1 (a + 5) (by omega)).trans (hw5)
              have h2396 := (h2385.1 (a + 6) (by omega)).trans (hw6)
              have h2397 := (h2385.1 (a + 7) (by omega)).trans (hw7)
              refine Or.inl ⟨rfl, X_av n c1, d1, ?_, h2388, h2386, by omega, ⟨h2390, h2391, h2392, h2393, h2394, h2395, h2396, h2397⟩, hr1, ((((X_Fr.rf).tr (X_Fr.of n2340 e2341 (by omega))).tr (X_Fr.mono ⟨h2351.1, h2351.2⟩ (fun q hq => (by omega)))).tr (X_Fr.mono ⟨hF2358.1, hF2358.2⟩ (fun q hq => (by omega)))).tr (X_Fr.mono ⟨h2385.1, h2385.2⟩ (fun q hq => (by omega)))⟩
              unfold sp_steps
              rw [← hR]
              first
                | (rw [sp_sl_s (i := i) (by omega), if_neg (by assumption), if_pos rfl]; rfl)
                | (rw [sp_sl_s (i := i) (by omega), if_pos (by omega)]
                   show (if _ then _ else _) = _
                   (repeat (first | rw [if_pos (by assumption)] | rw [if_neg (by assumption)] | rw [if_pos (by omega)] | rw [if_neg (by omega)])))
                | (rw [show (30 - i).toNat = 0 by omega]
                   show (if _ then _ else _) = _
                   (repeat (first | rw [if_pos (by assumption)] | rw [if_neg (by assumption)] | rw [if_pos (by omega)] | rw [if_neg (by omega)])))
          · skip
            have c2380 : ¬ (pile = 1) := c2380
            refine T_p xr_78_78 xn_78 (pc' := 79) (ls' := [(3, .int (iI i)), (2, .int (iI pile)), (0, .ref 496), (1, .ref a)]) (st' := [.ref 496]) rfl ?_
            refine T_p xr_78_79 xn_78 (pc' := 80) (ls' := [(3, .int (iI i)), (2, .int (iI pile)), (0, .ref 496), (1, .ref a)]) (st' := [.int (iI 5), .ref 496]) rfl ?_
            refine T_p xr_78_80 xn_78 (pc' := 81) (ls' := [(3, .int (iI i)), (2, .int (iI pile)), (0, .ref 496), (1, .ref a)]) (st' := [.ref 496, .int (iI 5), .ref 496]) rfl ?_
            refine T_get xr_78_81 hp1 rfl (v := .ref 497) rfl (pc' := 84) rfl ?_
            refine T_cv (S := S2368) (q := 497) xr_78_84 xf_49.1 xf_49.2.1 xn_49 (as := []) (r := [.int (iI 5), .ref 496]) rfl hx1 (Nat.le_of_ble_eq_true rfl) (Nat.le_of_ble_eq_true rfl) (pc' := 87) rfl (ls' := [(0, .ref 497)]) rfl ?_
            refine T_mono (c_place sc S2368 at_ n c1 so pl ct ⟨hx1, h2370, h2371, h2372⟩ (by omega)) (fun v2399 S2400 h2398 => ?_)
            obtain ⟨h2401, h2402⟩ := h2398
            rw [h2401, h2402]
            show X_T sc 78 (87, [(3, .int (iI i)), (2, .int (iI pile)), (0, .ref 496), (1, .ref a)], [.int (iI (pl c1)), .int (iI 5), .ref 496], S2368) _
            refine T_cv (S := S2368) (q := 496) xr_78_87 xf_66.1 xf_66.2.1 xn_66 (as := [.int (iI 5), .int (iI (pl c1))]) (r := []) rfl hp1 (Nat.le_of_ble_eq_true rfl) (Nat.le_of_ble_eq_true rfl) (pc' := 90) rfl (ls' := [(0, .ref 496), (1, .int (iI 5)), (2, .int (iI (pl c1)))]) rfl ?_
            refine T_p xr_66_0 xn_66 (pc' := 1) (ls' := [(0, .ref 496), (1, .int (iI 5)), (2, .int (iI (pl c1)))]) (st' := [.ref 496]) rfl ?_
            refine T_p xr_66_1 xn_66 (pc' := 2) (ls' := [(0, .ref 496), (1, .int (iI 5)), (2, .int (iI (pl c1)))]) (st' := [.int (iI 5), .ref 496]) rfl ?_
            refine T_put xr_66_2 hp1 rfl (Nat.le_of_ble_eq_true rfl) rfl (fs' := [.ref 497, .ref B, .int (iI 5), .int (iI fp)]) rfl (pc' := 5) rfl (fun S2403 h2404 n2405 e2406 => ?_)
            refine T_p xr_66_5 xn_66 (pc' := 6) (ls' := [(0, .ref 496), (1, .int (iI 5)), (2, .int (iI (pl c1)))]) (st' := [.ref 496]) rfl ?_
            refine T_p xr_66_6 xn_66 (pc' := 7) (ls' := [(0, .ref 496), (1, .int (iI 5)), (2, .int (iI (pl c1)))]) (st' := [.int (iI (pl c1)), .ref 496]) rfl ?_
            refine T_put xr_66_7 h2404 rfl (Nat.le_of_ble_eq_true rfl) rfl (fs' := [.ref 497, .ref B, .int (iI 5), .int (iI (pl c1))]) rfl (pc' := 10) rfl (fun S2407 h2408 n2409 e2410 => ?_)
            refine T_vret xr_66_10 xf_66.2.2 ?_
            show X_T sc 78 (90, [(3, .int (iI i)), (2, .int (iI pile)), (0, .ref 496), (1, .ref a)], [], S2407) _
            refine T_p xr_78_90 xn_78 (pc' := 100) (ls' := [(3, .int (iI i)), (2, .int (iI pile)), (0, .ref 496), (1, .ref a)]) (st' := []) rfl ?_
            refine T_p xr_78_100 xn_78 (pc' := 101) (ls' := [(3, .int (iI i)), (2, .int (iI pile)), (0, .ref 496), (1, .ref a)]) (st' := [.ref 496]) rfl ?_
            refine T_get xr_78_101 h2408 rfl (v := .int (iI 5)) rfl (pc' := 104) rfl ?_
            refine T_zif_net xr_78_104 (t := 111) rfl (by decide) ?_
            refine T_p xr_78_111 xn_78 (pc' := 112) (ls' := [(3, .int (iI i)), (2, .int (iI pile)), (0, .ref 496), (1, .ref a)]) (st' := [.int (iI 0)]) rfl ?_
            refine T_iret xr_78_112 xf_78.2.2 (by decide) ?_
            refine hQ _ _ ?_
            have h2411 := (n2409 497 (by decide)).trans ((n2405 497 (by decide)).trans (hx1))
            have h2412 := (n2409 a (by omega)).trans ((n2405 a (by omega)).trans (hw0))
            have h2413 := (n2409 (a + 1) (by omega)).trans ((n2405 (a + 1) (by omega)).trans (hw1))
            have h2414 := (n2409 (a + 2) (by omega)).trans ((n2405 (a + 2) (by omega)).trans (hw2))
            have h2415 := (n2409 (a + 3) (by omega)).trans ((n2405 (a + 3) (by omega)).trans (hw3))
            have h2416 := (n2409 (a + 4) (by omega)).trans ((n2405 (a + 4) (by omega)).trans (hw4))
            have h2417 := (n2409 (a + 5) (by omega)).trans ((n2405 (a + 5) (by omega)).trans (hw5))
            have h2418 := (n2409 (a + 6) (by omega)).trans ((n2405 (a + 6) (by omega)).trans (hw6))
            have h2419 := (n2409 (a + 7) (by omega)).trans ((n2405 (a + 7) (by omega)).trans (hw7))
            refine Or.inr ⟨rfl, ?_, ⟨_, _, by omega, h2408⟩, ⟨c1, h2411, by omega⟩, ⟨d1, ⟨h2412, h2413, h2414, h2415, h2416, h2417, h2418, h2419⟩, hr1⟩, (((((X_Fr.rf).tr (X_Fr.of n2340 e2341 (by omega))).tr (X_Fr.mono ⟨h2351.1, h2351.2⟩ (fun q hq => (by omega)))).tr (X_Fr.mono ⟨hF2358.1, hF2358.2⟩ (fun q hq => (by omega)))).tr (X_Fr.of n2405 e2406 (by omega))).tr (X_Fr.of n2409 e2410 (by omega))⟩
            unfold sp_steps
            rw [← hR]
            first
              | (rw [sp_sl_s (i := i) (by omega), if_neg (by assumption), if_pos rfl]; rfl)
              | (rw [sp_sl_s (i := i) (by omega), if_pos (by omega)]
                 show (if _ then _ else _) = _
                 (repeat (first | rw [if_pos (by assumption)] | rw [if_neg (by assumption)] | rw [if_pos (by omega)] | rw [if_neg (by omega)])))
              | (rw [show (30 - i).toNat = 0 by omega]
                 show (if _ then _ else _) = _
                 (repeat (first | rw [if_pos (by assumption)] | rw [if_neg (by assumption)] | rw [if_pos (by omega)] | rw [if_neg (by omega)])))
        · skip
          have c2379 : ¬ ((so c1) = 59) := c2379
          refine T_p xr_78_66 xn_78 (pc' := 67) (ls' := [(3, .int (iI i)), (2, .int (iI pile)), (0, .ref 496), (1, .ref a)]) (st' := [.ref 496]) rfl ?_
          refine T_cv (S := S2368) (q := 496) xr_78_67 xf_67.1 xf_67.2.1 xn_67 (as := []) (r := []) rfl hp1 (Nat.le_of_ble_eq_true rfl) (Nat.le_of_ble_eq_true rfl) (pc' := 70) rfl (ls' := [(0, .ref 496)]) rfl ?_
          refine T_mono (c_refuse sc S2368 B fl fp at_ n c1 so pl ct hp1 ⟨hx1, h2370, h2371, h2372⟩ (by omega) hso) (fun v2420 S2421 h2422 => ?_)
          obtain ⟨h2423, ⟨fl2424, fp2425, hn2426, hp2427⟩, hf2428⟩ := h2422
          rw [h2423]
          show X_T sc 78 (70, [(3, .int (iI i)), (2, .int (iI pile)), (0, .ref 496), (1, .ref a)], [], S2421) _
          refine T_p xr_78_70 xn_78 (pc' := 100) (ls' := [(3, .int (iI i)), (2, .int (iI pile)), (0, .ref 496), (1, .ref a)]) (st' := []) rfl ?_
          refine T_p xr_78_100 xn_78 (pc' := 101) (ls' := [(3, .int (iI i)), (2, .int (iI pile)), (0, .ref 496), (1, .ref a)]) (st' := [.ref 496]) rfl ?_
          refine T_get xr_78_101 hp2427 rfl (v := .int (iI fl2424)) rfl (pc' := 104) rfl ?_
          refine T_zif_ne xr_78_104 (t := 111) (pc' := 107) rfl rfl (fun c2429 => ?_) (fun c2429 => ?_)
          · skip
            have c2429 : ¬ fl2424 = 0 := c2429
            refine T_p xr_78_111 xn_78 (pc' := 112) (ls' := [(3, .int (iI i)), (2, .int (iI pile)), (0, .ref 496), (1, .ref a)]) (st' := [.int (iI 0)]) rfl ?_
            refine T_iret xr_78_112 xf_78.2.2 (by decide) ?_
            refine hQ _ _ ?_
            have h2430 := (hf2428.1 497 (by omega)).trans (hx1)
            have h2431 := (hf2428.1 a (by omega)).trans (hw0)
            have h2432 := (hf2428.1 (a + 1) (by omega)).trans (hw1)
            have h2433 := (hf2428.1 (a + 2) (by omega)).trans (hw2)
            have h2434 := (hf2428.1 (a + 3) (by omega)).trans (hw3)
            have h2435 := (hf2428.1 (a + 4) (by omega)).trans (hw4)
            have h2436 := (hf2428.1 (a + 5) (by omega)).trans (hw5)
            have h2437 := (hf2428.1 (a + 6) (by omega)).trans (hw6)
            have h2438 := (hf2428.1 (a + 7) (by omega)).trans (hw7)
            refine Or.inr ⟨rfl, ?_, ⟨_, _, by omega, hp2427⟩, ⟨c1, h2430, by omega⟩, ⟨d1, ⟨h2431, h2432, h2433, h2434, h2435, h2436, h2437, h2438⟩, hr1⟩, ((((X_Fr.rf).tr (X_Fr.of n2340 e2341 (by omega))).tr (X_Fr.mono ⟨h2351.1, h2351.2⟩ (fun q hq => (by omega)))).tr (X_Fr.mono ⟨hF2358.1, hF2358.2⟩ (fun q hq => (by omega)))).tr (X_Fr.mono ⟨hf2428.1, hf2428.2⟩ (fun q hq => (by omega)))⟩
            unfold sp_steps
            rw [← hR]
            first
              | (rw [sp_sl_s (i := i) (by omega), if_neg (by assumption), if_pos rfl]; rfl)
              | (rw [sp_sl_s (i := i) (by omega), if_pos (by omega)]
                 show (if _ then _ else _) = _
                 (repeat (first | rw [if_pos (by assumption)] | rw [if_neg (by assumption)] | rw [if_pos (by omega)] | rw [if_neg (by omega)])))
              | (rw [show (30 - i).toNat = 0 by omega]
                 show (if _ then _ else _) = _
                 (repeat (first | rw [if_pos (by assumption)] | rw [if_neg (by assumption)] | rw [if_pos (by omega)] | rw [if_neg (by omega)])))
          · skip
            have c2429 : ¬ (¬ fl2424 = 0) := c2429
            exact (show False by first | contradiction | omega).elim
      · skip
        have c2369 : ¬ (30 ≤ i) := c2369
        refine T_p xr_78_22 xn_78 (pc' := 23) (ls' := [(3, .int (iI i)), (2, .int (iI pile)), (0, .ref 496), (1, .ref a)]) (st' := [.ref 496]) rfl ?_
        refine T_get xr_78_23 hp1 rfl (v := .ref 497) rfl (pc' := 26) rfl ?_
        refine T_cv (S := S2368) (q := 497) xr_78_26 xf_48.1 xf_48.2.1 xn_48 (as := []) (r := []) rfl hx1 (Nat.le_of_ble_eq_true rfl) (Nat.le_of_ble_eq_true rfl) (pc' := 29) rfl (ls' := [(0, .ref 497)]) rfl ?_
        have h2439 := (hF2358.1 498 (by omega)).trans ((h2351.1 498 (by omega)).trans (h2344))
        have h2440 := (hF2358.1 499 (by omega)).trans ((h2351.1 499 (by omega)).trans (h2345))
        have h2441 := (hF2358.1 500 (by omega)).trans ((h2351.1 500 (by omega)).trans (h2346))
        refine T_mono (c_sort sc S2368 at_ n c1 so pl ct ⟨hx1, h2439, h2440, h2441⟩ (by omega)) (fun v2443 S2444 h2442 => ?_)
        obtain ⟨h2445, h2446⟩ := h2442
        rw [h2445, h2446]
        show X_T sc 78 (29, [(3, .int (iI i)), (2, .int (iI pile)), (0, .ref 496), (1, .ref a)], [.int (iI (so c1))], S2368) _
        have hs2447 := hso c1 (by omega) (by omega)
        refine T_p xr_78_29 xn_78 (pc' := 31) (ls' := [(3, .int (iI i)), (2, .int (iI pile)), (0, .ref 496), (1, .ref a)]) (st' := [.int (iI 59), .int (iI (so c1))]) rfl ?_
        refine T_zicmp_eq xr_78_31 (t := 54) (pc' := 34) rfl rfl (fun c2448 => ?_) (fun c2448 => ?_)
        · skip
          have c2448 : (so c1) = 59 := c2448
          refine T_p xr_78_54 xn_78 (pc' := 55) (ls' := [(3, .int (iI i)), (2, .int (iI pile)), (0, .ref 496), (1, .ref a)]) (st' := [.ref 496]) rfl ?_
          refine T_get xr_78_55 hp1 rfl (v := .ref 497) rfl (pc' := 58) rfl ?_
          refine T_cv (S := S2368) (q := 497) xr_78_58 xf_48.1 xf_48.2.1 xn_48 (as := []) (r := []) rfl hx1 (Nat.le_of_ble_eq_true rfl) (Nat.le_of_ble_eq_true rfl) (pc' := 61) rfl (ls' := [(0, .ref 497)]) rfl ?_
          refine T_mono (c_sort sc S2368 at_ n c1 so pl ct ⟨hx1, h2439, h2440, h2441⟩ (by omega)) (fun v2450 S2451 h2449 => ?_)
          obtain ⟨h2452, h2453⟩ := h2449
          rw [h2452, h2453]
          show X_T sc 78 (61, [(3, .int (iI i)), (2, .int (iI pile)), (0, .ref 496), (1, .ref a)], [.int (iI (so c1))], S2368) _
          have hs2454 := hso c1 (by omega) (by omega)
          refine T_p xr_78_61 xn_78 (pc' := 63) (ls' := [(3, .int (iI i)), (2, .int (iI pile)), (0, .ref 496), (1, .ref a)]) (st' := [.int (iI 59), .int (iI (so c1))]) rfl ?_
          refine T_zicmp_eq xr_78_63 (t := 73) (pc' := 66) rfl rfl (fun c2455 => ?_) (fun c2455 => ?_)
          · skip
            have c2455 : (so c1) = 59 := c2455
            refine T_p xr_78_73 xn_78 (pc' := 74) (ls' := [(3, .int (iI i)), (2, .int (iI pile)), (0, .ref 496), (1, .ref a)]) (st' := [.int (iI pile)]) rfl ?_
            refine T_p xr_78_74 xn_78 (pc' := 75) (ls' := [(3, .int (iI i)), (2, .int (iI pile)), (0, .ref 496), (1, .ref a)]) (st' := [.int (iI 1), .int (iI pile)]) rfl ?_
            refine T_zicmp_eq xr_78_75 (t := 93) (pc' := 78) rfl rfl (fun c2456 => ?_) (fun c2456 => ?_)
            · skip
              have c2456 : pile = 1 := c2456
              refine T_p xr_78_93 xn_78 (pc' := 94) (ls' := [(3, .int (iI i)), (2, .int (iI pile)), (0, .ref 496), (1, .ref a)]) (st' := [.ref 496]) rfl ?_
              refine T_get xr_78_94 hp1 rfl (v := .ref 497) rfl (pc' := 97) rfl ?_
              refine T_cv (S := S2368) (q := 497) xr_78_97 xf_52.1 xf_52.2.1 xn_52 (as := []) (r := []) rfl hx1 (Nat.le_of_ble_eq_true rfl) (Nat.le_of_ble_eq_true rfl) (pc' := 100) rfl (ls' := [(0, .ref 497)]) rfl ?_
              refine T_mono (c_advance sc S2368 at_ n c1 so pl ct ⟨hx1, h2439, h2440, h2441⟩ (by omega)) (fun v2458 S2459 h2457 => ?_)
              obtain ⟨h2460, h2462, h2461⟩ := h2457
              rw [h2460]
              show X_T sc 78 (100, [(3, .int (iI i)), (2, .int (iI pile)), (0, .ref 496), (1, .ref a)], [], S2459) _
              have hv2463 := X_av_r (n := n) (c := c1) (by omega)
              refine T_p xr_78_100 xn_78 (pc' := 101) (ls' := [(3, .int (iI i)), (2, .int (iI pile)), (0, .ref 496), (1, .ref a)]) (st' := [.ref 496]) rfl ?_
              have h2464 := (h2461.1 496 (by omega)).trans (hp1)
              refine T_get xr_78_101 h2464 rfl (v := .int (iI fl)) rfl (pc' := 104) rfl ?_
              refine T_zif_ne xr_78_104 (t := 111) (pc' := 107) rfl rfl (fun c2465 => ?_) (fun c2465 => ?_)
              · skip
                have c2465 : ¬ fl = 0 := c2465
                exact (show False by first | contradiction | omega).elim
              · skip
                have c2465 : ¬ (¬ fl = 0) := c2465
                refine T_p xr_78_107 xn_78 (pc' := 108) (ls' := [(3, .int (iI i)), (2, .int (iI pile)), (0, .ref 496), (1, .ref a)]) (st' := [.int (iI 1)]) rfl ?_
                refine T_p xr_78_108 xn_78 (pc' := 112) (ls' := [(3, .int (iI i)), (2, .int (iI pile)), (0, .ref 496), (1, .ref a)]) (st' := [.int (iI 1)]) rfl ?_
                refine T_iret xr_78_112 xf_78.2.2 (by decide) ?_
                refine hQ _ _ ?_
                have h2466 := (h2461.1 a (by omega)).trans (hw0)
                have h2467 := (h2461.1 (a + 1) (by omega)).trans (hw1)
                have h2468 := (h2461.1 (a + 2) (by omega)).trans (hw2)
                have h2469 := (h2461.1 (a + 3) (by omega)).trans (hw3)
                have h2470 := (h2461.1 (a + 4) (by omega)).trans (hw4)
                have h2471 := (h2461.1 (a + 5) (by omega)).trans (hw5)
                have h2472 := (h2461.1 (a + 6) (by omega)).trans (hw6)
                have h2473 := (h2461.1 (a + 7) (by omega)).trans (hw7)
                refine Or.inl ⟨rfl, X_av n c1, d1, ?_, h2464, h2462, by omega, ⟨h2466, h2467, h2468, h2469, h2470, h2471, h2472, h2473⟩, hr1, ((((X_Fr.rf).tr (X_Fr.of n2340 e2341 (by omega))).tr (X_Fr.mono ⟨h2351.1, h2351.2⟩ (fun q hq => (by omega)))).tr (X_Fr.mono ⟨hF2358.1, hF2358.2⟩ (fun q hq => (by omega)))).tr (X_Fr.mono ⟨h2461.1, h2461.2⟩ (fun q hq => (by omega)))⟩
                unfold sp_steps
                rw [← hR]
                first
                  | (rw [sp_sl_s (i := i) (by omega), if_neg (by assumption), if_pos rfl]; rfl)
                  | (rw [sp_sl_s (i := i) (by omega), if_pos (by omega)]
                     show (if _ then _ else _) = _
                     (repeat (first | rw [if_pos (by assumption)] | rw [if_neg (by assumption)] | rw [if_pos (by omega)] | rw [if_neg (by omega)])))
                  | (rw [show (30 - i).toNat = 0 by omega]
                     show (if _ then _ else _) = _
                     (repeat (first | rw [if_pos (by assumption)] | rw [if_neg (by assumption)] | rw [if_pos (by omega)] | rw [if_neg (by omega)])))
            · skip
              have c2456 : ¬ (pile = 1) := c2456
              refine T_p xr_78_78 xn_78 (pc' := 79) (ls' := [(3, .int (iI i)), (2, .int (iI pile)), (0, .ref 496), (1, .ref a)]) (st' := [.ref 496]) rfl ?_
              refine T_p xr_78_79 xn_78 (pc' := 80) (ls' := [(3, .int (iI i)), (2, .int (iI pile)), (0, .ref 496), (1, .ref a)]) (st' := [.int (iI 5), .ref 496]) rfl ?_
              refine T_p xr_78_80 xn_78 (pc' := 81) (ls' := [(3, .int (iI i)), (2, .int (iI pile)), (0, .ref 496), (1, .ref a)]) (st' := [.ref 496, .int (iI 5), .ref 496]) rfl ?_
              refine T_get xr_78_81 hp1 rfl (v := .ref 497) rfl (pc' := 84) rfl ?_
              refine T_cv (S := S2368) (q := 497) xr_78_84 xf_49.1 xf_49.2.1 xn_49 (as := []) (r := [.int (iI 5), .ref 496]) rfl hx1 (Nat.le_of_ble_eq_true rfl) (Nat.le_of_ble_eq_true rfl) (pc' := 87) rfl (ls' := [(0, .ref 497)]) rfl ?_
              refine T_mono (c_place sc S2368 at_ n c1 so pl ct ⟨hx1, h2439, h2440, h2441⟩ (by omega)) (fun v2475 S2476 h2474 => ?_)
              obtain ⟨h2477, h2478⟩ := h2474
              rw [h2477, h2478]
              show X_T sc 78 (87, [(3, .int (iI i)), (2, .int (iI pile)), (0, .ref 496), (1, .ref a)], [.int (iI (pl c1)), .int (iI 5), .ref 496], S2368) _
              refine T_cv (S := S2368) (q := 496) xr_78_87 xf_66.1 xf_66.2.1 xn_66 (as := [.int (iI 5), .int (iI (pl c1))]) (r := []) rfl hp1 (Nat.le_of_ble_eq_true rfl) (Nat.le_of_ble_eq_true rfl) (pc' := 90) rfl (ls' := [(0, .ref 496), (1, .int (iI 5)), (2, .int (iI (pl c1)))]) rfl ?_
              refine T_p xr_66_0 xn_66 (pc' := 1) (ls' := [(0, .ref 496), (1, .int (iI 5)), (2, .int (iI (pl c1)))]) (st' := [.ref 496]) rfl ?_
              refine T_p xr_66_1 xn_66 (pc' := 2) (ls' := [(0, .ref 496), (1, .int (iI 5)), (2, .int (iI (pl c1)))]) (st' := [.int (iI 5), .ref 496]) rfl ?_
              refine T_put xr_66_2 hp1 rfl (Nat.le_of_ble_eq_true rfl) rfl (fs' := [.ref 497, .ref B, .int (iI 5), .int (iI fp)]) rfl (pc' := 5) rfl (fun S2479 h2480 n2481 e2482 => ?_)
              refine T_p xr_66_5 xn_66 (pc' := 6) (ls' := [(0, .ref 496), (1, .int (iI 5)), (2, .int (iI (pl c1)))]) (st' := [.ref 496]) rfl ?_
              refine T_p xr_66_6 xn_66 (pc' := 7) (ls' := [(0, .ref 496), (1, .int (iI 5)), (2, .int (iI (pl c1)))]) (st' := [.int (iI (pl c1)), .ref 496]) rfl ?_
              refine T_put xr_66_7 h2480 rfl (Nat.le_of_ble_eq_true rfl) rfl (fs' := [.ref 497, .ref B, .int (iI 5), .int (iI (pl c1))]) rfl (pc' := 10) rfl (fun S2483 h2484 n2485 e2486 => ?_)
              refine T_vret xr_66_10 xf_66.2.2 ?_
              show X_T sc 78 (90, [(3, .int (iI i)), (2, .int (iI pile)), (0, .ref 496), (1, .ref a)], [], S2483) _
              refine T_p xr_78_90 xn_78 (pc' := 100) (ls' := [(3, .int (iI i)), (2, .int (iI pile)), (0, .ref 496), (1, .ref a)]) (st' := []) rfl ?_
              refine T_p xr_78_100 xn_78 (pc' := 101) (ls' := [(3, .int (iI i)), (2, .int (iI pile)), (0, .ref 496), (1, .ref a)]) (st' := [.ref 496]) rfl ?_
              refine T_get xr_78_101 h2484 rfl (v := .int (iI 5)) rfl (pc' := 104) rfl ?_
              refine T_zif_net xr_78_104 (t := 111) rfl (by decide) ?_
              refine T_p xr_78_111 xn_78 (pc' := 112) (ls' := [(3, .int (iI i)), (2, .int (iI pile)), (0, .ref 496), (1, .ref a)]) (st' := [.int (iI 0)]) rfl ?_
              refine T_iret xr_78_112 xf_78.2.2 (by decide) ?_
              refine hQ _ _ ?_
              have h2487 := (n2485 497 (by decide)).trans ((n2481 497 (by decide)).trans (hx1))
              have h2488 := (n2485 a (by omega)).trans ((n2481 a (by omega)).trans (hw0))
              have h2489 := (n2485 (a + 1) (by omega)).trans ((n2481 (a + 1) (by omega)).trans (hw1))
              have h2490 := (n2485 (a + 2) (by omega)).trans ((n2481 (a + 2) (by omega)).trans (hw2))
              have h2491 := (n2485 (a + 3) (by omega)).trans ((n2481 (a + 3) (by omega)).trans (hw3))
              have h2492 := (n2485 (a + 4) (by omega)).trans ((n2481 (a + 4) (by omega)).trans (hw4))
              have h2493 := (n2485 (a + 5) (by omega)).trans ((n2481 (a + 5) (by omega)).trans (hw5))
              have h2494 := (n2485 (a + 6) (by omega)).trans ((n2481 (a + 6) (by omega)).trans (hw6))
              have h2495 := (n2485 (a + 7) (by omega)).trans ((n2481 (a + 7) (by omega)).trans (hw7))
              refine Or.inr ⟨rfl, ?_, ⟨_, _, by omega, h2484⟩, ⟨c1, h2487, by omega⟩, ⟨d1, ⟨h2488, h2489, h2490, h2491, h2492, h2493, h2494, h2495⟩, hr1⟩, (((((X_Fr.rf).tr (X_Fr.of n2340 e2341 (by omega))).tr (X_Fr.mono ⟨h2351.1, h2351.2⟩ (fun q hq => (by omega)))).tr (X_Fr.mono ⟨hF2358.1, hF2358.2⟩ (fun q hq => (by omega)))).tr (X_Fr.of n2481 e2482 (by omega))).tr (X_Fr.of n2485 e2486 (by omega))⟩
              unfold sp_steps
              rw [← hR]
              first
                | (rw [sp_sl_s (i := i) (by omega), if_neg (by assumption), if_pos rfl]; rfl)
                | (rw [sp_sl_s (i := i) (by omega), if_pos (by omega)]
                   show (if _ then _ else _) = _
                   (repeat (first | rw [if_pos (by assumption)] | rw [if_neg (by assumption)] | rw [if_pos (by omega)] | rw [if_neg (by omega)])))
                | (rw [show (30 - i).toNat = 0 by omega]
                   show (if _ then _ else _) = _
                   (repeat (first | rw [if_pos (by assumption)] | rw [if_neg (by assumption)] | rw [if_pos (by omega)] | rw [if_neg (by omega)])))
          · skip
            have c2455 : ¬ ((so c1) = 59) := c2455
            exact (show False by first | contradiction | omega).elim
        · skip
          have c2448 : ¬ ((so c1) = 59) := c2448
          refine T_p xr_78_34 xn_78 (pc' := 35) (ls' := [(3, .int (iI i)), (2, .int (iI pile)), (0, .ref 496), (1, .ref a)]) (st' := [.ref 496]) rfl ?_
          refine T_p xr_78_35 xn_78 (pc' := 36) (ls' := [(3, .int (iI i)), (2, .int (iI pile)), (0, .ref 496), (1, .ref a)]) (st' := [.ref a, .ref 496]) rfl ?_
          refine T_p xr_78_36 xn_78 (pc' := 37) (ls' := [(3, .int (iI i)), (2, .int (iI pile)), (0, .ref 496), (1, .ref a)]) (st' := [.int (iI pile), .ref a, .ref 496]) rfl ?_
          refine T_cv (S := S2368) (q := 496) xr_78_37 xf_79.1 xf_79.2.1 xn_79 (as := [.ref a, .int (iI pile)]) (r := []) rfl hp1 (Nat.le_of_ble_eq_true rfl) (Nat.le_of_ble_eq_true rfl) (pc' := 40) rfl (ls' := [(0, .ref 496), (1, .ref a), (2, .int (iI pile))]) rfl ?_
          have h2496 := (hF2358.1 B (by omega)).trans ((h2351.1 B (by omega)).trans ((n2340 B (by omega)).trans (hb0)))
          have h2497 := (hF2358.1 (B + 1) (by omega)).trans ((h2351.1 (B + 1) (by omega)).trans ((n2340 (B + 1) (by omega)).trans (hb1)))
          have h2498 := (hF2358.1 (B + 2) (by omega)).trans ((h2351.1 (B + 2) (by omega)).trans ((n2340 (B + 2) (by omega)).trans (hb2)))
          have h2499 := (hF2358.1 (B + 3) (by omega)).trans ((h2351.1 (B + 3) (by omega)).trans ((n2340 (B + 3) (by omega)).trans (hb3)))
          have h2500 := (hF2358.1 (B + 4) (by omega)).trans ((h2351.1 (B + 4) (by omega)).trans ((n2340 (B + 4) (by omega)).trans (hb4)))
          have h2501 := (hF2358.1 (B + 5) (by omega)).trans ((h2351.1 (B + 5) (by omega)).trans ((n2340 (B + 5) (by omega)).trans (hb5)))
          have hb2520 : C_bk S2368 B rc kc wc rn lo kn ab := ⟨h2496, h2497, h2498, h2499, h2500, ⟨f, h2501, hf⟩, ⟨by omega, by omega⟩, ⟨by omega, by omega⟩, ⟨by omega, by omega⟩⟩
          refine T_mono (c_parseStep sc S2368 B fl fp at_ n c1 so pl ct rc kc wc rn lo kn ab a d1 q pile hB ha hp1 ⟨hx1, h2439, h2440, h2441⟩ (by omega) hso hb2520 ⟨hw0, hw1, hw2, hw3, hw4, hw5, hw6, hw7⟩ hr1 (by omega) (by omega)) (fun v2502 S2503 h2504 => ?_)
          rcases h2504 with ⟨c2514, d2515, p2516, hv2511, hsp2513, hp2505, hl2506, hc2517, hw2518, hr2519, hf2507⟩ | ⟨hv2511, hsp2513, ⟨fl2508, fp2509, hn2510, hp2505⟩, ⟨c2514, hl2506, hc2517⟩, hw2518, hf2507⟩
          · skip
            rw [hv2511]
            have hq2521 := sp_step_r (by omega) hsp2513
            show X_T sc 78 (40, [(3, .int (iI i)), (2, .int (iI pile)), (0, .ref 496), (1, .ref a)], [.int (iI p2516)], S2503) _
            refine T_p xr_78_40 xn_78 (pc' := 41) (ls' := [(2, .int (iI p2516)), (3, .int (iI i)), (0, .ref 496), (1, .ref a)]) (st' := []) rfl ?_
            refine T_p xr_78_41 xn_78 (pc' := 42) (ls' := [(2, .int (iI p2516)), (3, .int (iI i)), (0, .ref 496), (1, .ref a)]) (st' := [.int (iI p2516)]) rfl ?_
            refine T_p xr_78_42 xn_78 (pc' := 43) (ls' := [(2, .int (iI p2516)), (3, .int (iI i)), (0, .ref 496), (1, .ref a)]) (st' := [.int (iI (-1)), .int (iI p2516)]) rfl ?_
            refine T_zicmp_ne xr_78_43 (t := 48) (pc' := 46) rfl rfl (fun c2522 => ?_) (fun c2522 => ?_)
            · skip
              have c2522 : ¬ p2516 = (-1) := c2522
              refine T_ziinc xr_78_48 xn_78 (a := i) (z := i + 1) rfl (Nat.le_of_ble_eq_true rfl) (by omega) (ls' := [(3, .int (iI (i + 1))), (2, .int (iI p2516)), (0, .ref 496), (1, .ref a)]) rfl (pc' := 51) rfl ?_
              refine T_p xr_78_51 xn_78 (pc' := 16) (ls' := [(3, .int (iI (i + 1))), (2, .int (iI p2516)), (0, .ref 496), (1, .ref a)]) (st' := []) rfl ?_
              exact ih2355 S2503 (i + 1) c2514 d2515 p2516 hp2505 hl2506 hw2518.1 hw2518.2.1 hw2518.2.2.1 hw2518.2.2.2.1 hw2518.2.2.2.2.1 hw2518.2.2.2.2.2.1 hw2518.2.2.2.2.2.2.1 hw2518.2.2.2.2.2.2.2 (hF2358.tr ((X_Fr.rf).tr (X_Fr.mono ⟨hf2507.1, hf2507.2⟩ (fun q hq => (by omega))))) (by omega) hr2519 (by omega) (by omega) (by omega) (by
                    rw [← hR, sp_sl_s (i := i) (by omega), if_neg (by assumption), hsp2513]
                    rfl) (by omega)
            · skip
              have c2522 : ¬ (¬ p2516 = (-1)) := c2522
              exact (show False by first | contradiction | omega).elim
          · skip
            rw [hv2511]
            show X_T sc 78 (40, [(3, .int (iI i)), (2, .int (iI pile)), (0, .ref 496), (1, .ref a)], [.int (iI (-1))], S2503) _
            refine T_p xr_78_40 xn_78 (pc' := 41) (ls' := [(2, .int (iI (-1))), (3, .int (iI i)), (0, .ref 496), (1, .ref a)]) (st' := []) rfl ?_
            refine T_p xr_78_41 xn_78 (pc' := 42) (ls' := [(2, .int (iI (-1))), (3, .int (iI i)), (0, .ref 496), (1, .ref a)]) (st' := [.int (iI (-1))]) rfl ?_
            refine T_p xr_78_42 xn_78 (pc' := 43) (ls' := [(2, .int (iI (-1))), (3, .int (iI i)), (0, .ref 496), (1, .ref a)]) (st' := [.int (iI (-1)), .int (iI (-1))]) rfl ?_
            refine T_zicmp_nef xr_78_43 (t := 48) (pc' := 46) rfl rfl (by decide) ?_
            refine T_p xr_78_46 xn_78 (pc' := 47) (ls' := [(2, .int (iI (-1))), (3, .int (iI i)), (0, .ref 496), (1, .ref a)]) (st' := [.int (iI 0)]) rfl ?_
            refine T_iret xr_78_47 xf_78.2.2 (by decide) ?_
            refine hQ _ _ ?_
            refine Or.inr ⟨rfl, ?_, ⟨_, _, by omega, hp2505⟩, ⟨c2514, hl2506, by omega⟩, ⟨d1, ⟨hw2518.1, hw2518.2.1, hw2518.2.2.1, hw2518.2.2.2.1, hw2518.2.2.2.2.1, hw2518.2.2.2.2.2.1, hw2518.2.2.2.2.2.2.1, hw2518.2.2.2.2.2.2.2⟩, hr1⟩, ((((X_Fr.rf).tr (X_Fr.of n2340 e2341 (by omega))).tr (X_Fr.mono ⟨h2351.1, h2351.2⟩ (fun q hq => (by omega)))).tr (X_Fr.mono ⟨hF2358.1, hF2358.2⟩ (fun q hq => (by omega)))).tr (X_Fr.mono ⟨hf2507.1, hf2507.2⟩ (fun q hq => (by omega)))⟩
            unfold sp_steps
            rw [← hR]
            first
              | (rw [sp_sl_s (i := i) (by omega), if_neg (by assumption), hsp2513]; rfl)
              | (rw [sp_sl_s (i := i) (by omega), if_pos (by omega)]
                 show (if _ then _ else _) = _
                 (repeat (first | rw [if_pos (by assumption)] | rw [if_neg (by assumption)] | rw [if_pos (by omega)] | rw [if_neg (by omega)])))
              | (rw [show (30 - i).toNat = 0 by omega]
                 show (if _ then _ else _) = _
                 (repeat (first | rw [if_pos (by assumption)] | rw [if_neg (by assumption)] | rw [if_pos (by omega)] | rw [if_neg (by omega)])))
  exact L2354 ((30 : Int) + 1).toNat S2349 0 (X_av n cur) (X_wu d 5 (fun _ => 0)) 0 h2359 h2352 h2360 h2361 h2362 h2363 h2364 h2365 h2366 h2367 ((X_Fr.rf)) (by omega) hr5z (by omega) (by omega) rfl rfl (by omega)
