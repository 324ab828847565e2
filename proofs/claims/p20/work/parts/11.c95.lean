theorem xr_74_0 : X_row 74 0 = some (0, (.iconst 0, 1), (0, 0, 0)) := by decide +kernel
theorem xr_74_1 : X_row 74 1 = some (1, (.istore_n 2, 1), (0, 0, 0)) := by decide +kernel
theorem xr_74_2 : X_row 74 2 = some (2, (.aload_n 1, 1), (0, 0, 0)) := by decide +kernel
theorem xr_74_3 : X_row 74 3 = some (3, (.iconst 0, 1), (0, 0, 0)) := by decide +kernel
theorem xr_74_4 : X_row 74 4 = some (4, (.putfield 183, 3), (8, 5, 9)) := by decide +kernel
theorem xr_74_7 : X_row 74 7 = some (7, (.aload_n 0, 1), (0, 0, 0)) := by decide +kernel
theorem xr_74_8 : X_row 74 8 = some (8, (.getfield 23, 3), (4, 0, 18)) := by decide +kernel
theorem xr_74_11 : X_row 74 11 = some (11, (.invokevirtual 80, 3), (48, 18, 0)) := by decide +kernel
theorem xr_74_14 : X_row 74 14 = some (14, (.iconst 0, 1), (0, 0, 0)) := by decide +kernel
theorem xr_74_15 : X_row 74 15 = some (15, (.istore_n 3, 1), (0, 0, 0)) := by decide +kernel
theorem xr_74_16 : X_row 74 16 = some (16, (.iload_n 3, 1), (0, 0, 0)) := by decide +kernel
theorem xr_74_17 : X_row 74 17 = some (17, (.bipush 30, 2), (0, 0, 0)) := by decide +kernel
theorem xr_74_19 : X_row 74 19 = some (19, (.if_icmp .ge 35, 3), (0, 0, 0)) := by decide +kernel
theorem xr_74_22 : X_row 74 22 = some (22, (.aload_n 0, 1), (0, 0, 0)) := by decide +kernel
theorem xr_74_23 : X_row 74 23 = some (23, (.getfield 23, 3), (4, 0, 18)) := by decide +kernel
theorem xr_74_26 : X_row 74 26 = some (26, (.invokevirtual 39, 3), (44, 6, 0)) := by decide +kernel
theorem xr_74_29 : X_row 74 29 = some (29, (.bipush 59, 2), (0, 0, 0)) := by decide +kernel
theorem xr_74_31 : X_row 74 31 = some (31, (.if_icmp .eq 23, 3), (0, 0, 0)) := by decide +kernel
theorem xr_74_34 : X_row 74 34 = some (34, (.aload_n 0, 1), (0, 0, 0)) := by decide +kernel
theorem xr_74_35 : X_row 74 35 = some (35, (.aload_n 1, 1), (0, 0, 0)) := by decide +kernel
theorem xr_74_36 : X_row 74 36 = some (36, (.iload_n 2, 1), (0, 0, 0)) := by decide +kernel
theorem xr_74_37 : X_row 74 37 = some (37, (.invokevirtual 186, 3), (75, 64, 0)) := by decide +kernel
theorem xr_74_40 : X_row 74 40 = some (40, (.istore_n 2, 1), (0, 0, 0)) := by decide +kernel
theorem xr_74_41 : X_row 74 41 = some (41, (.iload_n 2, 1), (0, 0, 0)) := by decide +kernel
theorem xr_74_42 : X_row 74 42 = some (42, (.iconst (-1), 1), (0, 0, 0)) := by decide +kernel
theorem xr_74_43 : X_row 74 43 = some (43, (.if_icmp .ne 5, 3), (0, 0, 0)) := by decide +kernel
theorem xr_74_46 : X_row 74 46 = some (46, (.iconst 0, 1), (0, 0, 0)) := by decide +kernel
theorem xr_74_47 : X_row 74 47 = some (47, (.ireturn, 1), (0, 0, 0)) := by decide +kernel
theorem xr_74_48 : X_row 74 48 = some (48, (.iinc 3 1, 3), (0, 0, 0)) := by decide +kernel
theorem xr_74_51 : X_row 74 51 = some (51, (.goto (-35), 3), (0, 0, 0)) := by decide +kernel
theorem xr_74_54 : X_row 74 54 = some (54, (.aload_n 0, 1), (0, 0, 0)) := by decide +kernel
theorem xr_74_55 : X_row 74 55 = some (55, (.getfield 23, 3), (4, 0, 18)) := by decide +kernel
theorem xr_74_58 : X_row 74 58 = some (58, (.invokevirtual 39, 3), (44, 6, 0)) := by decide +kernel
theorem xr_74_61 : X_row 74 61 = some (61, (.bipush 59, 2), (0, 0, 0)) := by decide +kernel
theorem xr_74_63 : X_row 74 63 = some (63, (.if_icmp .eq 10, 3), (0, 0, 0)) := by decide +kernel
theorem xr_74_66 : X_row 74 66 = some (66, (.aload_n 0, 1), (0, 0, 0)) := by decide +kernel
theorem xr_74_67 : X_row 74 67 = some (67, (.invokevirtual 67, 3), (63, 12, 0)) := by decide +kernel
theorem xr_74_70 : X_row 74 70 = some (70, (.goto 30, 3), (0, 0, 0)) := by decide +kernel
theorem xr_74_73 : X_row 74 73 = some (73, (.iload_n 2, 1), (0, 0, 0)) := by decide +kernel
theorem xr_74_74 : X_row 74 74 = some (74, (.iconst 1, 1), (0, 0, 0)) := by decide +kernel
theorem xr_74_75 : X_row 74 75 = some (75, (.if_icmp .eq 18, 3), (0, 0, 0)) := by decide +kernel
theorem xr_74_78 : X_row 74 78 = some (78, (.aload_n 0, 1), (0, 0, 0)) := by decide +kernel
theorem xr_74_79 : X_row 74 79 = some (79, (.iconst 5, 1), (0, 0, 0)) := by decide +kernel
theorem xr_74_80 : X_row 74 80 = some (80, (.aload_n 0, 1), (0, 0, 0)) := by decide +kernel
theorem xr_74_81 : X_row 74 81 = some (81, (.getfield 23, 3), (4, 0, 18)) := by decide +kernel
theorem xr_74_84 : X_row 74 84 = some (84, (.invokevirtual 73, 3), (45, 14, 0)) := by decide +kernel
theorem xr_74_87 : X_row 74 87 = some (87, (.invokevirtual 76, 3), (62, 16, 0)) := by decide +kernel
theorem xr_74_90 : X_row 74 90 = some (90, (.goto 10, 3), (0, 0, 0)) := by decide +kernel
theorem xr_74_93 : X_row 74 93 = some (93, (.aload_n 0, 1), (0, 0, 0)) := by decide +kernel
theorem xr_74_94 : X_row 74 94 = some (94, (.getfield 23, 3), (4, 0, 18)) := by decide +kernel
theorem xr_74_97 : X_row 74 97 = some (97, (.invokevirtual 80, 3), (48, 18, 0)) := by decide +kernel
theorem xr_74_100 : X_row 74 100 = some (100, (.aload_n 0, 1), (0, 0, 0)) := by decide +kernel
theorem xr_74_101 : X_row 74 101 = some (101, (.getfield 9, 3), (4, 2, 22)) := by decide +kernel
theorem xr_74_104 : X_row 74 104 = some (104, (.ifCond .ne 7, 3), (0, 0, 0)) := by decide +kernel
theorem xr_74_107 : X_row 74 107 = some (107, (.iconst 1, 1), (0, 0, 0)) := by decide +kernel
theorem xr_74_108 : X_row 74 108 = some (108, (.goto 4, 3), (0, 0, 0)) := by decide +kernel
theorem xr_74_111 : X_row 74 111 = some (111, (.iconst 0, 1), (0, 0, 0)) := by decide +kernel
theorem xr_74_112 : X_row 74 112 = some (112, (.ireturn, 1), (0, 0, 0)) := by decide +kernel
theorem xn_74 : X_nL 74 = 4 := by decide +kernel
theorem xf_74 : X_na 74 = 1 ∧ X_ci 74 = 4 ∧ X_rt 74 = (some .boolean) := by decide +kernel
theorem sp_step_r {n : Int} {so : Int → Int} {ct : Int → Int64} {c : Int} {d : Nat → Int → Int} {pile c2 p2 : Int} {d2 : Nat → Int → Int} (hp : 0 ≤ pile ∧ pile ≤ 16) (h : sp_step n so ct c d pile = some (c2, d2, p2)) : (0 ≤ p2 ∧ p2 ≤ 16) ∧ d2 5 0 = d 5 0 + 1 := by
  have key : ∀ c s v, sp_stF n c s v d pile = some (c2, d2, p2) → (0 ≤ p2 ∧ p2 ≤ 16) ∧ d2 5 0 = d 5 0 + 1 := by
    intro c s v h
    unfold sp_stF at h
    by_cases h1 : s = 64 ∧ (v < 1 ∨ d 4 0 < v)
    · rw [if_pos h1] at h; cases h
    · rw [if_neg h1] at h
      by_cases h2 : ¬ X_isOp s ∧ pile = 16
      · rw [if_pos h2] at h; cases h
      · rw [if_neg h2] at h
        by_cases h3 : X_isOp s ∧ pile < 2
        · rw [if_pos h3] at h; cases h
        · rw [if_neg h3] at h
          by_cases h4 : X_isOp s
          · rw [if_pos h4] at h
            cases h
            have : ¬ pile < 2 := fun z => h3 ⟨h4, z⟩
            exact ⟨by omega, rfl⟩
          · rw [if_neg h4] at h
            cases h
            have : ¬ pile = 16 := fun z => h2 ⟨h4, z⟩
            exact ⟨by omega, rfl⟩
  unfold sp_step at h
  repeat' split at h
  all_goals first | exact key _ _ _ h | cases h
/-- the steps up to a ; (or thirty of them), then the pile -/
noncomputable def sp_sl (n : Int) (so : Int → Int) (ct : Int → Int64) : Nat → Int → (Nat → Int → Int) → Int → Option (Int × (Nat → Int → Int) × Int)
  | 0, c, d, p => some (c, d, p)
  | k + 1, c, d, p => if so c = 59 then some (c, d, p) else (sp_step n so ct c d p).bind fun r => sp_sl n so ct k r.1 r.2.1 r.2.2
noncomputable def sp_steps (n : Int) (so : Int → Int) (ct : Int → Int64) (c : Int) (d : Nat → Int → Int) : Option (Int × (Nat → Int → Int)) :=
  (sp_sl n so ct 30 (X_av n c) (X_wu d 5 (fun _ => 0)) 0).bind fun r => if so r.1 = 59 then (if r.2.2 = 1 then some (X_av n r.1, r.2.1) else none) else none
theorem sp_sl_s {n : Int} {so : Int → Int} {ct : Int → Int64} {i c p : Int} {d : Nat → Int → Int} (h : 0 ≤ i ∧ i ≤ 29) : sp_sl n so ct (30 - i).toNat c d p = if so c = 59 then some (c, d, p) else (sp_step n so ct c d p).bind fun r => sp_sl n so ct (30 - (i + 1)).toNat r.1 r.2.1 r.2.2 := by
  rw [show (30 - i).toNat = (30 - (i + 1)).toNat + 1 by omega]
  rfl
theorem c_parseSteps (sc : X_Sc) (S : X_S) (B : Nat) (fl fp at_ n cur : Int) (so pl : Int → Int) (ct : Int → Int64) (rc kc wc : Int) (rn : Int → Int64) (lo : Int → Int) (kn : Int → Int64) (ab : Int → Int) (a : Nat) (d : Nat → Int → Int) (q : Int → Int64) (hB : 4 ≤ B ∧ B + 246 ≤ 496) (ha : B + 6 ≤ a ∧ a + 7 < B + 246) (hp : C_pa S B fl fp) (hx : C_lx S at_ n cur so pl ct) (hcu : 0 ≤ cur ∧ cur < n ∧ n ≤ 2001) (hso : ∀ i, 0 ≤ i → i < n → 0 ≤ so i ∧ so i ≤ 255) (hb : C_bk S B rc kc wc rn lo kn ab) (hw : C_wd S a d q) (hr : X_wr d) (hfl : fl = 0) : X_T sc 74 (0, [(0, .ref 496), (1, .ref a)], [], S) (fun v S' => (v = some (.int (iI 1)) ∧ ∃ c2 d2, sp_steps n so ct cur d = some (c2, d2) ∧ C_pa S' B fl fp ∧ S'.1 497 = .inr (3, [.ref 2, .int (iI at_), .int (iI n), .ref 498, .ref 499, .ref 500, .int (iI (c2))]) ∧ (0 ≤ c2 ∧ c2 < n) ∧ C_wd S' a d2 q ∧ X_wr d2 ∧ X_Fr (fun q => q = 496 ∨ q = 497 ∨ (a ≤ q ∧ q ≤ a + 7)) S S') ∨ (v = some (.int (iI 0)) ∧ sp_steps n so ct cur d = none ∧ (∃ fl' fp', (¬ fl' = 0 ∧ 0 ≤ fl' ∧ fl' ≤ 5) ∧ C_pa S' B fl' fp') ∧ (∃ c2, S'.1 497 = .inr (3, [.ref 2, .int (iI at_), .int (iI n), .ref 498, .ref 499, .ref 500, .int (iI (c2))]) ∧ (0 ≤ c2 ∧ c2 < n)) ∧ (∃ d2, C_wd S' a d2 q ∧ X_wr d2) ∧ X_Fr (fun q => q = 496 ∨ q = 497 ∨ (a ≤ q ∧ q ≤ a + 7)) S S')) := by
  obtain ⟨hb0, hb1, hb2, hb3, hb4, ⟨f, hb5, hf⟩, ⟨hrc, hrcb⟩, ⟨hkc, hkcb⟩, ⟨hwc, hwcb⟩⟩ := id hb
  obtain ⟨⟨hr0, hr0b⟩, ⟨hr1, hr1b⟩, ⟨hr2, hr2b⟩, ⟨hr3, hr3b⟩, ⟨hr4, hr4b⟩, ⟨hr5, hr5b⟩, ⟨hr6, hr6b⟩, ⟨hr7, hr7b⟩⟩ := id hr
  refine X_QI (fun Q hQ => ?_)
  refine T_p xr_74_0 xn_74 (pc' := 1) (ls' := [(0, .ref 496), (1, .ref a)]) (st' := [.int (iI 0)]) rfl ?_
  refine T_p xr_74_1 xn_74 (pc' := 2) (ls' := [(2, .int (iI 0)), (0, .ref 496), (1, .ref a)]) (st' := []) rfl ?_
  refine T_p xr_74_2 xn_74 (pc' := 3) (ls' := [(2, .int (iI 0)), (0, .ref 496), (1, .ref a)]) (st' := [.ref a]) rfl ?_
  refine T_p xr_74_3 xn_74 (pc' := 4) (ls' := [(2, .int (iI 0)), (0, .ref 496), (1, .ref a)]) (st' := [.int (iI 0), .ref a]) rfl ?_
  refine T_put xr_74_4 hw.1 rfl (Nat.le_of_ble_eq_true rfl) rfl (fs' := [.int (iI (d 0 0)), .int (iI (d 1 0)), .int (iI (d 2 0)), .int (iI (d 3 0)), .int (iI (d 4 0)), .int (iI 0), .int (iI (d 6 0)), .int (iI (d 7 0)), .ref (a + 1), .ref (a + 2), .ref (a + 3), .ref (a + 4), .ref (a + 5), .ref (a + 6), .ref (a + 7)]) rfl (pc' := 7) rfl (fun S2237 h2238 n2239 e2240 => ?_)
  have hr5z : X_wr (X_wu d 5 (fun _ => 0)) := X_wr_5 hr (by omega)
  refine T_p xr_74_7 xn_74 (pc' := 8) (ls' := [(2, .int (iI 0)), (0, .ref 496), (1, .ref a)]) (st' := [.ref 496]) rfl ?_
  have h2241 := (n2239 496 (by omega)).trans (hp)
  refine T_get xr_74_8 h2241 rfl (v := .ref 497) rfl (pc' := 11) rfl ?_
  have h2242 := (n2239 497 (by omega)).trans (hx.1)
  refine T_cv (S := S2237) (q := 497) xr_74_11 xf_48.1 xf_48.2.1 xn_48 (as := []) (r := []) rfl h2242 (Nat.le_of_ble_eq_true rfl) (Nat.le_of_ble_eq_true rfl) (pc' := 14) rfl (ls' := [(0, .ref 497)]) rfl ?_
  have h2243 := (n2239 498 (by omega)).trans (hx.2.1)
  have h2244 := (n2239 499 (by omega)).trans (hx.2.2.1)
  have h2245 := (n2239 500 (by omega)).trans (hx.2.2.2)
  refine T_mono (c_advance sc S2237 at_ n cur so pl ct ⟨h2242, h2243, h2244, h2245⟩ (by omega)) (fun v2247 S2248 h2246 => ?_)
  obtain ⟨h2249, h2251, h2250⟩ := h2246
  rw [h2249]
  show X_T sc 74 (14, [(2, .int (iI 0)), (0, .ref 496), (1, .ref a)], [], S2248) _
  have hv2252 := X_av_r (n := n) (c := cur) (by omega)
  refine T_p xr_74_14 xn_74 (pc' := 15) (ls' := [(2, .int (iI 0)), (0, .ref 496), (1, .ref a)]) (st' := [.int (iI 0)]) rfl ?_
  refine T_p xr_74_15 xn_74 (pc' := 16) (ls' := [(3, .int (iI 0)), (2, .int (iI 0)), (0, .ref 496), (1, .ref a)]) (st' := []) rfl ?_
  have h2258 := (h2250.1 496 (by omega)).trans (h2241)
  have h2259 := (h2250.1 a (by omega)).trans (h2238)
  have h2260 := (h2250.1 (a + 1) (by omega)).trans ((n2239 (a + 1) (by omega)).trans (hw.2.1))
  have h2261 := (h2250.1 (a + 2) (by omega)).trans ((n2239 (a + 2) (by omega)).trans (hw.2.2.1))
  have h2262 := (h2250.1 (a + 3) (by omega)).trans ((n2239 (a + 3) (by omega)).trans (hw.2.2.2.1))
  have h2263 := (h2250.1 (a + 4) (by omega)).trans ((n2239 (a + 4) (by omega)).trans (hw.2.2.2.2.1))
  have h2264 := (h2250.1 (a + 5) (by omega)).trans ((n2239 (a + 5) (by omega)).trans (hw.2.2.2.2.2.1))
  have h2265 := (h2250.1 (a + 6) (by omega)).trans ((n2239 (a + 6) (by omega)).trans (hw.2.2.2.2.2.2.1))
  have h2266 := (h2250.1 (a + 7) (by omega)).trans ((n2239 (a + 7) (by omega)).trans (hw.2.2.2.2.2.2.2))
  have L2253 : ∀ (m2255 : Nat) (S2267 : X_S) (i : Int) (c1 : Int) (d1 : Nat → Int → Int) (pile : Int) (hp1 : S2267.1 496 = .inr (4, [.ref 497, .ref B, .int (iI fl), .int (iI fp)])) (hx1 : S2267.1 497 = .inr (3, [.ref 2, .int (iI at_), .int (iI n), .ref 498, .ref 499, .ref 500, .int (iI c1)])) (hw0 : S2267.1 a = .inr (8, [.int (iI (d1 0 0)), .int (iI (d1 1 0)), .int (iI (d1 2 0)), .int (iI (d1 3 0)), .int (iI (d1 4 0)), .int (iI (d1 5 0)), .int (iI (d1 6 0)), .int (iI (d1 7 0)), .ref (a + 1), .ref (a + 2), .ref (a + 3), .ref (a + 4), .ref (a + 5), .ref (a + 6), .ref (a + 7)])) (hw1 : S2267.1 (a + 1) = .inl (.long, 8, .inr (.inl fun k : Nat => q (k : Int)))) (hw2 : S2267.1 (a + 2) = .inl (.int, 8, .inl fun k : Nat => iI ((d1 8) (k : Int)))) (hw3 : S2267.1 (a + 3) = .inl (.int, 4, .inl fun k : Nat => iI ((d1 9) (k : Int)))) (hw4 : S2267.1 (a + 4) = .inl (.int, 4, .inl fun k : Nat => iI ((d1 10) (k : Int)))) (hw5 : S2267.1 (a + 5) = .inl (.int, 4, .inl fun k : Nat => iI ((d1 11) (k : Int)))) (hw6 : S2267.1 (a + 6) = .inl (.int, 30, .inl fun k : Nat => iI ((d1 12) (k : Int)))) (hw7 : S2267.1 (a + 7) = .inl (.int, 30, .inl fun k : Nat => iI ((d1 13) (k : Int)))) (hF2257 : X_Fr (fun q => q = 496 ∨ q = 497 ∨ (a ≤ q ∧ q ≤ a + 7)) S2248 S2267) (hi : 0 ≤ i ∧ i ≤ 30) (hr1 : X_wr d1) (hc1 : 0 ≤ c1 ∧ c1 < n) (hpi : 0 ≤ pile ∧ pile ≤ 16) (h5 : d1 5 0 = i) (hR : sp_sl n so ct (30 - i).toNat c1 d1 pile = sp_sl n so ct 30 (X_av n cur) (X_wu d 5 (fun _ => 0)) 0) (hm2256 : 30 - i < m2255), X_T sc 74 (16, [(3, .int (iI i)), (2, .int (iI pile)), (0, .ref 496), (1, .ref a)], [], S2267) Q := by
    intro m2255
    induction m2255 with
    | zero =>
      intro S2267 i c1 d1 pile hp1 hx1 hw0 hw1 hw2 hw3 hw4 hw5 hw6 hw7 hF2257 hi hr1 hc1 hpi h5 hR hm2256
      exact (show False by omega).elim
    | succ m2255 ih2254 =>
      intro S2267 i c1 d1 pile hp1 hx1 hw0 hw1 hw2 hw3 hw4 hw5 hw6 hw7 hF2257 hi hr1 hc1 hpi h5 hR hm2256
      obtain ⟨⟨_, _⟩, ⟨_, _⟩, ⟨_, _⟩, ⟨_, _⟩, ⟨_, _⟩, ⟨_, _⟩, ⟨_, _⟩, ⟨_, _⟩⟩ := id hr1
      refine T_p xr_74_16 xn_74 (pc' := 17) (ls' := [(3, .int (iI i)), (2, .int (iI pile)), (0, .ref 496), (1, .ref a)]) (st' := [.int (iI i)]) rfl ?_
      refine T_p xr_74_17 xn_74 (pc' := 19) (ls' := [(3, .int (iI i)), (2, .int (iI pile)), (0, .ref 496), (1, .ref a)]) (st' := [.int (iI 30), .int (iI i)]) rfl ?_
      refine T_zicmp_ge xr_74_19 (t := 54) (pc' := 22) rfl rfl (fun c2268 => ?_) (fun c2268 => ?_)
      · skip
        have c2268 : 30 ≤ i := c2268
        refine T_p xr_74_54 xn_74 (pc' := 55) (ls' := [(3, .int (iI i)), (2, .int (iI pile)), (0, .ref 496), (1, .ref a)]) (st' := [.ref 496]) rfl ?_
        refine T_get xr_74_55 hp1 rfl (v := .ref 497) rfl (pc' := 58) rfl ?_
        refine T_cv (S := S2267) (q := 497) xr_74_58 xf_44.1 xf_44.2.1 xn_44 (as := []) (r := []) rfl hx1 (Nat.le_of_ble_eq_true rfl) (Nat.le_of_ble_eq_true rfl) (pc' := 61) rfl (ls' := [(0, .ref 497)]) rfl ?_
        have h2269 := (hF2257.1 498 (by omega)).trans ((h2250.1 498 (by omega)).trans (h2243))
        have h2270 := (hF2257.1 499 (by omega)).trans ((h2250.1 499 (by omega)).trans (h2244))
        have h2271 := (hF2257.1 500 (by omega)).trans ((h2250.1 500 (by omega)).trans (h2245))
        refine T_mono (c_sort sc S2267 at_ n c1 so pl ct ⟨hx1, h2269, h2270, h2271⟩ (by omega)) (fun v2273 S2274 h2272 => ?_)
        obtain ⟨h2275, h2276⟩ := h2272
        rw [h2275, h2276]
        show X_T sc 74 (61, [(3, .int (iI i)), (2, .int (iI pile)), (0, .ref 496), (1, .ref a)], [.int (iI (so c1))], S2267) _
        have hs2277 := hso c1 (by omega) (by omega)
        refine T_p xr_74_61 xn_74 (pc' := 63) (ls' := [(3, .int (iI i)), (2, .int (iI pile)), (0, .ref 496), (1, .ref a)]) (st' := [.int (iI 59), .int (iI (so c1))]) rfl ?_
        refine T_zicmp_eq xr_74_63 (t := 73) (pc' := 66) rfl rfl (fun c2278 => ?_) (fun c2278 => ?_)
        · skip
          have c2278 : (so c1) = 59 := c2278
          refine T_p xr_74_73 xn_74 (pc' := 74) (ls' := [(3, .int (iI i)), (2, .int (iI pile)), (0, .ref 496), (1, .ref a)]) (st' := [.int (iI pile)]) rfl ?_
          refine T_p xr_74_74 xn_74 (pc' := 75) (ls' := [(3, .int (iI i)), (2, .int (iI pile)), (0, .ref 496), (1, .ref a)]) (st' := [.int (iI 1), .int (iI pile)]) rfl ?_
          refine T_zicmp_eq xr_74_75 (t := 93) (pc' := 78) rfl rfl (fun c2279 => ?_) (fun c2279 => ?_)
          · skip
            have c2279 : pile = 1 := c2279
            refine T_p xr_74_93 xn_74 (pc' := 94) (ls' := [(3, .int (iI i)), (2, .int (iI pile)), (0, .ref 496), (1, .ref a)]) (st' := [.ref 496]) rfl ?_
            refine T_get xr_74_94 hp1 rfl (v := .ref 497) rfl (pc' := 97) rfl ?_
            refine T_cv (S := S2267) (q := 497) xr_74_97 xf_48.1 xf_48.2.1 xn_48 (as := []) (r := []) rfl hx1 (Nat.le_of_ble_eq_true rfl) (Nat.le_of_ble_eq_true rfl) (pc' := 100) rfl (ls' := [(0, .ref 497)]) rfl ?_
            refine T_mono (c_advance sc S2267 at_ n c1 so pl ct ⟨hx1, h2269, h2270, h2271⟩ (by omega)) (fun v2281 S2282 h2280 => ?_)
            obtain ⟨h2283, h2285, h2284⟩ := h2280
            rw [h2283]
            show X_T sc 74 (100, [(3, .int (iI i)), (2, .int (iI pile)), (0, .ref 496), (1, .ref a)], [], S2282) _
            have hv2286 := X_av_r (n := n) (c := c1) (by omega)
            refine T_p xr_74_100 xn_74 (pc' := 101) (ls' := [(3, .int (iI i)), (2, .int (iI pile)), (0, .ref 496), (1, .ref a)]) (st' := [.ref 496]) rfl ?_
            have h2287 := (h2284.1 496 (by omega)).trans (hp1)
            refine T_get xr_74_101 h2287 rfl (v := .int (iI fl)) rfl (pc' := 104) rfl ?_
            refine T_zif_ne xr_74_104 (t := 111) (pc' := 107) rfl rfl (fun c2288 => ?_) (fun c2288 => ?_)
            · skip
              have c2288 : ¬ fl = 0 := c2288
              exact (show False by first | contradiction | omega).elim
            · skip
              have c2288 : ¬ (¬ fl = 0) := c2288
              refine T_p xr_74_107 xn_74 (pc' := 108) (ls' := [(3, .int (iI i)), (2, .int (iI pile)), (0, .ref 496), (1, .ref a)]) (st' := [.int (iI 1)]) rfl ?_
              refine T_p xr_74_108 xn_74 (pc' := 112) (ls' := [(3, .int (iI i)), (2, .int (iI pile)), (0, .ref 496), (1, .ref a)]) (st' := [.int (iI 1)]) rfl ?_
              refine T_iret xr_74_112 xf_74.2.2 (by decide) ?_
              refine hQ _ _ ?_
              have h2289 := (h2284.1 a (by omega)).trans (hw0)
              have h2290 := (h2284.1 (a + 1) (by omega)).trans (hw1)
              have h2291 := (h2284.1 (a + 2) (by omega)).trans (hw2)
              have h2292 := (h2284.1 (a + 3) (by omega)).trans (hw3)
              have h2293 := (h2284.1 (a + 4) (by omega)).trans (hw4)
              have h2294 := (h2284.1 (a + 5) (by omega)).trans (hw5)
              have h2295 := (h2284.1 (a + 6) (by omega)).trans (hw6)
              have h2296 := (h2284.1 (a + 7) (by omega)).trans (hw7)
              refine Or.inl ⟨rfl, X_av n c1, d1, ?_, h2287, h2285, by omega, ⟨h2289, h2290, h2291, h2292, h2293, h2294, h2295, h2296⟩, hr1, ((((X_Fr.rf).tr (X_Fr.of n2239 e2240 (by omega))).tr (X_Fr.mono ⟨h2250.1, h2250.2⟩ (fun q hq => (by omega)))).tr (X_Fr.mono ⟨hF2257.1, hF2257.2⟩ (fun q hq => (by omega)))).tr (X_Fr.mono ⟨h2284.1, h2284.2⟩ (fun q hq => (by omega)))⟩
              unfold sp_steps
              rw [← hR]
              first
                | (rw [sp_sl_s (i := i) (by omega), if_neg (by assumption), if_pos rfl]; rfl)
                | (rw [sp_sl_s (i := i) (by omega), if_pos (by omega)]
                   show (if _ then _ else _) = _
                   (repeat (first | rw [if_pos (by assumption)] | rw [if_neg (by assumption)] | rw [if_pos (by omega)] | rw [if_neg (by omega)])))
                | (rw [show (30 - i).toNat = 0 by omega]
                   show (if _ then _ else _) = _
                   (repeat (first | rw [if_pos (by assumption)] | rw [if_neg (by assumption)] | rw [if_pos (by omega)] | rw [if_neg (by omega)])))
          · skip
            have c2279 : ¬ (pile = 1) := c2279
            refine T_p xr_74_78 xn_74 (pc' := 79) (ls' := [(3, .int (iI i)), (2, .int (iI pile)), (0, .ref 496), (1, .ref a)]) (st' := [.ref 496]) rfl ?_
            refine T_p xr_74_79 xn_74 (pc' := 80) (ls' := [(3, .int (iI i)), (2, .int (iI pile)), (0, .ref 496), (1, .ref a)]) (st' := [.int (iI 5), .ref 496]) rfl ?_
            refine T_p xr_74_80 xn_74 (pc' := 81) (ls' := [(3, .int (iI i)), (2, .int (iI pile)), (0, .ref 496), (1, .ref a)]) (st' := [.ref 496, .int (iI 5), .ref 496]) rfl ?_
            refine T_get xr_74_81 hp1 rfl (v := .ref 497) rfl (pc' := 84) rfl ?_
            refine T_cv (S := S2267) (q := 497) xr_74_84 xf_45.1 xf_45.2.1 xn_45 (as := []) (r := [.int (iI 5), .ref 496]) rfl hx1 (Nat.le_of_ble_eq_true rfl) (Nat.le_of_ble_eq_true rfl) (pc' := 87) rfl (ls' := [(0, .ref 497)]) rfl ?_
            refine T_mono (c_place sc S2267 at_ n c1 so pl ct ⟨hx1, h2269, h2270, h2271⟩ (by omega)) (fun v2298 S2299 h2297 => ?_)
            obtain ⟨h2300, h2301⟩ := h2297
            rw [h2300, h2301]
            show X_T sc 74 (87, [(3, .int (iI i)), (2, .int (iI pile)), (0, .ref 496), (1, .ref a)], [.int (iI (pl c1)), .int (iI 5), .ref 496], S2267) _
            refine T_cv (S := S2267) (q := 496) xr_74_87 xf_62.1 xf_62.2.1 xn_62 (as := [.int (iI 5), .int (iI (pl c1))]) (r := []) rfl hp1 (Nat.le_of_ble_eq_true rfl) (Nat.le_of_ble_eq_true rfl) (pc' := 90) rfl (ls' := [(0, .ref 496), (1, .int (iI 5)), (2, .int (iI (pl c1)))]) rfl ?_
            refine T_p xr_62_0 xn_62 (pc' := 1) (ls' := [(0, .ref 496), (1, .int (iI 5)), (2, .int (iI (pl c1)))]) (st' := [.ref 496]) rfl ?_
            refine T_p xr_62_1 xn_62 (pc' := 2) (ls' := [(0, .ref 496), (1, .int (iI 5)), (2, .int (iI (pl c1)))]) (st' := [.int (iI 5), .ref 496]) rfl ?_
            refine T_put xr_62_2 hp1 rfl (Nat.le_of_ble_eq_true rfl) rfl (fs' := [.ref 497, .ref B, .int (iI 5), .int (iI fp)]) rfl (pc' := 5) rfl (fun S2302 h2303 n2304 e2305 => ?_)
            refine T_p xr_62_5 xn_62 (pc' := 6) (ls' := [(0, .ref 496), (1, .int (iI 5)), (2, .int (iI (pl c1)))]) (st' := [.ref 496]) rfl ?_
            refine T_p xr_62_6 xn_62 (pc' := 7) (ls' := [(0, .ref 496), (1, .int (iI 5)), (2, .int (iI (pl c1)))]) (st' := [.int (iI (pl c1)), .ref 496]) rfl ?_
            refine T_put xr_62_7 h2303 rfl (Nat.le_of_ble_eq_true rfl) rfl (fs' := [.ref 497, .ref B, .int (iI 5), .int (iI (pl c1))]) rfl (pc' := 10) rfl (fun S2306 h2307 n2308 e2309 => ?_)
            refine T_vret xr_62_10 xf_62.2.2 ?_
            show X_T sc 74 (90, [(3, .int (iI i)), (2, .int (iI pile)), (0, .ref 496), (1, .ref a)], [], S2306) _
            refine T_p xr_74_90 xn_74 (pc' := 100) (ls' := [(3, .int (iI i)), (2, .int (iI pile)), (0, .ref 496), (1, .ref a)]) (st' := []) rfl ?_
            refine T_p xr_74_100 xn_74 (pc' := 101) (ls' := [(3, .int (iI i)), (2, .int (iI pile)), (0, .ref 496), (1, .ref a)]) (st' := [.ref 496]) rfl ?_
            refine T_get xr_74_101 h2307 rfl (v := .int (iI 5)) rfl (pc' := 104) rfl ?_
            refine T_zif_net xr_74_104 (t := 111) rfl (by decide) ?_
            refine T_p xr_74_111 xn_74 (pc' := 112) (ls' := [(3, .int (iI i)), (2, .int (iI pile)), (0, .ref 496), (1, .ref a)]) (st' := [.int (iI 0)]) rfl ?_
            refine T_iret xr_74_112 xf_74.2.2 (by decide) ?_
            refine hQ _ _ ?_
            have h2310 := (n2308 497 (by decide)).trans ((n2304 497 (by decide)).trans (hx1))
            have h2311 := (n2308 a (by omega)).trans ((n2304 a (by omega)).trans (hw0))
            have h2312 := (n2308 (a + 1) (by omega)).trans ((n2304 (a + 1) (by omega)).trans (hw1))
            have h2313 := (n2308 (a + 2) (by omega)).trans ((n2304 (a + 2) (by omega)).trans (hw2))
            have h2314 := (n2308 (a + 3) (by omega)).trans ((n2304 (a + 3) (by omega)).trans (hw3))
            have h2315 := (n2308 (a + 4) (by omega)).trans ((n2304 (a + 4) (by omega)).trans (hw4))
            have h2316 := (n2308 (a + 5) (by omega)).trans ((n2304 (a + 5) (by omega)).trans (hw5))
            have h2317 := (n2308 (a + 6) (by omega)).trans ((n2304 (a + 6) (by omega)).trans (hw6))
            have h2318 := (n2308 (a + 7) (by omega)).trans ((n2304 (a + 7) (by omega)).trans (hw7))
            refine Or.inr ⟨rfl, ?_, ⟨_, _, by omega, h2307⟩, ⟨c1, h2310, by omega⟩, ⟨d1, ⟨h2311, h2312, h2313, h2314, h2315, h2316, h2317, h2318⟩, hr1⟩, (((((X_Fr.rf).tr (X_Fr.of n2239 e2240 (by omega))).tr (X_Fr.mono ⟨h2250.1, h2250.2⟩ (fun q hq => (by omega)))).tr (X_Fr.mono ⟨hF2257.1, hF2257.2⟩ (fun q hq => (by omega)))).tr (X_Fr.of n2304 e2305 (by omega))).tr (X_Fr.of n2308 e2309 (by omega))⟩
            unfold sp_steps
            rw [← hR]
            first
              | (rw [sp_sl_s (i := i) (by omega), if_neg (by assumption), if_pos rfl]; rfl)
              | (rw [sp_sl_s (i := i) (by omega), if_pos (by omega)]
                 show (if _ then _ else _) = _
                 (repeat (first | rw [if_pos (by assumption)] | rw [if_neg (by assumption)] | rw [if_pos (by omega)] | rw [if_neg (by omega)])))
              | (rw [show (30 - i).toNat = 0 by omega]
                 show (if _ then _ else _) = _
                 (repeat (first | rw [if_pos (by assumption)] | rw [if_neg (by assumption)] | rw [if_pos (by omega)] | rw [if_neg (by omega)])))
        · skip
          have c2278 : ¬ ((so c1) = 59) := c2278
          refine T_p xr_74_66 xn_74 (pc' := 67) (ls' := [(3, .int (iI i)), (2, .int (iI pile)), (0, .ref 496), (1, .ref a)]) (st' := [.ref 496]) rfl ?_
          refine T_cv (S := S2267) (q := 496) xr_74_67 xf_63.1 xf_63.2.1 xn_63 (as := []) (r := []) rfl hp1 (Nat.le_of_ble_eq_true rfl) (Nat.le_of_ble_eq_true rfl) (pc' := 70) rfl (ls' := [(0, .ref 496)]) rfl ?_
          refine T_mono (c_refuse sc S2267 B fl fp at_ n c1 so pl ct hp1 ⟨hx1, h2269, h2270, h2271⟩ (by omega) hso) (fun v2319 S2320 h2321 => ?_)
          obtain ⟨h2322, ⟨fl2323, fp2324, hn2325, hp2326⟩, hf2327⟩ := h2321
          rw [h2322]
          show X_T sc 74 (70, [(3, .int (iI i)), (2, .int (iI pile)), (0, .ref 496), (1, .ref a)], [], S2320) _
          refine T_p xr_74_70 xn_74 (pc' := 100) (ls' := [(3, .int (iI i)), (2, .int (iI pile)), (0, .ref 496), (1, .ref a)]) (st' := []) rfl ?_
          refine T_p xr_74_100 xn_74 (pc' := 101) (ls' := [(3, .int (iI i)), (2, .int (iI pile)), (0, .ref 496), (1, .ref a)]) (st' := [.ref 496]) rfl ?_
          refine T_get xr_74_101 hp2326 rfl (v := .int (iI fl2323)) rfl (pc' := 104) rfl ?_
          refine T_zif_ne xr_74_104 (t := 111) (pc' := 107) rfl rfl (fun c2328 => ?_) (fun c2328 => ?_)
          · skip
            have c2328 : ¬ fl2323 = 0 := c2328
            refine T_p xr_74_111 xn_74 (pc' := 112) (ls' := [(3, .int (iI i)), (2, .int (iI pile)), (0, .ref 496), (1, .ref a)]) (st' := [.int (iI 0)]) rfl ?_
            refine T_iret xr_74_112 xf_74.2.2 (by decide) ?_
            refine hQ _ _ ?_
            have h2329 := (hf2327.1 497 (by omega)).trans (hx1)
            have h2330 := (hf2327.1 a (by omega)).trans (hw0)
            have h2331 := (hf2327.1 (a + 1) (by omega)).trans (hw1)
            have h2332 := (hf2327.1 (a + 2) (by omega)).trans (hw2)
            have h2333 := (hf2327.1 (a + 3) (by omega)).trans (hw3)
            have h2334 := (hf2327.1 (a + 4) (by omega)).trans (hw4)
            have h2335 := (hf2327.1 (a + 5) (by omega)).trans (hw5)
            have h2336 := (hf2327.1 (a + 6) (by omega)).trans (hw6)
            have h2337 := (hf2327.1 (a + 7) (by omega)).trans (hw7)
            refine Or.inr ⟨rfl, ?_, ⟨_, _, by omega, hp2326⟩, ⟨c1, h2329, by omega⟩, ⟨d1, ⟨h2330, h2331, h2332, h2333, h2334, h2335, h2336, h2337⟩, hr1⟩, ((((X_Fr.rf).tr (X_Fr.of n2239 e2240 (by omega))).tr (X_Fr.mono ⟨h2250.1, h2250.2⟩ (fun q hq => (by omega)))).tr (X_Fr.mono ⟨hF2257.1, hF2257.2⟩ (fun q hq => (by omega)))).tr (X_Fr.mono ⟨hf2327.1, hf2327.2⟩ (fun q hq => (by omega)))⟩
            unfold sp_steps
            rw [← hR]
            first
              | (rw [sp_sl_s (i := i) (by omega), if_neg (by assumption), if_pos rfl]; rfl)
              | (rw [sp_sl_s (i := i) (by omega), if_pos (by omega)]
                 show (if _ then _ else _) = _
                 (repeat (first | rw [if_pos (by assumption)] | rw [if_neg (by assumption)] | rw [if_pos (by omega)] | rw [if_neg (by omega)])))
              | (rw [show (30 - i).toNat = 0 by omega]
                 show (if _ then _ else _) = _
                 (repeat (first | rw [if_pos (by assumption)] | rw [if_neg (by assumption)] | rw [if_pos (by omega)] | rw [if_neg (by omega)])))
          · skip
            have c2328 : ¬ (¬ fl2323 = 0) := c2328
            exact (show False by first | contradiction | omega).elim
      · skip
        have c2268 : ¬ (30 ≤ i) := c2268
        refine T_p xr_74_22 xn_74 (pc' := 23) (ls' := [(3, .int (iI i)), (2, .int (iI pile)), (0, .ref 496), (1, .ref a)]) (st' := [.ref 496]) rfl ?_
        refine T_get xr_74_23 hp1 rfl (v := .ref 497) rfl (pc' := 26) rfl ?_
        refine T_cv (S := S2267) (q := 497) xr_74_26 xf_44.1 xf_44.2.1 xn_44 (as := []) (r := []) rfl hx1 (Nat.le_of_ble_eq_true rfl) (Nat.le_of_ble_eq_true rfl) (pc' := 29) rfl (ls' := [(0, .ref 497)]) rfl ?_
        have h2338 := (hF2257.1 498 (by omega)).trans ((h2250.1 498 (by omega)).trans (h2243))
        have h2339 := (hF2257.1 499 (by omega)).trans ((h2250.1 499 (by omega)).trans (h2244))
        have h2340 := (hF2257.1 500 (by omega)).trans ((h2250.1 500 (by omega)).trans (h2245))
        refine T_mono (c_sort sc S2267 at_ n c1 so pl ct ⟨hx1, h2338, h2339, h2340⟩ (by omega)) (fun v2342 S2343 h2341 => ?_)
        obtain ⟨h2344, h2345⟩ := h2341
        rw [h2344, h2345]
        show X_T sc 74 (29, [(3, .int (iI i)), (2, .int (iI pile)), (0, .ref 496), (1, .ref a)], [.int (iI (so c1))], S2267) _
        have hs2346 := hso c1 (by omega) (by omega)
        refine T_p xr_74_29 xn_74 (pc' := 31) (ls' := [(3, .int (iI i)), (2, .int (iI pile)), (0, .ref 496), (1, .ref a)]) (st' := [.int (iI 59), .int (iI (so c1))]) rfl ?_
        refine T_zicmp_eq xr_74_31 (t := 54) (pc' := 34) rfl rfl (fun c2347 => ?_) (fun c2347 => ?_)
        · skip
          have c2347 : (so c1) = 59 := c2347
          refine T_p xr_74_54 xn_74 (pc' := 55) (ls' := [(3, .int (iI i)), (2, .int (iI pile)), (0, .ref 496), (1, .ref a)]) (st' := [.ref 496]) rfl ?_
          refine T_get xr_74_55 hp1 rfl (v := .ref 497) rfl (pc' := 58) rfl ?_
          refine T_cv (S := S2267) (q := 497) xr_74_58 xf_44.1 xf_44.2.1 xn_44 (as := []) (r := []) rfl hx1 (Nat.le_of_ble_eq_true rfl) (Nat.le_of_ble_eq_true rfl) (pc' := 61) rfl (ls' := [(0, .ref 497)]) rfl ?_
          refine T_mono (c_sort sc S2267 at_ n c1 so pl ct ⟨hx1, h2338, h2339, h2340⟩ (by omega)) (fun v2349 S2350 h2348 => ?_)
          obtain ⟨h2351, h2352⟩ := h2348
          rw [h2351, h2352]
          show X_T sc 74 (61, [(3, .int (iI i)), (2, .int (iI pile)), (0, .ref 496), (1, .ref a)], [.int (iI (so c1))], S2267) _
          have hs2353 := hso c1 (by omega) (by omega)
          refine T_p xr_74_61 xn_74 (pc' := 63) (ls' := [(3, .int (iI i)), (2, .int (iI pile)), (0, .ref 496), (1, .ref a)]) (st' := [.int (iI 59), .int (iI (so c1))]) rfl ?_
          refine T_zicmp_eq xr_74_63 (t := 73) (pc' := 66) rfl rfl (fun c2354 => ?_) (fun c2354 => ?_)
          · skip
            have c2354 : (so c1) = 59 := c2354
            refine T_p xr_74_73 xn_74 (pc' := 74) (ls' := [(3, .int (iI i)), (2, .int (iI pile)), (0, .ref 496), (1, .ref a)]) (st' := [.int (iI pile)]) rfl ?_
            refine T_p xr_74_74 xn_74 (pc' := 75) (ls' := [(3, .int (iI i)), (2, .int (iI pile)), (0, .ref 496), (1, .ref a)]) (st' := [.int (iI 1), .int (iI pile)]) rfl ?_
            refine T_zicmp_eq xr_74_75 (t := 93) (pc' := 78) rfl rfl (fun c2355 => ?_) (fun c2355 => ?_)
            · skip
              have c2355 : pile = 1 := c2355
              refine T_p xr_74_93 xn_74 (pc' := 94) (ls' := [(3, .int (iI i)), (2, .int (iI pile)), (0, .ref 496), (1, .ref a)]) (st' := [.ref 496]) rfl ?_
              refine T_get xr_74_94 hp1 rfl (v := .ref 497) rfl (pc' := 97) rfl ?_
              refine T_cv (S := S2267) (q := 497) xr_74_97 xf_48.1 xf_48.2.1 xn_48 (as := []) (r := []) rfl hx1 (Nat.le_of_ble_eq_true rfl) (Nat.le_of_ble_eq_true rfl) (pc' := 100) rfl (ls' := [(0, .ref 497)]) rfl ?_
              refine T_mono (c_advance sc S2267 at_ n c1 so pl ct ⟨hx1, h2338, h2339, h2340⟩ (by omega)) (fun v2357 S2358 h2356 => ?_)
              obtain ⟨h2359, h2361, h2360⟩ := h2356
              rw [h2359]
              show X_T sc 74 (100, [(3, .int (iI i)), (2, .int (iI pile)), (0, .ref 496), (1, .ref a)], [], S2358) _
              have hv2362 := X_av_r (n := n) (c := c1) (by omega)
              refine T_p xr_74_100 xn_74 (pc' := 101) (ls' := [(3, .int (iI i)), (2, .int (iI pile)), (0, .ref 496), (1, .ref a)]) (st' := [.ref 496]) rfl ?_
              have h2363 := (h2360.1 496 (by omega)).trans (hp1)
              refine T_get xr_74_101 h2363 rfl (v := .int (iI fl)) rfl (pc' := 104) rfl ?_
              refine T_zif_ne xr_74_104 (t := 111) (pc' := 107) rfl rfl (fun c2364 => ?_) (fun c2364 => ?_)
              · skip
                have c2364 : ¬ fl = 0 := c2364
                exact (show False by first | contradiction | omega).elim
              · skip
                have c2364 : ¬ (¬ fl = 0) := c2364
                refine T_p xr_74_107 xn_74 (pc' := 108) (ls' := [(3, .int (iI i)), (2, .int (iI pile)), (0, .ref 496), (1, .ref a)]) (st' := [.int (iI 1)]) rfl ?_
                refine T_p xr_74_108 xn_74 (pc' := 112) (ls' := [(3, .int (iI i)), (2, .int (iI pile)), (0, .ref 496), (1, .ref a)]) (st' := [.int (iI 1)]) rfl ?_
                refine T_iret xr_74_112 xf_74.2.2 (by decide) ?_
                refine hQ _ _ ?_
                have h2365 := (h2360.1 a (by omega)).trans (hw0)
                have h2366 := (h2360.1 (a + 1) (by omega)).trans (hw1)
                have h2367 := (h2360.1 (a + 2) (by omega)).trans (hw2)
                have h2368 := (h2360.1 (a + 3) (by omega)).trans (hw3)
                have h2369 := (h2360.1 (a + 4) (by omega)).trans (hw4)
                have h2370 := (h2360.1 (a + 5) (by omega)).trans (hw5)
                have h2371 := (h2360.1 (a + 6) (by omega)).trans (hw6)
                have h2372 := (h2360.1 (a + 7) (by omega)).trans (hw7)
                refine Or.inl ⟨rfl, X_av n c1, d1, ?_, h2363, h2361, by omega, ⟨h2365, h2366, h2367, h2368, h2369, h2370, h2371, h2372⟩, hr1, ((((X_Fr.rf).tr (X_Fr.of n2239 e2240 (by omega))).tr (X_Fr.mono ⟨h2250.1, h2250.2⟩ (fun q hq => (by omega)))).tr (X_Fr.mono ⟨hF2257.1, hF2257.2⟩ (fun q hq => (by omega)))).tr (X_Fr.mono ⟨h2360.1, h2360.2⟩ (fun q hq => (by omega)))⟩
                unfold sp_steps
                rw [← hR]
                first
                  | (rw [sp_sl_s (i := i) (by omega), if_neg (by assumption), if_pos rfl]; rfl)
                  | (rw [sp_sl_s (i := i) (by omega), if_pos (by omega)]
                     show (if _ then _ else _) = _
                     (repeat (first | rw [if_pos (by assumption)] | rw [if_neg (by assumption)] | rw [if_pos (by omega)] | rw [if_neg (by omega)])))
                  | (rw [show (30 - i).toNat = 0 by omega]
                     show (if _ then _ else _) = _
                     (repeat (first | rw [if_pos (by assumption)] | rw [if_neg (by assumption)] | rw [if_pos (by omega)] | rw [if_neg (by omega)])))
            · skip
              have c2355 : ¬ (pile = 1) := c2355
              refine T_p xr_74_78 xn_74 (pc' := 79) (ls' := [(3, .int (iI i)), (2, .int (iI pile)), (0, .ref 496), (1, .ref a)]) (st' := [.ref 496]) rfl ?_
              refine T_p xr_74_79 xn_74 (pc' := 80) (ls' := [(3, .int (iI i)), (2, .int (iI pile)), (0, .ref 496), (1, .ref a)]) (st' := [.int (iI 5), .ref 496]) rfl ?_
              refine T_p xr_74_80 xn_74 (pc' := 81) (ls' := [(3, .int (iI i)), (2, .int (iI pile)), (0, .ref 496), (1, .ref a)]) (st' := [.ref 496, .int (iI 5), .ref 496]) rfl ?_
              refine T_get xr_74_81 hp1 rfl (v := .ref 497) rfl (pc' := 84) rfl ?_
              refine T_cv (S := S2267) (q := 497) xr_74_84 xf_45.1 xf_45.2.1 xn_45 (as := []) (r := [.int (iI 5), .ref 496]) rfl hx1 (Nat.le_of_ble_eq_true rfl) (Nat.le_of_ble_eq_true rfl) (pc' := 87) rfl (ls' := [(0, .ref 497)]) rfl ?_
              refine T_mono (c_place sc S2267 at_ n c1 so pl ct ⟨hx1, h2338, h2339, h2340⟩ (by omega)) (fun v2374 S2375 h2373 => ?_)
              obtain ⟨h2376, h2377⟩ := h2373
              rw [h2376, h2377]
              show X_T sc 74 (87, [(3, .int (iI i)), (2, .int (iI pile)), (0, .ref 496), (1, .ref a)], [.int (iI (pl c1)), .int (iI 5), .ref 496], S2267) _
              refine T_cv (S := S2267) (q := 496) xr_74_87 xf_62.1 xf_62.2.1 xn_62 (as := [.int (iI 5), .int (iI (pl c1))]) (r := []) rfl hp1 (Nat.le_of_ble_eq_true rfl) (Nat.le_of_ble_eq_true rfl) (pc' := 90) rfl (ls' := [(0, .ref 496), (1, .int (iI 5)), (2, .int (iI (pl c1)))]) rfl ?_
              refine T_p xr_62_0 xn_62 (pc' := 1) (ls' := [(0, .ref 496), (1, .int (iI 5)), (2, .int (iI (pl c1)))]) (st' := [.ref 496]) rfl ?_
              refine T_p xr_62_1 xn_62 (pc' := 2) (ls' := [(0, .ref 496), (1, .int (iI 5)), (2, .int (iI (pl c1)))]) (st' := [.int (iI 5), .ref 496]) rfl ?_
              refine T_put xr_62_2 hp1 rfl (Nat.le_of_ble_eq_true rfl) rfl (fs' := [.ref 497, .ref B, .int (iI 5), .int (iI fp)]) rfl (pc' := 5) rfl (fun S2378 h2379 n2380 e2381 => ?_)
              refine T_p xr_62_5 xn_62 (pc' := 6) (ls' := [(0, .ref 496), (1, .int (iI 5)), (2, .int (iI (pl c1)))]) (st' := [.ref 496]) rfl ?_
              refine T_p xr_62_6 xn_62 (pc' := 7) (ls' := [(0, .ref 496), (1, .int (iI 5)), (2, .int (iI (pl c1)))]) (st' := [.int (iI (pl c1)), .ref 496]) rfl ?_
              refine T_put xr_62_7 h2379 rfl (Nat.le_of_ble_eq_true rfl) rfl (fs' := [.ref 497, .ref B, .int (iI 5), .int (iI (pl c1))]) rfl (pc' := 10) rfl (fun S2382 h2383 n2384 e2385 => ?_)
              refine T_vret xr_62_10 xf_62.2.2 ?_
              show X_T sc 74 (90, [(3, .int (iI i)), (2, .int (iI pile)), (0, .ref 496), (1, .ref a)], [], S2382) _
              refine T_p xr_74_90 xn_74 (pc' := 100) (ls' := [(3, .int (iI i)), (2, .int (iI pile)), (0, .ref 496), (1, .ref a)]) (st' := []) rfl ?_
              refine T_p xr_74_100 xn_74 (pc' := 101) (ls' := [(3, .int (iI i)), (2, .int (iI pile)), (0, .ref 496), (1, .ref a)]) (st' := [.ref 496]) rfl ?_
              refine T_get xr_74_101 h2383 rfl (v := .int (iI 5)) rfl (pc' := 104) rfl ?_
              refine T_zif_net xr_74_104 (t := 111) rfl (by decide) ?_
              refine T_p xr_74_111 xn_74 (pc' := 112) (ls' := [(3, .int (iI i)), (2, .int (iI pile)), (0, .ref 496), (1, .ref a)]) (st' := [.int (iI 0)]) rfl ?_
              refine T_iret xr_74_112 xf_74.2.2 (by decide) ?_
              refine hQ _ _ ?_
              have h2386 := (n2384 497 (by decide)).trans ((n2380 497 (by decide)).trans (hx1))
              have h2387 := (n2384 a (by omega)).trans ((n2380 a (by omega)).trans (hw0))
              have h2388 := (n2384 (a + 1) (by omega)).trans ((n2380 (a + 1) (by omega)).trans (hw1))
              have h2389 := (n2384 (a + 2) (by omega)).trans ((n2380 (a + 2) (by omega)).trans (hw2))
              have h2390 := (n2384 (a + 3) (by omega)).trans ((n2380 (a + 3) (by omega)).trans (hw3))
              have h2391 := (n2384 (a + 4) (by omega)).trans ((n2380 (a + 4) (by omega)).trans (hw4))
              have h2392 := (n2384 (a + 5) (by omega)).trans ((n2380 (a + 5) (by omega)).trans (hw5))
              have h2393 := (n2384 (a + 6) (by omega)).trans ((n2380 (a + 6) (by omega)).trans (hw6))
              have h2394 := (n2384 (a + 7) (by omega)).trans ((n2380 (a + 7) (by omega)).trans (hw7))
              refine Or.inr ⟨rfl, ?_, ⟨_, _, by omega, h2383⟩, ⟨c1, h2386, by omega⟩, ⟨d1, ⟨h2387, h2388, h2389, h2390, h2391, h2392, h2393, h2394⟩, hr1⟩, (((((X_Fr.rf).tr (X_Fr.of n2239 e2240 (by omega))).tr (X_Fr.mono ⟨h2250.1, h2250.2⟩ (fun q hq => (by omega)))).tr (X_Fr.mono ⟨hF2257.1, hF2257.2⟩ (fun q hq => (by omega)))).tr (X_Fr.of n2380 e2381 (by omega))).tr (X_Fr.of n2384 e2385 (by omega))⟩
              unfold sp_steps
              rw [← hR]
              first
                | (rw [sp_sl_s (i := i) (by omega), if_neg (by assumption), if_pos rfl]; rfl)
                | (rw [sp_sl_s (i := i) (by omega), if_pos (by omega)]
                   show (if _ then _ else _) = _
                   (repeat (first | rw [if_pos (by assumption)] | rw [if_neg (by assumption)] | rw [if_pos (by omega)] | rw [if_neg (by omega)])))
                | (rw [show (30 - i).toNat = 0 by omega]
                   show (if _ then _ else _) = _
                   (repeat (first | rw [if_pos (by assumption)] | rw [if_neg (by assumption)] | rw [if_pos (by omega)] | rw [if_neg (by omega)])))
          · skip
            have c2354 : ¬ ((so c1) = 59) := c2354
            exact (show False by first | contradiction | omega).elim
        · skip
          have c2347 : ¬ ((so c1) = 59) := c2347
          refine T_p xr_74_34 xn_74 (pc' := 35) (ls' := [(3, .int (iI i)), (2, .int (iI pile)), (0, .ref 496), (1, .ref a)]) (st' := [.ref 496]) rfl ?_
          refine T_p xr_74_35 xn_74 (pc' := 36) (ls' := [(3, .int (iI i)), (2, .int (iI pile)), (0, .ref 496), (1, .ref a)]) (st' := [.ref a, .ref 496]) rfl ?_
          refine T_p xr_74_36 xn_74 (pc' := 37) (ls' := [(3, .int (iI i)), (2, .int (iI pile)), (0, .ref 496), (1, .ref a)]) (st' := [.int (iI pile), .ref a, .ref 496]) rfl ?_
          refine T_cv (S := S2267) (q := 496) xr_74_37 xf_75.1 xf_75.2.1 xn_75 (as := [.ref a, .int (iI pile)]) (r := []) rfl hp1 (Nat.le_of_ble_eq_true rfl) (Nat.le_of_ble_eq_true rfl) (pc' := 40) rfl (ls' := [(0, .ref 496), (1, .ref a), (2, .int (iI pile))]) rfl ?_
          have h2395 := (hF2257.1 B (by omega)).trans ((h2250.1 B (by omega)).trans ((n2239 B (by omega)).trans (hb0)))
          have h2396 := (hF2257.1 (B + 1) (by omega)).trans ((h2250.1 (B + 1) (by omega)).trans ((n2239 (B + 1) (by omega)).trans (hb1)))
          have h2397 := (hF2257.1 (B + 2) (by omega)).trans ((h2250.1 (B + 2) (by omega)).trans ((n2239 (B + 2) (by omega)).trans (hb2)))
          have h2398 := (hF2257.1 (B + 3) (by omega)).trans ((h2250.1 (B + 3) (by omega)).trans ((n2239 (B + 3) (by omega)).trans (hb3)))
          have h2399 := (hF2257.1 (B + 4) (by omega)).trans ((h2250.1 (B + 4) (by omega)).trans ((n2239 (B + 4) (by omega)).trans (hb4)))
          have h2400 := (hF2257.1 (B + 5) (by omega)).trans ((h2250.1 (B + 5) (by omega)).trans ((n2239 (B + 5) (by omega)).trans (hb5)))
          have hb2419 : C_bk S2267 B rc kc wc rn lo kn ab := ⟨h2395, h2396, h2397, h2398, h2399, ⟨f, h2400, hf⟩, ⟨by omega, by omega⟩, ⟨by omega, by omega⟩, ⟨by omega, by omega⟩⟩
          refine T_mono (c_parseStep sc S2267 B fl fp at_ n c1 so pl ct rc kc wc rn lo kn ab a d1 q pile hB ha hp1 ⟨hx1, h2338, h2339, h2340⟩ (by omega) hso hb2419 ⟨hw0, hw1, hw2, hw3, hw4, hw5, hw6, hw7⟩ hr1 (by omega) (by omega)) (fun v2401 S2402 h2403 => ?_)
          rcases h2403 with ⟨c2413, d2414, p2415, hv2410, hsp2412, hp2404, hl2405, hc2416, hw2417, hr2418, hf2406⟩ | ⟨hv2410, hsp2412, ⟨fl2407, fp2408, hn2409, hp2404⟩, ⟨c2413, hl2405, hc2416⟩, hw2417, hf2406⟩
          · skip
            rw [hv2410]
            have hq2420 := sp_step_r (by omega) hsp2412
            show X_T sc 74 (40, [(3, .int (iI i)), (2, .int (iI pile)), (0, .ref 496), (1, .ref a)], [.int (iI p2415)], S2402) _
            refine T_p xr_74_40 xn_74 (pc' := 41) (ls' := [(2, .int (iI p2415)), (3, .int (iI i)), (0, .ref 496), (1, .ref a)]) (st' := []) rfl ?_
            refine T_p xr_74_41 xn_74 (pc' := 42) (ls' := [(2, .int (iI p2415)), (3, .int (iI i)), (0, .ref 496), (1, .ref a)]) (st' := [.int (iI p2415)]) rfl ?_
            refine T_p xr_74_42 xn_74 (pc' := 43) (ls' := [(2, .int (iI p2415)), (3, .int (iI i)), (0, .ref 496), (1, .ref a)]) (st' := [.int (iI (-1)), .int (iI p2415)]) rfl ?_
            refine T_zicmp_ne xr_74_43 (t := 48) (pc' := 46) rfl rfl (fun c2421 => ?_) (fun c2421 => ?_)
            · skip
              have c2421 : ¬ p2415 = (-1) := c2421
              refine T_ziinc xr_74_48 xn_74 (a := i) (z := i + 1) rfl (Nat.le_of_ble_eq_true rfl) (by omega) (ls' := [(3, .int (iI (i + 1))), (2, .int (iI p2415)), (0, .ref 496), (1, .ref a)]) rfl (pc' := 51) rfl ?_
              refine T_p xr_74_51 xn_74 (pc' := 16) (ls' := [(3, .int (iI (i + 1))), (2, .int (iI p2415)), (0, .ref 496), (1, .ref a)]) (st' := []) rfl ?_
              exact ih2254 S2402 (i + 1) c2413 d2414 p2415 hp2404 hl2405 hw2417.1 hw2417.2.1 hw2417.2.2.1 hw2417.2.2.2.1 hw2417.2.2.2.2.1 hw2417.2.2.2.2.2.1 hw2417.2.2.2.2.2.2.1 hw2417.2.2.2.2.2.2.2 (hF2257.tr ((X_Fr.rf).tr (X_Fr.mono ⟨hf2406.1, hf2406.2⟩ (fun q hq => (by omega))))) (by omega) hr2418 (by omega) (by omega) (by omega) (by
                    rw [← hR, sp_sl_s (i := i) (by omega), if_neg (by assumption), hsp2412]
                    rfl) (by omega)
            · skip
              have c2421 : ¬ (¬ p2415 = (-1)) := c2421
              exact (show False by first | contradiction | omega).elim
          · skip
            rw [hv2410]
            show X_T sc 74 (40, [(3, .int (iI i)), (2, .int (iI pile)), (0, .ref 496), (1, .ref a)], [.int (iI (-1))], S2402) _
            refine T_p xr_74_40 xn_74 (pc' := 41) (ls' := [(2, .int (iI (-1))), (3, .int (iI i)), (0, .ref 496), (1, .ref a)]) (st' := []) rfl ?_
            refine T_p xr_74_41 xn_74 (pc' := 42) (ls' := [(2, .int (iI (-1))), (3, .int (iI i)), (0, .ref 496), (1, .ref a)]) (st' := [.int (iI (-1))]) rfl ?_
            refine T_p xr_74_42 xn_74 (pc' := 43) (ls' := [(2, .int (iI (-1))), (3, .int (iI i)), (0, .ref 496), (1, .ref a)]) (st' := [.int (iI (-1)), .int (iI (-1))]) rfl ?_
            refine T_zicmp_nef xr_74_43 (t := 48) (pc' := 46) rfl rfl (by decide) ?_
            refine T_p xr_74_46 xn_74 (pc' := 47) (ls' := [(2, .int (iI (-1))), (3, .int (iI i)), (0, .ref 496), (1, .ref a)]) (st' := [.int (iI 0)]) rfl ?_
            refine T_iret xr_74_47 xf_74.2.2 (by decide) ?_
            refine hQ _ _ ?_
            refine Or.inr ⟨rfl, ?_, ⟨_, _, by omega, hp2404⟩, ⟨c2413, hl2405, by omega⟩, ⟨d1, ⟨hw2417.1, hw2417.2.1, hw2417.2.2.1, hw2417.2.2.2.1, hw2417.2.2.2.2.1, hw2417.2.2.2.2.2.1, hw2417.2.2.2.2.2.2.1, hw2417.2.2.2.2.2.2.2⟩, hr1⟩, ((((X_Fr.rf).tr (X_Fr.of n2239 e2240 (by omega))).tr (X_Fr.mono ⟨h2250.1, h2250.2⟩ (fun q hq => (by omega)))).tr (X_Fr.mono ⟨hF2257.1, hF2257.2⟩ (fun q hq => (by omega)))).tr (X_Fr.mono ⟨hf2406.1, hf2406.2⟩ (fun q hq => (by omega)))⟩
            unfold sp_steps
            rw [← hR]
            first
              | (rw [sp_sl_s (i := i) (by omega), if_neg (by assumption), hsp2412]; rfl)
              | (rw [sp_sl_s (i := i) (by omega), if_pos (by omega)]
                 show (if _ then _ else _) = _
                 (repeat (first | rw [if_pos (by assumption)] | rw [if_neg (by assumption)] | rw [if_pos (by omega)] | rw [if_neg (by omega)])))
              | (rw [show (30 - i).toNat = 0 by omega]
                 show (if _ then _ else _) = _
                 (repeat (first | rw [if_pos (by assumption)] | rw [if_neg (by assumption)] | rw [if_pos (by omega)] | rw [if_neg (by omega)])))
  exact L2253 ((30 : Int) + 1).toNat S2248 0 (X_av n cur) (X_wu d 5 (fun _ => 0)) 0 h2258 h2251 h2259 h2260 h2261 h2262 h2263 h2264 h2265 h2266 ((X_Fr.rf)) (by omega) hr5z (by omega) (by omega) rfl rfl (by omega)
