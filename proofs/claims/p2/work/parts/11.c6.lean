theorem xr_17_0 : X_row 17 0 = some (0, (.iload_n 2, 1), (0, 0, 0)) := by decide +kernel
theorem xr_17_1 : X_row 17 1 = some (1, (.ifCond .ne 7, 3), (0, 0, 0)) := by decide +kernel
theorem xr_17_4 : X_row 17 4 = some (4, (.iconst 1, 1), (0, 0, 0)) := by decide +kernel
theorem xr_17_5 : X_row 17 5 = some (5, (.goto 4, 3), (0, 0, 0)) := by decide +kernel
theorem xr_17_8 : X_row 17 8 = some (8, (.iconst 0, 1), (0, 0, 0)) := by decide +kernel
theorem xr_17_9 : X_row 17 9 = some (9, (.istore_n 3, 1), (0, 0, 0)) := by decide +kernel
theorem xr_17_10 : X_row 17 10 = some (10, (.iload_n 2, 1), (0, 0, 0)) := by decide +kernel
theorem xr_17_11 : X_row 17 11 = some (11, (.aload_n 1, 1), (0, 0, 0)) := by decide +kernel
theorem xr_17_12 : X_row 17 12 = some (12, (.getfield 68, 3), (8, 3, 7)) := by decide +kernel
theorem xr_17_15 : X_row 17 15 = some (15, (.iconst 1, 1), (0, 0, 0)) := by decide +kernel
theorem xr_17_16 : X_row 17 16 = some (16, (.isub, 1), (0, 0, 0)) := by decide +kernel
theorem xr_17_17 : X_row 17 17 = some (17, (.if_icmp .ne 7, 3), (0, 0, 0)) := by decide +kernel
theorem xr_17_20 : X_row 17 20 = some (20, (.iconst 1, 1), (0, 0, 0)) := by decide +kernel
theorem xr_17_21 : X_row 17 21 = some (21, (.goto 4, 3), (0, 0, 0)) := by decide +kernel
theorem xr_17_24 : X_row 17 24 = some (24, (.iconst 0, 1), (0, 0, 0)) := by decide +kernel
theorem xr_17_25 : X_row 17 25 = some (25, (.istore 4, 2), (0, 0, 0)) := by decide +kernel
theorem xr_17_27 : X_row 17 27 = some (27, (.iload_n 3, 1), (0, 0, 0)) := by decide +kernel
theorem xr_17_28 : X_row 17 28 = some (28, (.ifCond .eq 11, 3), (0, 0, 0)) := by decide +kernel
theorem xr_17_31 : X_row 17 31 = some (31, (.aload_n 1, 1), (0, 0, 0)) := by decide +kernel
theorem xr_17_32 : X_row 17 32 = some (32, (.getfield 97, 3), (8, 1, 3)) := by decide +kernel
theorem xr_17_35 : X_row 17 35 = some (35, (.iconst 1, 1), (0, 0, 0)) := by decide +kernel
theorem xr_17_36 : X_row 17 36 = some (36, (.if_icmp .eq 16, 3), (0, 0, 0)) := by decide +kernel
theorem xr_17_39 : X_row 17 39 = some (39, (.iload 4, 2), (0, 0, 0)) := by decide +kernel
theorem xr_17_41 : X_row 17 41 = some (41, (.ifCond .eq 15, 3), (0, 0, 0)) := by decide +kernel
theorem xr_17_44 : X_row 17 44 = some (44, (.aload_n 1, 1), (0, 0, 0)) := by decide +kernel
theorem xr_17_45 : X_row 17 45 = some (45, (.getfield 97, 3), (8, 1, 3)) := by decide +kernel
theorem xr_17_48 : X_row 17 48 = some (48, (.iconst 2, 1), (0, 0, 0)) := by decide +kernel
theorem xr_17_49 : X_row 17 49 = some (49, (.if_icmp .ne 7, 3), (0, 0, 0)) := by decide +kernel
theorem xr_17_52 : X_row 17 52 = some (52, (.iconst 1, 1), (0, 0, 0)) := by decide +kernel
theorem xr_17_53 : X_row 17 53 = some (53, (.goto 4, 3), (0, 0, 0)) := by decide +kernel
theorem xr_17_56 : X_row 17 56 = some (56, (.iconst 0, 1), (0, 0, 0)) := by decide +kernel
theorem xr_17_57 : X_row 17 57 = some (57, (.istore 5, 2), (0, 0, 0)) := by decide +kernel
theorem xr_17_59 : X_row 17 59 = some (59, (.iconst 0, 1), (0, 0, 0)) := by decide +kernel
theorem xr_17_60 : X_row 17 60 = some (60, (.istore 6, 2), (0, 0, 0)) := by decide +kernel
theorem xr_17_62 : X_row 17 62 = some (62, (.iconst 0, 1), (0, 0, 0)) := by decide +kernel
theorem xr_17_63 : X_row 17 63 = some (63, (.istore 7, 2), (0, 0, 0)) := by decide +kernel
theorem xr_17_65 : X_row 17 65 = some (65, (.iload 7, 2), (0, 0, 0)) := by decide +kernel
theorem xr_17_67 : X_row 17 67 = some (67, (.aload_n 0, 1), (0, 0, 0)) := by decide +kernel
theorem xr_17_68 : X_row 17 68 = some (68, (.getfield 42, 3), (0, 2, 22)) := by decide +kernel
theorem xr_17_71 : X_row 17 71 = some (71, (.if_icmp .ge 89, 3), (0, 0, 0)) := by decide +kernel
theorem xr_17_74 : X_row 17 74 = some (74, (.aload_n 0, 1), (0, 0, 0)) := by decide +kernel
theorem xr_17_75 : X_row 17 75 = some (75, (.getfield 27, 3), (0, 7, 32)) := by decide +kernel
theorem xr_17_78 : X_row 17 78 = some (78, (.iload 7, 2), (0, 0, 0)) := by decide +kernel
theorem xr_17_80 : X_row 17 80 = some (80, (.aaload, 1), (0, 0, 0)) := by decide +kernel
theorem xr_17_81 : X_row 17 81 = some (81, (.astore 8, 2), (0, 0, 0)) := by decide +kernel
theorem xr_17_83 : X_row 17 83 = some (83, (.iload_n 3, 1), (0, 0, 0)) := by decide +kernel
theorem xr_17_84 : X_row 17 84 = some (84, (.ifCond .ne 8, 3), (0, 0, 0)) := by decide +kernel
theorem xr_17_87 : X_row 17 87 = some (87, (.iload 4, 2), (0, 0, 0)) := by decide +kernel
theorem xr_17_89 : X_row 17 89 = some (89, (.ifCond .eq 44, 3), (0, 0, 0)) := by decide +kernel
theorem xr_17_92 : X_row 17 92 = some (92, (.aload 8, 2), (0, 0, 0)) := by decide +kernel
theorem xr_17_94 : X_row 17 94 = some (94, (.invokevirtual 100, 3), (102, 22, 0)) := by decide +kernel
theorem xr_17_97 : X_row 17 97 = some (97, (.ifCond .ne 36, 3), (0, 0, 0)) := by decide +kernel
theorem xr_17_100 : X_row 17 100 = some (100, (.aload_n 0, 1), (0, 0, 0)) := by decide +kernel
theorem xr_17_101 : X_row 17 101 = some (101, (.aload 8, 2), (0, 0, 0)) := by decide +kernel
theorem xr_17_103 : X_row 17 103 = some (103, (.getfield 104, 3), (8, 0, 1)) := by decide +kernel
theorem xr_17_106 : X_row 17 106 = some (106, (.aload_n 1, 1), (0, 0, 0)) := by decide +kernel
theorem xr_17_107 : X_row 17 107 = some (107, (.getfield 104, 3), (8, 0, 1)) := by decide +kernel
theorem xr_17_110 : X_row 17 110 = some (110, (.invokevirtual 55, 3), (11, 8, 0)) := by decide +kernel
theorem xr_17_113 : X_row 17 113 = some (113, (.ifCond .ne 20, 3), (0, 0, 0)) := by decide +kernel
theorem xr_17_116 : X_row 17 116 = some (116, (.iload 5, 2), (0, 0, 0)) := by decide +kernel
theorem xr_17_118 : X_row 17 118 = some (118, (.ifCond .eq 19, 3), (0, 0, 0)) := by decide +kernel
theorem xr_17_121 : X_row 17 121 = some (121, (.aload 8, 2), (0, 0, 0)) := by decide +kernel
theorem xr_17_123 : X_row 17 123 = some (123, (.getfield 104, 3), (8, 0, 1)) := by decide +kernel
theorem xr_17_126 : X_row 17 126 = some (126, (.aload_n 1, 1), (0, 0, 0)) := by decide +kernel
theorem xr_17_127 : X_row 17 127 = some (127, (.getfield 104, 3), (8, 0, 1)) := by decide +kernel
theorem xr_17_130 : X_row 17 130 = some (130, (.if_icmp .ne 7, 3), (0, 0, 0)) := by decide +kernel
theorem xr_17_133 : X_row 17 133 = some (133, (.iconst 1, 1), (0, 0, 0)) := by decide +kernel
theorem xr_17_134 : X_row 17 134 = some (134, (.goto 4, 3), (0, 0, 0)) := by decide +kernel
theorem xr_17_137 : X_row 17 137 = some (137, (.iconst 0, 1), (0, 0, 0)) := by decide +kernel
theorem xr_17_138 : X_row 17 138 = some (138, (.istore 9, 2), (0, 0, 0)) := by decide +kernel
theorem xr_17_140 : X_row 17 140 = some (140, (.iload 9, 2), (0, 0, 0)) := by decide +kernel
theorem xr_17_142 : X_row 17 142 = some (142, (.ifCond .eq 12, 3), (0, 0, 0)) := by decide +kernel
theorem xr_17_145 : X_row 17 145 = some (145, (.iload 6, 2), (0, 0, 0)) := by decide +kernel
theorem xr_17_147 : X_row 17 147 = some (147, (.iconst 1, 1), (0, 0, 0)) := by decide +kernel
theorem xr_17_148 : X_row 17 148 = some (148, (.iload 7, 2), (0, 0, 0)) := by decide +kernel
theorem xr_17_150 : X_row 17 150 = some (150, (.ishl, 1), (0, 0, 0)) := by decide +kernel
theorem xr_17_151 : X_row 17 151 = some (151, (.ior, 1), (0, 0, 0)) := by decide +kernel
theorem xr_17_152 : X_row 17 152 = some (152, (.istore 6, 2), (0, 0, 0)) := by decide +kernel
theorem xr_17_154 : X_row 17 154 = some (154, (.iinc 7 1, 3), (0, 0, 0)) := by decide +kernel
theorem xr_17_157 : X_row 17 157 = some (157, (.goto (-92), 3), (0, 0, 0)) := by decide +kernel
theorem xr_17_160 : X_row 17 160 = some (160, (.iload 6, 2), (0, 0, 0)) := by decide +kernel
theorem xr_17_162 : X_row 17 162 = some (162, (.ireturn, 1), (0, 0, 0)) := by decide +kernel
theorem xn_17 : X_nL 17 = 10 := by decide +kernel
theorem xf_17 : X_na 17 = 2 ∧ X_ci 17 = 0 ∧ X_rt 17 = (some .int) := by decide +kernel
/-- whether word v fits by its rank the hole at element e of the word d, q -/
def X_fi (lo : Int → Int) (D : Int → Nat → Int → Int) (W : Int → Int → Int64) (d : Nat → Int → Int) (e v : Int) : Prop :=
  (¬ e = 0 ∧ ¬ e = d 3 0 - 1) ∨ X_en (D v) (W v) = 0 ∨ X_bt (lo (D v 0 0)) (d 0 0) ∨ (((e = 0 ∧ d 1 0 = 1) ∨ (e = d 3 0 - 1 ∧ d 1 0 = 2)) ∧ D v 0 0 = d 0 0)
theorem c_wordsFitting (sc : X_Sc) (S : X_S) (B : Nat) (rc kc wc : Int) (rn : Int → Int64) (lo : Int → Int) (kn : Int → Int64) (ab : Int → Int) (D : Int → Nat → Int → Int) (W : Int → Int → Int64) (a : Nat) (d : Nat → Int → Int) (q : Int → Int64) (e : Int) (hb : C_bk S B rc kc wc rn lo kn ab) (hs : C_ws S B D W) (hw : C_wd S a d q) (hr : X_wr d) (he : 0 ≤ e ∧ e < 8) : X_T sc 17 (0, [(0, .ref B), (1, .ref a), (2, .int (iI e))], [], S) (fun v S' => ∃ b, v = some (.int (iI b)) ∧ (∀ k, 0 ≤ k → k < 32 → (X_bt b k ↔ k < wc ∧ X_fi lo D W d e k)) ∧ S' = S) := by
  obtain ⟨hb0, hb1, hb2, hb3, hb4, ⟨f, hb5, hf⟩, ⟨hrc, hrcb⟩, ⟨hkc, hkcb⟩, ⟨hwc, hwcb⟩⟩ := id hb
  obtain ⟨⟨hr0, hr0b⟩, ⟨hr1, hr1b⟩, ⟨hr2, hr2b⟩, ⟨hr3, hr3b⟩, ⟨hr4, hr4b⟩, ⟨hr5, hr5b⟩, ⟨hr6, hr6b⟩, ⟨hr7, hr7b⟩⟩ := id hr
  refine X_QI (fun Q hQ => ?_)
  have J424 : X_T sc 17 (9, [(0, .ref B), (1, .ref a), (2, .int (iI e))], [.int (iI (bI (e = 0)))], S) Q := by
    refine T_p xr_17_9 xn_17 (pc' := 10) (ls' := [(3, .int (iI (bI (e = 0)))), (0, .ref B), (1, .ref a), (2, .int (iI e))]) (st' := []) rfl ?_
    have J425 : X_T sc 17 (25, [(3, .int (iI (bI (e = 0)))), (0, .ref B), (1, .ref a), (2, .int (iI e))], [.int (iI (bI (e = d 3 0 - 1)))], S) Q := by
      refine T_p xr_17_25 xn_17 (pc' := 27) (ls' := [(4, .int (iI (bI (e = d 3 0 - 1)))), (3, .int (iI (bI (e = 0)))), (0, .ref B), (1, .ref a), (2, .int (iI e))]) (st' := []) rfl ?_
      have J426 : X_T sc 17 (57, [(4, .int (iI (bI (e = d 3 0 - 1)))), (3, .int (iI (bI (e = 0)))), (0, .ref B), (1, .ref a), (2, .int (iI e))], [.int (iI (bI ((e = 0 ∧ d 1 0 = 1) ∨ (e = d 3 0 - 1 ∧ d 1 0 = 2))))], S) Q := by
        refine T_p xr_17_57 xn_17 (pc' := 59) (ls' := [(5, .int (iI (bI ((e = 0 ∧ d 1 0 = 1) ∨ (e = d 3 0 - 1 ∧ d 1 0 = 2))))), (4, .int (iI (bI (e = d 3 0 - 1)))), (3, .int (iI (bI (e = 0)))), (0, .ref B), (1, .ref a), (2, .int (iI e))]) (st' := []) rfl ?_
        refine T_p xr_17_59 xn_17 (pc' := 60) (ls' := [(5, .int (iI (bI ((e = 0 ∧ d 1 0 = 1) ∨ (e = d 3 0 - 1 ∧ d 1 0 = 2))))), (4, .int (iI (bI (e = d 3 0 - 1)))), (3, .int (iI (bI (e = 0)))), (0, .ref B), (1, .ref a), (2, .int (iI e))]) (st' := [.int (iI 0)]) rfl ?_
        refine T_p xr_17_60 xn_17 (pc' := 62) (ls' := [(6, .int (iI 0)), (5, .int (iI (bI ((e = 0 ∧ d 1 0 = 1) ∨ (e = d 3 0 - 1 ∧ d 1 0 = 2))))), (4, .int (iI (bI (e = d 3 0 - 1)))), (3, .int (iI (bI (e = 0)))), (0, .ref B), (1, .ref a), (2, .int (iI e))]) (st' := []) rfl ?_
        refine T_p xr_17_62 xn_17 (pc' := 63) (ls' := [(6, .int (iI 0)), (5, .int (iI (bI ((e = 0 ∧ d 1 0 = 1) ∨ (e = d 3 0 - 1 ∧ d 1 0 = 2))))), (4, .int (iI (bI (e = d 3 0 - 1)))), (3, .int (iI (bI (e = 0)))), (0, .ref B), (1, .ref a), (2, .int (iI e))]) (st' := [.int (iI 0)]) rfl ?_
        refine T_p xr_17_63 xn_17 (pc' := 65) (ls' := [(7, .int (iI 0)), (6, .int (iI 0)), (5, .int (iI (bI ((e = 0 ∧ d 1 0 = 1) ∨ (e = d 3 0 - 1 ∧ d 1 0 = 2))))), (4, .int (iI (bI (e = d 3 0 - 1)))), (3, .int (iI (bI (e = 0)))), (0, .ref B), (1, .ref a), (2, .int (iI e))]) (st' := []) rfl ?_
        have L427 : ∀ (m429 : Nat) (i : Int) (b : Int) (hi : 0 ≤ i ∧ i ≤ wc) (hbt : ∀ k, 0 ≤ k → k < 32 → (X_bt b k ↔ k < i ∧ X_fi lo D W d e k)) (hm430 : wc - i < m429), X_T sc 17 (65, [(7, .int (iI i)), (6, .int (iI b)), (5, .int (iI (bI ((e = 0 ∧ d 1 0 = 1) ∨ (e = d 3 0 - 1 ∧ d 1 0 = 2))))), (4, .int (iI (bI (e = d 3 0 - 1)))), (3, .int (iI (bI (e = 0)))), (0, .ref B), (1, .ref a), (2, .int (iI e))], [], S) Q := by
          intro m429
          induction m429 with
          | zero =>
            intro i b hi hbt hm430
            exact (show False by omega).elim
          | succ m429 ih428 =>
            intro i b hi hbt hm430
            refine T_p xr_17_65 xn_17 (pc' := 67) (ls' := [(7, .int (iI i)), (6, .int (iI b)), (5, .int (iI (bI ((e = 0 ∧ d 1 0 = 1) ∨ (e = d 3 0 - 1 ∧ d 1 0 = 2))))), (4, .int (iI (bI (e = d 3 0 - 1)))), (3, .int (iI (bI (e = 0)))), (0, .ref B), (1, .ref a), (2, .int (iI e))]) (st' := [.int (iI i)]) rfl ?_
            refine T_p xr_17_67 xn_17 (pc' := 68) (ls' := [(7, .int (iI i)), (6, .int (iI b)), (5, .int (iI (bI ((e = 0 ∧ d 1 0 = 1) ∨ (e = d 3 0 - 1 ∧ d 1 0 = 2))))), (4, .int (iI (bI (e = d 3 0 - 1)))), (3, .int (iI (bI (e = 0)))), (0, .ref B), (1, .ref a), (2, .int (iI e))]) (st' := [.ref B, .int (iI i)]) rfl ?_
            refine T_get xr_17_68 hb0 rfl (v := .int (iI wc)) rfl (pc' := 71) rfl ?_
            refine T_zicmp_ge xr_17_71 (t := 160) (pc' := 74) rfl rfl (fun c432 => ?_) (fun c432 => ?_)
            · skip
              have c432 : wc ≤ i := c432
              refine T_p xr_17_160 xn_17 (pc' := 162) (ls' := [(7, .int (iI i)), (6, .int (iI b)), (5, .int (iI (bI ((e = 0 ∧ d 1 0 = 1) ∨ (e = d 3 0 - 1 ∧ d 1 0 = 2))))), (4, .int (iI (bI (e = d 3 0 - 1)))), (3, .int (iI (bI (e = 0)))), (0, .ref B), (1, .ref a), (2, .int (iI e))]) (st' := [.int (iI b)]) rfl ?_
              refine T_iret xr_17_162 xf_17.2.2 rfl ?_
              refine hQ _ _ ?_
              exact ⟨b, rfl, fun k h1 h2 => by rw [hbt k h1 h2, show i = wc by omega], rfl⟩
            · skip
              have c432 : ¬ (wc ≤ i) := c432
              refine T_p xr_17_74 xn_17 (pc' := 75) (ls' := [(7, .int (iI i)), (6, .int (iI b)), (5, .int (iI (bI ((e = 0 ∧ d 1 0 = 1) ∨ (e = d 3 0 - 1 ∧ d 1 0 = 2))))), (4, .int (iI (bI (e = d 3 0 - 1)))), (3, .int (iI (bI (e = 0)))), (0, .ref B), (1, .ref a), (2, .int (iI e))]) (st' := [.ref B]) rfl ?_
              refine T_get xr_17_75 hb0 rfl (v := .ref (B + 5)) rfl (pc' := 78) rfl ?_
              refine T_p xr_17_78 xn_17 (pc' := 80) (ls' := [(7, .int (iI i)), (6, .int (iI b)), (5, .int (iI (bI ((e = 0 ∧ d 1 0 = 1) ∨ (e = d 3 0 - 1 ∧ d 1 0 = 2))))), (4, .int (iI (bI (e = d 3 0 - 1)))), (3, .int (iI (bI (e = 0)))), (0, .ref B), (1, .ref a), (2, .int (iI e))]) (st' := [.int (iI i), .ref (B + 5)]) rfl ?_
              have hw433 := hs i (by omega) (by omega)
              obtain ⟨a434, ha435⟩ : ∃ z : Nat, z = B + 6 + 8 * (i : Int).toNat := ⟨_, rfl⟩
              rw [← ha435] at hw433
              obtain ⟨⟨_, _⟩, ⟨_, _⟩, ⟨_, _⟩, ⟨_, _⟩, ⟨_, _⟩, ⟨_, _⟩, ⟨_, _⟩, ⟨_, _⟩⟩ := id hw433.2
              refine T_zaald xr_17_80 hb5 (w := a434) (by rw [ha435]; exact hf _ (by omega)) (pc' := 81) rfl ?_
              refine T_p xr_17_81 xn_17 (pc' := 83) (ls' := [(8, .ref a434), (7, .int (iI i)), (6, .int (iI b)), (5, .int (iI (bI ((e = 0 ∧ d 1 0 = 1) ∨ (e = d 3 0 - 1 ∧ d 1 0 = 2))))), (4, .int (iI (bI (e = d 3 0 - 1)))), (3, .int (iI (bI (e = 0)))), (0, .ref B), (1, .ref a), (2, .int (iI e))]) (st' := []) rfl ?_
              have J436 : X_T sc 17 (138, [(8, .ref a434), (7, .int (iI i)), (6, .int (iI b)), (5, .int (iI (bI ((e = 0 ∧ d 1 0 = 1) ∨ (e = d 3 0 - 1 ∧ d 1 0 = 2))))), (4, .int (iI (bI (e = d 3 0 - 1)))), (3, .int (iI (bI (e = 0)))), (0, .ref B), (1, .ref a), (2, .int (iI e))], [.int (iI (bI (X_fi lo D W d e i)))], S) Q := by
                refine T_p xr_17_138 xn_17 (pc' := 140) (ls' := [(9, .int (iI (bI (X_fi lo D W d e i)))), (8, .ref a434), (7, .int (iI i)), (6, .int (iI b)), (5, .int (iI (bI ((e = 0 ∧ d 1 0 = 1) ∨ (e = d 3 0 - 1 ∧ d 1 0 = 2))))), (4, .int (iI (bI (e = d 3 0 - 1)))), (3, .int (iI (bI (e = 0)))), (0, .ref B), (1, .ref a), (2, .int (iI e))]) (st' := []) rfl ?_
                refine T_p xr_17_140 xn_17 (pc' := 142) (ls' := [(9, .int (iI (bI (X_fi lo D W d e i)))), (8, .ref a434), (7, .int (iI i)), (6, .int (iI b)), (5, .int (iI (bI ((e = 0 ∧ d 1 0 = 1) ∨ (e = d 3 0 - 1 ∧ d 1 0 = 2))))), (4, .int (iI (bI (e = d 3 0 - 1)))), (3, .int (iI (bI (e = 0)))), (0, .ref B), (1, .ref a), (2, .int (iI e))]) (st' := [.int (iI (bI (X_fi lo D W d e i)))]) rfl ?_
                refine T_bif_eq xr_17_142 (t := 154) (pc' := 145) rfl rfl (fun c437 => ?_) (fun c437 => ?_)
                · skip
                  have c437 : ¬ (X_fi lo D W d e i) := c437
                  refine T_ziinc xr_17_154 xn_17 (a := i) (z := i + 1) rfl (Nat.le_of_ble_eq_true rfl) (by omega) (ls' := [(7, .int (iI (i + 1))), (9, .int (iI (bI (X_fi lo D W d e i)))), (8, .ref a434), (6, .int (iI b)), (5, .int (iI (bI ((e = 0 ∧ d 1 0 = 1) ∨ (e = d 3 0 - 1 ∧ d 1 0 = 2))))), (4, .int (iI (bI (e = d 3 0 - 1)))), (3, .int (iI (bI (e = 0)))), (0, .ref B), (1, .ref a), (2, .int (iI e))]) rfl (pc' := 157) rfl ?_
                  refine T_p xr_17_157 xn_17 (pc' := 65) (ls' := [(7, .int (iI (i + 1))), (9, .int (iI (bI (X_fi lo D W d e i)))), (8, .ref a434), (6, .int (iI b)), (5, .int (iI (bI ((e = 0 ∧ d 1 0 = 1) ∨ (e = d 3 0 - 1 ∧ d 1 0 = 2))))), (4, .int (iI (bI (e = d 3 0 - 1)))), (3, .int (iI (bI (e = 0)))), (0, .ref B), (1, .ref a), (2, .int (iI e))]) (st' := []) rfl ?_
                  refine T_sub (ls := [(7, .int (iI (i + 1))), (6, .int (iI b)), (5, .int (iI (bI ((e = 0 ∧ d 1 0 = 1) ∨ (e = d 3 0 - 1 ∧ d 1 0 = 2))))), (4, .int (iI (bI (e = d 3 0 - 1)))), (3, .int (iI (bI (e = 0)))), (0, .ref B), (1, .ref a), (2, .int (iI e))]) ⟨rfl, rfl, rfl, rfl, rfl, rfl, rfl, rfl, trivial⟩ rfl rfl ?_
                  exact ih428 (i + 1) b  (by omega) (fun k h1 h2 => by
                        rw [hbt k h1 h2]
                        constructor
                        · rintro ⟨g1, g2⟩; exact ⟨by omega, g2⟩
                        · rintro ⟨g1, g2⟩
                          by_cases hk : k = i
                          · subst hk; exact absurd g2 (by assumption)
                          · exact ⟨by omega, g2⟩) (by omega)
                · skip
                  have c437 : (X_fi lo D W d e i) := c437
                  refine T_p xr_17_145 xn_17 (pc' := 147) (ls' := [(9, .int (iI (bI (X_fi lo D W d e i)))), (8, .ref a434), (7, .int (iI i)), (6, .int (iI b)), (5, .int (iI (bI ((e = 0 ∧ d 1 0 = 1) ∨ (e = d 3 0 - 1 ∧ d 1 0 = 2))))), (4, .int (iI (bI (e = d 3 0 - 1)))), (3, .int (iI (bI (e = 0)))), (0, .ref B), (1, .ref a), (2, .int (iI e))]) (st' := [.int (iI b)]) rfl ?_
                  refine T_p xr_17_147 xn_17 (pc' := 148) (ls' := [(9, .int (iI (bI (X_fi lo D W d e i)))), (8, .ref a434), (7, .int (iI i)), (6, .int (iI b)), (5, .int (iI (bI ((e = 0 ∧ d 1 0 = 1) ∨ (e = d 3 0 - 1 ∧ d 1 0 = 2))))), (4, .int (iI (bI (e = d 3 0 - 1)))), (3, .int (iI (bI (e = 0)))), (0, .ref B), (1, .ref a), (2, .int (iI e))]) (st' := [.int (iI 1), .int (iI b)]) rfl ?_
                  refine T_p xr_17_148 xn_17 (pc' := 150) (ls' := [(9, .int (iI (bI (X_fi lo D W d e i)))), (8, .ref a434), (7, .int (iI i)), (6, .int (iI b)), (5, .int (iI (bI ((e = 0 ∧ d 1 0 = 1) ∨ (e = d 3 0 - 1 ∧ d 1 0 = 2))))), (4, .int (iI (bI (e = d 3 0 - 1)))), (3, .int (iI (bI (e = 0)))), (0, .ref B), (1, .ref a), (2, .int (iI e))]) (st' := [.int (iI i), .int (iI 1), .int (iI b)]) rfl ?_
                  refine T_zop xr_17_150 (pc' := 151) rfl (z := (iI 1 <<< (iI i &&& 31)).toInt) (iI_of _) ?_
                  refine T_zop xr_17_151 (pc' := 152) rfl (z := (iI b ||| iI ((iI 1 <<< (iI i &&& 31)).toInt)).toInt) (iI_of _) ?_
                  refine T_p xr_17_152 xn_17 (pc' := 154) (ls' := [(6, .int (iI ((iI b ||| iI ((iI 1 <<< (iI i &&& 31)).toInt)).toInt))), (9, .int (iI (bI (X_fi lo D W d e i)))), (8, .ref a434), (7, .int (iI i)), (5, .int (iI (bI ((e = 0 ∧ d 1 0 = 1) ∨ (e = d 3 0 - 1 ∧ d 1 0 = 2))))), (4, .int (iI (bI (e = d 3 0 - 1)))), (3, .int (iI (bI (e = 0)))), (0, .ref B), (1, .ref a), (2, .int (iI e))]) (st' := []) rfl ?_
                  refine T_ziinc xr_17_154 xn_17 (a := i) (z := i + 1) rfl (Nat.le_of_ble_eq_true rfl) (by omega) (ls' := [(7, .int (iI (i + 1))), (6, .int (iI ((iI b ||| iI ((iI 1 <<< (iI i &&& 31)).toInt)).toInt))), (9, .int (iI (bI (X_fi lo D W d e i)))), (8, .ref a434), (5, .int (iI (bI ((e = 0 ∧ d 1 0 = 1) ∨ (e = d 3 0 - 1 ∧ d 1 0 = 2))))), (4, .int (iI (bI (e = d 3 0 - 1)))), (3, .int (iI (bI (e = 0)))), (0, .ref B), (1, .ref a), (2, .int (iI e))]) rfl (pc' := 157) rfl ?_
                  refine T_p xr_17_157 xn_17 (pc' := 65) (ls' := [(7, .int (iI (i + 1))), (6, .int (iI ((iI b ||| iI ((iI 1 <<< (iI i &&& 31)).toInt)).toInt))), (9, .int (iI (bI (X_fi lo D W d e i)))), (8, .ref a434), (5, .int (iI (bI ((e = 0 ∧ d 1 0 = 1) ∨ (e = d 3 0 - 1 ∧ d 1 0 = 2))))), (4, .int (iI (bI (e = d 3 0 - 1)))), (3, .int (iI (bI (e = 0)))), (0, .ref B), (1, .ref a), (2, .int (iI e))]) (st' := []) rfl ?_
                  refine T_sub (ls := [(7, .int (iI (i + 1))), (6, .int (iI ((iI b ||| iI ((iI 1 <<< (iI i &&& 31)).toInt)).toInt))), (5, .int (iI (bI ((e = 0 ∧ d 1 0 = 1) ∨ (e = d 3 0 - 1 ∧ d 1 0 = 2))))), (4, .int (iI (bI (e = d 3 0 - 1)))), (3, .int (iI (bI (e = 0)))), (0, .ref B), (1, .ref a), (2, .int (iI e))]) ⟨rfl, rfl, rfl, rfl, rfl, rfl, rfl, rfl, trivial⟩ rfl rfl ?_
                  exact ih428 (i + 1) ((iI b ||| iI ((iI 1 <<< (iI i &&& 31)).toInt)).toInt)  (by omega) (fun k h1 h2 => by
                        show X_bt (X_bO b (X_bS i)) k ↔ _
                        rw [X_bt_or _ _ _ ⟨h1, h2⟩, hbt k h1 h2, X_bt_sh _ _ (by omega) ⟨h1, h2⟩]
                        constructor
                        · rintro (⟨g1, g2⟩ | g1)
                          · exact ⟨by omega, g2⟩
                          · subst g1; exact ⟨by omega, by assumption⟩
                        · rintro ⟨g1, g2⟩
                          by_cases hk : k = i
                          · exact Or.inr hk
                          · exact Or.inl ⟨by omega, g2⟩) (by omega)
              refine T_p xr_17_83 xn_17 (pc' := 84) (ls' := [(8, .ref a434), (7, .int (iI i)), (6, .int (iI b)), (5, .int (iI (bI ((e = 0 ∧ d 1 0 = 1) ∨ (e = d 3 0 - 1 ∧ d 1 0 = 2))))), (4, .int (iI (bI (e = d 3 0 - 1)))), (3, .int (iI (bI (e = 0)))), (0, .ref B), (1, .ref a), (2, .int (iI e))]) (st' := [.int (iI (bI (e = 0)))]) rfl ?_
              refine T_bif_ne xr_17_84 (t := 92) (pc' := 87) rfl rfl (fun c438 => ?_) (fun c438 => ?_)
              · skip
                have c438 : (e = 0) := c438
                refine T_p xr_17_92 xn_17 (pc' := 94) (ls' := [(8, .ref a434), (7, .int (iI i)), (6, .int (iI b)), (5, .int (iI (bI ((e = 0 ∧ d 1 0 = 1) ∨ (e = d 3 0 - 1 ∧ d 1 0 = 2))))), (4, .int (iI (bI (e = d 3 0 - 1)))), (3, .int (iI (bI (e = 0)))), (0, .ref B), (1, .ref a), (2, .int (iI e))]) (st' := [.ref a434]) rfl ?_
                refine T_cv (S := S) (q := a434) xr_17_94 xf_102.1 xf_102.2.1 xn_102 (as := []) (r := []) rfl hw433.1.1 (Nat.le_of_ble_eq_true rfl) (Nat.le_of_ble_eq_true rfl) (pc' := 97) rfl (ls' := [(0, .ref a434)]) rfl ?_
                refine T_mono (c_isClosed sc S a434 (D i) (W i) ⟨hw433.1.1, hw433.1.2.1, hw433.1.2.2.1, hw433.1.2.2.2.1, hw433.1.2.2.2.2.1, hw433.1.2.2.2.2.2.1, hw433.1.2.2.2.2.2.2.1, hw433.1.2.2.2.2.2.2.2⟩ hw433.2) (fun v440 S441 h439 => ?_)
                obtain ⟨h442, h443⟩ := h439
                rw [h442, h443]
                show X_T sc 17 (97, [(8, .ref a434), (7, .int (iI i)), (6, .int (iI b)), (5, .int (iI (bI ((e = 0 ∧ d 1 0 = 1) ∨ (e = d 3 0 - 1 ∧ d 1 0 = 2))))), (4, .int (iI (bI (e = d 3 0 - 1)))), (3, .int (iI (bI (e = 0)))), (0, .ref B), (1, .ref a), (2, .int (iI e))], [.int (iI (bI (X_en (D i) (W i) = 0)))], S) _
                refine T_bif_ne xr_17_97 (t := 133) (pc' := 100) rfl rfl (fun c444 => ?_) (fun c444 => ?_)
                · skip
                  have c444 : (X_en (D i) (W i) = 0) := c444
                  refine T_p xr_17_133 xn_17 (pc' := 134) (ls' := [(8, .ref a434), (7, .int (iI i)), (6, .int (iI b)), (5, .int (iI (bI ((e = 0 ∧ d 1 0 = 1) ∨ (e = d 3 0 - 1 ∧ d 1 0 = 2))))), (4, .int (iI (bI (e = d 3 0 - 1)))), (3, .int (iI (bI (e = 0)))), (0, .ref B), (1, .ref a), (2, .int (iI e))]) (st' := [.int (iI 1)]) rfl ?_
                  refine T_p xr_17_134 xn_17 (pc' := 138) (ls' := [(8, .ref a434), (7, .int (iI i)), (6, .int (iI b)), (5, .int (iI (bI ((e = 0 ∧ d 1 0 = 1) ∨ (e = d 3 0 - 1 ∧ d 1 0 = 2))))), (4, .int (iI (bI (e = d 3 0 - 1)))), (3, .int (iI (bI (e = 0)))), (0, .ref B), (1, .ref a), (2, .int (iI e))]) (st' := [.int (iI 1)]) rfl ?_
                  refine T_ie (y := iI (bI (X_fi lo D W d e i))) (by rw [bI_t (by unfold X_fi; first
                          | exact Or.inl ⟨by assumption, by assumption⟩
                          | exact Or.inr (Or.inl (by assumption))
                          | exact Or.inr (Or.inr (Or.inl (by assumption)))
                          | exact Or.inr (Or.inr (Or.inr ⟨by assumption, by omega⟩)))]) ?_
                  exact J436
                · skip
                  have c444 : ¬ (X_en (D i) (W i) = 0) := c444
                  refine T_p xr_17_100 xn_17 (pc' := 101) (ls' := [(8, .ref a434), (7, .int (iI i)), (6, .int (iI b)), (5, .int (iI (bI ((e = 0 ∧ d 1 0 = 1) ∨ (e = d 3 0 - 1 ∧ d 1 0 = 2))))), (4, .int (iI (bI (e = d 3 0 - 1)))), (3, .int (iI (bI (e = 0)))), (0, .ref B), (1, .ref a), (2, .int (iI e))]) (st' := [.ref B]) rfl ?_
                  refine T_p xr_17_101 xn_17 (pc' := 103) (ls' := [(8, .ref a434), (7, .int (iI i)), (6, .int (iI b)), (5, .int (iI (bI ((e = 0 ∧ d 1 0 = 1) ∨ (e = d 3 0 - 1 ∧ d 1 0 = 2))))), (4, .int (iI (bI (e = d 3 0 - 1)))), (3, .int (iI (bI (e = 0)))), (0, .ref B), (1, .ref a), (2, .int (iI e))]) (st' := [.ref a434, .ref B]) rfl ?_
                  refine T_get xr_17_103 hw433.1.1 rfl (v := .int (iI (D i 0 0))) rfl (pc' := 106) rfl ?_
                  refine T_p xr_17_106 xn_17 (pc' := 107) (ls' := [(8, .ref a434), (7, .int (iI i)), (6, .int (iI b)), (5, .int (iI (bI ((e = 0 ∧ d 1 0 = 1) ∨ (e = d 3 0 - 1 ∧ d 1 0 = 2))))), (4, .int (iI (bI (e = d 3 0 - 1)))), (3, .int (iI (bI (e = 0)))), (0, .ref B), (1, .ref a), (2, .int (iI e))]) (st' := [.ref a, .int (iI (D i 0 0)), .ref B]) rfl ?_
                  refine T_get xr_17_107 hw.1 rfl (v := .int (iI (d 0 0))) rfl (pc' := 110) rfl ?_
                  refine T_cv (S := S) (q := B) xr_17_110 xf_11.1 xf_11.2.1 xn_11 (as := [.int (iI (D i 0 0)), .int (iI (d 0 0))]) (r := []) rfl hb0 (Nat.le_of_ble_eq_true rfl) (Nat.le_of_ble_eq_true rfl) (pc' := 113) rfl (ls' := [(0, .ref B), (1, .int (iI (D i 0 0))), (2, .int (iI (d 0 0)))]) rfl ?_
                  refine T_mono (c_isTighter sc S B rc kc wc rn lo kn ab (D i 0 0) (d 0 0) ⟨hb0, hb1, hb2, hb3, hb4, ⟨f, hb5, hf⟩, ⟨by omega, by omega⟩, ⟨by omega, by omega⟩, ⟨by omega, by omega⟩⟩ (by omega)) (fun v446 S447 h445 => ?_)
                  obtain ⟨h448, h449⟩ := h445
                  rw [h448, h449]
                  show X_T sc 17 (113, [(8, .ref a434), (7, .int (iI i)), (6, .int (iI b)), (5, .int (iI (bI ((e = 0 ∧ d 1 0 = 1) ∨ (e = d 3 0 - 1 ∧ d 1 0 = 2))))), (4, .int (iI (bI (e = d 3 0 - 1)))), (3, .int (iI (bI (e = 0)))), (0, .ref B), (1, .ref a), (2, .int (iI e))], [.int (iI (bI (X_bt (lo (D i 0 0)) (d 0 0))))], S) _
                  refine T_bif_ne xr_17_113 (t := 133) (pc' := 116) rfl rfl (fun c450 => ?_) (fun c450 => ?_)
                  · skip
                    have c450 : (X_bt (lo (D i 0 0)) (d 0 0)) := c450
                    refine T_p xr_17_133 xn_17 (pc' := 134) (ls' := [(8, .ref a434), (7, .int (iI i)), (6, .int (iI b)), (5, .int (iI (bI ((e = 0 ∧ d 1 0 = 1) ∨ (e = d 3 0 - 1 ∧ d 1 0 = 2))))), (4, .int (iI (bI (e = d 3 0 - 1)))), (3, .int (iI (bI (e = 0)))), (0, .ref B), (1, .ref a), (2, .int (iI e))]) (st' := [.int (iI 1)]) rfl ?_
                    refine T_p xr_17_134 xn_17 (pc' := 138) (ls' := [(8, .ref a434), (7, .int (iI i)), (6, .int (iI b)), (5, .int (iI (bI ((e = 0 ∧ d 1 0 = 1) ∨ (e = d 3 0 - 1 ∧ d 1 0 = 2))))), (4, .int (iI (bI (e = d 3 0 - 1)))), (3, .int (iI (bI (e = 0)))), (0, .ref B), (1, .ref a), (2, .int (iI e))]) (st' := [.int (iI 1)]) rfl ?_
                    refine T_ie (y := iI (bI (X_fi lo D W d e i))) (by rw [bI_t (by unfold X_fi; first
                            | exact Or.inl ⟨by assumption, by assumption⟩
                            | exact Or.inr (Or.inl (by assumption))
                            | exact Or.inr (Or.inr (Or.inl (by assumption)))
                            | exact Or.inr (Or.inr (Or.inr ⟨by assumption, by omega⟩)))]) ?_
                    exact J436
                  · skip
                    have c450 : ¬ (X_bt (lo (D i 0 0)) (d 0 0)) := c450
                    refine T_p xr_17_116 xn_17 (pc' := 118) (ls' := [(8, .ref a434), (7, .int (iI i)), (6, .int (iI b)), (5, .int (iI (bI ((e = 0 ∧ d 1 0 = 1) ∨ (e = d 3 0 - 1 ∧ d 1 0 = 2))))), (4, .int (iI (bI (e = d 3 0 - 1)))), (3, .int (iI (bI (e = 0)))), (0, .ref B), (1, .ref a), (2, .int (iI e))]) (st' := [.int (iI (bI ((e = 0 ∧ d 1 0 = 1) ∨ (e = d 3 0 - 1 ∧ d 1 0 = 2))))]) rfl ?_
                    refine T_bif_eq xr_17_118 (t := 137) (pc' := 121) rfl rfl (fun c451 => ?_) (fun c451 => ?_)
                    · skip
                      have c451 : ¬ ((e = 0 ∧ d 1 0 = 1) ∨ (e = d 3 0 - 1 ∧ d 1 0 = 2)) := c451
                      refine T_p xr_17_137 xn_17 (pc' := 138) (ls' := [(8, .ref a434), (7, .int (iI i)), (6, .int (iI b)), (5, .int (iI (bI ((e = 0 ∧ d 1 0 = 1) ∨ (e = d 3 0 - 1 ∧ d 1 0 = 2))))), (4, .int (iI (bI (e = d 3 0 - 1)))), (3, .int (iI (bI (e = 0)))), (0, .ref B), (1, .ref a), (2, .int (iI e))]) (st' := [.int (iI 0)]) rfl ?_
                      refine T_ie (y := iI (bI (X_fi lo D W d e i))) (by rw [bI_f (by unfold X_fi; rintro (⟨h1, h2⟩ | h1 | h1 | ⟨h1, h2⟩) <;> first | contradiction | omega)]) ?_
                      exact J436
                    · skip
                      have c451 : ((e = 0 ∧ d 1 0 = 1) ∨ (e = d 3 0 - 1 ∧ d 1 0 = 2)) := c451
                      refine T_p xr_17_121 xn_17 (pc' := 123) (ls' := [(8, .ref a434), (7, .int (iI i)), (6, .int (iI b)), (5, .int (iI (bI ((e = 0 ∧ d 1 0 = 1) ∨ (e = d 3 0 - 1 ∧ d 1 0 = 2))))), (4, .int (iI (bI (e = d 3 0 - 1)))), (3, .int (iI (bI (e = 0)))), (0, .ref B), (1, .ref a), (2, .int (iI e))]) (st' := [.ref a434]) rfl ?_
                      refine T_get xr_17_123 hw433.1.1 rfl (v := .int (iI (D i 0 0))) rfl (pc' := 126) rfl ?_
                      refine T_p xr_17_126 xn_17 (pc' := 127) (ls' := [(8, .ref a434), (7, .int (iI i)), (6, .int (iI b)), (5, .int (iI (bI ((e = 0 ∧ d 1 0 = 1) ∨ (e = d 3 0 - 1 ∧ d 1 0 = 2))))), (4, .int (iI (bI (e = d 3 0 - 1)))), (3, .int (iI (bI (e = 0)))), (0, .ref B), (1, .ref a), (2, .int (iI e))]) (st' := [.ref a, .int (iI (D i 0 0))]) rfl ?_
                      refine T_get xr_17_127 hw.1 rfl (v := .int (iI (d 0 0))) rfl (pc' := 130) rfl ?_
                      refine T_zicmp_ne xr_17_130 (t := 137) (pc' := 133) rfl rfl (fun c452 => ?_) (fun c452 => ?_)
                      · skip
                        have c452 : ¬ (D i 0 0) = (d 0 0) := c452
                        refine T_p xr_17_137 xn_17 (pc' := 138) (ls' := [(8, .ref a434), (7, .int (iI i)), (6, .int (iI b)), (5, .int (iI (bI ((e = 0 ∧ d 1 0 = 1) ∨ (e = d 3 0 - 1 ∧ d 1 0 = 2))))), (4, .int (iI (bI (e = d 3 0 - 1)))), (3, .int (iI (bI (e = 0)))), (0, .ref B), (1, .ref a), (2, .int (iI e))]) (st' := [.int (iI 0)]) rfl ?_
                        refine T_ie (y := iI (bI (X_fi lo D W d e i))) (by rw [bI_f (by unfold X_fi; rintro (⟨h1, h2⟩ | h1 | h1 | ⟨h1, h2⟩) <;> first | contradiction | omega)]) ?_
                        exact J436
                      · skip
                        have c452 : ¬ (¬ (D i 0 0) = (d 0 0)) := c452
                        refine T_p xr_17_133 xn_17 (pc' := 134) (ls' := [(8, .ref a434), (7, .int (iI i)), (6, .int (iI b)), (5, .int (iI (bI ((e = 0 ∧ d 1 0 = 1) ∨ (e = d 3 0 - 1 ∧ d 1 0 = 2))))), (4, .int (iI (bI (e = d 3 0 - 1)))), (3, .int (iI (bI (e = 0)))), (0, .ref B), (1, .ref a), (2, .int (iI e))]) (st' := [.int (iI 1)]) rfl ?_
                        refine T_p xr_17_134 xn_17 (pc' := 138) (ls' := [(8, .ref a434), (7, .int (iI i)), (6, .int (iI b)), (5, .int (iI (bI ((e = 0 ∧ d 1 0 = 1) ∨ (e = d 3 0 - 1 ∧ d 1 0 = 2))))), (4, .int (iI (bI (e = d 3 0 - 1)))), (3, .int (iI (bI (e = 0)))), (0, .ref B), (1, .ref a), (2, .int (iI e))]) (st' := [.int (iI 1)]) rfl ?_
                        refine T_ie (y := iI (bI (X_fi lo D W d e i))) (by rw [bI_t (by unfold X_fi; first
                                | exact Or.inl ⟨by assumption, by assumption⟩
                                | exact Or.inr (Or.inl (by assumption))
                                | exact Or.inr (Or.inr (Or.inl (by assumption)))
                                | exact Or.inr (Or.inr (Or.inr ⟨by assumption, by omega⟩)))]) ?_
                        exact J436
              · skip
                have c438 : ¬ (e = 0) := c438
                refine T_p xr_17_87 xn_17 (pc' := 89) (ls' := [(8, .ref a434), (7, .int (iI i)), (6, .int (iI b)), (5, .int (iI (bI ((e = 0 ∧ d 1 0 = 1) ∨ (e = d 3 0 - 1 ∧ d 1 0 = 2))))), (4, .int (iI (bI (e = d 3 0 - 1)))), (3, .int (iI (bI (e = 0)))), (0, .ref B), (1, .ref a), (2, .int (iI e))]) (st' := [.int (iI (bI (e = d 3 0 - 1)))]) rfl ?_
                refine T_bif_eq xr_17_89 (t := 133) (pc' := 92) rfl rfl (fun c453 => ?_) (fun c453 => ?_)
                · skip
                  have c453 : ¬ (e = d 3 0 - 1) := c453
                  refine T_p xr_17_133 xn_17 (pc' := 134) (ls' := [(8, .ref a434), (7, .int (iI i)), (6, .int (iI b)), (5, .int (iI (bI ((e = 0 ∧ d 1 0 = 1) ∨ (e = d 3 0 - 1 ∧ d 1 0 = 2))))), (4, .int (iI (bI (e = d 3 0 - 1)))), (3, .int (iI (bI (e = 0)))), (0, .ref B), (1, .ref a), (2, .int (iI e))]) (st' := [.int (iI 1)]) rfl ?_
                  refine T_p xr_17_134 xn_17 (pc' := 138) (ls' := [(8, .ref a434), (7, .int (iI i)), (6, .int (iI b)), (5, .int (iI (bI ((e = 0 ∧ d 1 0 = 1) ∨ (e = d 3 0 - 1 ∧ d 1 0 = 2))))), (4, .int (iI (bI (e = d 3 0 - 1)))), (3, .int (iI (bI (e = 0)))), (0, .ref B), (1, .ref a), (2, .int (iI e))]) (st' := [.int (iI 1)]) rfl ?_
                  refine T_ie (y := iI (bI (X_fi lo D W d e i))) (by rw [bI_t (by unfold X_fi; first
                          | exact Or.inl ⟨by assumption, by assumption⟩
                          | exact Or.inr (Or.inl (by assumption))
                          | exact Or.inr (Or.inr (Or.inl (by assumption)))
                          | exact Or.inr (Or.inr (Or.inr ⟨by assumption, by omega⟩)))]) ?_
                  exact J436
                · skip
                  have c453 : (e = d 3 0 - 1) := c453
                  refine T_p xr_17_92 xn_17 (pc' := 94) (ls' := [(8, .ref a434), (7, .int (iI i)), (6, .int (iI b)), (5, .int (iI (bI ((e = 0 ∧ d 1 0 = 1) ∨ (e = d 3 0 - 1 ∧ d 1 0 = 2))))), (4, .int (iI (bI (e = d 3 0 - 1)))), (3, .int (iI (bI (e = 0)))), (0, .ref B), (1, .ref a), (2, .int (iI e))]) (st' := [.ref a434]) rfl ?_
                  refine T_cv (S := S) (q := a434) xr_17_94 xf_102.1 xf_102.2.1 xn_102 (as := []) (r := []) rfl hw433.1.1 (Nat.le_of_ble_eq_true rfl) (Nat.le_of_ble_eq_true rfl) (pc' := 97) rfl (ls' := [(0, .ref a434)]) rfl ?_
                  refine T_mono (c_isClosed sc S a434 (D i) (W i) ⟨hw433.1.1, hw433.1.2.1, hw433.1.2.2.1, hw433.1.2.2.2.1, hw433.1.2.2.2.2.1, hw433.1.2.2.2.2.2.1, hw433.1.2.2.2.2.2.2.1, hw433.1.2.2.2.2.2.2.2⟩ hw433.2) (fun v455 S456 h454 => ?_)
                  obtain ⟨h457, h458⟩ := h454
                  rw [h457, h458]
                  show X_T sc 17 (97, [(8, .ref a434), (7, .int (iI i)), (6, .int (iI b)), (5, .int (iI (bI ((e = 0 ∧ d 1 0 = 1) ∨ (e = d 3 0 - 1 ∧ d 1 0 = 2))))), (4, .int (iI (bI (e = d 3 0 - 1)))), (3, .int (iI (bI (e = 0)))), (0, .ref B), (1, .ref a), (2, .int (iI e))], [.int (iI (bI (X_en (D i) (W i) = 0)))], S) _
                  refine T_bif_ne xr_17_97 (t := 133) (pc' := 100) rfl rfl (fun c459 => ?_) (fun c459 => ?_)
                  · skip
                    have c459 : (X_en (D i) (W i) = 0) := c459
                    refine T_p xr_17_133 xn_17 (pc' := 134) (ls' := [(8, .ref a434), (7, .int (iI i)), (6, .int (iI b)), (5, .int (iI (bI ((e = 0 ∧ d 1 0 = 1) ∨ (e = d 3 0 - 1 ∧ d 1 0 = 2))))), (4, .int (iI (bI (e = d 3 0 - 1)))), (3, .int (iI (bI (e = 0)))), (0, .ref B), (1, .ref a), (2, .int (iI e))]) (st' := [.int (iI 1)]) rfl ?_
                    refine T_p xr_17_134 xn_17 (pc' := 138) (ls' := [(8, .ref a434), (7, .int (iI i)), (6, .int (iI b)), (5, .int (iI (bI ((e = 0 ∧ d 1 0 = 1) ∨ (e = d 3 0 - 1 ∧ d 1 0 = 2))))), (4, .int (iI (bI (e = d 3 0 - 1)))), (3, .int (iI (bI (e = 0)))), (0, .ref B), (1, .ref a), (2, .int (iI e))]) (st' := [.int (iI 1)]) rfl ?_
                    refine T_ie (y := iI (bI (X_fi lo D W d e i))) (by rw [bI_t (by unfold X_fi; first
                            | exact Or.inl ⟨by assumption, by assumption⟩
                            | exact Or.inr (Or.inl (by assumption))
                            | exact Or.inr (Or.inr (Or.inl (by assumption)))
                            | exact Or.inr (Or.inr (Or.inr ⟨by assumption, by omega⟩)))]) ?_
                    exact J436
                  · skip
                    have c459 : ¬ (X_en (D i) (W i) = 0) := c459
                    refine T_p xr_17_100 xn_17 (pc' := 101) (ls' := [(8, .ref a434), (7, .int (iI i)), (6, .int (iI b)), (5, .int (iI (bI ((e = 0 ∧ d 1 0 = 1) ∨ (e = d 3 0 - 1 ∧ d 1 0 = 2))))), (4, .int (iI (bI (e = d 3 0 - 1)))), (3, .int (iI (bI (e = 0)))), (0, .ref B), (1, .ref a), (2, .int (iI e))]) (st' := [.ref B]) rfl ?_
                    refine T_p xr_17_101 xn_17 (pc' := 103) (ls' := [(8, .ref a434), (7, .int (iI i)), (6, .int (iI b)), (5, .int (iI (bI ((e = 0 ∧ d 1 0 = 1) ∨ (e = d 3 0 - 1 ∧ d 1 0 = 2))))), (4, .int (iI (bI (e = d 3 0 - 1)))), (3, .int (iI (bI (e = 0)))), (0, .ref B), (1, .ref a), (2, .int (iI e))]) (st' := [.ref a434, .ref B]) rfl ?_
                    refine T_get xr_17_103 hw433.1.1 rfl (v := .int (iI (D i 0 0))) rfl (pc' := 106) rfl ?_
                    refine T_p xr_17_106 xn_17 (pc' := 107) (ls' := [(8, .ref a434), (7, .int (iI i)), (6, .int (iI b)), (5, .int (iI (bI ((e = 0 ∧ d 1 0 = 1) ∨ (e = d 3 0 - 1 ∧ d 1 0 = 2))))), (4, .int (iI (bI (e = d 3 0 - 1)))), (3, .int (iI (bI (e = 0)))), (0, .ref B), (1, .ref a), (2, .int (iI e))]) (st' := [.ref a, .int (iI (D i 0 0)), .ref B]) rfl ?_
                    refine T_get xr_17_107 hw.1 rfl (v := .int (iI (d 0 0))) rfl (pc' := 110) rfl ?_
                    refine T_cv (S := S) (q := B) xr_17_110 xf_11.1 xf_11.2.1 xn_11 (as := [.int (iI (D i 0 0)), .int (iI (d 0 0))]) (r := []) rfl hb0 (Nat.le_of_ble_eq_true rfl) (Nat.le_of_ble_eq_true rfl) (pc' := 113) rfl (ls' := [(0, .ref B), (1, .int (iI (D i 0 0))), (2, .int (iI (d 0 0)))]) rfl ?_
                    refine T_mono (c_isTighter sc S B rc kc wc rn lo kn ab (D i 0 0) (d 0 0) ⟨hb0, hb1, hb2, hb3, hb4, ⟨f, hb5, hf⟩, ⟨by omega, by omega⟩, ⟨by omega, by omega⟩, ⟨by omega, by omega⟩⟩ (by omega)) (fun v461 S462 h460 => ?_)
                    obtain ⟨h463, h464⟩ := h460
                    rw [h463, h464]
                    show X_T sc 17 (113, [(8, .ref a434), (7, .int (iI i)), (6, .int (iI b)), (5, .int (iI (bI ((e = 0 ∧ d 1 0 = 1) ∨ (e = d 3 0 - 1 ∧ d 1 0 = 2))))), (4, .int (iI (bI (e = d 3 0 - 1)))), (3, .int (iI (bI (e = 0)))), (0, .ref B), (1, .ref a), (2, .int (iI e))], [.int (iI (bI (X_bt (lo (D i 0 0)) (d 0 0))))], S) _
                    refine T_bif_ne xr_17_113 (t := 133) (pc' := 116) rfl rfl (fun c465 => ?_) (fun c465 => ?_)
                    · skip
                      have c465 : (X_bt (lo (D i 0 0)) (d 0 0)) := c465
                      refine T_p xr_17_133 xn_17 (pc' := 134) (ls' := [(8, .ref a434), (7, .int (iI i)), (6, .int (iI b)), (5, .int (iI (bI ((e = 0 ∧ d 1 0 = 1) ∨ (e = d 3 0 - 1 ∧ d 1 0 = 2))))), (4, .int (iI (bI (e = d 3 0 - 1)))), (3, .int (iI (bI (e = 0)))), (0, .ref B), (1, .ref a), (2, .int (iI e))]) (st' := [.int (iI 1)]) rfl ?_
                      refine T_p xr_17_134 xn_17 (pc' := 138) (ls' := [(8, .ref a434), (7, .int (iI i)), (6, .int (iI b)), (5, .int (iI (bI ((e = 0 ∧ d 1 0 = 1) ∨ (e = d 3 0 - 1 ∧ d 1 0 = 2))))), (4, .int (iI (bI (e = d 3 0 - 1)))), (3, .int (iI (bI (e = 0)))), (0, .ref B), (1, .ref a), (2, .int (iI e))]) (st' := [.int (iI 1)]) rfl ?_
                      refine T_ie (y := iI (bI (X_fi lo D W d e i))) (by rw [bI_t (by unfold X_fi; first
                              | exact Or.inl ⟨by assumption, by assumption⟩
                              | exact Or.inr (Or.inl (by assumption))
                              | exact Or.inr (Or.inr (Or.inl (by assumption)))
                              | exact Or.inr (Or.inr (Or.inr ⟨by assumption, by omega⟩)))]) ?_
                      exact J436
                    · skip
                      have c465 : ¬ (X_bt (lo (D i 0 0)) (d 0 0)) := c465
                      refine T_p xr_17_116 xn_17 (pc' := 118) (ls' := [(8, .ref a434), (7, .int (iI i)), (6, .int (iI b)), (5, .int (iI (bI ((e = 0 ∧ d 1 0 = 1) ∨ (e = d 3 0 - 1 ∧ d 1 0 = 2))))), (4, .int (iI (bI (e = d 3 0 - 1)))), (3, .int (iI (bI (e = 0)))), (0, .ref B), (1, .ref a), (2, .int (iI e))]) (st' := [.int (iI (bI ((e = 0 ∧ d 1 0 = 1) ∨ (e = d 3 0 - 1 ∧ d 1 0 = 2))))]) rfl ?_
                      refine T_bif_eq xr_17_118 (t := 137) (pc' := 121) rfl rfl (fun c466 => ?_) (fun c466 => ?_)
                      · skip
                        have c466 : ¬ ((e = 0 ∧ d 1 0 = 1) ∨ (e = d 3 0 - 1 ∧ d 1 0 = 2)) := c466
                        refine T_p xr_17_137 xn_17 (pc' := 138) (ls' := [(8, .ref a434), (7, .int (iI i)), (6, .int (iI b)), (5, .int (iI (bI ((e = 0 ∧ d 1 0 = 1) ∨ (e = d 3 0 - 1 ∧ d 1 0 = 2))))), (4, .int (iI (bI (e = d 3 0 - 1)))), (3, .int (iI (bI (e = 0)))), (0, .ref B), (1, .ref a), (2, .int (iI e))]) (st' := [.int (iI 0)]) rfl ?_
                        refine T_ie (y := iI (bI (X_fi lo D W d e i))) (by rw [bI_f (by unfold X_fi; rintro (⟨h1, h2⟩ | h1 | h1 | ⟨h1, h2⟩) <;> first | contradiction | omega)]) ?_
                        exact J436
                      · skip
                        have c466 : ((e = 0 ∧ d 1 0 = 1) ∨ (e = d 3 0 - 1 ∧ d 1 0 = 2)) := c466
                        refine T_p xr_17_121 xn_17 (pc' := 123) (ls' := [(8, .ref a434), (7, .int (iI i)), (6, .int (iI b)), (5, .int (iI (bI ((e = 0 ∧ d 1 0 = 1) ∨ (e = d 3 0 - 1 ∧ d 1 0 = 2))))), (4, .int (iI (bI (e = d 3 0 - 1)))), (3, .int (iI (bI (e = 0)))), (0, .ref B), (1, .ref a), (2, .int (iI e))]) (st' := [.ref a434]) rfl ?_
                        refine T_get xr_17_123 hw433.1.1 rfl (v := .int (iI (D i 0 0))) rfl (pc' := 126) rfl ?_
                        refine T_p xr_17_126 xn_17 (pc' := 127) (ls' := [(8, .ref a434), (7, .int (iI i)), (6, .int (iI b)), (5, .int (iI (bI ((e = 0 ∧ d 1 0 = 1) ∨ (e = d 3 0 - 1 ∧ d 1 0 = 2))))), (4, .int (iI (bI (e = d 3 0 - 1)))), (3, .int (iI (bI (e = 0)))), (0, .ref B), (1, .ref a), (2, .int (iI e))]) (st' := [.ref a, .int (iI (D i 0 0))]) rfl ?_
                        refine T_get xr_17_127 hw.1 rfl (v := .int (iI (d 0 0))) rfl (pc' := 130) rfl ?_
                        refine T_zicmp_ne xr_17_130 (t := 137) (pc' := 133) rfl rfl (fun c467 => ?_) (fun c467 => ?_)
                        · skip
                          have c467 : ¬ (D i 0 0) = (d 0 0) := c467
                          refine T_p xr_17_137 xn_17 (pc' := 138) (ls' := [(8, .ref a434), (7, .int (iI i)), (6, .int (iI b)), (5, .int (iI (bI ((e = 0 ∧ d 1 0 = 1) ∨ (e = d 3 0 - 1 ∧ d 1 0 = 2))))), (4, .int (iI (bI (e = d 3 0 - 1)))), (3, .int (iI (bI (e = 0)))), (0, .ref B), (1, .ref a), (2, .int (iI e))]) (st' := [.int (iI 0)]) rfl ?_
                          refine T_ie (y := iI (bI (X_fi lo D W d e i))) (by rw [bI_f (by unfold X_fi; rintro (⟨h1, h2⟩ | h1 | h1 | ⟨h1, h2⟩) <;> first | contradiction | omega)]) ?_
                          exact J436
                        · skip
                          have c467 : ¬ (¬ (D i 0 0) = (d 0 0)) := c467
                          refine T_p xr_17_133 xn_17 (pc' := 134) (ls' := [(8, .ref a434), (7, .int (iI i)), (6, .int (iI b)), (5, .int (iI (bI ((e = 0 ∧ d 1 0 = 1) ∨ (e = d 3 0 - 1 ∧ d 1 0 = 2))))), (4, .int (iI (bI (e = d 3 0 - 1)))), (3, .int (iI (bI (e = 0)))), (0, .ref B), (1, .ref a), (2, .int (iI e))]) (st' := [.int (iI 1)]) rfl ?_
                          refine T_p xr_17_134 xn_17 (pc' := 138) (ls' := [(8, .ref a434), (7, .int (iI i)), (6, .int (iI b)), (5, .int (iI (bI ((e = 0 ∧ d 1 0 = 1) ∨ (e = d 3 0 - 1 ∧ d 1 0 = 2))))), (4, .int (iI (bI (e = d 3 0 - 1)))), (3, .int (iI (bI (e = 0)))), (0, .ref B), (1, .ref a), (2, .int (iI e))]) (st' := [.int (iI 1)]) rfl ?_
                          refine T_ie (y := iI (bI (X_fi lo D W d e i))) (by rw [bI_t (by unfold X_fi; first
                                  | exact Or.inl ⟨by assumption, by assumption⟩
                                  | exact Or.inr (Or.inl (by assumption))
                                  | exact Or.inr (Or.inr (Or.inl (by assumption)))
                                  | exact Or.inr (Or.inr (Or.inr ⟨by assumption, by omega⟩)))]) ?_
                          exact J436
        exact L427 (wc + 1).toNat 0 0  (by omega) (fun k h1 h2 => ⟨fun h => absurd h (X_bt_0 k ⟨h1, h2⟩), fun h => absurd h.1 (by omega)⟩) (by omega)
      refine T_p xr_17_27 xn_17 (pc' := 28) (ls' := [(4, .int (iI (bI (e = d 3 0 - 1)))), (3, .int (iI (bI (e = 0)))), (0, .ref B), (1, .ref a), (2, .int (iI e))]) (st' := [.int (iI (bI (e = 0)))]) rfl ?_
      refine T_bif_eq xr_17_28 (t := 39) (pc' := 31) rfl rfl (fun c468 => ?_) (fun c468 => ?_)
      · skip
        have c468 : ¬ (e = 0) := c468
        refine T_p xr_17_39 xn_17 (pc' := 41) (ls' := [(4, .int (iI (bI (e = d 3 0 - 1)))), (3, .int (iI (bI (e = 0)))), (0, .ref B), (1, .ref a), (2, .int (iI e))]) (st' := [.int (iI (bI (e = d 3 0 - 1)))]) rfl ?_
        refine T_bif_eq xr_17_41 (t := 56) (pc' := 44) rfl rfl (fun c469 => ?_) (fun c469 => ?_)
        · skip
          have c469 : ¬ (e = d 3 0 - 1) := c469
          refine T_p xr_17_56 xn_17 (pc' := 57) (ls' := [(4, .int (iI (bI (e = d 3 0 - 1)))), (3, .int (iI (bI (e = 0)))), (0, .ref B), (1, .ref a), (2, .int (iI e))]) (st' := [.int (iI 0)]) rfl ?_
          refine T_ie (y := iI (bI ((e = 0 ∧ d 1 0 = 1) ∨ (e = d 3 0 - 1 ∧ d 1 0 = 2)))) (by rw [bI_f (by rintro (⟨h1, h2⟩ | ⟨h1, h2⟩) <;> first | contradiction | omega)]) ?_
          exact J426
        · skip
          have c469 : (e = d 3 0 - 1) := c469
          refine T_p xr_17_44 xn_17 (pc' := 45) (ls' := [(4, .int (iI (bI (e = d 3 0 - 1)))), (3, .int (iI (bI (e = 0)))), (0, .ref B), (1, .ref a), (2, .int (iI e))]) (st' := [.ref a]) rfl ?_
          refine T_get xr_17_45 hw.1 rfl (v := .int (iI (d 1 0))) rfl (pc' := 48) rfl ?_
          refine T_p xr_17_48 xn_17 (pc' := 49) (ls' := [(4, .int (iI (bI (e = d 3 0 - 1)))), (3, .int (iI (bI (e = 0)))), (0, .ref B), (1, .ref a), (2, .int (iI e))]) (st' := [.int (iI 2), .int (iI (d 1 0))]) rfl ?_
          refine T_zicmp_ne xr_17_49 (t := 56) (pc' := 52) rfl rfl (fun c470 => ?_) (fun c470 => ?_)
          · skip
            have c470 : ¬ (d 1 0) = 2 := c470
            refine T_p xr_17_56 xn_17 (pc' := 57) (ls' := [(4, .int (iI (bI (e = d 3 0 - 1)))), (3, .int (iI (bI (e = 0)))), (0, .ref B), (1, .ref a), (2, .int (iI e))]) (st' := [.int (iI 0)]) rfl ?_
            refine T_ie (y := iI (bI ((e = 0 ∧ d 1 0 = 1) ∨ (e = d 3 0 - 1 ∧ d 1 0 = 2)))) (by rw [bI_f (by rintro (⟨h1, h2⟩ | ⟨h1, h2⟩) <;> first | contradiction | omega)]) ?_
            exact J426
          · skip
            have c470 : ¬ (¬ (d 1 0) = 2) := c470
            refine T_p xr_17_52 xn_17 (pc' := 53) (ls' := [(4, .int (iI (bI (e = d 3 0 - 1)))), (3, .int (iI (bI (e = 0)))), (0, .ref B), (1, .ref a), (2, .int (iI e))]) (st' := [.int (iI 1)]) rfl ?_
            refine T_p xr_17_53 xn_17 (pc' := 57) (ls' := [(4, .int (iI (bI (e = d 3 0 - 1)))), (3, .int (iI (bI (e = 0)))), (0, .ref B), (1, .ref a), (2, .int (iI e))]) (st' := [.int (iI 1)]) rfl ?_
            refine T_ie (y := iI (bI ((e = 0 ∧ d 1 0 = 1) ∨ (e = d 3 0 - 1 ∧ d 1 0 = 2)))) (by rw [bI_t (by first | exact Or.inl ⟨by assumption, by omega⟩ | exact Or.inr ⟨by assumption, by omega⟩)]) ?_
            exact J426
      · skip
        have c468 : (e = 0) := c468
        refine T_p xr_17_31 xn_17 (pc' := 32) (ls' := [(4, .int (iI (bI (e = d 3 0 - 1)))), (3, .int (iI (bI (e = 0)))), (0, .ref B), (1, .ref a), (2, .int (iI e))]) (st' := [.ref a]) rfl ?_
        refine T_get xr_17_32 hw.1 rfl (v := .int (iI (d 1 0))) rfl (pc' := 35) rfl ?_
        refine T_p xr_17_35 xn_17 (pc' := 36) (ls' := [(4, .int (iI (bI (e = d 3 0 - 1)))), (3, .int (iI (bI (e = 0)))), (0, .ref B), (1, .ref a), (2, .int (iI e))]) (st' := [.int (iI 1), .int (iI (d 1 0))]) rfl ?_
        refine T_zicmp_eq xr_17_36 (t := 52) (pc' := 39) rfl rfl (fun c471 => ?_) (fun c471 => ?_)
        · skip
          have c471 : (d 1 0) = 1 := c471
          refine T_p xr_17_52 xn_17 (pc' := 53) (ls' := [(4, .int (iI (bI (e = d 3 0 - 1)))), (3, .int (iI (bI (e = 0)))), (0, .ref B), (1, .ref a), (2, .int (iI e))]) (st' := [.int (iI 1)]) rfl ?_
          refine T_p xr_17_53 xn_17 (pc' := 57) (ls' := [(4, .int (iI (bI (e = d 3 0 - 1)))), (3, .int (iI (bI (e = 0)))), (0, .ref B), (1, .ref a), (2, .int (iI e))]) (st' := [.int (iI 1)]) rfl ?_
          refine T_ie (y := iI (bI ((e = 0 ∧ d 1 0 = 1) ∨ (e = d 3 0 - 1 ∧ d 1 0 = 2)))) (by rw [bI_t (by first | exact Or.inl ⟨by assumption, by omega⟩ | exact Or.inr ⟨by assumption, by omega⟩)]) ?_
          exact J426
        · skip
          have c471 : ¬ ((d 1 0) = 1) := c471
          refine T_p xr_17_39 xn_17 (pc' := 41) (ls' := [(4, .int (iI (bI (e = d 3 0 - 1)))), (3, .int (iI (bI (e = 0)))), (0, .ref B), (1, .ref a), (2, .int (iI e))]) (st' := [.int (iI (bI (e = d 3 0 - 1)))]) rfl ?_
          refine T_bif_eq xr_17_41 (t := 56) (pc' := 44) rfl rfl (fun c472 => ?_) (fun c472 => ?_)
          · skip
            have c472 : ¬ (e = d 3 0 - 1) := c472
            refine T_p xr_17_56 xn_17 (pc' := 57) (ls' := [(4, .int (iI (bI (e = d 3 0 - 1)))), (3, .int (iI (bI (e = 0)))), (0, .ref B), (1, .ref a), (2, .int (iI e))]) (st' := [.int (iI 0)]) rfl ?_
            refine T_ie (y := iI (bI ((e = 0 ∧ d 1 0 = 1) ∨ (e = d 3 0 - 1 ∧ d 1 0 = 2)))) (by rw [bI_f (by rintro (⟨h1, h2⟩ | ⟨h1, h2⟩) <;> first | contradiction | omega)]) ?_
            exact J426
          · skip
            have c472 : (e = d 3 0 - 1) := c472
            refine T_p xr_17_44 xn_17 (pc' := 45) (ls' := [(4, .int (iI (bI (e = d 3 0 - 1)))), (3, .int (iI (bI (e = 0)))), (0, .ref B), (1, .ref a), (2, .int (iI e))]) (st' := [.ref a]) rfl ?_
            refine T_get xr_17_45 hw.1 rfl (v := .int (iI (d 1 0))) rfl (pc' := 48) rfl ?_
            refine T_p xr_17_48 xn_17 (pc' := 49) (ls' := [(4, .int (iI (bI (e = d 3 0 - 1)))), (3, .int (iI (bI (e = 0)))), (0, .ref B), (1, .ref a), (2, .int (iI e))]) (st' := [.int (iI 2), .int (iI (d 1 0))]) rfl ?_
            refine T_zicmp_ne xr_17_49 (t := 56) (pc' := 52) rfl rfl (fun c473 => ?_) (fun c473 => ?_)
            · skip
              have c473 : ¬ (d 1 0) = 2 := c473
              refine T_p xr_17_56 xn_17 (pc' := 57) (ls' := [(4, .int (iI (bI (e = d 3 0 - 1)))), (3, .int (iI (bI (e = 0)))), (0, .ref B), (1, .ref a), (2, .int (iI e))]) (st' := [.int (iI 0)]) rfl ?_
              refine T_ie (y := iI (bI ((e = 0 ∧ d 1 0 = 1) ∨ (e = d 3 0 - 1 ∧ d 1 0 = 2)))) (by rw [bI_f (by rintro (⟨h1, h2⟩ | ⟨h1, h2⟩) <;> first | contradiction | omega)]) ?_
              exact J426
            · skip
              have c473 : ¬ (¬ (d 1 0) = 2) := c473
              refine T_p xr_17_52 xn_17 (pc' := 53) (ls' := [(4, .int (iI (bI (e = d 3 0 - 1)))), (3, .int (iI (bI (e = 0)))), (0, .ref B), (1, .ref a), (2, .int (iI e))]) (st' := [.int (iI 1)]) rfl ?_
              refine T_p xr_17_53 xn_17 (pc' := 57) (ls' := [(4, .int (iI (bI (e = d 3 0 - 1)))), (3, .int (iI (bI (e = 0)))), (0, .ref B), (1, .ref a), (2, .int (iI e))]) (st' := [.int (iI 1)]) rfl ?_
              refine T_ie (y := iI (bI ((e = 0 ∧ d 1 0 = 1) ∨ (e = d 3 0 - 1 ∧ d 1 0 = 2)))) (by rw [bI_t (by first | exact Or.inl ⟨by assumption, by omega⟩ | exact Or.inr ⟨by assumption, by omega⟩)]) ?_
              exact J426
    refine T_p xr_17_10 xn_17 (pc' := 11) (ls' := [(3, .int (iI (bI (e = 0)))), (0, .ref B), (1, .ref a), (2, .int (iI e))]) (st' := [.int (iI e)]) rfl ?_
    refine T_p xr_17_11 xn_17 (pc' := 12) (ls' := [(3, .int (iI (bI (e = 0)))), (0, .ref B), (1, .ref a), (2, .int (iI e))]) (st' := [.ref a, .int (iI e)]) rfl ?_
    refine T_get xr_17_12 hw.1 rfl (v := .int (iI (d 3 0))) rfl (pc' := 15) rfl ?_
    refine T_p xr_17_15 xn_17 (pc' := 16) (ls' := [(3, .int (iI (bI (e = 0)))), (0, .ref B), (1, .ref a), (2, .int (iI e))]) (st' := [.int (iI 1), .int (iI (d 3 0)), .int (iI e)]) rfl ?_
    refine T_zisub xr_17_16 (z := (d 3 0) - 1) rfl (pc' := 17) rfl ?_
    refine T_zicmp_ne xr_17_17 (t := 24) (pc' := 20) rfl rfl (fun c474 => ?_) (fun c474 => ?_)
    · skip
      have c474 : ¬ e = ((d 3 0) - 1) := c474
      refine T_p xr_17_24 xn_17 (pc' := 25) (ls' := [(3, .int (iI (bI (e = 0)))), (0, .ref B), (1, .ref a), (2, .int (iI e))]) (st' := [.int (iI 0)]) rfl ?_
      refine T_ie (y := iI (bI (e = d 3 0 - 1))) (by rw [bI_f (by omega)]) ?_
      exact J425
    · skip
      have c474 : ¬ (¬ e = ((d 3 0) - 1)) := c474
      refine T_p xr_17_20 xn_17 (pc' := 21) (ls' := [(3, .int (iI (bI (e = 0)))), (0, .ref B), (1, .ref a), (2, .int (iI e))]) (st' := [.int (iI 1)]) rfl ?_
      refine T_p xr_17_21 xn_17 (pc' := 25) (ls' := [(3, .int (iI (bI (e = 0)))), (0, .ref B), (1, .ref a), (2, .int (iI e))]) (st' := [.int (iI 1)]) rfl ?_
      refine T_ie (y := iI (bI (e = d 3 0 - 1))) (by rw [bI_t (by omega)]) ?_
      exact J425
  refine T_p xr_17_0 xn_17 (pc' := 1) (ls' := [(0, .ref B), (1, .ref a), (2, .int (iI e))]) (st' := [.int (iI e)]) rfl ?_
  refine T_zif_ne xr_17_1 (t := 8) (pc' := 4) rfl rfl (fun c475 => ?_) (fun c475 => ?_)
  · skip
    have c475 : ¬ e = 0 := c475
    refine T_p xr_17_8 xn_17 (pc' := 9) (ls' := [(0, .ref B), (1, .ref a), (2, .int (iI e))]) (st' := [.int (iI 0)]) rfl ?_
    refine T_ie (y := iI (bI (e = 0))) (by rw [bI_f (by omega)]) ?_
    exact J424
  · skip
    have c475 : ¬ (¬ e = 0) := c475
    refine T_p xr_17_4 xn_17 (pc' := 5) (ls' := [(0, .ref B), (1, .ref a), (2, .int (iI e))]) (st' := [.int (iI 1)]) rfl ?_
    refine T_p xr_17_5 xn_17 (pc' := 9) (ls' := [(0, .ref B), (1, .ref a), (2, .int (iI e))]) (st' := [.int (iI 1)]) rfl ?_
    refine T_ie (y := iI (bI (e = 0))) (by rw [bI_t (by omega)]) ?_
    exact J424
