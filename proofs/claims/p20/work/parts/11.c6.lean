theorem xr_16_0 : X_row 16 0 = some (0, (.iload_n 2, 1), (0, 0, 0)) := by decide +kernel
theorem xr_16_1 : X_row 16 1 = some (1, (.ifCond .ne 7, 3), (0, 0, 0)) := by decide +kernel
theorem xr_16_4 : X_row 16 4 = some (4, (.iconst 1, 1), (0, 0, 0)) := by decide +kernel
theorem xr_16_5 : X_row 16 5 = some (5, (.goto 4, 3), (0, 0, 0)) := by decide +kernel
theorem xr_16_8 : X_row 16 8 = some (8, (.iconst 0, 1), (0, 0, 0)) := by decide +kernel
theorem xr_16_9 : X_row 16 9 = some (9, (.istore_n 3, 1), (0, 0, 0)) := by decide +kernel
theorem xr_16_10 : X_row 16 10 = some (10, (.iload_n 2, 1), (0, 0, 0)) := by decide +kernel
theorem xr_16_11 : X_row 16 11 = some (11, (.aload_n 1, 1), (0, 0, 0)) := by decide +kernel
theorem xr_16_12 : X_row 16 12 = some (12, (.getfield 68, 3), (8, 3, 7)) := by decide +kernel
theorem xr_16_15 : X_row 16 15 = some (15, (.iconst 1, 1), (0, 0, 0)) := by decide +kernel
theorem xr_16_16 : X_row 16 16 = some (16, (.isub, 1), (0, 0, 0)) := by decide +kernel
theorem xr_16_17 : X_row 16 17 = some (17, (.if_icmp .ne 7, 3), (0, 0, 0)) := by decide +kernel
theorem xr_16_20 : X_row 16 20 = some (20, (.iconst 1, 1), (0, 0, 0)) := by decide +kernel
theorem xr_16_21 : X_row 16 21 = some (21, (.goto 4, 3), (0, 0, 0)) := by decide +kernel
theorem xr_16_24 : X_row 16 24 = some (24, (.iconst 0, 1), (0, 0, 0)) := by decide +kernel
theorem xr_16_25 : X_row 16 25 = some (25, (.istore 4, 2), (0, 0, 0)) := by decide +kernel
theorem xr_16_27 : X_row 16 27 = some (27, (.iload_n 3, 1), (0, 0, 0)) := by decide +kernel
theorem xr_16_28 : X_row 16 28 = some (28, (.ifCond .eq 11, 3), (0, 0, 0)) := by decide +kernel
theorem xr_16_31 : X_row 16 31 = some (31, (.aload_n 1, 1), (0, 0, 0)) := by decide +kernel
theorem xr_16_32 : X_row 16 32 = some (32, (.getfield 97, 3), (8, 1, 3)) := by decide +kernel
theorem xr_16_35 : X_row 16 35 = some (35, (.iconst 1, 1), (0, 0, 0)) := by decide +kernel
theorem xr_16_36 : X_row 16 36 = some (36, (.if_icmp .eq 16, 3), (0, 0, 0)) := by decide +kernel
theorem xr_16_39 : X_row 16 39 = some (39, (.iload 4, 2), (0, 0, 0)) := by decide +kernel
theorem xr_16_41 : X_row 16 41 = some (41, (.ifCond .eq 15, 3), (0, 0, 0)) := by decide +kernel
theorem xr_16_44 : X_row 16 44 = some (44, (.aload_n 1, 1), (0, 0, 0)) := by decide +kernel
theorem xr_16_45 : X_row 16 45 = some (45, (.getfield 97, 3), (8, 1, 3)) := by decide +kernel
theorem xr_16_48 : X_row 16 48 = some (48, (.iconst 2, 1), (0, 0, 0)) := by decide +kernel
theorem xr_16_49 : X_row 16 49 = some (49, (.if_icmp .ne 7, 3), (0, 0, 0)) := by decide +kernel
theorem xr_16_52 : X_row 16 52 = some (52, (.iconst 1, 1), (0, 0, 0)) := by decide +kernel
theorem xr_16_53 : X_row 16 53 = some (53, (.goto 4, 3), (0, 0, 0)) := by decide +kernel
theorem xr_16_56 : X_row 16 56 = some (56, (.iconst 0, 1), (0, 0, 0)) := by decide +kernel
theorem xr_16_57 : X_row 16 57 = some (57, (.istore 5, 2), (0, 0, 0)) := by decide +kernel
theorem xr_16_59 : X_row 16 59 = some (59, (.iconst 0, 1), (0, 0, 0)) := by decide +kernel
theorem xr_16_60 : X_row 16 60 = some (60, (.istore 6, 2), (0, 0, 0)) := by decide +kernel
theorem xr_16_62 : X_row 16 62 = some (62, (.iconst 0, 1), (0, 0, 0)) := by decide +kernel
theorem xr_16_63 : X_row 16 63 = some (63, (.istore 7, 2), (0, 0, 0)) := by decide +kernel
theorem xr_16_65 : X_row 16 65 = some (65, (.iload 7, 2), (0, 0, 0)) := by decide +kernel
theorem xr_16_67 : X_row 16 67 = some (67, (.aload_n 0, 1), (0, 0, 0)) := by decide +kernel
theorem xr_16_68 : X_row 16 68 = some (68, (.getfield 42, 3), (0, 2, 20)) := by decide +kernel
theorem xr_16_71 : X_row 16 71 = some (71, (.if_icmp .ge 89, 3), (0, 0, 0)) := by decide +kernel
theorem xr_16_74 : X_row 16 74 = some (74, (.aload_n 0, 1), (0, 0, 0)) := by decide +kernel
theorem xr_16_75 : X_row 16 75 = some (75, (.getfield 27, 3), (0, 7, 30)) := by decide +kernel
theorem xr_16_78 : X_row 16 78 = some (78, (.iload 7, 2), (0, 0, 0)) := by decide +kernel
theorem xr_16_80 : X_row 16 80 = some (80, (.aaload, 1), (0, 0, 0)) := by decide +kernel
theorem xr_16_81 : X_row 16 81 = some (81, (.astore 8, 2), (0, 0, 0)) := by decide +kernel
theorem xr_16_83 : X_row 16 83 = some (83, (.iload_n 3, 1), (0, 0, 0)) := by decide +kernel
theorem xr_16_84 : X_row 16 84 = some (84, (.ifCond .ne 8, 3), (0, 0, 0)) := by decide +kernel
theorem xr_16_87 : X_row 16 87 = some (87, (.iload 4, 2), (0, 0, 0)) := by decide +kernel
theorem xr_16_89 : X_row 16 89 = some (89, (.ifCond .eq 44, 3), (0, 0, 0)) := by decide +kernel
theorem xr_16_92 : X_row 16 92 = some (92, (.aload 8, 2), (0, 0, 0)) := by decide +kernel
theorem xr_16_94 : X_row 16 94 = some (94, (.invokevirtual 100, 3), (97, 22, 0)) := by decide +kernel
theorem xr_16_97 : X_row 16 97 = some (97, (.ifCond .ne 36, 3), (0, 0, 0)) := by decide +kernel
theorem xr_16_100 : X_row 16 100 = some (100, (.aload_n 0, 1), (0, 0, 0)) := by decide +kernel
theorem xr_16_101 : X_row 16 101 = some (101, (.aload 8, 2), (0, 0, 0)) := by decide +kernel
theorem xr_16_103 : X_row 16 103 = some (103, (.getfield 104, 3), (8, 0, 1)) := by decide +kernel
theorem xr_16_106 : X_row 16 106 = some (106, (.aload_n 1, 1), (0, 0, 0)) := by decide +kernel
theorem xr_16_107 : X_row 16 107 = some (107, (.getfield 104, 3), (8, 0, 1)) := by decide +kernel
theorem xr_16_110 : X_row 16 110 = some (110, (.invokevirtual 55, 3), (10, 8, 0)) := by decide +kernel
theorem xr_16_113 : X_row 16 113 = some (113, (.ifCond .ne 20, 3), (0, 0, 0)) := by decide +kernel
theorem xr_16_116 : X_row 16 116 = some (116, (.iload 5, 2), (0, 0, 0)) := by decide +kernel
theorem xr_16_118 : X_row 16 118 = some (118, (.ifCond .eq 19, 3), (0, 0, 0)) := by decide +kernel
theorem xr_16_121 : X_row 16 121 = some (121, (.aload 8, 2), (0, 0, 0)) := by decide +kernel
theorem xr_16_123 : X_row 16 123 = some (123, (.getfield 104, 3), (8, 0, 1)) := by decide +kernel
theorem xr_16_126 : X_row 16 126 = some (126, (.aload_n 1, 1), (0, 0, 0)) := by decide +kernel
theorem xr_16_127 : X_row 16 127 = some (127, (.getfield 104, 3), (8, 0, 1)) := by decide +kernel
theorem xr_16_130 : X_row 16 130 = some (130, (.if_icmp .ne 7, 3), (0, 0, 0)) := by decide +kernel
theorem xr_16_133 : X_row 16 133 = some (133, (.iconst 1, 1), (0, 0, 0)) := by decide +kernel
theorem xr_16_134 : X_row 16 134 = some (134, (.goto 4, 3), (0, 0, 0)) := by decide +kernel
theorem xr_16_137 : X_row 16 137 = some (137, (.iconst 0, 1), (0, 0, 0)) := by decide +kernel
theorem xr_16_138 : X_row 16 138 = some (138, (.istore 9, 2), (0, 0, 0)) := by decide +kernel
theorem xr_16_140 : X_row 16 140 = some (140, (.iload 9, 2), (0, 0, 0)) := by decide +kernel
theorem xr_16_142 : X_row 16 142 = some (142, (.ifCond .eq 12, 3), (0, 0, 0)) := by decide +kernel
theorem xr_16_145 : X_row 16 145 = some (145, (.iload 6, 2), (0, 0, 0)) := by decide +kernel
theorem xr_16_147 : X_row 16 147 = some (147, (.iconst 1, 1), (0, 0, 0)) := by decide +kernel
theorem xr_16_148 : X_row 16 148 = some (148, (.iload 7, 2), (0, 0, 0)) := by decide +kernel
theorem xr_16_150 : X_row 16 150 = some (150, (.ishl, 1), (0, 0, 0)) := by decide +kernel
theorem xr_16_151 : X_row 16 151 = some (151, (.ior, 1), (0, 0, 0)) := by decide +kernel
theorem xr_16_152 : X_row 16 152 = some (152, (.istore 6, 2), (0, 0, 0)) := by decide +kernel
theorem xr_16_154 : X_row 16 154 = some (154, (.iinc 7 1, 3), (0, 0, 0)) := by decide +kernel
theorem xr_16_157 : X_row 16 157 = some (157, (.goto (-92), 3), (0, 0, 0)) := by decide +kernel
theorem xr_16_160 : X_row 16 160 = some (160, (.iload 6, 2), (0, 0, 0)) := by decide +kernel
theorem xr_16_162 : X_row 16 162 = some (162, (.ireturn, 1), (0, 0, 0)) := by decide +kernel
theorem xn_16 : X_nL 16 = 10 := by decide +kernel
theorem xf_16 : X_na 16 = 2 ∧ X_ci 16 = 0 ∧ X_rt 16 = (some .int) := by decide +kernel
/-- whether word v fits by its rank the hole at element e of the word d, q -/
def X_fi (lo : Int → Int) (D : Int → Nat → Int → Int) (W : Int → Int → Int64) (d : Nat → Int → Int) (e v : Int) : Prop :=
  (¬ e = 0 ∧ ¬ e = d 3 0 - 1) ∨ X_en (D v) (W v) = 0 ∨ X_bt (lo (D v 0 0)) (d 0 0) ∨ (((e = 0 ∧ d 1 0 = 1) ∨ (e = d 3 0 - 1 ∧ d 1 0 = 2)) ∧ D v 0 0 = d 0 0)
theorem c_wordsFitting (sc : X_Sc) (S : X_S) (B : Nat) (rc kc wc : Int) (rn : Int → Int64) (lo : Int → Int) (kn : Int → Int64) (ab : Int → Int) (D : Int → Nat → Int → Int) (W : Int → Int → Int64) (a : Nat) (d : Nat → Int → Int) (q : Int → Int64) (e : Int) (hb : C_bk S B rc kc wc rn lo kn ab) (hs : C_ws S B D W) (hw : C_wd S a d q) (hr : X_wr d) (he : 0 ≤ e ∧ e < 8) : X_T sc 16 (0, [(0, .ref B), (1, .ref a), (2, .int (iI e))], [], S) (fun v S' => ∃ b, v = some (.int (iI b)) ∧ (∀ k, 0 ≤ k → k < 32 → (X_bt b k ↔ k < wc ∧ X_fi lo D W d e k)) ∧ S' = S) := by
  obtain ⟨hb0, hb1, hb2, hb3, hb4, ⟨f, hb5, hf⟩, ⟨hrc, hrcb⟩, ⟨hkc, hkcb⟩, ⟨hwc, hwcb⟩⟩ := id hb
  obtain ⟨⟨hr0, hr0b⟩, ⟨hr1, hr1b⟩, ⟨hr2, hr2b⟩, ⟨hr3, hr3b⟩, ⟨hr4, hr4b⟩, ⟨hr5, hr5b⟩, ⟨hr6, hr6b⟩, ⟨hr7, hr7b⟩⟩ := id hr
  refine X_QI (fun Q hQ => ?_)
  have J323 : X_T sc 16 (9, [(0, .ref B), (1, .ref a), (2, .int (iI e))], [.int (iI (bI (e = 0)))], S) Q := by
    refine T_p xr_16_9 xn_16 (pc' := 10) (ls' := [(3, .int (iI (bI (e = 0)))), (0, .ref B), (1, .ref a), (2, .int (iI e))]) (st' := []) rfl ?_
    have J324 : X_T sc 16 (25, [(3, .int (iI (bI (e = 0)))), (0, .ref B), (1, .ref a), (2, .int (iI e))], [.int (iI (bI (e = d 3 0 - 1)))], S) Q := by
      refine T_p xr_16_25 xn_16 (pc' := 27) (ls' := [(4, .int (iI (bI (e = d 3 0 - 1)))), (3, .int (iI (bI (e = 0)))), (0, .ref B), (1, .ref a), (2, .int (iI e))]) (st' := []) rfl ?_
      have J325 : X_T sc 16 (57, [(4, .int (iI (bI (e = d 3 0 - 1)))), (3, .int (iI (bI (e = 0)))), (0, .ref B), (1, .ref a), (2, .int (iI e))], [.int (iI (bI ((e = 0 ∧ d 1 0 = 1) ∨ (e = d 3 0 - 1 ∧ d 1 0 = 2))))], S) Q := by
        refine T_p xr_16_57 xn_16 (pc' := 59) (ls' := [(5, .int (iI (bI ((e = 0 ∧ d 1 0 = 1) ∨ (e = d 3 0 - 1 ∧ d 1 0 = 2))))), (4, .int (iI (bI (e = d 3 0 - 1)))), (3, .int (iI (bI (e = 0)))), (0, .ref B), (1, .ref a), (2, .int (iI e))]) (st' := []) rfl ?_
        refine T_p xr_16_59 xn_16 (pc' := 60) (ls' := [(5, .int (iI (bI ((e = 0 ∧ d 1 0 = 1) ∨ (e = d 3 0 - 1 ∧ d 1 0 = 2))))), (4, .int (iI (bI (e = d 3 0 - 1)))), (3, .int (iI (bI (e = 0)))), (0, .ref B), (1, .ref a), (2, .int (iI e))]) (st' := [.int (iI 0)]) rfl ?_
        refine T_p xr_16_60 xn_16 (pc' := 62) (ls' := [(6, .int (iI 0)), (5, .int (iI (bI ((e = 0 ∧ d 1 0 = 1) ∨ (e = d 3 0 - 1 ∧ d 1 0 = 2))))), (4, .int (iI (bI (e = d 3 0 - 1)))), (3, .int (iI (bI (e = 0)))), (0, .ref B), (1, .ref a), (2, .int (iI e))]) (st' := []) rfl ?_
        refine T_p xr_16_62 xn_16 (pc' := 63) (ls' := [(6, .int (iI 0)), (5, .int (iI (bI ((e = 0 ∧ d 1 0 = 1) ∨ (e = d 3 0 - 1 ∧ d 1 0 = 2))))), (4, .int (iI (bI (e = d 3 0 - 1)))), (3, .int (iI (bI (e = 0)))), (0, .ref B), (1, .ref a), (2, .int (iI e))]) (st' := [.int (iI 0)]) rfl ?_
        refine T_p xr_16_63 xn_16 (pc' := 65) (ls' := [(7, .int (iI 0)), (6, .int (iI 0)), (5, .int (iI (bI ((e = 0 ∧ d 1 0 = 1) ∨ (e = d 3 0 - 1 ∧ d 1 0 = 2))))), (4, .int (iI (bI (e = d 3 0 - 1)))), (3, .int (iI (bI (e = 0)))), (0, .ref B), (1, .ref a), (2, .int (iI e))]) (st' := []) rfl ?_
        have L326 : ∀ (m328 : Nat) (i : Int) (b : Int) (hi : 0 ≤ i ∧ i ≤ wc) (hbt : ∀ k, 0 ≤ k → k < 32 → (X_bt b k ↔ k < i ∧ X_fi lo D W d e k)) (hm329 : wc - i < m328), X_T sc 16 (65, [(7, .int (iI i)), (6, .int (iI b)), (5, .int (iI (bI ((e = 0 ∧ d 1 0 = 1) ∨ (e = d 3 0 - 1 ∧ d 1 0 = 2))))), (4, .int (iI (bI (e = d 3 0 - 1)))), (3, .int (iI (bI (e = 0)))), (0, .ref B), (1, .ref a), (2, .int (iI e))], [], S) Q := by
          intro m328
          induction m328 with
          | zero =>
            intro i b hi hbt hm329
            exact (show False by omega).elim
          | succ m328 ih327 =>
            intro i b hi hbt hm329
            refine T_p xr_16_65 xn_16 (pc' := 67) (ls' := [(7, .int (iI i)), (6, .int (iI b)), (5, .int (iI (bI ((e = 0 ∧ d 1 0 = 1) ∨ (e = d 3 0 - 1 ∧ d 1 0 = 2))))), (4, .int (iI (bI (e = d 3 0 - 1)))), (3, .int (iI (bI (e = 0)))), (0, .ref B), (1, .ref a), (2, .int (iI e))]) (st' := [.int (iI i)]) rfl ?_
            refine T_p xr_16_67 xn_16 (pc' := 68) (ls' := [(7, .int (iI i)), (6, .int (iI b)), (5, .int (iI (bI ((e = 0 ∧ d 1 0 = 1) ∨ (e = d 3 0 - 1 ∧ d 1 0 = 2))))), (4, .int (iI (bI (e = d 3 0 - 1)))), (3, .int (iI (bI (e = 0)))), (0, .ref B), (1, .ref a), (2, .int (iI e))]) (st' := [.ref B, .int (iI i)]) rfl ?_
            refine T_get xr_16_68 hb0 rfl (v := .int (iI wc)) rfl (pc' := 71) rfl ?_
            refine T_zicmp_ge xr_16_71 (t := 160) (pc' := 74) rfl rfl (fun c331 => ?_) (fun c331 => ?_)
            · skip
              have c331 : wc ≤ i := c331
              refine T_p xr_16_160 xn_16 (pc' := 162) (ls' := [(7, .int (iI i)), (6, .int (iI b)), (5, .int (iI (bI ((e = 0 ∧ d 1 0 = 1) ∨ (e = d 3 0 - 1 ∧ d 1 0 = 2))))), (4, .int (iI (bI (e = d 3 0 - 1)))), (3, .int (iI (bI (e = 0)))), (0, .ref B), (1, .ref a), (2, .int (iI e))]) (st' := [.int (iI b)]) rfl ?_
              refine T_iret xr_16_162 xf_16.2.2 rfl ?_
              refine hQ _ _ ?_
              exact ⟨b, rfl, fun k h1 h2 => by rw [hbt k h1 h2, show i = wc by omega], rfl⟩
            · skip
              have c331 : ¬ (wc ≤ i) := c331
              refine T_p xr_16_74 xn_16 (pc' := 75) (ls' := [(7, .int (iI i)), (6, .int (iI b)), (5, .int (iI (bI ((e = 0 ∧ d 1 0 = 1) ∨ (e = d 3 0 - 1 ∧ d 1 0 = 2))))), (4, .int (iI (bI (e = d 3 0 - 1)))), (3, .int (iI (bI (e = 0)))), (0, .ref B), (1, .ref a), (2, .int (iI e))]) (st' := [.ref B]) rfl ?_
              refine T_get xr_16_75 hb0 rfl (v := .ref (B + 5)) rfl (pc' := 78) rfl ?_
              refine T_p xr_16_78 xn_16 (pc' := 80) (ls' := [(7, .int (iI i)), (6, .int (iI b)), (5, .int (iI (bI ((e = 0 ∧ d 1 0 = 1) ∨ (e = d 3 0 - 1 ∧ d 1 0 = 2))))), (4, .int (iI (bI (e = d 3 0 - 1)))), (3, .int (iI (bI (e = 0)))), (0, .ref B), (1, .ref a), (2, .int (iI e))]) (st' := [.int (iI i), .ref (B + 5)]) rfl ?_
              have hw332 := hs i (by omega) (by omega)
              obtain ⟨a333, ha334⟩ : ∃ z : Nat, z = B + 6 + 8 * (i : Int).toNat := ⟨_, rfl⟩
              rw [← ha334] at hw332
              obtain ⟨⟨_, _⟩, ⟨_, _⟩, ⟨_, _⟩, ⟨_, _⟩, ⟨_, _⟩, ⟨_, _⟩, ⟨_, _⟩, ⟨_, _⟩⟩ := id hw332.2
              refine T_zaald xr_16_80 hb5 (w := a333) (by rw [ha334]; exact hf _ (by omega)) (pc' := 81) rfl ?_
              refine T_p xr_16_81 xn_16 (pc' := 83) (ls' := [(8, .ref a333), (7, .int (iI i)), (6, .int (iI b)), (5, .int (iI (bI ((e = 0 ∧ d 1 0 = 1) ∨ (e = d 3 0 - 1 ∧ d 1 0 = 2))))), (4, .int (iI (bI (e = d 3 0 - 1)))), (3, .int (iI (bI (e = 0)))), (0, .ref B), (1, .ref a), (2, .int (iI e))]) (st' := []) rfl ?_
              have J335 : X_T sc 16 (138, [(8, .ref a333), (7, .int (iI i)), (6, .int (iI b)), (5, .int (iI (bI ((e = 0 ∧ d 1 0 = 1) ∨ (e = d 3 0 - 1 ∧ d 1 0 = 2))))), (4, .int (iI (bI (e = d 3 0 - 1)))), (3, .int (iI (bI (e = 0)))), (0, .ref B), (1, .ref a), (2, .int (iI e))], [.int (iI (bI (X_fi lo D W d e i)))], S) Q := by
                refine T_p xr_16_138 xn_16 (pc' := 140) (ls' := [(9, .int (iI (bI (X_fi lo D W d e i)))), (8, .ref a333), (7, .int (iI i)), (6, .int (iI b)), (5, .int (iI (bI ((e = 0 ∧ d 1 0 = 1) ∨ (e = d 3 0 - 1 ∧ d 1 0 = 2))))), (4, .int (iI (bI (e = d 3 0 - 1)))), (3, .int (iI (bI (e = 0)))), (0, .ref B), (1, .ref a), (2, .int (iI e))]) (st' := []) rfl ?_
                refine T_p xr_16_140 xn_16 (pc' := 142) (ls' := [(9, .int (iI (bI (X_fi lo D W d e i)))), (8, .ref a333), (7, .int (iI i)), (6, .int (iI b)), (5, .int (iI (bI ((e = 0 ∧ d 1 0 = 1) ∨ (e = d 3 0 - 1 ∧ d 1 0 = 2))))), (4, .int (iI (bI (e = d 3 0 - 1)))), (3, .int (iI (bI (e = 0)))), (0, .ref B), (1, .ref a), (2, .int (iI e))]) (st' := [.int (iI (bI (X_fi lo D W d e i)))]) rfl ?_
                refine T_bif_eq xr_16_142 (t := 154) (pc' := 145) rfl rfl (fun c336 => ?_) (fun c336 => ?_)
                · skip
                  have c336 : ¬ (X_fi lo D W d e i) := c336
                  refine T_ziinc xr_16_154 xn_16 (a := i) (z := i + 1) rfl (Nat.le_of_ble_eq_true rfl) (by omega) (ls' := [(7, .int (iI (i + 1))), (9, .int (iI (bI (X_fi lo D W d e i)))), (8, .ref a333), (6, .int (iI b)), (5, .int (iI (bI ((e = 0 ∧ d 1 0 = 1) ∨ (e = d 3 0 - 1 ∧ d 1 0 = 2))))), (4, .int (iI (bI (e = d 3 0 - 1)))), (3, .int (iI (bI (e = 0)))), (0, .ref B), (1, .ref a), (2, .int (iI e))]) rfl (pc' := 157) rfl ?_
                  refine T_p xr_16_157 xn_16 (pc' := 65) (ls' := [(7, .int (iI (i + 1))), (9, .int (iI (bI (X_fi lo D W d e i)))), (8, .ref a333), (6, .int (iI b)), (5, .int (iI (bI ((e = 0 ∧ d 1 0 = 1) ∨ (e = d 3 0 - 1 ∧ d 1 0 = 2))))), (4, .int (iI (bI (e = d 3 0 - 1)))), (3, .int (iI (bI (e = 0)))), (0, .ref B), (1, .ref a), (2, .int (iI e))]) (st' := []) rfl ?_
                  refine T_sub (ls := [(7, .int (iI (i + 1))), (6, .int (iI b)), (5, .int (iI (bI ((e = 0 ∧ d 1 0 = 1) ∨ (e = d 3 0 - 1 ∧ d 1 0 = 2))))), (4, .int (iI (bI (e = d 3 0 - 1)))), (3, .int (iI (bI (e = 0)))), (0, .ref B), (1, .ref a), (2, .int (iI e))]) ⟨rfl, rfl, rfl, rfl, rfl, rfl, rfl, rfl, trivial⟩ rfl rfl ?_
                  exact ih327 (i + 1) b  (by omega) (fun k h1 h2 => by
                        rw [hbt k h1 h2]
                        constructor
                        · rintro ⟨g1, g2⟩; exact ⟨by omega, g2⟩
                        · rintro ⟨g1, g2⟩
                          by_cases hk : k = i
                          · subst hk; exact absurd g2 (by assumption)
                          · exact ⟨by omega, g2⟩) (by omega)
                · skip
                  have c336 : (X_fi lo D W d e i) := c336
                  refine T_p xr_16_145 xn_16 (pc' := 147) (ls' := [(9, .int (iI (bI (X_fi lo D W d e i)))), (8, .ref a333), (7, .int (iI i)), (6, .int (iI b)), (5, .int (iI (bI ((e = 0 ∧ d 1 0 = 1) ∨ (e = d 3 0 - 1 ∧ d 1 0 = 2))))), (4, .int (iI (bI (e = d 3 0 - 1)))), (3, .int (iI (bI (e = 0)))), (0, .ref B), (1, .ref a), (2, .int (iI e))]) (st' := [.int (iI b)]) rfl ?_
                  refine T_p xr_16_147 xn_16 (pc' := 148) (ls' := [(9, .int (iI (bI (X_fi lo D W d e i)))), (8, .ref a333), (7, .int (iI i)), (6, .int (iI b)), (5, .int (iI (bI ((e = 0 ∧ d 1 0 = 1) ∨ (e = d 3 0 - 1 ∧ d 1 0 = 2))))), (4, .int (iI (bI (e = d 3 0 - 1)))), (3, .int (iI (bI (e = 0)))), (0, .ref B), (1, .ref a), (2, .int (iI e))]) (st' := [.int (iI 1), .int (iI b)]) rfl ?_
                  refine T_p xr_16_148 xn_16 (pc' := 150) (ls' := [(9, .int (iI (bI (X_fi lo D W d e i)))), (8, .ref a333), (7, .int (iI i)), (6, .int (iI b)), (5, .int (iI (bI ((e = 0 ∧ d 1 0 = 1) ∨ (e = d 3 0 - 1 ∧ d 1 0 = 2))))), (4, .int (iI (bI (e = d 3 0 - 1)))), (3, .int (iI (bI (e = 0)))), (0, .ref B), (1, .ref a), (2, .int (iI e))]) (st' := [.int (iI i), .int (iI 1), .int (iI b)]) rfl ?_
                  refine T_zop xr_16_150 (pc' := 151) rfl (z := (iI 1 <<< (iI i &&& 31)).toInt) (iI_of _) ?_
                  refine T_zop xr_16_151 (pc' := 152) rfl (z := (iI b ||| iI ((iI 1 <<< (iI i &&& 31)).toInt)).toInt) (iI_of _) ?_
                  refine T_p xr_16_152 xn_16 (pc' := 154) (ls' := [(6, .int (iI ((iI b ||| iI ((iI 1 <<< (iI i &&& 31)).toInt)).toInt))), (9, .int (iI (bI (X_fi lo D W d e i)))), (8, .ref a333), (7, .int (iI i)), (5, .int (iI (bI ((e = 0 ∧ d 1 0 = 1) ∨ (e = d 3 0 - 1 ∧ d 1 0 = 2))))), (4, .int (iI (bI (e = d 3 0 - 1)))), (3, .int (iI (bI (e = 0)))), (0, .ref B), (1, .ref a), (2, .int (iI e))]) (st' := []) rfl ?_
                  refine T_ziinc xr_16_154 xn_16 (a := i) (z := i + 1) rfl (Nat.le_of_ble_eq_true rfl) (by omega) (ls' := [(7, .int (iI (i + 1))), (6, .int (iI ((iI b ||| iI ((iI 1 <<< (iI i &&& 31)).toInt)).toInt))), (9, .int (iI (bI (X_fi lo D W d e i)))), (8, .ref a333), (5, .int (iI (bI ((e = 0 ∧ d 1 0 = 1) ∨ (e = d 3 0 - 1 ∧ d 1 0 = 2))))), (4, .int (iI (bI (e = d 3 0 - 1)))), (3, .int (iI (bI (e = 0)))), (0, .ref B), (1, .ref a), (2, .int (iI e))]) rfl (pc' := 157) rfl ?_
                  refine T_p xr_16_157 xn_16 (pc' := 65) (ls' := [(7, .int (iI (i + 1))), (6, .int (iI ((iI b ||| iI ((iI 1 <<< (iI i &&& 31)).toInt)).toInt))), (9, .int (iI (bI (X_fi lo D W d e i)))), (8, .ref a333), (5, .int (iI (bI ((e = 0 ∧ d 1 0 = 1) ∨ (e = d 3 0 - 1 ∧ d 1 0 = 2))))), (4, .int (iI (bI (e = d 3 0 - 1)))), (3, .int (iI (bI (e = 0)))), (0, .ref B), (1, .ref a), (2, .int (iI e))]) (st' := []) rfl ?_
                  refine T_sub (ls := [(7, .int (iI (i + 1))), (6, .int (iI ((iI b ||| iI ((iI 1 <<< (iI i &&& 31)).toInt)).toInt))), (5, .int (iI (bI ((e = 0 ∧ d 1 0 = 1) ∨ (e = d 3 0 - 1 ∧ d 1 0 = 2))))), (4, .int (iI (bI (e = d 3 0 - 1)))), (3, .int (iI (bI (e = 0)))), (0, .ref B), (1, .ref a), (2, .int (iI e))]) ⟨rfl, rfl, rfl, rfl, rfl, rfl, rfl, rfl, trivial⟩ rfl rfl ?_
                  exact ih327 (i + 1) ((iI b ||| iI ((iI 1 <<< (iI i &&& 31)).toInt)).toInt)  (by omega) (fun k h1 h2 => by
                        show X_bt (X_bO b (X_bS i)) k ↔ _
                        rw [X_bt_or _ _ _ ⟨h1, h2⟩, hbt k h1 h2, X_bt_sh _ _ (by omega) ⟨h1, h2⟩]
                        constructor
                        · rintro (⟨g1, g2⟩ | g1)
                          · exact ⟨by omega, g2⟩
                          · subst g1; exact ⟨by omega, by assumption⟩
                        · rintro ⟨g1, g2⟩
                          by_cases hk : k = i
                          · exact Or.inr hk
                          · exact Or.inl ⟨by omega, g2⟩) (by omega)
              refine T_p xr_16_83 xn_16 (pc' := 84) (ls' := [(8, .ref a333), (7, .int (iI i)), (6, .int (iI b)), (5, .int (iI (bI ((e = 0 ∧ d 1 0 = 1) ∨ (e = d 3 0 - 1 ∧ d 1 0 = 2))))), (4, .int (iI (bI (e = d 3 0 - 1)))), (3, .int (iI (bI (e = 0)))), (0, .ref B), (1, .ref a), (2, .int (iI e))]) (st' := [.int (iI (bI (e = 0)))]) rfl ?_
              refine T_bif_ne xr_16_84 (t := 92) (pc' := 87) rfl rfl (fun c337 => ?_) (fun c337 => ?_)
              · skip
                have c337 : (e = 0) := c337
                refine T_p xr_16_92 xn_16 (pc' := 94) (ls' := [(8, .ref a333), (7, .int (iI i)), (6, .int (iI b)), (5, .int (iI (bI ((e = 0 ∧ d 1 0 = 1) ∨ (e = d 3 0 - 1 ∧ d 1 0 = 2))))), (4, .int (iI (bI (e = d 3 0 - 1)))), (3, .int (iI (bI (e = 0)))), (0, .ref B), (1, .ref a), (2, .int (iI e))]) (st' := [.ref a333]) rfl ?_
                refine T_cv (S := S) (q := a333) xr_16_94 xf_97.1 xf_97.2.1 xn_97 (as := []) (r := []) rfl hw332.1.1 (Nat.le_of_ble_eq_true rfl) (Nat.le_of_ble_eq_true rfl) (pc' := 97) rfl (ls' := [(0, .ref a333)]) rfl ?_
                refine T_mono (c_isClosed sc S a333 (D i) (W i) ⟨hw332.1.1, hw332.1.2.1, hw332.1.2.2.1, hw332.1.2.2.2.1, hw332.1.2.2.2.2.1, hw332.1.2.2.2.2.2.1, hw332.1.2.2.2.2.2.2.1, hw332.1.2.2.2.2.2.2.2⟩ hw332.2) (fun v339 S340 h338 => ?_)
                obtain ⟨h341, h342⟩ := h338
                rw [h341, h342]
                show X_T sc 16 (97, [(8, .ref a333), (7, .int (iI i)), (6, .int (iI b)), (5, .int (iI (bI ((e = 0 ∧ d 1 0 = 1) ∨ (e = d 3 0 - 1 ∧ d 1 0 = 2))))), (4, .int (iI (bI (e = d 3 0 - 1)))), (3, .int (iI (bI (e = 0)))), (0, .ref B), (1, .ref a), (2, .int (iI e))], [.int (iI (bI (X_en (D i) (W i) = 0)))], S) _
                refine T_bif_ne xr_16_97 (t := 133) (pc' := 100) rfl rfl (fun c343 => ?_) (fun c343 => ?_)
                · skip
                  have c343 : (X_en (D i) (W i) = 0) := c343
                  refine T_p xr_16_133 xn_16 (pc' := 134) (ls' := [(8, .ref a333), (7, .int (iI i)), (6, .int (iI b)), (5, .int (iI (bI ((e = 0 ∧ d 1 0 = 1) ∨ (e = d 3 0 - 1 ∧ d 1 0 = 2))))), (4, .int (iI (bI (e = d 3 0 - 1)))), (3, .int (iI (bI (e = 0)))), (0, .ref B), (1, .ref a), (2, .int (iI e))]) (st' := [.int (iI 1)]) rfl ?_
                  refine T_p xr_16_134 xn_16 (pc' := 138) (ls' := [(8, .ref a333), (7, .int (iI i)), (6, .int (iI b)), (5, .int (iI (bI ((e = 0 ∧ d 1 0 = 1) ∨ (e = d 3 0 - 1 ∧ d 1 0 = 2))))), (4, .int (iI (bI (e = d 3 0 - 1)))), (3, .int (iI (bI (e = 0)))), (0, .ref B), (1, .ref a), (2, .int (iI e))]) (st' := [.int (iI 1)]) rfl ?_
                  refine T_ie (y := iI (bI (X_fi lo D W d e i))) (by rw [bI_t (by unfold X_fi; first
                          | exact Or.inl ⟨by assumption, by assumption⟩
                          | exact Or.inr (Or.inl (by assumption))
                          | exact Or.inr (Or.inr (Or.inl (by assumption)))
                          | exact Or.inr (Or.inr (Or.inr ⟨by assumption, by omega⟩)))]) ?_
                  exact J335
                · skip
                  have c343 : ¬ (X_en (D i) (W i) = 0) := c343
                  refine T_p xr_16_100 xn_16 (pc' := 101) (ls' := [(8, .ref a333), (7, .int (iI i)), (6, .int (iI b)), (5, .int (iI (bI ((e = 0 ∧ d 1 0 = 1) ∨ (e = d 3 0 - 1 ∧ d 1 0 = 2))))), (4, .int (iI (bI (e = d 3 0 - 1)))), (3, .int (iI (bI (e = 0)))), (0, .ref B), (1, .ref a), (2, .int (iI e))]) (st' := [.ref B]) rfl ?_
                  refine T_p xr_16_101 xn_16 (pc' := 103) (ls' := [(8, .ref a333), (7, .int (iI i)), (6, .int (iI b)), (5, .int (iI (bI ((e = 0 ∧ d 1 0 = 1) ∨ (e = d 3 0 - 1 ∧ d 1 0 = 2))))), (4, .int (iI (bI (e = d 3 0 - 1)))), (3, .int (iI (bI (e = 0)))), (0, .ref B), (1, .ref a), (2, .int (iI e))]) (st' := [.ref a333, .ref B]) rfl ?_
                  refine T_get xr_16_103 hw332.1.1 rfl (v := .int (iI (D i 0 0))) rfl (pc' := 106) rfl ?_
                  refine T_p xr_16_106 xn_16 (pc' := 107) (ls' := [(8, .ref a333), (7, .int (iI i)), (6, .int (iI b)), (5, .int (iI (bI ((e = 0 ∧ d 1 0 = 1) ∨ (e = d 3 0 - 1 ∧ d 1 0 = 2))))), (4, .int (iI (bI (e = d 3 0 - 1)))), (3, .int (iI (bI (e = 0)))), (0, .ref B), (1, .ref a), (2, .int (iI e))]) (st' := [.ref a, .int (iI (D i 0 0)), .ref B]) rfl ?_
                  refine T_get xr_16_107 hw.1 rfl (v := .int (iI (d 0 0))) rfl (pc' := 110) rfl ?_
                  refine T_cv (S := S) (q := B) xr_16_110 xf_10.1 xf_10.2.1 xn_10 (as := [.int (iI (D i 0 0)), .int (iI (d 0 0))]) (r := []) rfl hb0 (Nat.le_of_ble_eq_true rfl) (Nat.le_of_ble_eq_true rfl) (pc' := 113) rfl (ls' := [(0, .ref B), (1, .int (iI (D i 0 0))), (2, .int (iI (d 0 0)))]) rfl ?_
                  refine T_mono (c_isTighter sc S B rc kc wc rn lo kn ab (D i 0 0) (d 0 0) ⟨hb0, hb1, hb2, hb3, hb4, ⟨f, hb5, hf⟩, ⟨by omega, by omega⟩, ⟨by omega, by omega⟩, ⟨by omega, by omega⟩⟩ (by omega)) (fun v345 S346 h344 => ?_)
                  obtain ⟨h347, h348⟩ := h344
                  rw [h347, h348]
                  show X_T sc 16 (113, [(8, .ref a333), (7, .int (iI i)), (6, .int (iI b)), (5, .int (iI (bI ((e = 0 ∧ d 1 0 = 1) ∨ (e = d 3 0 - 1 ∧ d 1 0 = 2))))), (4, .int (iI (bI (e = d 3 0 - 1)))), (3, .int (iI (bI (e = 0)))), (0, .ref B), (1, .ref a), (2, .int (iI e))], [.int (iI (bI (X_bt (lo (D i 0 0)) (d 0 0))))], S) _
                  refine T_bif_ne xr_16_113 (t := 133) (pc' := 116) rfl rfl (fun c349 => ?_) (fun c349 => ?_)
                  · skip
                    have c349 : (X_bt (lo (D i 0 0)) (d 0 0)) := c349
                    refine T_p xr_16_133 xn_16 (pc' := 134) (ls' := [(8, .ref a333), (7, .int (iI i)), (6, .int (iI b)), (5, .int (iI (bI ((e = 0 ∧ d 1 0 = 1) ∨ (e = d 3 0 - 1 ∧ d 1 0 = 2))))), (4, .int (iI (bI (e = d 3 0 - 1)))), (3, .int (iI (bI (e = 0)))), (0, .ref B), (1, .ref a), (2, .int (iI e))]) (st' := [.int (iI 1)]) rfl ?_
                    refine T_p xr_16_134 xn_16 (pc' := 138) (ls' := [(8, .ref a333), (7, .int (iI i)), (6, .int (iI b)), (5, .int (iI (bI ((e = 0 ∧ d 1 0 = 1) ∨ (e = d 3 0 - 1 ∧ d 1 0 = 2))))), (4, .int (iI (bI (e = d 3 0 - 1)))), (3, .int (iI (bI (e = 0)))), (0, .ref B), (1, .ref a), (2, .int (iI e))]) (st' := [.int (iI 1)]) rfl ?_
                    refine T_ie (y := iI (bI (X_fi lo D W d e i))) (by rw [bI_t (by unfold X_fi; first
                            | exact Or.inl ⟨by assumption, by assumption⟩
                            | exact Or.inr (Or.inl (by assumption))
                            | exact Or.inr (Or.inr (Or.inl (by assumption)))
                            | exact Or.inr (Or.inr (Or.inr ⟨by assumption, by omega⟩)))]) ?_
                    exact J335
                  · skip
                    have c349 : ¬ (X_bt (lo (D i 0 0)) (d 0 0)) := c349
                    refine T_p xr_16_116 xn_16 (pc' := 118) (ls' := [(8, .ref a333), (7, .int (iI i)), (6, .int (iI b)), (5, .int (iI (bI ((e = 0 ∧ d 1 0 = 1) ∨ (e = d 3 0 - 1 ∧ d 1 0 = 2))))), (4, .int (iI (bI (e = d 3 0 - 1)))), (3, .int (iI (bI (e = 0)))), (0, .ref B), (1, .ref a), (2, .int (iI e))]) (st' := [.int (iI (bI ((e = 0 ∧ d 1 0 = 1) ∨ (e = d 3 0 - 1 ∧ d 1 0 = 2))))]) rfl ?_
                    refine T_bif_eq xr_16_118 (t := 137) (pc' := 121) rfl rfl (fun c350 => ?_) (fun c350 => ?_)
                    · skip
                      have c350 : ¬ ((e = 0 ∧ d 1 0 = 1) ∨ (e = d 3 0 - 1 ∧ d 1 0 = 2)) := c350
                      refine T_p xr_16_137 xn_16 (pc' := 138) (ls' := [(8, .ref a333), (7, .int (iI i)), (6, .int (iI b)), (5, .int (iI (bI ((e = 0 ∧ d 1 0 = 1) ∨ (e = d 3 0 - 1 ∧ d 1 0 = 2))))), (4, .int (iI (bI (e = d 3 0 - 1)))), (3, .int (iI (bI (e = 0)))), (0, .ref B), (1, .ref a), (2, .int (iI e))]) (st' := [.int (iI 0)]) rfl ?_
                      refine T_ie (y := iI (bI (X_fi lo D W d e i))) (by rw [bI_f (by unfold X_fi; rintro (⟨h1, h2⟩ | h1 | h1 | ⟨h1, h2⟩) <;> first | contradiction | omega)]) ?_
                      exact J335
                    · skip
                      have c350 : ((e = 0 ∧ d 1 0 = 1) ∨ (e = d 3 0 - 1 ∧ d 1 0 = 2)) := c350
                      refine T_p xr_16_121 xn_16 (pc' := 123) (ls' := [(8, .ref a333), (7, .int (iI i)), (6, .int (iI b)), (5, .int (iI (bI ((e = 0 ∧ d 1 0 = 1) ∨ (e = d 3 0 - 1 ∧ d 1 0 = 2))))), (4, .int (iI (bI (e = d 3 0 - 1)))), (3, .int (iI (bI (e = 0)))), (0, .ref B), (1, .ref a), (2, .int (iI e))]) (st' := [.ref a333]) rfl ?_
                      refine T_get xr_16_123 hw332.1.1 rfl (v := .int (iI (D i 0 0))) rfl (pc' := 126) rfl ?_
                      refine T_p xr_16_126 xn_16 (pc' := 127) (ls' := [(8, .ref a333), (7, .int (iI i)), (6, .int (iI b)), (5, .int (iI (bI ((e = 0 ∧ d 1 0 = 1) ∨ (e = d 3 0 - 1 ∧ d 1 0 = 2))))), (4, .int (iI (bI (e = d 3 0 - 1)))), (3, .int (iI (bI (e = 0)))), (0, .ref B), (1, .ref a), (2, .int (iI e))]) (st' := [.ref a, .int (iI (D i 0 0))]) rfl ?_
                      refine T_get xr_16_127 hw.1 rfl (v := .int (iI (d 0 0))) rfl (pc' := 130) rfl ?_
                      refine T_zicmp_ne xr_16_130 (t := 137) (pc' := 133) rfl rfl (fun c351 => ?_) (fun c351 => ?_)
                      · skip
                        have c351 : ¬ (D i 0 0) = (d 0 0) := c351
                        refine T_p xr_16_137 xn_16 (pc' := 138) (ls' := [(8, .ref a333), (7, .int (iI i)), (6, .int (iI b)), (5, .int (iI (bI ((e = 0 ∧ d 1 0 = 1) ∨ (e = d 3 0 - 1 ∧ d 1 0 = 2))))), (4, .int (iI (bI (e = d 3 0 - 1)))), (3, .int (iI (bI (e = 0)))), (0, .ref B), (1, .ref a), (2, .int (iI e))]) (st' := [.int (iI 0)]) rfl ?_
                        refine T_ie (y := iI (bI (X_fi lo D W d e i))) (by rw [bI_f (by unfold X_fi; rintro (⟨h1, h2⟩ | h1 | h1 | ⟨h1, h2⟩) <;> first | contradiction | omega)]) ?_
                        exact J335
                      · skip
                        have c351 : ¬ (¬ (D i 0 0) = (d 0 0)) := c351
                        refine T_p xr_16_133 xn_16 (pc' := 134) (ls' := [(8, .ref a333), (7, .int (iI i)), (6, .int (iI b)), (5, .int (iI (bI ((e = 0 ∧ d 1 0 = 1) ∨ (e = d 3 0 - 1 ∧ d 1 0 = 2))))), (4, .int (iI (bI (e = d 3 0 - 1)))), (3, .int (iI (bI (e = 0)))), (0, .ref B), (1, .ref a), (2, .int (iI e))]) (st' := [.int (iI 1)]) rfl ?_
                        refine T_p xr_16_134 xn_16 (pc' := 138) (ls' := [(8, .ref a333), (7, .int (iI i)), (6, .int (iI b)), (5, .int (iI (bI ((e = 0 ∧ d 1 0 = 1) ∨ (e = d 3 0 - 1 ∧ d 1 0 = 2))))), (4, .int (iI (bI (e = d 3 0 - 1)))), (3, .int (iI (bI (e = 0)))), (0, .ref B), (1, .ref a), (2, .int (iI e))]) (st' := [.int (iI 1)]) rfl ?_
                        refine T_ie (y := iI (bI (X_fi lo D W d e i))) (by rw [bI_t (by unfold X_fi; first
                                | exact Or.inl ⟨by assumption, by assumption⟩
                                | exact Or.inr (Or.inl (by assumption))
                                | exact Or.inr (Or.inr (Or.inl (by assumption)))
                                | exact Or.inr (Or.inr (Or.inr ⟨by assumption, by omega⟩)))]) ?_
                        exact J335
              · skip
                have c337 : ¬ (e = 0) := c337
                refine T_p xr_16_87 xn_16 (pc' := 89) (ls' := [(8, .ref a333), (7, .int (iI i)), (6, .int (iI b)), (5, .int (iI (bI ((e = 0 ∧ d 1 0 = 1) ∨ (e = d 3 0 - 1 ∧ d 1 0 = 2))))), (4, .int (iI (bI (e = d 3 0 - 1)))), (3, .int (iI (bI (e = 0)))), (0, .ref B), (1, .ref a), (2, .int (iI e))]) (st' := [.int (iI (bI (e = d 3 0 - 1)))]) rfl ?_
                refine T_bif_eq xr_16_89 (t := 133) (pc' := 92) rfl rfl (fun c352 => ?_) (fun c352 => ?_)
                · skip
                  have c352 : ¬ (e = d 3 0 - 1) := c352
                  refine T_p xr_16_133 xn_16 (pc' := 134) (ls' := [(8, .ref a333), (7, .int (iI i)), (6, .int (iI b)), (5, .int (iI (bI ((e = 0 ∧ d 1 0 = 1) ∨ (e = d 3 0 - 1 ∧ d 1 0 = 2))))), (4, .int (iI (bI (e = d 3 0 - 1)))), (3, .int (iI (bI (e = 0)))), (0, .ref B), (1, .ref a), (2, .int (iI e))]) (st' := [.int (iI 1)]) rfl ?_
                  refine T_p xr_16_134 xn_16 (pc' := 138) (ls' := [(8, .ref a333), (7, .int (iI i)), (6, .int (iI b)), (5, .int (iI (bI ((e = 0 ∧ d 1 0 = 1) ∨ (e = d 3 0 - 1 ∧ d 1 0 = 2))))), (4, .int (iI (bI (e = d 3 0 - 1)))), (3, .int (iI (bI (e = 0)))), (0, .ref B), (1, .ref a), (2, .int (iI e))]) (st' := [.int (iI 1)]) rfl ?_
                  refine T_ie (y := iI (bI (X_fi lo D W d e i))) (by rw [bI_t (by unfold X_fi; first
                          | exact Or.inl ⟨by assumption, by assumption⟩
                          | exact Or.inr (Or.inl (by assumption))
                          | exact Or.inr (Or.inr (Or.inl (by assumption)))
                          | exact Or.inr (Or.inr (Or.inr ⟨by assumption, by omega⟩)))]) ?_
                  exact J335
                · skip
                  have c352 : (e = d 3 0 - 1) := c352
                  refine T_p xr_16_92 xn_16 (pc' := 94) (ls' := [(8, .ref a333), (7, .int (iI i)), (6, .int (iI b)), (5, .int (iI (bI ((e = 0 ∧ d 1 0 = 1) ∨ (e = d 3 0 - 1 ∧ d 1 0 = 2))))), (4, .int (iI (bI (e = d 3 0 - 1)))), (3, .int (iI (bI (e = 0)))), (0, .ref B), (1, .ref a), (2, .int (iI e))]) (st' := [.ref a333]) rfl ?_
                  refine T_cv (S := S) (q := a333) xr_16_94 xf_97.1 xf_97.2.1 xn_97 (as := []) (r := []) rfl hw332.1.1 (Nat.le_of_ble_eq_true rfl) (Nat.le_of_ble_eq_true rfl) (pc' := 97) rfl (ls' := [(0, .ref a333)]) rfl ?_
                  refine T_mono (c_isClosed sc S a333 (D i) (W i) ⟨hw332.1.1, hw332.1.2.1, hw332.1.2.2.1, hw332.1.2.2.2.1, hw332.1.2.2.2.2.1, hw332.1.2.2.2.2.2.1, hw332.1.2.2.2.2.2.2.1, hw332.1.2.2.2.2.2.2.2⟩ hw332.2) (fun v354 S355 h353 => ?_)
                  obtain ⟨h356, h357⟩ := h353
                  rw [h356, h357]
                  show X_T sc 16 (97, [(8, .ref a333), (7, .int (iI i)), (6, .int (iI b)), (5, .int (iI (bI ((e = 0 ∧ d 1 0 = 1) ∨ (e = d 3 0 - 1 ∧ d 1 0 = 2))))), (4, .int (iI (bI (e = d 3 0 - 1)))), (3, .int (iI (bI (e = 0)))), (0, .ref B), (1, .ref a), (2, .int (iI e))], [.int (iI (bI (X_en (D i) (W i) = 0)))], S) _
                  refine T_bif_ne xr_16_97 (t := 133) (pc' := 100) rfl rfl (fun c358 => ?_) (fun c358 => ?_)
                  · skip
                    have c358 : (X_en (D i) (W i) = 0) := c358
                    refine T_p xr_16_133 xn_16 (pc' := 134) (ls' := [(8, .ref a333), (7, .int (iI i)), (6, .int (iI b)), (5, .int (iI (bI ((e = 0 ∧ d 1 0 = 1) ∨ (e = d 3 0 - 1 ∧ d 1 0 = 2))))), (4, .int (iI (bI (e = d 3 0 - 1)))), (3, .int (iI (bI (e = 0)))), (0, .ref B), (1, .ref a), (2, .int (iI e))]) (st' := [.int (iI 1)]) rfl ?_
                    refine T_p xr_16_134 xn_16 (pc' := 138) (ls' := [(8, .ref a333), (7, .int (iI i)), (6, .int (iI b)), (5, .int (iI (bI ((e = 0 ∧ d 1 0 = 1) ∨ (e = d 3 0 - 1 ∧ d 1 0 = 2))))), (4, .int (iI (bI (e = d 3 0 - 1)))), (3, .int (iI (bI (e = 0)))), (0, .ref B), (1, .ref a), (2, .int (iI e))]) (st' := [.int (iI 1)]) rfl ?_
                    refine T_ie (y := iI (bI (X_fi lo D W d e i))) (by rw [bI_t (by unfold X_fi; first
                            | exact Or.inl ⟨by assumption, by assumption⟩
                            | exact Or.inr (Or.inl (by assumption))
                            | exact Or.inr (Or.inr (Or.inl (by assumption)))
                            | exact Or.inr (Or.inr (Or.inr ⟨by assumption, by omega⟩)))]) ?_
                    exact J335
                  · skip
                    have c358 : ¬ (X_en (D i) (W i) = 0) := c358
                    refine T_p xr_16_100 xn_16 (pc' := 101) (ls' := [(8, .ref a333), (7, .int (iI i)), (6, .int (iI b)), (5, .int (iI (bI ((e = 0 ∧ d 1 0 = 1) ∨ (e = d 3 0 - 1 ∧ d 1 0 = 2))))), (4, .int (iI (bI (e = d 3 0 - 1)))), (3, .int (iI (bI (e = 0)))), (0, .ref B), (1, .ref a), (2, .int (iI e))]) (st' := [.ref B]) rfl ?_
                    refine T_p xr_16_101 xn_16 (pc' := 103) (ls' := [(8, .ref a333), (7, .int (iI i)), (6, .int (iI b)), (5, .int (iI (bI ((e = 0 ∧ d 1 0 = 1) ∨ (e = d 3 0 - 1 ∧ d 1 0 = 2))))), (4, .int (iI (bI (e = d 3 0 - 1)))), (3, .int (iI (bI (e = 0)))), (0, .ref B), (1, .ref a), (2, .int (iI e))]) (st' := [.ref a333, .ref B]) rfl ?_
                    refine T_get xr_16_103 hw332.1.1 rfl (v := .int (iI (D i 0 0))) rfl (pc' := 106) rfl ?_
                    refine T_p xr_16_106 xn_16 (pc' := 107) (ls' := [(8, .ref a333), (7, .int (iI i)), (6, .int (iI b)), (5, .int (iI (bI ((e = 0 ∧ d 1 0 = 1) ∨ (e = d 3 0 - 1 ∧ d 1 0 = 2))))), (4, .int (iI (bI (e = d 3 0 - 1)))), (3, .int (iI (bI (e = 0)))), (0, .ref B), (1, .ref a), (2, .int (iI e))]) (st' := [.ref a, .int (iI (D i 0 0)), .ref B]) rfl ?_
                    refine T_get xr_16_107 hw.1 rfl (v := .int (iI (d 0 0))) rfl (pc' := 110) rfl ?_
                    refine T_cv (S := S) (q := B) xr_16_110 xf_10.1 xf_10.2.1 xn_10 (as := [.int (iI (D i 0 0)), .int (iI (d 0 0))]) (r := []) rfl hb0 (Nat.le_of_ble_eq_true rfl) (Nat.le_of_ble_eq_true rfl) (pc' := 113) rfl (ls' := [(0, .ref B), (1, .int (iI (D i 0 0))), (2, .int (iI (d 0 0)))]) rfl ?_
                    refine T_mono (c_isTighter sc S B rc kc wc rn lo kn ab (D i 0 0) (d 0 0) ⟨hb0, hb1, hb2, hb3, hb4, ⟨f, hb5, hf⟩, ⟨by omega, by omega⟩, ⟨by omega, by omega⟩, ⟨by omega, by omega⟩⟩ (by omega)) (fun v360 S361 h359 => ?_)
                    obtain ⟨h362, h363⟩ := h359
                    rw [h362, h363]
                    show X_T sc 16 (113, [(8, .ref a333), (7, .int (iI i)), (6, .int (iI b)), (5, .int (iI (bI ((e = 0 ∧ d 1 0 = 1) ∨ (e = d 3 0 - 1 ∧ d 1 0 = 2))))), (4, .int (iI (bI (e = d 3 0 - 1)))), (3, .int (iI (bI (e = 0)))), (0, .ref B), (1, .ref a), (2, .int (iI e))], [.int (iI (bI (X_bt (lo (D i 0 0)) (d 0 0))))], S) _
                    refine T_bif_ne xr_16_113 (t := 133) (pc' := 116) rfl rfl (fun c364 => ?_) (fun c364 => ?_)
                    · skip
                      have c364 : (X_bt (lo (D i 0 0)) (d 0 0)) := c364
                      refine T_p xr_16_133 xn_16 (pc' := 134) (ls' := [(8, .ref a333), (7, .int (iI i)), (6, .int (iI b)), (5, .int (iI (bI ((e = 0 ∧ d 1 0 = 1) ∨ (e = d 3 0 - 1 ∧ d 1 0 = 2))))), (4, .int (iI (bI (e = d 3 0 - 1)))), (3, .int (iI (bI (e = 0)))), (0, .ref B), (1, .ref a), (2, .int (iI e))]) (st' := [.int (iI 1)]) rfl ?_
                      refine T_p xr_16_134 xn_16 (pc' := 138) (ls' := [(8, .ref a333), (7, .int (iI i)), (6, .int (iI b)), (5, .int (iI (bI ((e = 0 ∧ d 1 0 = 1) ∨ (e = d 3 0 - 1 ∧ d 1 0 = 2))))), (4, .int (iI (bI (e = d 3 0 - 1)))), (3, .int (iI (bI (e = 0)))), (0, .ref B), (1, .ref a), (2, .int (iI e))]) (st' := [.int (iI 1)]) rfl ?_
                      refine T_ie (y := iI (bI (X_fi lo D W d e i))) (by rw [bI_t (by unfold X_fi; first
                              | exact Or.inl ⟨by assumption, by assumption⟩
                              | exact Or.inr (Or.inl (by assumption))
                              | exact Or.inr (Or.inr (Or.inl (by assumption)))
                              | exact Or.inr (Or.inr (Or.inr ⟨by assumption, by omega⟩)))]) ?_
                      exact J335
                    · skip
                      have c364 : ¬ (X_bt (lo (D i 0 0)) (d 0 0)) := c364
                      refine T_p xr_16_116 xn_16 (pc' := 118) (ls' := [(8, .ref a333), (7, .int (iI i)), (6, .int (iI b)), (5, .int (iI (bI ((e = 0 ∧ d 1 0 = 1) ∨ (e = d 3 0 - 1 ∧ d 1 0 = 2))))), (4, .int (iI (bI (e = d 3 0 - 1)))), (3, .int (iI (bI (e = 0)))), (0, .ref B), (1, .ref a), (2, .int (iI e))]) (st' := [.int (iI (bI ((e = 0 ∧ d 1 0 = 1) ∨ (e = d 3 0 - 1 ∧ d 1 0 = 2))))]) rfl ?_
                      refine T_bif_eq xr_16_118 (t := 137) (pc' := 121) rfl rfl (fun c365 => ?_) (fun c365 => ?_)
                      · skip
                        have c365 : ¬ ((e = 0 ∧ d 1 0 = 1) ∨ (e = d 3 0 - 1 ∧ d 1 0 = 2)) := c365
                        refine T_p xr_16_137 xn_16 (pc' := 138) (ls' := [(8, .ref a333), (7, .int (iI i)), (6, .int (iI b)), (5, .int (iI (bI ((e = 0 ∧ d 1 0 = 1) ∨ (e = d 3 0 - 1 ∧ d 1 0 = 2))))), (4, .int (iI (bI (e = d 3 0 - 1)))), (3, .int (iI (bI (e = 0)))), (0, .ref B), (1, .ref a), (2, .int (iI e))]) (st' := [.int (iI 0)]) rfl ?_
                        refine T_ie (y := iI (bI (X_fi lo D W d e i))) (by rw [bI_f (by unfold X_fi; rintro (⟨h1, h2⟩ | h1 | h1 | ⟨h1, h2⟩) <;> first | contradiction | omega)]) ?_
                        exact J335
                      · skip
                        have c365 : ((e = 0 ∧ d 1 0 = 1) ∨ (e = d 3 0 - 1 ∧ d 1 0 = 2)) := c365
                        refine T_p xr_16_121 xn_16 (pc' := 123) (ls' := [(8, .ref a333), (7, .int (iI i)), (6, .int (iI b)), (5, .int (iI (bI ((e = 0 ∧ d 1 0 = 1) ∨ (e = d 3 0 - 1 ∧ d 1 0 = 2))))), (4, .int (iI (bI (e = d 3 0 - 1)))), (3, .int (iI (bI (e = 0)))), (0, .ref B), (1, .ref a), (2, .int (iI e))]) (st' := [.ref a333]) rfl ?_
                        refine T_get xr_16_123 hw332.1.1 rfl (v := .int (iI (D i 0 0))) rfl (pc' := 126) rfl ?_
                        refine T_p xr_16_126 xn_16 (pc' := 127) (ls' := [(8, .ref a333), (7, .int (iI i)), (6, .int (iI b)), (5, .int (iI (bI ((e = 0 ∧ d 1 0 = 1) ∨ (e = d 3 0 - 1 ∧ d 1 0 = 2))))), (4, .int (iI (bI (e = d 3 0 - 1)))), (3, .int (iI (bI (e = 0)))), (0, .ref B), (1, .ref a), (2, .int (iI e))]) (st' := [.ref a, .int (iI (D i 0 0))]) rfl ?_
                        refine T_get xr_16_127 hw.1 rfl (v := .int (iI (d 0 0))) rfl (pc' := 130) rfl ?_
                        refine T_zicmp_ne xr_16_130 (t := 137) (pc' := 133) rfl rfl (fun c366 => ?_) (fun c366 => ?_)
                        · skip
                          have c366 : ¬ (D i 0 0) = (d 0 0) := c366
                          refine T_p xr_16_137 xn_16 (pc' := 138) (ls' := [(8, .ref a333), (7, .int (iI i)), (6, .int (iI b)), (5, .int (iI (bI ((e = 0 ∧ d 1 0 = 1) ∨ (e = d 3 0 - 1 ∧ d 1 0 = 2))))), (4, .int (iI (bI (e = d 3 0 - 1)))), (3, .int (iI (bI (e = 0)))), (0, .ref B), (1, .ref a), (2, .int (iI e))]) (st' := [.int (iI 0)]) rfl ?_
                          refine T_ie (y := iI (bI (X_fi lo D W d e i))) (by rw [bI_f (by unfold X_fi; rintro (⟨h1, h2⟩ | h1 | h1 | ⟨h1, h2⟩) <;> first | contradiction | omega)]) ?_
                          exact J335
                        · skip
                          have c366 : ¬ (¬ (D i 0 0) = (d 0 0)) := c366
                          refine T_p xr_16_133 xn_16 (pc' := 134) (ls' := [(8, .ref a333), (7, .int (iI i)), (6, .int (iI b)), (5, .int (iI (bI ((e = 0 ∧ d 1 0 = 1) ∨ (e = d 3 0 - 1 ∧ d 1 0 = 2))))), (4, .int (iI (bI (e = d 3 0 - 1)))), (3, .int (iI (bI (e = 0)))), (0, .ref B), (1, .ref a), (2, .int (iI e))]) (st' := [.int (iI 1)]) rfl ?_
                          refine T_p xr_16_134 xn_16 (pc' := 138) (ls' := [(8, .ref a333), (7, .int (iI i)), (6, .int (iI b)), (5, .int (iI (bI ((e = 0 ∧ d 1 0 = 1) ∨ (e = d 3 0 - 1 ∧ d 1 0 = 2))))), (4, .int (iI (bI (e = d 3 0 - 1)))), (3, .int (iI (bI (e = 0)))), (0, .ref B), (1, .ref a), (2, .int (iI e))]) (st' := [.int (iI 1)]) rfl ?_
                          refine T_ie (y := iI (bI (X_fi lo D W d e i))) (by rw [bI_t (by unfold X_fi; first
                                  | exact Or.inl ⟨by assumption, by assumption⟩
                                  | exact Or.inr (Or.inl (by assumption))
                                  | exact Or.inr (Or.inr (Or.inl (by assumption)))
                                  | exact Or.inr (Or.inr (Or.inr ⟨by assumption, by omega⟩)))]) ?_
                          exact J335
        exact L326 (wc + 1).toNat 0 0  (by omega) (fun k h1 h2 => ⟨fun h => absurd h (X_bt_0 k ⟨h1, h2⟩), fun h => absurd h.1 (by omega)⟩) (by omega)
      refine T_p xr_16_27 xn_16 (pc' := 28) (ls' := [(4, .int (iI (bI (e = d 3 0 - 1)))), (3, .int (iI (bI (e = 0)))), (0, .ref B), (1, .ref a), (2, .int (iI e))]) (st' := [.int (iI (bI (e = 0)))]) rfl ?_
      refine T_bif_eq xr_16_28 (t := 39) (pc' := 31) rfl rfl (fun c367 => ?_) (fun c367 => ?_)
      · skip
        have c367 : ¬ (e = 0) := c367
        refine T_p xr_16_39 xn_16 (pc' := 41) (ls' := [(4, .int (iI (bI (e = d 3 0 - 1)))), (3, .int (iI (bI (e = 0)))), (0, .ref B), (1, .ref a), (2, .int (iI e))]) (st' := [.int (iI (bI (e = d 3 0 - 1)))]) rfl ?_
        refine T_bif_eq xr_16_41 (t := 56) (pc' := 44) rfl rfl (fun c368 => ?_) (fun c368 => ?_)
        · skip
          have c368 : ¬ (e = d 3 0 - 1) := c368
          refine T_p xr_16_56 xn_16 (pc' := 57) (ls' := [(4, .int (iI (bI (e = d 3 0 - 1)))), (3, .int (iI (bI (e = 0)))), (0, .ref B), (1, .ref a), (2, .int (iI e))]) (st' := [.int (iI 0)]) rfl ?_
          refine T_ie (y := iI (bI ((e = 0 ∧ d 1 0 = 1) ∨ (e = d 3 0 - 1 ∧ d 1 0 = 2)))) (by rw [bI_f (by rintro (⟨h1, h2⟩ | ⟨h1, h2⟩) <;> first | contradiction | omega)]) ?_
          exact J325
        · skip
          have c368 : (e = d 3 0 - 1) := c368
          refine T_p xr_16_44 xn_16 (pc' := 45) (ls' := [(4, .int (iI (bI (e = d 3 0 - 1)))), (3, .int (iI (bI (e = 0)))), (0, .ref B), (1, .ref a), (2, .int (iI e))]) (st' := [.ref a]) rfl ?_
          refine T_get xr_16_45 hw.1 rfl (v := .int (iI (d 1 0))) rfl (pc' := 48) rfl ?_
          refine T_p xr_16_48 xn_16 (pc' := 49) (ls' := [(4, .int (iI (bI (e = d 3 0 - 1)))), (3, .int (iI (bI (e = 0)))), (0, .ref B), (1, .ref a), (2, .int (iI e))]) (st' := [.int (iI 2), .int (iI (d 1 0))]) rfl ?_
          refine T_zicmp_ne xr_16_49 (t := 56) (pc' := 52) rfl rfl (fun c369 => ?_) (fun c369 => ?_)
          · skip
            have c369 : ¬ (d 1 0) = 2 := c369
            refine T_p xr_16_56 xn_16 (pc' := 57) (ls' := [(4, .int (iI (bI (e = d 3 0 - 1)))), (3, .int (iI (bI (e = 0)))), (0, .ref B), (1, .ref a), (2, .int (iI e))]) (st' := [.int (iI 0)]) rfl ?_
            refine T_ie (y := iI (bI ((e = 0 ∧ d 1 0 = 1) ∨ (e = d 3 0 - 1 ∧ d 1 0 = 2)))) (by rw [bI_f (by rintro (⟨h1, h2⟩ | ⟨h1, h2⟩) <;> first | contradiction | omega)]) ?_
            exact J325
          · skip
            have c369 : ¬ (¬ (d 1 0) = 2) := c369
            refine T_p xr_16_52 xn_16 (pc' := 53) (ls' := [(4, .int (iI (bI (e = d 3 0 - 1)))), (3, .int (iI (bI (e = 0)))), (0, .ref B), (1, .ref a), (2, .int (iI e))]) (st' := [.int (iI 1)]) rfl ?_
            refine T_p xr_16_53 xn_16 (pc' := 57) (ls' := [(4, .int (iI (bI (e = d 3 0 - 1)))), (3, .int (iI (bI (e = 0)))), (0, .ref B), (1, .ref a), (2, .int (iI e))]) (st' := [.int (iI 1)]) rfl ?_
            refine T_ie (y := iI (bI ((e = 0 ∧ d 1 0 = 1) ∨ (e = d 3 0 - 1 ∧ d 1 0 = 2)))) (by rw [bI_t (by first | exact Or.inl ⟨by assumption, by omega⟩ | exact Or.inr ⟨by assumption, by omega⟩)]) ?_
            exact J325
      · skip
        have c367 : (e = 0) := c367
        refine T_p xr_16_31 xn_16 (pc' := 32) (ls' := [(4, .int (iI (bI (e = d 3 0 - 1)))), (3, .int (iI (bI (e = 0)))), (0, .ref B), (1, .ref a), (2, .int (iI e))]) (st' := [.ref a]) rfl ?_
        refine T_get xr_16_32 hw.1 rfl (v := .int (iI (d 1 0))) rfl (pc' := 35) rfl ?_
        refine T_p xr_16_35 xn_16 (pc' := 36) (ls' := [(4, .int (iI (bI (e = d 3 0 - 1)))), (3, .int (iI (bI (e = 0)))), (0, .ref B), (1, .ref a), (2, .int (iI e))]) (st' := [.int (iI 1), .int (iI (d 1 0))]) rfl ?_
        refine T_zicmp_eq xr_16_36 (t := 52) (pc' := 39) rfl rfl (fun c370 => ?_) (fun c370 => ?_)
        · skip
          have c370 : (d 1 0) = 1 := c370
          refine T_p xr_16_52 xn_16 (pc' := 53) (ls' := [(4, .int (iI (bI (e = d 3 0 - 1)))), (3, .int (iI (bI (e = 0)))), (0, .ref B), (1, .ref a), (2, .int (iI e))]) (st' := [.int (iI 1)]) rfl ?_
          refine T_p xr_16_53 xn_16 (pc' := 57) (ls' := [(4, .int (iI (bI (e = d 3 0 - 1)))), (3, .int (iI (bI (e = 0)))), (0, .ref B), (1, .ref a), (2, .int (iI e))]) (st' := [.int (iI 1)]) rfl ?_
          refine T_ie (y := iI (bI ((e = 0 ∧ d 1 0 = 1) ∨ (e = d 3 0 - 1 ∧ d 1 0 = 2)))) (by rw [bI_t (by first | exact Or.inl ⟨by assumption, by omega⟩ | exact Or.inr ⟨by assumption, by omega⟩)]) ?_
          exact J325
        · skip
          have c370 : ¬ ((d 1 0) = 1) := c370
          refine T_p xr_16_39 xn_16 (pc' := 41) (ls' := [(4, .int (iI (bI (e = d 3 0 - 1)))), (3, .int (iI (bI (e = 0)))), (0, .ref B), (1, .ref a), (2, .int (iI e))]) (st' := [.int (iI (bI (e = d 3 0 - 1)))]) rfl ?_
          refine T_bif_eq xr_16_41 (t := 56) (pc' := 44) rfl rfl (fun c371 => ?_) (fun c371 => ?_)
          · skip
            have c371 : ¬ (e = d 3 0 - 1) := c371
            refine T_p xr_16_56 xn_16 (pc' := 57) (ls' := [(4, .int (iI (bI (e = d 3 0 - 1)))), (3, .int (iI (bI (e = 0)))), (0, .ref B), (1, .ref a), (2, .int (iI e))]) (st' := [.int (iI 0)]) rfl ?_
            refine T_ie (y := iI (bI ((e = 0 ∧ d 1 0 = 1) ∨ (e = d 3 0 - 1 ∧ d 1 0 = 2)))) (by rw [bI_f (by rintro (⟨h1, h2⟩ | ⟨h1, h2⟩) <;> first | contradiction | omega)]) ?_
            exact J325
          · skip
            have c371 : (e = d 3 0 - 1) := c371
            refine T_p xr_16_44 xn_16 (pc' := 45) (ls' := [(4, .int (iI (bI (e = d 3 0 - 1)))), (3, .int (iI (bI (e = 0)))), (0, .ref B), (1, .ref a), (2, .int (iI e))]) (st' := [.ref a]) rfl ?_
            refine T_get xr_16_45 hw.1 rfl (v := .int (iI (d 1 0))) rfl (pc' := 48) rfl ?_
            refine T_p xr_16_48 xn_16 (pc' := 49) (ls' := [(4, .int (iI (bI (e = d 3 0 - 1)))), (3, .int (iI (bI (e = 0)))), (0, .ref B), (1, .ref a), (2, .int (iI e))]) (st' := [.int (iI 2), .int (iI (d 1 0))]) rfl ?_
            refine T_zicmp_ne xr_16_49 (t := 56) (pc' := 52) rfl rfl (fun c372 => ?_) (fun c372 => ?_)
            · skip
              have c372 : ¬ (d 1 0) = 2 := c372
              refine T_p xr_16_56 xn_16 (pc' := 57) (ls' := [(4, .int (iI (bI (e = d 3 0 - 1)))), (3, .int (iI (bI (e = 0)))), (0, .ref B), (1, .ref a), (2, .int (iI e))]) (st' := [.int (iI 0)]) rfl ?_
              refine T_ie (y := iI (bI ((e = 0 ∧ d 1 0 = 1) ∨ (e = d 3 0 - 1 ∧ d 1 0 = 2)))) (by rw [bI_f (by rintro (⟨h1, h2⟩ | ⟨h1, h2⟩) <;> first | contradiction | omega)]) ?_
              exact J325
            · skip
              have c372 : ¬ (¬ (d 1 0) = 2) := c372
              refine T_p xr_16_52 xn_16 (pc' := 53) (ls' := [(4, .int (iI (bI (e = d 3 0 - 1)))), (3, .int (iI (bI (e = 0)))), (0, .ref B), (1, .ref a), (2, .int (iI e))]) (st' := [.int (iI 1)]) rfl ?_
              refine T_p xr_16_53 xn_16 (pc' := 57) (ls' := [(4, .int (iI (bI (e = d 3 0 - 1)))), (3, .int (iI (bI (e = 0)))), (0, .ref B), (1, .ref a), (2, .int (iI e))]) (st' := [.int (iI 1)]) rfl ?_
              refine T_ie (y := iI (bI ((e = 0 ∧ d 1 0 = 1) ∨ (e = d 3 0 - 1 ∧ d 1 0 = 2)))) (by rw [bI_t (by first | exact Or.inl ⟨by assumption, by omega⟩ | exact Or.inr ⟨by assumption, by omega⟩)]) ?_
              exact J325
    refine T_p xr_16_10 xn_16 (pc' := 11) (ls' := [(3, .int (iI (bI (e = 0)))), (0, .ref B), (1, .ref a), (2, .int (iI e))]) (st' := [.int (iI e)]) rfl ?_
    refine T_p xr_16_11 xn_16 (pc' := 12) (ls' := [(3, .int (iI (bI (e = 0)))), (0, .ref B), (1, .ref a), (2, .int (iI e))]) (st' := [.ref a, .int (iI e)]) rfl ?_
    refine T_get xr_16_12 hw.1 rfl (v := .int (iI (d 3 0))) rfl (pc' := 15) rfl ?_
    refine T_p xr_16_15 xn_16 (pc' := 16) (ls' := [(3, .int (iI (bI (e = 0)))), (0, .ref B), (1, .ref a), (2, .int (iI e))]) (st' := [.int (iI 1), .int (iI (d 3 0)), .int (iI e)]) rfl ?_
    refine T_zisub xr_16_16 (z := (d 3 0) - 1) rfl (pc' := 17) rfl ?_
    refine T_zicmp_ne xr_16_17 (t := 24) (pc' := 20) rfl rfl (fun c373 => ?_) (fun c373 => ?_)
    · skip
      have c373 : ¬ e = ((d 3 0) - 1) := c373
      refine T_p xr_16_24 xn_16 (pc' := 25) (ls' := [(3, .int (iI (bI (e = 0)))), (0, .ref B), (1, .ref a), (2, .int (iI e))]) (st' := [.int (iI 0)]) rfl ?_
      refine T_ie (y := iI (bI (e = d 3 0 - 1))) (by rw [bI_f (by omega)]) ?_
      exact J324
    · skip
      have c373 : ¬ (¬ e = ((d 3 0) - 1)) := c373
      refine T_p xr_16_20 xn_16 (pc' := 21) (ls' := [(3, .int (iI (bI (e = 0)))), (0, .ref B), (1, .ref a), (2, .int (iI e))]) (st' := [.int (iI 1)]) rfl ?_
      refine T_p xr_16_21 xn_16 (pc' := 25) (ls' := [(3, .int (iI (bI (e = 0)))), (0, .ref B), (1, .ref a), (2, .int (iI e))]) (st' := [.int (iI 1)]) rfl ?_
      refine T_ie (y := iI (bI (e = d 3 0 - 1))) (by rw [bI_t (by omega)]) ?_
      exact J324
  refine T_p xr_16_0 xn_16 (pc' := 1) (ls' := [(0, .ref B), (1, .ref a), (2, .int (iI e))]) (st' := [.int (iI e)]) rfl ?_
  refine T_zif_ne xr_16_1 (t := 8) (pc' := 4) rfl rfl (fun c374 => ?_) (fun c374 => ?_)
  · skip
    have c374 : ¬ e = 0 := c374
    refine T_p xr_16_8 xn_16 (pc' := 9) (ls' := [(0, .ref B), (1, .ref a), (2, .int (iI e))]) (st' := [.int (iI 0)]) rfl ?_
    refine T_ie (y := iI (bI (e = 0))) (by rw [bI_f (by omega)]) ?_
    exact J323
  · skip
    have c374 : ¬ (¬ e = 0) := c374
    refine T_p xr_16_4 xn_16 (pc' := 5) (ls' := [(0, .ref B), (1, .ref a), (2, .int (iI e))]) (st' := [.int (iI 1)]) rfl ?_
    refine T_p xr_16_5 xn_16 (pc' := 9) (ls' := [(0, .ref B), (1, .ref a), (2, .int (iI e))]) (st' := [.int (iI 1)]) rfl ?_
    refine T_ie (y := iI (bI (e = 0))) (by rw [bI_t (by omega)]) ?_
    exact J323
