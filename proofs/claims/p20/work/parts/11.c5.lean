theorem xr_9_0 : X_row 9 0 = some (0, (.aload_n 0, 1), (0, 0, 0)) := by decide +kernel
theorem xr_9_1 : X_row 9 1 = some (1, (.getfield 15, 3), (0, 4, 24)) := by decide +kernel
theorem xr_9_4 : X_row 9 4 = some (4, (.iload_n 2, 1), (0, 0, 0)) := by decide +kernel
theorem xr_9_5 : X_row 9 5 = some (5, (.iaload, 1), (0, 0, 0)) := by decide +kernel
theorem xr_9_6 : X_row 9 6 = some (6, (.iconst 1, 1), (0, 0, 0)) := by decide +kernel
theorem xr_9_7 : X_row 9 7 = some (7, (.iload_n 2, 1), (0, 0, 0)) := by decide +kernel
theorem xr_9_8 : X_row 9 8 = some (8, (.ishl, 1), (0, 0, 0)) := by decide +kernel
theorem xr_9_9 : X_row 9 9 = some (9, (.ior, 1), (0, 0, 0)) := by decide +kernel
theorem xr_9_10 : X_row 9 10 = some (10, (.istore_n 3, 1), (0, 0, 0)) := by decide +kernel
theorem xr_9_11 : X_row 9 11 = some (11, (.iconst 0, 1), (0, 0, 0)) := by decide +kernel
theorem xr_9_12 : X_row 9 12 = some (12, (.istore 4, 2), (0, 0, 0)) := by decide +kernel
theorem xr_9_14 : X_row 9 14 = some (14, (.iload 4, 2), (0, 0, 0)) := by decide +kernel
theorem xr_9_16 : X_row 9 16 = some (16, (.aload_n 0, 1), (0, 0, 0)) := by decide +kernel
theorem xr_9_17 : X_row 9 17 = some (17, (.getfield 35, 3), (0, 0, 16)) := by decide +kernel
theorem xr_9_20 : X_row 9 20 = some (20, (.if_icmp .ge 36, 3), (0, 0, 0)) := by decide +kernel
theorem xr_9_23 : X_row 9 23 = some (23, (.iload 4, 2), (0, 0, 0)) := by decide +kernel
theorem xr_9_25 : X_row 9 25 = some (25, (.iload_n 1, 1), (0, 0, 0)) := by decide +kernel
theorem xr_9_26 : X_row 9 26 = some (26, (.if_icmp .eq 13, 3), (0, 0, 0)) := by decide +kernel
theorem xr_9_29 : X_row 9 29 = some (29, (.aload_n 0, 1), (0, 0, 0)) := by decide +kernel
theorem xr_9_30 : X_row 9 30 = some (30, (.iload 4, 2), (0, 0, 0)) := by decide +kernel
theorem xr_9_32 : X_row 9 32 = some (32, (.iload_n 1, 1), (0, 0, 0)) := by decide +kernel
theorem xr_9_33 : X_row 9 33 = some (33, (.invokevirtual 55, 3), (10, 8, 0)) := by decide +kernel
theorem xr_9_36 : X_row 9 36 = some (36, (.ifCond .eq 14, 3), (0, 0, 0)) := by decide +kernel
theorem xr_9_39 : X_row 9 39 = some (39, (.aload_n 0, 1), (0, 0, 0)) := by decide +kernel
theorem xr_9_40 : X_row 9 40 = some (40, (.getfield 15, 3), (0, 4, 24)) := by decide +kernel
theorem xr_9_43 : X_row 9 43 = some (43, (.iload 4, 2), (0, 0, 0)) := by decide +kernel
theorem xr_9_45 : X_row 9 45 = some (45, (.dup2, 1), (0, 0, 0)) := by decide +kernel
theorem xr_9_46 : X_row 9 46 = some (46, (.iaload, 1), (0, 0, 0)) := by decide +kernel
theorem xr_9_47 : X_row 9 47 = some (47, (.iload_n 3, 1), (0, 0, 0)) := by decide +kernel
theorem xr_9_48 : X_row 9 48 = some (48, (.ior, 1), (0, 0, 0)) := by decide +kernel
theorem xr_9_49 : X_row 9 49 = some (49, (.iastore, 1), (0, 0, 0)) := by decide +kernel
theorem xr_9_50 : X_row 9 50 = some (50, (.iinc 4 1, 3), (0, 0, 0)) := by decide +kernel
theorem xr_9_53 : X_row 9 53 = some (53, (.goto (-39), 3), (0, 0, 0)) := by decide +kernel
theorem xr_9_56 : X_row 9 56 = some (56, (.return_, 1), (0, 0, 0)) := by decide +kernel
theorem xr_13_0 : X_row 13 0 = some (0, (.iconst 0, 1), (0, 0, 0)) := by decide +kernel
theorem xr_13_1 : X_row 13 1 = some (1, (.istore_n 2, 1), (0, 0, 0)) := by decide +kernel
theorem xr_13_2 : X_row 13 2 = some (2, (.iconst 0, 1), (0, 0, 0)) := by decide +kernel
theorem xr_13_3 : X_row 13 3 = some (3, (.istore_n 3, 1), (0, 0, 0)) := by decide +kernel
theorem xr_13_4 : X_row 13 4 = some (4, (.iload_n 3, 1), (0, 0, 0)) := by decide +kernel
theorem xr_13_5 : X_row 13 5 = some (5, (.aload_n 0, 1), (0, 0, 0)) := by decide +kernel
theorem xr_13_6 : X_row 13 6 = some (6, (.getfield 39, 3), (0, 1, 18)) := by decide +kernel
theorem xr_13_9 : X_row 13 9 = some (9, (.if_icmp .ge 24, 3), (0, 0, 0)) := by decide +kernel
theorem xr_13_12 : X_row 13 12 = some (12, (.aload_n 0, 1), (0, 0, 0)) := by decide +kernel
theorem xr_13_13 : X_row 13 13 = some (13, (.iload_n 3, 1), (0, 0, 0)) := by decide +kernel
theorem xr_13_14 : X_row 13 14 = some (14, (.iload_n 1, 1), (0, 0, 0)) := by decide +kernel
theorem xr_13_15 : X_row 13 15 = some (15, (.invokevirtual 62, 3), (11, 16, 0)) := by decide +kernel
theorem xr_13_18 : X_row 13 18 = some (18, (.ifCond .eq 9, 3), (0, 0, 0)) := by decide +kernel
theorem xr_13_21 : X_row 13 21 = some (21, (.iload_n 2, 1), (0, 0, 0)) := by decide +kernel
theorem xr_13_22 : X_row 13 22 = some (22, (.iconst 1, 1), (0, 0, 0)) := by decide +kernel
theorem xr_13_23 : X_row 13 23 = some (23, (.iload_n 3, 1), (0, 0, 0)) := by decide +kernel
theorem xr_13_24 : X_row 13 24 = some (24, (.ishl, 1), (0, 0, 0)) := by decide +kernel
theorem xr_13_25 : X_row 13 25 = some (25, (.ior, 1), (0, 0, 0)) := by decide +kernel
theorem xr_13_26 : X_row 13 26 = some (26, (.istore_n 2, 1), (0, 0, 0)) := by decide +kernel
theorem xr_13_27 : X_row 13 27 = some (27, (.iinc 3 1, 3), (0, 0, 0)) := by decide +kernel
theorem xr_13_30 : X_row 13 30 = some (30, (.goto (-26), 3), (0, 0, 0)) := by decide +kernel
theorem xr_13_33 : X_row 13 33 = some (33, (.iload_n 2, 1), (0, 0, 0)) := by decide +kernel
theorem xr_13_34 : X_row 13 34 = some (34, (.ireturn, 1), (0, 0, 0)) := by decide +kernel
theorem xr_14_0 : X_row 14 0 = some (0, (.iconst 0, 1), (0, 0, 0)) := by decide +kernel
theorem xr_14_1 : X_row 14 1 = some (1, (.istore_n 2, 1), (0, 0, 0)) := by decide +kernel
theorem xr_14_2 : X_row 14 2 = some (2, (.iconst 0, 1), (0, 0, 0)) := by decide +kernel
theorem xr_14_3 : X_row 14 3 = some (3, (.istore_n 3, 1), (0, 0, 0)) := by decide +kernel
theorem xr_14_4 : X_row 14 4 = some (4, (.iload_n 3, 1), (0, 0, 0)) := by decide +kernel
theorem xr_14_5 : X_row 14 5 = some (5, (.aload_n 0, 1), (0, 0, 0)) := by decide +kernel
theorem xr_14_6 : X_row 14 6 = some (6, (.getfield 42, 3), (0, 2, 20)) := by decide +kernel
theorem xr_14_9 : X_row 14 9 = some (9, (.if_icmp .ge 31, 3), (0, 0, 0)) := by decide +kernel
theorem xr_14_12 : X_row 14 12 = some (12, (.iload_n 1, 1), (0, 0, 0)) := by decide +kernel
theorem xr_14_13 : X_row 14 13 = some (13, (.aload_n 0, 1), (0, 0, 0)) := by decide +kernel
theorem xr_14_14 : X_row 14 14 = some (14, (.getfield 27, 3), (0, 7, 30)) := by decide +kernel
theorem xr_14_17 : X_row 14 17 = some (17, (.iload_n 3, 1), (0, 0, 0)) := by decide +kernel
theorem xr_14_18 : X_row 14 18 = some (18, (.aaload, 1), (0, 0, 0)) := by decide +kernel
theorem xr_14_19 : X_row 14 19 = some (19, (.getfield 65, 3), (8, 2, 5)) := by decide +kernel
theorem xr_14_22 : X_row 14 22 = some (22, (.invokestatic 59, 3), (112, 7, 0)) := by decide +kernel
theorem xr_14_25 : X_row 14 25 = some (25, (.ifCond .eq 9, 3), (0, 0, 0)) := by decide +kernel
theorem xr_14_28 : X_row 14 28 = some (28, (.iload_n 2, 1), (0, 0, 0)) := by decide +kernel
theorem xr_14_29 : X_row 14 29 = some (29, (.iconst 1, 1), (0, 0, 0)) := by decide +kernel
theorem xr_14_30 : X_row 14 30 = some (30, (.iload_n 3, 1), (0, 0, 0)) := by decide +kernel
theorem xr_14_31 : X_row 14 31 = some (31, (.ishl, 1), (0, 0, 0)) := by decide +kernel
theorem xr_14_32 : X_row 14 32 = some (32, (.ior, 1), (0, 0, 0)) := by decide +kernel
theorem xr_14_33 : X_row 14 33 = some (33, (.istore_n 2, 1), (0, 0, 0)) := by decide +kernel
theorem xr_14_34 : X_row 14 34 = some (34, (.iinc 3 1, 3), (0, 0, 0)) := by decide +kernel
theorem xr_14_37 : X_row 14 37 = some (37, (.goto (-33), 3), (0, 0, 0)) := by decide +kernel
theorem xr_14_40 : X_row 14 40 = some (40, (.iload_n 2, 1), (0, 0, 0)) := by decide +kernel
theorem xr_14_41 : X_row 14 41 = some (41, (.ireturn, 1), (0, 0, 0)) := by decide +kernel
theorem xn_9 : X_nL 9 = 5 := by decide +kernel
theorem xf_9 : X_na 9 = 2 ∧ X_ci 9 = 0 ∧ X_rt 9 = none := by decide +kernel
theorem xn_13 : X_nL 13 = 4 := by decide +kernel
theorem xf_13 : X_na 13 = 1 ∧ X_ci 13 = 0 ∧ X_rt 13 = (some .int) := by decide +kernel
theorem xn_14 : X_nL 14 = 4 := by decide +kernel
theorem xf_14 : X_na 14 = 1 ∧ X_ci 14 = 0 ∧ X_rt 14 = (some .int) := by decide +kernel
/-- the ranks that a rank is tighter than, once a is tighter than b -/
noncomputable def X_ti (lo : Int → Int) (a b r : Int) : Int := @ite Int (r = a ∨ X_bt (lo r) a) (Classical.propDecidable _) (X_bO (lo r) (X_bO (lo b) (X_bS b))) (lo r)
noncomputable def X_tf (rc : Int) (lo : Int → Int) (a b r : Int) : Int := if 0 ≤ r ∧ r < rc then X_ti lo a b r else lo r
theorem X_ti_t {lo : Int → Int} {a b r : Int} (h : r = a ∨ X_bt (lo r) a) : X_ti lo a b r = X_bO (lo r) (X_bO (lo b) (X_bS b)) := by unfold X_ti; rw [if_pos h]
theorem X_ti_f {lo : Int → Int} {a b r : Int} (h : ¬ (r = a ∨ X_bt (lo r) a)) : X_ti lo a b r = lo r := by unfold X_ti; rw [if_neg h]
def X_h2 (d : Nat → Int → Int) (q : Int → Int64) : Prop := ∃ e k, 0 ≤ e ∧ e < k ∧ k < d 3 0 ∧ ¬ X_hl d q e ∧ q e = q k
def X_sp (d : Nat → Int → Int) (q : Int → Int64) (d' : Nat → Int → Int) (q' : Int → Int64) : Prop := ∃ e, 0 ≤ e ∧ e < d 3 0 ∧ ¬ X_hl d q e ∧ X_hp d' q' (q e)
/-- one word of a book against another, or against itself -/
def X_ag (lo : Int → Int) (D : Int → Nat → Int → Int) (W : Int → Int → Int64) (x y : Int) : Prop :=
  (x = y ∧ (X_h2 (D x) (W x) ∨ (X_en (D x) (W x) = 3 ∧ D x 1 0 = 0))) ∨
  (¬ x = y ∧ (X_sp (D x) (W x) (D y) (W y) ∨ (¬ X_en (D x) (W x) = 0 ∧ ¬ X_en (D y) (W y) = 0 ∧
    ¬ (D x 0 0 = D y 0 0 ∧ ¬ D x 1 0 = 0 ∧ D x 1 0 = D y 1 0) ∧ ¬ X_bt (lo (D x 0 0)) (D y 0 0) ∧ ¬ X_bt (lo (D y 0 0)) (D x 0 0))))
theorem c_setTighter (sc : X_Sc) (S : X_S) (B : Nat) (rc kc wc : Int) (rn : Int → Int64) (lo : Int → Int) (kn : Int → Int64) (ab : Int → Int) (a b : Int) (hb : C_bk S B rc kc wc rn lo kn ab) (ha : 0 ≤ a ∧ a < rc) (hb_ : 0 ≤ b ∧ b < rc) : X_T sc 9 (0, [(0, .ref B), (1, .int (iI a)), (2, .int (iI b))], [], S) (fun v S' => v = none ∧ C_bk S' B rc kc wc rn (X_tf rc lo a b) kn ab ∧ X_Fr (fun r => B ≤ r ∧ r ≤ B + 4) S S') := by
  obtain ⟨hb0, hb1, hb2, hb3, hb4, ⟨f, hb5, hf⟩, ⟨hrc, hrcb⟩, ⟨hkc, hkcb⟩, ⟨hwc, hwcb⟩⟩ := id hb
  refine X_QI (fun Q hQ => ?_)
  refine T_p xr_9_0 xn_9 (pc' := 1) (ls' := [(0, .ref B), (1, .int (iI a)), (2, .int (iI b))]) (st' := [.ref B]) rfl ?_
  refine T_get xr_9_1 hb0 rfl (v := .ref (B + 2)) rfl (pc' := 4) rfl ?_
  refine T_p xr_9_4 xn_9 (pc' := 5) (ls' := [(0, .ref B), (1, .int (iI a)), (2, .int (iI b))]) (st' := [.int (iI b), .ref (B + 2)]) rfl ?_
  refine T_ziald xr_9_5 hb2 (pc' := 6) rfl ?_
  refine T_p xr_9_6 xn_9 (pc' := 7) (ls' := [(0, .ref B), (1, .int (iI a)), (2, .int (iI b))]) (st' := [.int (iI 1), .int (iI (lo b))]) rfl ?_
  refine T_p xr_9_7 xn_9 (pc' := 8) (ls' := [(0, .ref B), (1, .int (iI a)), (2, .int (iI b))]) (st' := [.int (iI b), .int (iI 1), .int (iI (lo b))]) rfl ?_
  refine T_zop xr_9_8 (pc' := 9) rfl (z := (iI 1 <<< (iI b &&& 31)).toInt) (iI_of _) ?_
  refine T_zop xr_9_9 (pc' := 10) rfl (z := (iI (lo b) ||| iI ((iI 1 <<< (iI b &&& 31)).toInt)).toInt) (iI_of _) ?_
  refine T_p xr_9_10 xn_9 (pc' := 11) (ls' := [(3, .int (iI ((iI (lo b) ||| iI ((iI 1 <<< (iI b &&& 31)).toInt)).toInt))), (0, .ref B), (1, .int (iI a)), (2, .int (iI b))]) (st' := []) rfl ?_
  refine T_p xr_9_11 xn_9 (pc' := 12) (ls' := [(3, .int (iI ((iI (lo b) ||| iI ((iI 1 <<< (iI b &&& 31)).toInt)).toInt))), (0, .ref B), (1, .int (iI a)), (2, .int (iI b))]) (st' := [.int (iI 0)]) rfl ?_
  refine T_p xr_9_12 xn_9 (pc' := 14) (ls' := [(4, .int (iI 0)), (3, .int (iI ((iI (lo b) ||| iI ((iI 1 <<< (iI b &&& 31)).toInt)).toInt))), (0, .ref B), (1, .int (iI a)), (2, .int (iI b))]) (st' := []) rfl ?_
  have L265 : ∀ (m267 : Nat) (S270 : X_S) (i : Int) (l1 : Int → Int) (hl1 : S270.1 (B + 2) = .inl (.int, 12, .inl fun k : Nat => iI (l1 (k : Int)))) (hF269 : X_Fr (fun r => r = B + 2) S S270) (hi : 0 ≤ i ∧ i ≤ rc) (hlt : ∀ k, 0 ≤ k → k < i → l1 k = X_ti lo a b k) (hge : ∀ k, (i ≤ k ∨ k < 0) → l1 k = lo k) (hm268 : rc - i < m267), X_T sc 9 (14, [(4, .int (iI i)), (3, .int (iI ((iI (lo b) ||| iI ((iI 1 <<< (iI b &&& 31)).toInt)).toInt))), (0, .ref B), (1, .int (iI a)), (2, .int (iI b))], [], S270) Q := by
    intro m267
    induction m267 with
    | zero =>
      intro S270 i l1 hl1 hF269 hi hlt hge hm268
      exact (show False by omega).elim
    | succ m267 ih266 =>
      intro S270 i l1 hl1 hF269 hi hlt hge hm268
      refine T_p xr_9_14 xn_9 (pc' := 16) (ls' := [(4, .int (iI i)), (3, .int (iI ((iI (lo b) ||| iI ((iI 1 <<< (iI b &&& 31)).toInt)).toInt))), (0, .ref B), (1, .int (iI a)), (2, .int (iI b))]) (st' := [.int (iI i)]) rfl ?_
      refine T_p xr_9_16 xn_9 (pc' := 17) (ls' := [(4, .int (iI i)), (3, .int (iI ((iI (lo b) ||| iI ((iI 1 <<< (iI b &&& 31)).toInt)).toInt))), (0, .ref B), (1, .int (iI a)), (2, .int (iI b))]) (st' := [.ref B, .int (iI i)]) rfl ?_
      have h271 := (hF269.1 B (by omega)).trans (hb0)
      refine T_get xr_9_17 h271 rfl (v := .int (iI rc)) rfl (pc' := 20) rfl ?_
      refine T_zicmp_ge xr_9_20 (t := 56) (pc' := 23) rfl rfl (fun c272 => ?_) (fun c272 => ?_)
      · skip
        have c272 : rc ≤ i := c272
        refine T_vret xr_9_56 xf_9.2.2 ?_
        refine hQ _ _ ?_
        have el : l1 = X_tf rc lo a b := by
          funext r
          unfold X_tf
          split
          · exact hlt r (by omega) (by omega)
          · exact hge r (by omega)
        subst el
        have h273 := (hF269.1 (B + 1) (by omega)).trans (hb1)
        have h274 := (hF269.1 (B + 3) (by omega)).trans (hb3)
        have h275 := (hF269.1 (B + 4) (by omega)).trans (hb4)
        have h276 := (hF269.1 (B + 5) (by omega)).trans (hb5)
        exact ⟨rfl, ⟨h271, h273, hl1, h274, h275, ⟨f, h276, hf⟩, ⟨by omega, by omega⟩, ⟨by omega, by omega⟩, ⟨by omega, by omega⟩⟩, (X_Fr.rf).tr (X_Fr.mono ⟨hF269.1, hF269.2⟩ (fun q hq => (by omega)))⟩
      · skip
        have c272 : ¬ (rc ≤ i) := c272
        refine T_p xr_9_23 xn_9 (pc' := 25) (ls' := [(4, .int (iI i)), (3, .int (iI ((iI (lo b) ||| iI ((iI 1 <<< (iI b &&& 31)).toInt)).toInt))), (0, .ref B), (1, .int (iI a)), (2, .int (iI b))]) (st' := [.int (iI i)]) rfl ?_
        refine T_p xr_9_25 xn_9 (pc' := 26) (ls' := [(4, .int (iI i)), (3, .int (iI ((iI (lo b) ||| iI ((iI 1 <<< (iI b &&& 31)).toInt)).toInt))), (0, .ref B), (1, .int (iI a)), (2, .int (iI b))]) (st' := [.int (iI a), .int (iI i)]) rfl ?_
        refine T_zicmp_eq xr_9_26 (t := 39) (pc' := 29) rfl rfl (fun c277 => ?_) (fun c277 => ?_)
        · skip
          have c277 : i = a := c277
          refine T_p xr_9_39 xn_9 (pc' := 40) (ls' := [(4, .int (iI i)), (3, .int (iI ((iI (lo b) ||| iI ((iI 1 <<< (iI b &&& 31)).toInt)).toInt))), (0, .ref B), (1, .int (iI a)), (2, .int (iI b))]) (st' := [.ref B]) rfl ?_
          refine T_get xr_9_40 h271 rfl (v := .ref (B + 2)) rfl (pc' := 43) rfl ?_
          refine T_p xr_9_43 xn_9 (pc' := 45) (ls' := [(4, .int (iI i)), (3, .int (iI ((iI (lo b) ||| iI ((iI 1 <<< (iI b &&& 31)).toInt)).toInt))), (0, .ref B), (1, .int (iI a)), (2, .int (iI b))]) (st' := [.int (iI i), .ref (B + 2)]) rfl ?_
          refine T_p xr_9_45 xn_9 (pc' := 46) (ls' := [(4, .int (iI i)), (3, .int (iI ((iI (lo b) ||| iI ((iI 1 <<< (iI b &&& 31)).toInt)).toInt))), (0, .ref B), (1, .int (iI a)), (2, .int (iI b))]) (st' := [.int (iI i), .ref (B + 2), .int (iI i), .ref (B + 2)]) rfl ?_
          refine T_ziald xr_9_46 hl1 (pc' := 47) rfl ?_
          refine T_p xr_9_47 xn_9 (pc' := 48) (ls' := [(4, .int (iI i)), (3, .int (iI ((iI (lo b) ||| iI ((iI 1 <<< (iI b &&& 31)).toInt)).toInt))), (0, .ref B), (1, .int (iI a)), (2, .int (iI b))]) (st' := [.int (iI ((iI (lo b) ||| iI ((iI 1 <<< (iI b &&& 31)).toInt)).toInt)), .int (iI (l1 i)), .int (iI i), .ref (B + 2)]) rfl ?_
          refine T_zop xr_9_48 (pc' := 49) rfl (z := (iI (l1 i) ||| iI ((iI (lo b) ||| iI ((iI 1 <<< (iI b &&& 31)).toInt)).toInt)).toInt) (iI_of _) ?_
          refine T_ziast xr_9_49 hl1 (pc' := 50) rfl (fun S278 h279 n280 e281 => ?_)
          refine T_ziinc xr_9_50 xn_9 (a := i) (z := i + 1) rfl (Nat.le_of_ble_eq_true rfl) (by omega) (ls' := [(4, .int (iI (i + 1))), (3, .int (iI ((iI (lo b) ||| iI ((iI 1 <<< (iI b &&& 31)).toInt)).toInt))), (0, .ref B), (1, .int (iI a)), (2, .int (iI b))]) rfl (pc' := 53) rfl ?_
          refine T_p xr_9_53 xn_9 (pc' := 14) (ls' := [(4, .int (iI (i + 1))), (3, .int (iI ((iI (lo b) ||| iI ((iI 1 <<< (iI b &&& 31)).toInt)).toInt))), (0, .ref B), (1, .int (iI a)), (2, .int (iI b))]) (st' := []) rfl ?_
          exact ih266 S278 (i + 1) (X_ug l1 i ((iI (l1 i) ||| iI ((iI (lo b) ||| iI ((iI 1 <<< (iI b &&& 31)).toInt)).toInt)).toInt)) h279 (hF269.tr ((X_Fr.rf).tr (X_Fr.of n280 e281 (by omega)))) (by omega) (fun k h1 h2 => by
                by_cases hk : k = i
                · subst hk
                  rw [X_ug_s, X_ti_t (by first | exact Or.inl (by omega) | (rw [← hge k (Or.inl (by omega))]; exact Or.inr (by assumption))), hge k (Or.inl (by omega))]; rfl
                · rw [X_ug_n _ _ hk]
                  exact hlt k h1 (by omega)) (fun k h1 => by
                rw [X_ug_n _ _ (by omega)]
                exact hge k (by omega)) (by omega)
        · skip
          have c277 : ¬ (i = a) := c277
          refine T_p xr_9_29 xn_9 (pc' := 30) (ls' := [(4, .int (iI i)), (3, .int (iI ((iI (lo b) ||| iI ((iI 1 <<< (iI b &&& 31)).toInt)).toInt))), (0, .ref B), (1, .int (iI a)), (2, .int (iI b))]) (st' := [.ref B]) rfl ?_
          refine T_p xr_9_30 xn_9 (pc' := 32) (ls' := [(4, .int (iI i)), (3, .int (iI ((iI (lo b) ||| iI ((iI 1 <<< (iI b &&& 31)).toInt)).toInt))), (0, .ref B), (1, .int (iI a)), (2, .int (iI b))]) (st' := [.int (iI i), .ref B]) rfl ?_
          refine T_p xr_9_32 xn_9 (pc' := 33) (ls' := [(4, .int (iI i)), (3, .int (iI ((iI (lo b) ||| iI ((iI 1 <<< (iI b &&& 31)).toInt)).toInt))), (0, .ref B), (1, .int (iI a)), (2, .int (iI b))]) (st' := [.int (iI a), .int (iI i), .ref B]) rfl ?_
          refine T_cv (S := S270) (q := B) xr_9_33 xf_10.1 xf_10.2.1 xn_10 (as := [.int (iI i), .int (iI a)]) (r := []) rfl h271 (Nat.le_of_ble_eq_true rfl) (Nat.le_of_ble_eq_true rfl) (pc' := 36) rfl (ls' := [(0, .ref B), (1, .int (iI i)), (2, .int (iI a))]) rfl ?_
          have h282 := (hF269.1 (B + 1) (by omega)).trans (hb1)
          have h283 := (hF269.1 (B + 3) (by omega)).trans (hb3)
          have h284 := (hF269.1 (B + 4) (by omega)).trans (hb4)
          have h285 := (hF269.1 (B + 5) (by omega)).trans (hb5)
          refine T_mono (c_isTighter sc S270 B rc kc wc rn l1 kn ab i a ⟨h271, h282, hl1, h283, h284, ⟨f, h285, hf⟩, ⟨by omega, by omega⟩, ⟨by omega, by omega⟩, ⟨by omega, by omega⟩⟩ (by omega)) (fun v287 S288 h286 => ?_)
          obtain ⟨h289, h290⟩ := h286
          rw [h289, h290]
          show X_T sc 9 (36, [(4, .int (iI i)), (3, .int (iI ((iI (lo b) ||| iI ((iI 1 <<< (iI b &&& 31)).toInt)).toInt))), (0, .ref B), (1, .int (iI a)), (2, .int (iI b))], [.int (iI (bI (X_bt (l1 i) a)))], S270) _
          refine T_bif_eq xr_9_36 (t := 50) (pc' := 39) rfl rfl (fun c291 => ?_) (fun c291 => ?_)
          · skip
            have c291 : ¬ (X_bt (l1 i) a) := c291
            refine T_ziinc xr_9_50 xn_9 (a := i) (z := i + 1) rfl (Nat.le_of_ble_eq_true rfl) (by omega) (ls' := [(4, .int (iI (i + 1))), (3, .int (iI ((iI (lo b) ||| iI ((iI 1 <<< (iI b &&& 31)).toInt)).toInt))), (0, .ref B), (1, .int (iI a)), (2, .int (iI b))]) rfl (pc' := 53) rfl ?_
            refine T_p xr_9_53 xn_9 (pc' := 14) (ls' := [(4, .int (iI (i + 1))), (3, .int (iI ((iI (lo b) ||| iI ((iI 1 <<< (iI b &&& 31)).toInt)).toInt))), (0, .ref B), (1, .int (iI a)), (2, .int (iI b))]) (st' := []) rfl ?_
            exact ih266 S270 (i + 1) l1 hl1 (hF269.tr (X_Fr.rf)) (by omega) (fun k h1 h2 => by
                  by_cases hk : k = i
                  · subst hk
                    rw [hge k (Or.inl (by omega)), X_ti_f (by rintro (h | h) <;> first | omega | (rw [← hge k (Or.inl (by omega))] at h; exact absurd h (by assumption)))]
                  · exact hlt k h1 (by omega)) (fun k h1 => hge k (by omega)) (by omega)
          · skip
            have c291 : (X_bt (l1 i) a) := c291
            refine T_p xr_9_39 xn_9 (pc' := 40) (ls' := [(4, .int (iI i)), (3, .int (iI ((iI (lo b) ||| iI ((iI 1 <<< (iI b &&& 31)).toInt)).toInt))), (0, .ref B), (1, .int (iI a)), (2, .int (iI b))]) (st' := [.ref B]) rfl ?_
            refine T_get xr_9_40 h271 rfl (v := .ref (B + 2)) rfl (pc' := 43) rfl ?_
            refine T_p xr_9_43 xn_9 (pc' := 45) (ls' := [(4, .int (iI i)), (3, .int (iI ((iI (lo b) ||| iI ((iI 1 <<< (iI b &&& 31)).toInt)).toInt))), (0, .ref B), (1, .int (iI a)), (2, .int (iI b))]) (st' := [.int (iI i), .ref (B + 2)]) rfl ?_
            refine T_p xr_9_45 xn_9 (pc' := 46) (ls' := [(4, .int (iI i)), (3, .int (iI ((iI (lo b) ||| iI ((iI 1 <<< (iI b &&& 31)).toInt)).toInt))), (0, .ref B), (1, .int (iI a)), (2, .int (iI b))]) (st' := [.int (iI i), .ref (B + 2), .int (iI i), .ref (B + 2)]) rfl ?_
            refine T_ziald xr_9_46 hl1 (pc' := 47) rfl ?_
            refine T_p xr_9_47 xn_9 (pc' := 48) (ls' := [(4, .int (iI i)), (3, .int (iI ((iI (lo b) ||| iI ((iI 1 <<< (iI b &&& 31)).toInt)).toInt))), (0, .ref B), (1, .int (iI a)), (2, .int (iI b))]) (st' := [.int (iI ((iI (lo b) ||| iI ((iI 1 <<< (iI b &&& 31)).toInt)).toInt)), .int (iI (l1 i)), .int (iI i), .ref (B + 2)]) rfl ?_
            refine T_zop xr_9_48 (pc' := 49) rfl (z := (iI (l1 i) ||| iI ((iI (lo b) ||| iI ((iI 1 <<< (iI b &&& 31)).toInt)).toInt)).toInt) (iI_of _) ?_
            refine T_ziast xr_9_49 hl1 (pc' := 50) rfl (fun S292 h293 n294 e295 => ?_)
            refine T_ziinc xr_9_50 xn_9 (a := i) (z := i + 1) rfl (Nat.le_of_ble_eq_true rfl) (by omega) (ls' := [(4, .int (iI (i + 1))), (3, .int (iI ((iI (lo b) ||| iI ((iI 1 <<< (iI b &&& 31)).toInt)).toInt))), (0, .ref B), (1, .int (iI a)), (2, .int (iI b))]) rfl (pc' := 53) rfl ?_
            refine T_p xr_9_53 xn_9 (pc' := 14) (ls' := [(4, .int (iI (i + 1))), (3, .int (iI ((iI (lo b) ||| iI ((iI 1 <<< (iI b &&& 31)).toInt)).toInt))), (0, .ref B), (1, .int (iI a)), (2, .int (iI b))]) (st' := []) rfl ?_
            exact ih266 S292 (i + 1) (X_ug l1 i ((iI (l1 i) ||| iI ((iI (lo b) ||| iI ((iI 1 <<< (iI b &&& 31)).toInt)).toInt)).toInt)) h293 (hF269.tr ((X_Fr.rf).tr (X_Fr.of n294 e295 (by omega)))) (by omega) (fun k h1 h2 => by
                  by_cases hk : k = i
                  · subst hk
                    rw [X_ug_s, X_ti_t (by first | exact Or.inl (by omega) | (rw [← hge k (Or.inl (by omega))]; exact Or.inr (by assumption))), hge k (Or.inl (by omega))]; rfl
                  · rw [X_ug_n _ _ hk]
                    exact hlt k h1 (by omega)) (fun k h1 => by
                  rw [X_ug_n _ _ (by omega)]
                  exact hge k (by omega)) (by omega)
  exact L265 (rc + 1).toNat S 0 lo hb2 ((X_Fr.rf)) (by omega) (fun k h1 h2 => (show False by omega).elim) (fun k h1 => rfl) (by omega)
theorem c_kindsUnder (sc : X_Sc) (S : X_S) (B : Nat) (rc kc wc : Int) (rn : Int → Int64) (lo : Int → Int) (kn : Int → Int64) (ab : Int → Int) (u : Int) (hb : C_bk S B rc kc wc rn lo kn ab)  : X_T sc 13 (0, [(0, .ref B), (1, .int (iI u))], [], S) (fun v S' => ∃ b, v = some (.int (iI b)) ∧ (∀ k, 0 ≤ k → k < 32 → (X_bt b k ↔ k < kc ∧ X_bt (ab k) u)) ∧ S' = S) := by
  obtain ⟨hb0, hb1, hb2, hb3, hb4, ⟨f, hb5, hf⟩, ⟨hrc, hrcb⟩, ⟨hkc, hkcb⟩, ⟨hwc, hwcb⟩⟩ := id hb
  refine X_QI (fun Q hQ => ?_)
  refine T_p xr_13_0 xn_13 (pc' := 1) (ls' := [(0, .ref B), (1, .int (iI u))]) (st' := [.int (iI 0)]) rfl ?_
  refine T_p xr_13_1 xn_13 (pc' := 2) (ls' := [(2, .int (iI 0)), (0, .ref B), (1, .int (iI u))]) (st' := []) rfl ?_
  refine T_p xr_13_2 xn_13 (pc' := 3) (ls' := [(2, .int (iI 0)), (0, .ref B), (1, .int (iI u))]) (st' := [.int (iI 0)]) rfl ?_
  refine T_p xr_13_3 xn_13 (pc' := 4) (ls' := [(3, .int (iI 0)), (2, .int (iI 0)), (0, .ref B), (1, .int (iI u))]) (st' := []) rfl ?_
  have L296 : ∀ (m298 : Nat) (i : Int) (b : Int) (hi : 0 ≤ i ∧ i ≤ kc) (hbt : ∀ k, 0 ≤ k → k < 32 → (X_bt b k ↔ k < i ∧ X_bt (ab k) u)) (hm299 : kc - i < m298), X_T sc 13 (4, [(3, .int (iI i)), (2, .int (iI b)), (0, .ref B), (1, .int (iI u))], [], S) Q := by
    intro m298
    induction m298 with
    | zero =>
      intro i b hi hbt hm299
      exact (show False by omega).elim
    | succ m298 ih297 =>
      intro i b hi hbt hm299
      refine T_p xr_13_4 xn_13 (pc' := 5) (ls' := [(3, .int (iI i)), (2, .int (iI b)), (0, .ref B), (1, .int (iI u))]) (st' := [.int (iI i)]) rfl ?_
      refine T_p xr_13_5 xn_13 (pc' := 6) (ls' := [(3, .int (iI i)), (2, .int (iI b)), (0, .ref B), (1, .int (iI u))]) (st' := [.ref B, .int (iI i)]) rfl ?_
      refine T_get xr_13_6 hb0 rfl (v := .int (iI kc)) rfl (pc' := 9) rfl ?_
      refine T_zicmp_ge xr_13_9 (t := 33) (pc' := 12) rfl rfl (fun c301 => ?_) (fun c301 => ?_)
      · skip
        have c301 : kc ≤ i := c301
        refine T_p xr_13_33 xn_13 (pc' := 34) (ls' := [(3, .int (iI i)), (2, .int (iI b)), (0, .ref B), (1, .int (iI u))]) (st' := [.int (iI b)]) rfl ?_
        refine T_iret xr_13_34 xf_13.2.2 rfl ?_
        refine hQ _ _ ?_
        exact ⟨b, rfl, fun k h1 h2 => by rw [hbt k h1 h2, show i = kc by omega], rfl⟩
      · skip
        have c301 : ¬ (kc ≤ i) := c301
        refine T_p xr_13_12 xn_13 (pc' := 13) (ls' := [(3, .int (iI i)), (2, .int (iI b)), (0, .ref B), (1, .int (iI u))]) (st' := [.ref B]) rfl ?_
        refine T_p xr_13_13 xn_13 (pc' := 14) (ls' := [(3, .int (iI i)), (2, .int (iI b)), (0, .ref B), (1, .int (iI u))]) (st' := [.int (iI i), .ref B]) rfl ?_
        refine T_p xr_13_14 xn_13 (pc' := 15) (ls' := [(3, .int (iI i)), (2, .int (iI b)), (0, .ref B), (1, .int (iI u))]) (st' := [.int (iI u), .int (iI i), .ref B]) rfl ?_
        refine T_cv (S := S) (q := B) xr_13_15 xf_11.1 xf_11.2.1 xn_11 (as := [.int (iI i), .int (iI u)]) (r := []) rfl hb0 (Nat.le_of_ble_eq_true rfl) (Nat.le_of_ble_eq_true rfl) (pc' := 18) rfl (ls' := [(0, .ref B), (1, .int (iI i)), (2, .int (iI u))]) rfl ?_
        refine T_mono (c_isUnder sc S B rc kc wc rn lo kn ab i u ⟨hb0, hb1, hb2, hb3, hb4, ⟨f, hb5, hf⟩, ⟨by omega, by omega⟩, ⟨by omega, by omega⟩, ⟨by omega, by omega⟩⟩ (by omega)) (fun v303 S304 h302 => ?_)
        obtain ⟨h305, h306⟩ := h302
        rw [h305, h306]
        show X_T sc 13 (18, [(3, .int (iI i)), (2, .int (iI b)), (0, .ref B), (1, .int (iI u))], [.int (iI (bI (X_bt (ab i) u)))], S) _
        refine T_bif_eq xr_13_18 (t := 27) (pc' := 21) rfl rfl (fun c307 => ?_) (fun c307 => ?_)
        · skip
          have c307 : ¬ (X_bt (ab i) u) := c307
          refine T_ziinc xr_13_27 xn_13 (a := i) (z := i + 1) rfl (Nat.le_of_ble_eq_true rfl) (by omega) (ls' := [(3, .int (iI (i + 1))), (2, .int (iI b)), (0, .ref B), (1, .int (iI u))]) rfl (pc' := 30) rfl ?_
          refine T_p xr_13_30 xn_13 (pc' := 4) (ls' := [(3, .int (iI (i + 1))), (2, .int (iI b)), (0, .ref B), (1, .int (iI u))]) (st' := []) rfl ?_
          exact ih297 (i + 1) b  (by omega) (fun k h1 h2 => by
                rw [hbt k h1 h2]
                constructor
                · rintro ⟨g1, g2⟩; exact ⟨by omega, g2⟩
                · rintro ⟨g1, g2⟩
                  by_cases hk : k = i
                  · subst hk; exact absurd g2 (by assumption)
                  · exact ⟨by omega, g2⟩) (by omega)
        · skip
          have c307 : (X_bt (ab i) u) := c307
          refine T_p xr_13_21 xn_13 (pc' := 22) (ls' := [(3, .int (iI i)), (2, .int (iI b)), (0, .ref B), (1, .int (iI u))]) (st' := [.int (iI b)]) rfl ?_
          refine T_p xr_13_22 xn_13 (pc' := 23) (ls' := [(3, .int (iI i)), (2, .int (iI b)), (0, .ref B), (1, .int (iI u))]) (st' := [.int (iI 1), .int (iI b)]) rfl ?_
          refine T_p xr_13_23 xn_13 (pc' := 24) (ls' := [(3, .int (iI i)), (2, .int (iI b)), (0, .ref B), (1, .int (iI u))]) (st' := [.int (iI i), .int (iI 1), .int (iI b)]) rfl ?_
          refine T_zop xr_13_24 (pc' := 25) rfl (z := (iI 1 <<< (iI i &&& 31)).toInt) (iI_of _) ?_
          refine T_zop xr_13_25 (pc' := 26) rfl (z := (iI b ||| iI ((iI 1 <<< (iI i &&& 31)).toInt)).toInt) (iI_of _) ?_
          refine T_p xr_13_26 xn_13 (pc' := 27) (ls' := [(2, .int (iI ((iI b ||| iI ((iI 1 <<< (iI i &&& 31)).toInt)).toInt))), (3, .int (iI i)), (0, .ref B), (1, .int (iI u))]) (st' := []) rfl ?_
          refine T_ziinc xr_13_27 xn_13 (a := i) (z := i + 1) rfl (Nat.le_of_ble_eq_true rfl) (by omega) (ls' := [(3, .int (iI (i + 1))), (2, .int (iI ((iI b ||| iI ((iI 1 <<< (iI i &&& 31)).toInt)).toInt))), (0, .ref B), (1, .int (iI u))]) rfl (pc' := 30) rfl ?_
          refine T_p xr_13_30 xn_13 (pc' := 4) (ls' := [(3, .int (iI (i + 1))), (2, .int (iI ((iI b ||| iI ((iI 1 <<< (iI i &&& 31)).toInt)).toInt))), (0, .ref B), (1, .int (iI u))]) (st' := []) rfl ?_
          exact ih297 (i + 1) ((iI b ||| iI ((iI 1 <<< (iI i &&& 31)).toInt)).toInt)  (by omega) (fun k h1 h2 => by
                show X_bt (X_bO b (X_bS i)) k ↔ _
                rw [X_bt_or _ _ _ ⟨h1, h2⟩, hbt k h1 h2, X_bt_sh _ _ (by omega) ⟨h1, h2⟩]
                constructor
                · rintro (⟨g1, g2⟩ | g1)
                  · exact ⟨by omega, g2⟩
                  · subst g1; exact ⟨by omega, by assumption⟩
                · rintro ⟨g1, g2⟩
                  by_cases hk : k = i
                  · exact Or.inr hk
                  · exact Or.inl ⟨by omega, g2⟩) (by omega)
  exact L296 (kc + 1).toNat 0 0  (by omega) (fun k h1 h2 => ⟨fun h => absurd h (X_bt_0 k ⟨h1, h2⟩), fun h => absurd h.1 (by omega)⟩) (by omega)
theorem c_wordsOfKinds (sc : X_Sc) (S : X_S) (B : Nat) (rc kc wc : Int) (rn : Int → Int64) (lo : Int → Int) (kn : Int → Int64) (ab : Int → Int) (D : Int → Nat → Int → Int) (W : Int → Int → Int64) (ks : Int) (hb : C_bk S B rc kc wc rn lo kn ab) (hs : C_ws S B D W)  : X_T sc 14 (0, [(0, .ref B), (1, .int (iI ks))], [], S) (fun v S' => ∃ b, v = some (.int (iI b)) ∧ (∀ k, 0 ≤ k → k < 32 → (X_bt b k ↔ k < wc ∧ X_bt ks (D k 2 0))) ∧ S' = S) := by
  obtain ⟨hb0, hb1, hb2, hb3, hb4, ⟨f, hb5, hf⟩, ⟨hrc, hrcb⟩, ⟨hkc, hkcb⟩, ⟨hwc, hwcb⟩⟩ := id hb
  refine X_QI (fun Q hQ => ?_)
  refine T_p xr_14_0 xn_14 (pc' := 1) (ls' := [(0, .ref B), (1, .int (iI ks))]) (st' := [.int (iI 0)]) rfl ?_
  refine T_p xr_14_1 xn_14 (pc' := 2) (ls' := [(2, .int (iI 0)), (0, .ref B), (1, .int (iI ks))]) (st' := []) rfl ?_
  refine T_p xr_14_2 xn_14 (pc' := 3) (ls' := [(2, .int (iI 0)), (0, .ref B), (1, .int (iI ks))]) (st' := [.int (iI 0)]) rfl ?_
  refine T_p xr_14_3 xn_14 (pc' := 4) (ls' := [(3, .int (iI 0)), (2, .int (iI 0)), (0, .ref B), (1, .int (iI ks))]) (st' := []) rfl ?_
  have L308 : ∀ (m310 : Nat) (i : Int) (b : Int) (hi : 0 ≤ i ∧ i ≤ wc) (hbt : ∀ k, 0 ≤ k → k < 32 → (X_bt b k ↔ k < i ∧ X_bt ks (D k 2 0))) (hm311 : wc - i < m310), X_T sc 14 (4, [(3, .int (iI i)), (2, .int (iI b)), (0, .ref B), (1, .int (iI ks))], [], S) Q := by
    intro m310
    induction m310 with
    | zero =>
      intro i b hi hbt hm311
      exact (show False by omega).elim
    | succ m310 ih309 =>
      intro i b hi hbt hm311
      refine T_p xr_14_4 xn_14 (pc' := 5) (ls' := [(3, .int (iI i)), (2, .int (iI b)), (0, .ref B), (1, .int (iI ks))]) (st' := [.int (iI i)]) rfl ?_
      refine T_p xr_14_5 xn_14 (pc' := 6) (ls' := [(3, .int (iI i)), (2, .int (iI b)), (0, .ref B), (1, .int (iI ks))]) (st' := [.ref B, .int (iI i)]) rfl ?_
      refine T_get xr_14_6 hb0 rfl (v := .int (iI wc)) rfl (pc' := 9) rfl ?_
      refine T_zicmp_ge xr_14_9 (t := 40) (pc' := 12) rfl rfl (fun c313 => ?_) (fun c313 => ?_)
      · skip
        have c313 : wc ≤ i := c313
        refine T_p xr_14_40 xn_14 (pc' := 41) (ls' := [(3, .int (iI i)), (2, .int (iI b)), (0, .ref B), (1, .int (iI ks))]) (st' := [.int (iI b)]) rfl ?_
        refine T_iret xr_14_41 xf_14.2.2 rfl ?_
        refine hQ _ _ ?_
        exact ⟨b, rfl, fun k h1 h2 => by rw [hbt k h1 h2, show i = wc by omega], rfl⟩
      · skip
        have c313 : ¬ (wc ≤ i) := c313
        refine T_p xr_14_12 xn_14 (pc' := 13) (ls' := [(3, .int (iI i)), (2, .int (iI b)), (0, .ref B), (1, .int (iI ks))]) (st' := [.int (iI ks)]) rfl ?_
        refine T_p xr_14_13 xn_14 (pc' := 14) (ls' := [(3, .int (iI i)), (2, .int (iI b)), (0, .ref B), (1, .int (iI ks))]) (st' := [.ref B, .int (iI ks)]) rfl ?_
        refine T_get xr_14_14 hb0 rfl (v := .ref (B + 5)) rfl (pc' := 17) rfl ?_
        refine T_p xr_14_17 xn_14 (pc' := 18) (ls' := [(3, .int (iI i)), (2, .int (iI b)), (0, .ref B), (1, .int (iI ks))]) (st' := [.int (iI i), .ref (B + 5), .int (iI ks)]) rfl ?_
        have hw314 := hs i (by omega) (by omega)
        obtain ⟨a315, ha316⟩ : ∃ z : Nat, z = B + 6 + 8 * (i : Int).toNat := ⟨_, rfl⟩
        rw [← ha316] at hw314
        obtain ⟨⟨_, _⟩, ⟨_, _⟩, ⟨_, _⟩, ⟨_, _⟩, ⟨_, _⟩, ⟨_, _⟩, ⟨_, _⟩, ⟨_, _⟩⟩ := id hw314.2
        refine T_zaald xr_14_18 hb5 (w := a315) (by rw [ha316]; exact hf _ (by omega)) (pc' := 19) rfl ?_
        refine T_get xr_14_19 hw314.1.1 rfl (v := .int (iI (D i 2 0))) rfl (pc' := 22) rfl ?_
        refine T_cs xr_14_22 (by decide) xf_112.1 xn_112 (as := [.int (iI ks), .int (iI (D i 2 0))]) (r := []) rfl (Nat.le_of_ble_eq_true rfl) (Nat.le_of_ble_eq_true rfl) (pc' := 25) rfl (ls' := [(0, .int (iI ks)), (1, .int (iI (D i 2 0)))]) rfl ?_
        refine T_mono (c_hasBit sc S ks (D i 2 0)) (fun v318 S319 h317 => ?_)
        obtain ⟨h320, h321⟩ := h317
        rw [h320, h321]
        show X_T sc 14 (25, [(3, .int (iI i)), (2, .int (iI b)), (0, .ref B), (1, .int (iI ks))], [.int (iI (bI (X_bt ks (D i 2 0))))], S) _
        refine T_bif_eq xr_14_25 (t := 34) (pc' := 28) rfl rfl (fun c322 => ?_) (fun c322 => ?_)
        · skip
          have c322 : ¬ (X_bt ks (D i 2 0)) := c322
          refine T_ziinc xr_14_34 xn_14 (a := i) (z := i + 1) rfl (Nat.le_of_ble_eq_true rfl) (by omega) (ls' := [(3, .int (iI (i + 1))), (2, .int (iI b)), (0, .ref B), (1, .int (iI ks))]) rfl (pc' := 37) rfl ?_
          refine T_p xr_14_37 xn_14 (pc' := 4) (ls' := [(3, .int (iI (i + 1))), (2, .int (iI b)), (0, .ref B), (1, .int (iI ks))]) (st' := []) rfl ?_
          exact ih309 (i + 1) b  (by omega) (fun k h1 h2 => by
                rw [hbt k h1 h2]
                constructor
                · rintro ⟨g1, g2⟩; exact ⟨by omega, g2⟩
                · rintro ⟨g1, g2⟩
                  by_cases hk : k = i
                  · subst hk; exact absurd g2 (by assumption)
                  · exact ⟨by omega, g2⟩) (by omega)
        · skip
          have c322 : (X_bt ks (D i 2 0)) := c322
          refine T_p xr_14_28 xn_14 (pc' := 29) (ls' := [(3, .int (iI i)), (2, .int (iI b)), (0, .ref B), (1, .int (iI ks))]) (st' := [.int (iI b)]) rfl ?_
          refine T_p xr_14_29 xn_14 (pc' := 30) (ls' := [(3, .int (iI i)), (2, .int (iI b)), (0, .ref B), (1, .int (iI ks))]) (st' := [.int (iI 1), .int (iI b)]) rfl ?_
          refine T_p xr_14_30 xn_14 (pc' := 31) (ls' := [(3, .int (iI i)), (2, .int (iI b)), (0, .ref B), (1, .int (iI ks))]) (st' := [.int (iI i), .int (iI 1), .int (iI b)]) rfl ?_
          refine T_zop xr_14_31 (pc' := 32) rfl (z := (iI 1 <<< (iI i &&& 31)).toInt) (iI_of _) ?_
          refine T_zop xr_14_32 (pc' := 33) rfl (z := (iI b ||| iI ((iI 1 <<< (iI i &&& 31)).toInt)).toInt) (iI_of _) ?_
          refine T_p xr_14_33 xn_14 (pc' := 34) (ls' := [(2, .int (iI ((iI b ||| iI ((iI 1 <<< (iI i &&& 31)).toInt)).toInt))), (3, .int (iI i)), (0, .ref B), (1, .int (iI ks))]) (st' := []) rfl ?_
          refine T_ziinc xr_14_34 xn_14 (a := i) (z := i + 1) rfl (Nat.le_of_ble_eq_true rfl) (by omega) (ls' := [(3, .int (iI (i + 1))), (2, .int (iI ((iI b ||| iI ((iI 1 <<< (iI i &&& 31)).toInt)).toInt))), (0, .ref B), (1, .int (iI ks))]) rfl (pc' := 37) rfl ?_
          refine T_p xr_14_37 xn_14 (pc' := 4) (ls' := [(3, .int (iI (i + 1))), (2, .int (iI ((iI b ||| iI ((iI 1 <<< (iI i &&& 31)).toInt)).toInt))), (0, .ref B), (1, .int (iI ks))]) (st' := []) rfl ?_
          exact ih309 (i + 1) ((iI b ||| iI ((iI 1 <<< (iI i &&& 31)).toInt)).toInt)  (by omega) (fun k h1 h2 => by
                show X_bt (X_bO b (X_bS i)) k ↔ _
                rw [X_bt_or _ _ _ ⟨h1, h2⟩, hbt k h1 h2, X_bt_sh _ _ (by omega) ⟨h1, h2⟩]
                constructor
                · rintro (⟨g1, g2⟩ | g1)
                  · exact ⟨by omega, g2⟩
                  · subst g1; exact ⟨by omega, by assumption⟩
                · rintro ⟨g1, g2⟩
                  by_cases hk : k = i
                  · exact Or.inr hk
                  · exact Or.inl ⟨by omega, g2⟩) (by omega)
  exact L308 (wc + 1).toNat 0 0  (by omega) (fun k h1 h2 => ⟨fun h => absurd h (X_bt_0 k ⟨h1, h2⟩), fun h => absurd h.1 (by omega)⟩) (by omega)
