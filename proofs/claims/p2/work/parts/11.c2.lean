theorem xr_55_2 : X_row 55 2 = some (2, (.aload_n 0, 1), (0, 0, 0)) := by decide +kernel
theorem xr_55_3 : X_row 55 3 = some (3, (.getfield 41, 3), (3, 1, 4)) := by decide +kernel
theorem xr_55_6 : X_row 55 6 = some (6, (.aload_n 0, 1), (0, 0, 0)) := by decide +kernel
theorem xr_55_7 : X_row 55 7 = some (7, (.getfield 22, 3), (3, 0, 2)) := by decide +kernel
theorem xr_55_10 : X_row 55 10 = some (10, (.getfield 44, 3), (7, 1, 1)) := by decide +kernel
theorem xr_55_13 : X_row 55 13 = some (13, (.if_icmp .ge 51, 3), (0, 0, 0)) := by decide +kernel
theorem xr_55_16 : X_row 55 16 = some (16, (.aload_n 0, 1), (0, 0, 0)) := by decide +kernel
theorem xr_55_17 : X_row 55 17 = some (17, (.getfield 22, 3), (3, 0, 2)) := by decide +kernel
theorem xr_55_20 : X_row 55 20 = some (20, (.aload_n 0, 1), (0, 0, 0)) := by decide +kernel
theorem xr_55_21 : X_row 55 21 = some (21, (.getfield 41, 3), (3, 1, 4)) := by decide +kernel
theorem xr_55_24 : X_row 55 24 = some (24, (.invokevirtual 49, 3), (93, 0, 0)) := by decide +kernel
theorem xr_55_27 : X_row 55 27 = some (27, (.invokestatic 78, 3), (61, 10, 0)) := by decide +kernel
theorem xr_55_30 : X_row 55 30 = some (30, (.ifCond .eq 34, 3), (0, 0, 0)) := by decide +kernel
theorem xr_55_33 : X_row 55 33 = some (33, (.lload_n 1, 1), (0, 0, 0)) := by decide +kernel
theorem xr_55_34 : X_row 55 34 = some (34, (.bipush 8, 2), (0, 0, 0)) := by decide +kernel
theorem xr_55_36 : X_row 55 36 = some (36, (.lshl, 1), (0, 0, 0)) := by decide +kernel
theorem xr_55_37 : X_row 55 37 = some (37, (.aload_n 0, 1), (0, 0, 0)) := by decide +kernel
theorem xr_55_38 : X_row 55 38 = some (38, (.getfield 22, 3), (3, 0, 2)) := by decide +kernel
theorem xr_55_41 : X_row 55 41 = some (41, (.aload_n 0, 1), (0, 0, 0)) := by decide +kernel
theorem xr_55_42 : X_row 55 42 = some (42, (.getfield 41, 3), (3, 1, 4)) := by decide +kernel
theorem xr_55_45 : X_row 55 45 = some (45, (.invokevirtual 49, 3), (93, 0, 0)) := by decide +kernel
theorem xr_55_48 : X_row 55 48 = some (48, (.i2l, 1), (0, 0, 0)) := by decide +kernel
theorem xr_55_49 : X_row 55 49 = some (49, (.lor, 1), (0, 0, 0)) := by decide +kernel
theorem xr_55_50 : X_row 55 50 = some (50, (.lstore_n 1, 1), (0, 0, 0)) := by decide +kernel
theorem xr_55_51 : X_row 55 51 = some (51, (.aload_n 0, 1), (0, 0, 0)) := by decide +kernel
theorem xr_55_52 : X_row 55 52 = some (52, (.dup, 1), (0, 0, 0)) := by decide +kernel
theorem xr_55_53 : X_row 55 53 = some (53, (.getfield 41, 3), (3, 1, 4)) := by decide +kernel
theorem xr_55_56 : X_row 55 56 = some (56, (.iconst 1, 1), (0, 0, 0)) := by decide +kernel
theorem xr_55_57 : X_row 55 57 = some (57, (.iadd, 1), (0, 0, 0)) := by decide +kernel
theorem xr_55_58 : X_row 55 58 = some (58, (.putfield 41, 3), (3, 1, 4)) := by decide +kernel
theorem xr_55_61 : X_row 55 61 = some (61, (.goto (-59), 3), (0, 0, 0)) := by decide +kernel
theorem xr_56_2 : X_row 56 2 = some (2, (.aload_n 0, 1), (0, 0, 0)) := by decide +kernel
theorem xr_56_3 : X_row 56 3 = some (3, (.getfield 41, 3), (3, 1, 4)) := by decide +kernel
theorem xr_56_6 : X_row 56 6 = some (6, (.aload_n 0, 1), (0, 0, 0)) := by decide +kernel
theorem xr_56_7 : X_row 56 7 = some (7, (.getfield 22, 3), (3, 0, 2)) := by decide +kernel
theorem xr_56_10 : X_row 56 10 = some (10, (.getfield 44, 3), (7, 1, 1)) := by decide +kernel
theorem xr_56_13 : X_row 56 13 = some (13, (.if_icmp .ge 56, 3), (0, 0, 0)) := by decide +kernel
theorem xr_56_16 : X_row 56 16 = some (16, (.aload_n 0, 1), (0, 0, 0)) := by decide +kernel
theorem xr_56_17 : X_row 56 17 = some (17, (.getfield 22, 3), (3, 0, 2)) := by decide +kernel
theorem xr_56_20 : X_row 56 20 = some (20, (.aload_n 0, 1), (0, 0, 0)) := by decide +kernel
theorem xr_56_21 : X_row 56 21 = some (21, (.getfield 41, 3), (3, 1, 4)) := by decide +kernel
theorem xr_56_24 : X_row 56 24 = some (24, (.invokevirtual 49, 3), (93, 0, 0)) := by decide +kernel
theorem xr_56_27 : X_row 56 27 = some (27, (.invokestatic 66, 3), (132, 13, 0)) := by decide +kernel
theorem xr_56_30 : X_row 56 30 = some (30, (.ifCond .eq 39, 3), (0, 0, 0)) := by decide +kernel
theorem xr_56_33 : X_row 56 33 = some (33, (.lload_n 1, 1), (0, 0, 0)) := by decide +kernel
theorem xr_56_34 : X_row 56 34 = some (34, (.ldc2_w 85, 3), (10, 571, 0)) := by decide +kernel
theorem xr_56_37 : X_row 56 37 = some (37, (.lmul, 1), (0, 0, 0)) := by decide +kernel
theorem xr_56_38 : X_row 56 38 = some (38, (.aload_n 0, 1), (0, 0, 0)) := by decide +kernel
theorem xr_56_39 : X_row 56 39 = some (39, (.getfield 22, 3), (3, 0, 2)) := by decide +kernel
theorem xr_56_42 : X_row 56 42 = some (42, (.aload_n 0, 1), (0, 0, 0)) := by decide +kernel
theorem xr_56_43 : X_row 56 43 = some (43, (.getfield 41, 3), (3, 1, 4)) := by decide +kernel
theorem xr_56_46 : X_row 56 46 = some (46, (.invokevirtual 49, 3), (93, 0, 0)) := by decide +kernel
theorem xr_56_49 : X_row 56 49 = some (49, (.i2l, 1), (0, 0, 0)) := by decide +kernel
theorem xr_56_50 : X_row 56 50 = some (50, (.ladd, 1), (0, 0, 0)) := by decide +kernel
theorem xr_56_51 : X_row 56 51 = some (51, (.ldc2_w 87, 3), (48, 572, 0)) := by decide +kernel
theorem xr_56_54 : X_row 56 54 = some (54, (.lsub, 1), (0, 0, 0)) := by decide +kernel
theorem xr_56_55 : X_row 56 55 = some (55, (.lstore_n 1, 1), (0, 0, 0)) := by decide +kernel
theorem xr_56_56 : X_row 56 56 = some (56, (.aload_n 0, 1), (0, 0, 0)) := by decide +kernel
theorem xr_56_57 : X_row 56 57 = some (57, (.dup, 1), (0, 0, 0)) := by decide +kernel
theorem xr_56_58 : X_row 56 58 = some (58, (.getfield 41, 3), (3, 1, 4)) := by decide +kernel
theorem xr_56_61 : X_row 56 61 = some (61, (.iconst 1, 1), (0, 0, 0)) := by decide +kernel
theorem xr_56_62 : X_row 56 62 = some (62, (.iadd, 1), (0, 0, 0)) := by decide +kernel
theorem xr_56_63 : X_row 56 63 = some (63, (.putfield 41, 3), (3, 1, 4)) := by decide +kernel
theorem xr_56_66 : X_row 56 66 = some (66, (.goto (-64), 3), (0, 0, 0)) := by decide +kernel
theorem xn_55 : X_nL 55 = 3 := by decide +kernel
theorem xf_55 : X_na 55 = 0 ∧ X_ci 55 = 3 ∧ X_rt 55 = (some .int) := by decide +kernel
theorem xn_56 : X_nL 56 = 4 := by decide +kernel
theorem xf_56 : X_na 56 = 0 ∧ X_ci 56 = 3 ∧ X_rt 56 = (some .int) := by decide +kernel
theorem c_takeName_l (sc : X_Sc) (len : Int) (tb : Int → Int) (cnt cur a0 : Int) (so pl : Int → Int) (ct : Int → Int64) (hl : 0 ≤ len ∧ len ≤ 2000) (Q : Option Value → X_S → Prop) : ∀ (n : Nat) (S : X_S) (at_ : Int) (ht : C_tp S len tb) (hx : C_lx S at_ cnt cur so pl ct) (ha : a0 ≤ at_ ∧ 0 ≤ at_ ∧ at_ ≤ len) (hn : len - at_ ≤ n)
    (hex : ∀ S' : X_S, C_tp S' len tb → C_lx S' (X_se X_isLD tb len at_) cnt cur so pl ct → X_Fr (fun r => r = 497) S S' → X_T sc 55 (64, [(1, .long (X_pk tb len a0 ((X_se X_isLD tb len at_) - a0).toNat)), (0, .ref 497)], [], S') Q), X_T sc 55 (2, [(1, .long (X_pk tb len a0 (at_ - a0).toNat)), (0, .ref 497)], [], S) Q := by
  intro n
  induction n with
  | zero =>
    intro S at_ ht hx ha hn hex
    refine T_p xr_55_2 xn_55 (pc' := 3) (ls' := [(1, .long (X_pk tb len a0 (at_ - a0).toNat)), (0, .ref 497)]) (st' := [.ref 497]) rfl ?_
    refine T_get xr_55_3 hx.1 rfl (v := .int (iI at_)) rfl (pc' := 6) rfl ?_
    refine T_p xr_55_6 xn_55 (pc' := 7) (ls' := [(1, .long (X_pk tb len a0 (at_ - a0).toNat)), (0, .ref 497)]) (st' := [.ref 497, .int (iI at_)]) rfl ?_
    refine T_get xr_55_7 hx.1 rfl (v := .ref 2) rfl (pc' := 10) rfl ?_
    refine T_get xr_55_10 ht.1 rfl (v := .int (iI len)) rfl (pc' := 13) rfl ?_
    refine T_zicmp_ge xr_55_13 (t := 64) (pc' := 16) rfl rfl (fun c103 => ?_) (fun c103 => ?_)
    · skip
      have c103 : len ≤ at_ := c103
      have e2 : X_se X_isLD tb len at_ = at_ := X_se_no (by first | omega | (intro h; exact absurd h.2 (by assumption)))
      have kk := hex S ⟨ht.1, ht.2.1, hl⟩ (by rw [e2]; exact ⟨hx.1, hx.2.1, hx.2.2.1, hx.2.2.2⟩) (X_Fr.rf)
      rw [e2] at kk
      exact kk
    · skip
      have c103 : ¬ (len ≤ at_) := c103
      exact (show False by omega).elim
  | succ n ih =>
    intro S at_ ht hx ha hn hex
    refine T_p xr_55_2 xn_55 (pc' := 3) (ls' := [(1, .long (X_pk tb len a0 (at_ - a0).toNat)), (0, .ref 497)]) (st' := [.ref 497]) rfl ?_
    refine T_get xr_55_3 hx.1 rfl (v := .int (iI at_)) rfl (pc' := 6) rfl ?_
    refine T_p xr_55_6 xn_55 (pc' := 7) (ls' := [(1, .long (X_pk tb len a0 (at_ - a0).toNat)), (0, .ref 497)]) (st' := [.ref 497, .int (iI at_)]) rfl ?_
    refine T_get xr_55_7 hx.1 rfl (v := .ref 2) rfl (pc' := 10) rfl ?_
    refine T_get xr_55_10 ht.1 rfl (v := .int (iI len)) rfl (pc' := 13) rfl ?_
    refine T_zicmp_ge xr_55_13 (t := 64) (pc' := 16) rfl rfl (fun c77 => ?_) (fun c77 => ?_)
    · skip
      have c77 : len ≤ at_ := c77
      have e2 : X_se X_isLD tb len at_ = at_ := X_se_no (by first | omega | (intro h; exact absurd h.2 (by assumption)))
      have kk := hex S ⟨ht.1, ht.2.1, hl⟩ (by rw [e2]; exact ⟨hx.1, hx.2.1, hx.2.2.1, hx.2.2.2⟩) (X_Fr.rf)
      rw [e2] at kk
      exact kk
    · skip
      have c77 : ¬ (len ≤ at_) := c77
      refine T_p xr_55_16 xn_55 (pc' := 17) (ls' := [(1, .long (X_pk tb len a0 (at_ - a0).toNat)), (0, .ref 497)]) (st' := [.ref 497]) rfl ?_
      refine T_get xr_55_17 hx.1 rfl (v := .ref 2) rfl (pc' := 20) rfl ?_
      refine T_p xr_55_20 xn_55 (pc' := 21) (ls' := [(1, .long (X_pk tb len a0 (at_ - a0).toNat)), (0, .ref 497)]) (st' := [.ref 497, .ref 2]) rfl ?_
      refine T_get xr_55_21 hx.1 rfl (v := .int (iI at_)) rfl (pc' := 24) rfl ?_
      refine T_cv (S := S) (q := 2) xr_55_24 xf_93.1 xf_93.2.1 xn_93 (as := [.int (iI at_)]) (r := []) rfl ht.1 (Nat.le_of_ble_eq_true rfl) (Nat.le_of_ble_eq_true rfl) (pc' := 27) rfl (ls' := [(0, .ref 2), (1, .int (iI at_))]) rfl ?_
      refine T_mono (c_byteAt sc S len at_ tb ht.1 ht.2.1 hl (by omega)) (fun v79 S80 h78 => ?_)
      obtain ⟨h81, h82⟩ := h78
      rw [h81, h82]
      show X_T sc 55 (27, [(1, .long (X_pk tb len a0 (at_ - a0).toNat)), (0, .ref 497)], [.int (iI (X_at tb len at_))], S) _
      refine T_cs xr_55_27 (by decide) xf_61.1 xn_61 (as := [.int (iI (X_at tb len at_))]) (r := []) rfl (Nat.le_of_ble_eq_true rfl) (Nat.le_of_ble_eq_true rfl) (pc' := 30) rfl (ls' := [(0, .int (iI (X_at tb len at_)))]) rfl ?_
      refine T_mono (c_isLD sc S (X_at tb len at_) (X_at_r tb len at_)) (fun v84 S85 h83 => ?_)
      obtain ⟨h86, h87⟩ := h83
      rw [h86, h87]
      show X_T sc 55 (30, [(1, .long (X_pk tb len a0 (at_ - a0).toNat)), (0, .ref 497)], [.int (iI (bI (X_isLD (X_at tb len at_))))], S) _
      refine T_bif_eq xr_55_30 (t := 64) (pc' := 33) rfl rfl (fun c88 => ?_) (fun c88 => ?_)
      · skip
        have c88 : ¬ (X_isLD (X_at tb len at_)) := c88
        have e2 : X_se X_isLD tb len at_ = at_ := X_se_no (by first | omega | (intro h; exact absurd h.2 (by assumption)))
        have kk := hex S ⟨ht.1, ht.2.1, hl⟩ (by rw [e2]; exact ⟨hx.1, hx.2.1, hx.2.2.1, hx.2.2.2⟩) (X_Fr.rf)
        rw [e2] at kk
        exact kk
      · skip
        have c88 : (X_isLD (X_at tb len at_)) := c88
        refine T_p xr_55_33 xn_55 (pc' := 34) (ls' := [(1, .long (X_pk tb len a0 (at_ - a0).toNat)), (0, .ref 497)]) (st' := [.long (X_pk tb len a0 (at_ - a0).toNat)]) rfl ?_
        refine T_p xr_55_34 xn_55 (pc' := 36) (ls' := [(1, .long (X_pk tb len a0 (at_ - a0).toNat)), (0, .ref 497)]) (st' := [.int (iI 8), .long (X_pk tb len a0 (at_ - a0).toNat)]) rfl ?_
        refine T_p xr_55_36 xn_55 (pc' := 37) (ls' := [(1, .long (X_pk tb len a0 (at_ - a0).toNat)), (0, .ref 497)]) (st' := [.long ((X_pk tb len a0 (at_ - a0).toNat) <<< ((iI 8).toInt64 &&& 63))]) rfl ?_
        refine T_p xr_55_37 xn_55 (pc' := 38) (ls' := [(1, .long (X_pk tb len a0 (at_ - a0).toNat)), (0, .ref 497)]) (st' := [.ref 497, .long ((X_pk tb len a0 (at_ - a0).toNat) <<< ((iI 8).toInt64 &&& 63))]) rfl ?_
        refine T_get xr_55_38 hx.1 rfl (v := .ref 2) rfl (pc' := 41) rfl ?_
        refine T_p xr_55_41 xn_55 (pc' := 42) (ls' := [(1, .long (X_pk tb len a0 (at_ - a0).toNat)), (0, .ref 497)]) (st' := [.ref 497, .ref 2, .long ((X_pk tb len a0 (at_ - a0).toNat) <<< ((iI 8).toInt64 &&& 63))]) rfl ?_
        refine T_get xr_55_42 hx.1 rfl (v := .int (iI at_)) rfl (pc' := 45) rfl ?_
        refine T_cv (S := S) (q := 2) xr_55_45 xf_93.1 xf_93.2.1 xn_93 (as := [.int (iI at_)]) (r := [.long ((X_pk tb len a0 (at_ - a0).toNat) <<< ((iI 8).toInt64 &&& 63))]) rfl ht.1 (Nat.le_of_ble_eq_true rfl) (Nat.le_of_ble_eq_true rfl) (pc' := 48) rfl (ls' := [(0, .ref 2), (1, .int (iI at_))]) rfl ?_
        refine T_mono (c_byteAt sc S len at_ tb ht.1 ht.2.1 hl (by omega)) (fun v90 S91 h89 => ?_)
        obtain ⟨h92, h93⟩ := h89
        rw [h92, h93]
        show X_T sc 55 (48, [(1, .long (X_pk tb len a0 (at_ - a0).toNat)), (0, .ref 497)], [.int (iI (X_at tb len at_)), .long ((X_pk tb len a0 (at_ - a0).toNat) <<< ((iI 8).toInt64 &&& 63))], S) _
        refine T_p xr_55_48 xn_55 (pc' := 49) (ls' := [(1, .long (X_pk tb len a0 (at_ - a0).toNat)), (0, .ref 497)]) (st' := [.long ((iI (X_at tb len at_)).toInt64), .long ((X_pk tb len a0 (at_ - a0).toNat) <<< ((iI 8).toInt64 &&& 63))]) rfl ?_
        refine T_p xr_55_49 xn_55 (pc' := 50) (ls' := [(1, .long (X_pk tb len a0 (at_ - a0).toNat)), (0, .ref 497)]) (st' := [.long (((X_pk tb len a0 (at_ - a0).toNat) <<< ((iI 8).toInt64 &&& 63)) ||| ((iI (X_at tb len at_)).toInt64))]) rfl ?_
        refine T_le (y := (X_pk tb len a0 (at_ + 1 - a0).toNat)) (X_pk_go (by omega)) ?_
        refine T_p xr_55_50 xn_55 (pc' := 51) (ls' := [(1, .long (X_pk tb len a0 (at_ + 1 - a0).toNat)), (0, .ref 497)]) (st' := []) rfl ?_
        refine T_p xr_55_51 xn_55 (pc' := 52) (ls' := [(1, .long (X_pk tb len a0 (at_ + 1 - a0).toNat)), (0, .ref 497)]) (st' := [.ref 497]) rfl ?_
        refine T_p xr_55_52 xn_55 (pc' := 53) (ls' := [(1, .long (X_pk tb len a0 (at_ + 1 - a0).toNat)), (0, .ref 497)]) (st' := [.ref 497, .ref 497]) rfl ?_
        refine T_get xr_55_53 hx.1 rfl (v := .int (iI at_)) rfl (pc' := 56) rfl ?_
        refine T_p xr_55_56 xn_55 (pc' := 57) (ls' := [(1, .long (X_pk tb len a0 (at_ + 1 - a0).toNat)), (0, .ref 497)]) (st' := [.int (iI 1), .int (iI at_), .ref 497]) rfl ?_
        refine T_ziadd xr_55_57 (z := at_ + 1) rfl (pc' := 58) rfl ?_
        refine T_put xr_55_58 hx.1 rfl (Nat.le_of_ble_eq_true rfl) rfl (fs' := [.ref 2, .int (iI (at_ + 1)), .int (iI cnt), .ref 498, .ref 499, .ref 500, .int (iI cur)]) rfl (pc' := 61) rfl (fun S94 h95 n96 e97 => ?_)
        refine T_p xr_55_61 xn_55 (pc' := 2) (ls' := [(1, .long (X_pk tb len a0 (at_ + 1 - a0).toNat)), (0, .ref 497)]) (st' := []) rfl ?_
        have e2 : X_se X_isLD tb len at_ = X_se X_isLD tb len (at_ + 1) := X_se_go (by omega) (by assumption)
        have h98 := (n96 2 (by decide)).trans (ht.1)
        have h99 := (n96 3 (by decide)).trans (ht.2.1)
        have h100 := (n96 498 (by decide)).trans (hx.2.1)
        have h101 := (n96 499 (by decide)).trans (hx.2.2.1)
        have h102 := (n96 500 (by decide)).trans (hx.2.2.2)
        refine ih S94 (at_ + 1) ⟨h98, h99, hl⟩ ⟨h95, h100, h101, h102⟩ (by omega) (by omega) (fun S' k1 k2 k3 => ?_)
        have kk := hex S' k1 (by rw [e2]; exact k2) (((X_Fr.rf).tr (X_Fr.of n96 e97 (by omega))).tr k3)
        rw [e2] at kk
        exact kk
theorem c_takeNumber_l (sc : X_Sc) (len : Int) (tb : Int → Int) (cnt cur a0 : Int) (so pl : Int → Int) (ct : Int → Int64) (hl : 0 ≤ len ∧ len ≤ 2000) (Q : Option Value → X_S → Prop) : ∀ (n : Nat) (S : X_S) (at_ : Int) (ht : C_tp S len tb) (hx : C_lx S at_ cnt cur so pl ct) (ha : a0 ≤ at_ ∧ 0 ≤ at_ ∧ at_ ≤ len) (hn : len - at_ ≤ n)
    (hex : ∀ S' : X_S, C_tp S' len tb → C_lx S' (X_se X_isD tb len at_) cnt cur so pl ct → X_Fr (fun r => r = 497) S S' → X_T sc 56 (69, [(1, .long (iL (X_dv tb len a0 ((X_se X_isD tb len at_) - a0).toNat))), (0, .ref 497)], [], S') Q), X_T sc 56 (2, [(1, .long (iL (X_dv tb len a0 (at_ - a0).toNat))), (0, .ref 497)], [], S) Q := by
  intro n
  induction n with
  | zero =>
    intro S at_ ht hx ha hn hex
    refine T_p xr_56_2 xn_56 (pc' := 3) (ls' := [(1, .long (iL (X_dv tb len a0 (at_ - a0).toNat))), (0, .ref 497)]) (st' := [.ref 497]) rfl ?_
    refine T_get xr_56_3 hx.1 rfl (v := .int (iI at_)) rfl (pc' := 6) rfl ?_
    refine T_p xr_56_6 xn_56 (pc' := 7) (ls' := [(1, .long (iL (X_dv tb len a0 (at_ - a0).toNat))), (0, .ref 497)]) (st' := [.ref 497, .int (iI at_)]) rfl ?_
    refine T_get xr_56_7 hx.1 rfl (v := .ref 2) rfl (pc' := 10) rfl ?_
    refine T_get xr_56_10 ht.1 rfl (v := .int (iI len)) rfl (pc' := 13) rfl ?_
    refine T_zicmp_ge xr_56_13 (t := 69) (pc' := 16) rfl rfl (fun c130 => ?_) (fun c130 => ?_)
    · skip
      have c130 : len ≤ at_ := c130
      have e2 : X_se X_isD tb len at_ = at_ := X_se_no (by first | omega | (intro h; exact absurd h.2 (by assumption)))
      have kk := hex S ⟨ht.1, ht.2.1, hl⟩ (by rw [e2]; exact ⟨hx.1, hx.2.1, hx.2.2.1, hx.2.2.2⟩) (X_Fr.rf)
      rw [e2] at kk
      exact kk
    · skip
      have c130 : ¬ (len ≤ at_) := c130
      exact (show False by omega).elim
  | succ n ih =>
    intro S at_ ht hx ha hn hex
    refine T_p xr_56_2 xn_56 (pc' := 3) (ls' := [(1, .long (iL (X_dv tb len a0 (at_ - a0).toNat))), (0, .ref 497)]) (st' := [.ref 497]) rfl ?_
    refine T_get xr_56_3 hx.1 rfl (v := .int (iI at_)) rfl (pc' := 6) rfl ?_
    refine T_p xr_56_6 xn_56 (pc' := 7) (ls' := [(1, .long (iL (X_dv tb len a0 (at_ - a0).toNat))), (0, .ref 497)]) (st' := [.ref 497, .int (iI at_)]) rfl ?_
    refine T_get xr_56_7 hx.1 rfl (v := .ref 2) rfl (pc' := 10) rfl ?_
    refine T_get xr_56_10 ht.1 rfl (v := .int (iI len)) rfl (pc' := 13) rfl ?_
    refine T_zicmp_ge xr_56_13 (t := 69) (pc' := 16) rfl rfl (fun c104 => ?_) (fun c104 => ?_)
    · skip
      have c104 : len ≤ at_ := c104
      have e2 : X_se X_isD tb len at_ = at_ := X_se_no (by first | omega | (intro h; exact absurd h.2 (by assumption)))
      have kk := hex S ⟨ht.1, ht.2.1, hl⟩ (by rw [e2]; exact ⟨hx.1, hx.2.1, hx.2.2.1, hx.2.2.2⟩) (X_Fr.rf)
      rw [e2] at kk
      exact kk
    · skip
      have c104 : ¬ (len ≤ at_) := c104
      refine T_p xr_56_16 xn_56 (pc' := 17) (ls' := [(1, .long (iL (X_dv tb len a0 (at_ - a0).toNat))), (0, .ref 497)]) (st' := [.ref 497]) rfl ?_
      refine T_get xr_56_17 hx.1 rfl (v := .ref 2) rfl (pc' := 20) rfl ?_
      refine T_p xr_56_20 xn_56 (pc' := 21) (ls' := [(1, .long (iL (X_dv tb len a0 (at_ - a0).toNat))), (0, .ref 497)]) (st' := [.ref 497, .ref 2]) rfl ?_
      refine T_get xr_56_21 hx.1 rfl (v := .int (iI at_)) rfl (pc' := 24) rfl ?_
      refine T_cv (S := S) (q := 2) xr_56_24 xf_93.1 xf_93.2.1 xn_93 (as := [.int (iI at_)]) (r := []) rfl ht.1 (Nat.le_of_ble_eq_true rfl) (Nat.le_of_ble_eq_true rfl) (pc' := 27) rfl (ls' := [(0, .ref 2), (1, .int (iI at_))]) rfl ?_
      refine T_mono (c_byteAt sc S len at_ tb ht.1 ht.2.1 hl (by omega)) (fun v106 S107 h105 => ?_)
      obtain ⟨h108, h109⟩ := h105
      rw [h108, h109]
      show X_T sc 56 (27, [(1, .long (iL (X_dv tb len a0 (at_ - a0).toNat))), (0, .ref 497)], [.int (iI (X_at tb len at_))], S) _
      refine T_cs xr_56_27 (by decide) xf_132.1 xn_132 (as := [.int (iI (X_at tb len at_))]) (r := []) rfl (Nat.le_of_ble_eq_true rfl) (Nat.le_of_ble_eq_true rfl) (pc' := 30) rfl (ls' := [(0, .int (iI (X_at tb len at_)))]) rfl ?_
      refine T_mono (c_isDigit sc S (X_at tb len at_) (X_at_r tb len at_)) (fun v111 S112 h110 => ?_)
      obtain ⟨h113, h114⟩ := h110
      rw [h113, h114]
      show X_T sc 56 (30, [(1, .long (iL (X_dv tb len a0 (at_ - a0).toNat))), (0, .ref 497)], [.int (iI (bI (X_isD (X_at tb len at_))))], S) _
      refine T_bif_eq xr_56_30 (t := 69) (pc' := 33) rfl rfl (fun c115 => ?_) (fun c115 => ?_)
      · skip
        have c115 : ¬ (X_isD (X_at tb len at_)) := c115
        have e2 : X_se X_isD tb len at_ = at_ := X_se_no (by first | omega | (intro h; exact absurd h.2 (by assumption)))
        have kk := hex S ⟨ht.1, ht.2.1, hl⟩ (by rw [e2]; exact ⟨hx.1, hx.2.1, hx.2.2.1, hx.2.2.2⟩) (X_Fr.rf)
        rw [e2] at kk
        exact kk
      · skip
        have c115 : (X_isD (X_at tb len at_)) := c115
        refine T_p xr_56_33 xn_56 (pc' := 34) (ls' := [(1, .long (iL (X_dv tb len a0 (at_ - a0).toNat))), (0, .ref 497)]) (st' := [.long (iL (X_dv tb len a0 (at_ - a0).toNat))]) rfl ?_
        refine T_p xr_56_34 xn_56 (pc' := 37) (ls' := [(1, .long (iL (X_dv tb len a0 (at_ - a0).toNat))), (0, .ref 497)]) (st' := [.long (Int64.ofNat 10), .long (iL (X_dv tb len a0 (at_ - a0).toNat))]) rfl ?_
        refine T_p xr_56_37 xn_56 (pc' := 38) (ls' := [(1, .long (iL (X_dv tb len a0 (at_ - a0).toNat))), (0, .ref 497)]) (st' := [.long ((iL (X_dv tb len a0 (at_ - a0).toNat)) * (Int64.ofNat 10))]) rfl ?_
        refine T_p xr_56_38 xn_56 (pc' := 39) (ls' := [(1, .long (iL (X_dv tb len a0 (at_ - a0).toNat))), (0, .ref 497)]) (st' := [.ref 497, .long ((iL (X_dv tb len a0 (at_ - a0).toNat)) * (Int64.ofNat 10))]) rfl ?_
        refine T_get xr_56_39 hx.1 rfl (v := .ref 2) rfl (pc' := 42) rfl ?_
        refine T_p xr_56_42 xn_56 (pc' := 43) (ls' := [(1, .long (iL (X_dv tb len a0 (at_ - a0).toNat))), (0, .ref 497)]) (st' := [.ref 497, .ref 2, .long ((iL (X_dv tb len a0 (at_ - a0).toNat)) * (Int64.ofNat 10))]) rfl ?_
        refine T_get xr_56_43 hx.1 rfl (v := .int (iI at_)) rfl (pc' := 46) rfl ?_
        refine T_cv (S := S) (q := 2) xr_56_46 xf_93.1 xf_93.2.1 xn_93 (as := [.int (iI at_)]) (r := [.long ((iL (X_dv tb len a0 (at_ - a0).toNat)) * (Int64.ofNat 10))]) rfl ht.1 (Nat.le_of_ble_eq_true rfl) (Nat.le_of_ble_eq_true rfl) (pc' := 49) rfl (ls' := [(0, .ref 2), (1, .int (iI at_))]) rfl ?_
        refine T_mono (c_byteAt sc S len at_ tb ht.1 ht.2.1 hl (by omega)) (fun v117 S118 h116 => ?_)
        obtain ⟨h119, h120⟩ := h116
        rw [h119, h120]
        show X_T sc 56 (49, [(1, .long (iL (X_dv tb len a0 (at_ - a0).toNat))), (0, .ref 497)], [.int (iI (X_at tb len at_)), .long ((iL (X_dv tb len a0 (at_ - a0).toNat)) * (Int64.ofNat 10))], S) _
        refine T_p xr_56_49 xn_56 (pc' := 50) (ls' := [(1, .long (iL (X_dv tb len a0 (at_ - a0).toNat))), (0, .ref 497)]) (st' := [.long ((iI (X_at tb len at_)).toInt64), .long ((iL (X_dv tb len a0 (at_ - a0).toNat)) * (Int64.ofNat 10))]) rfl ?_
        refine T_p xr_56_50 xn_56 (pc' := 51) (ls' := [(1, .long (iL (X_dv tb len a0 (at_ - a0).toNat))), (0, .ref 497)]) (st' := [.long (((iL (X_dv tb len a0 (at_ - a0).toNat)) * (Int64.ofNat 10)) + ((iI (X_at tb len at_)).toInt64))]) rfl ?_
        refine T_p xr_56_51 xn_56 (pc' := 54) (ls' := [(1, .long (iL (X_dv tb len a0 (at_ - a0).toNat))), (0, .ref 497)]) (st' := [.long (Int64.ofNat 48), .long (((iL (X_dv tb len a0 (at_ - a0).toNat)) * (Int64.ofNat 10)) + ((iI (X_at tb len at_)).toInt64))]) rfl ?_
        refine T_p xr_56_54 xn_56 (pc' := 55) (ls' := [(1, .long (iL (X_dv tb len a0 (at_ - a0).toNat))), (0, .ref 497)]) (st' := [.long ((((iL (X_dv tb len a0 (at_ - a0).toNat)) * (Int64.ofNat 10)) + ((iI (X_at tb len at_)).toInt64)) - (Int64.ofNat 48))]) rfl ?_
        refine T_le (y := (iL (X_dv tb len a0 (at_ + 1 - a0).toNat))) (X_dv_go (by omega)) ?_
        refine T_p xr_56_55 xn_56 (pc' := 56) (ls' := [(1, .long (iL (X_dv tb len a0 (at_ + 1 - a0).toNat))), (0, .ref 497)]) (st' := []) rfl ?_
        refine T_p xr_56_56 xn_56 (pc' := 57) (ls' := [(1, .long (iL (X_dv tb len a0 (at_ + 1 - a0).toNat))), (0, .ref 497)]) (st' := [.ref 497]) rfl ?_
        refine T_p xr_56_57 xn_56 (pc' := 58) (ls' := [(1, .long (iL (X_dv tb len a0 (at_ + 1 - a0).toNat))), (0, .ref 497)]) (st' := [.ref 497, .ref 497]) rfl ?_
        refine T_get xr_56_58 hx.1 rfl (v := .int (iI at_)) rfl (pc' := 61) rfl ?_
        refine T_p xr_56_61 xn_56 (pc' := 62) (ls' := [(1, .long (iL (X_dv tb len a0 (at_ + 1 - a0).toNat))), (0, .ref 497)]) (st' := [.int (iI 1), .int (iI at_), .ref 497]) rfl ?_
        refine T_ziadd xr_56_62 (z := at_ + 1) rfl (pc' := 63) rfl ?_
        refine T_put xr_56_63 hx.1 rfl (Nat.le_of_ble_eq_true rfl) rfl (fs' := [.ref 2, .int (iI (at_ + 1)), .int (iI cnt), .ref 498, .ref 499, .ref 500, .int (iI cur)]) rfl (pc' := 66) rfl (fun S121 h122 n123 e124 => ?_)
        refine T_p xr_56_66 xn_56 (pc' := 2) (ls' := [(1, .long (iL (X_dv tb len a0 (at_ + 1 - a0).toNat))), (0, .ref 497)]) (st' := []) rfl ?_
        have e2 : X_se X_isD tb len at_ = X_se X_isD tb len (at_ + 1) := X_se_go (by omega) (by assumption)
        have h125 := (n123 2 (by decide)).trans (ht.1)
        have h126 := (n123 3 (by decide)).trans (ht.2.1)
        have h127 := (n123 498 (by decide)).trans (hx.2.1)
        have h128 := (n123 499 (by decide)).trans (hx.2.2.1)
        have h129 := (n123 500 (by decide)).trans (hx.2.2.2)
        refine ih S121 (at_ + 1) ⟨h125, h126, hl⟩ ⟨h122, h127, h128, h129⟩ (by omega) (by omega) (fun S' k1 k2 k3 => ?_)
        have kk := hex S' k1 (by rw [e2]; exact k2) (((X_Fr.rf).tr (X_Fr.of n123 e124 (by omega))).tr k3)
        rw [e2] at kk
        exact kk
