theorem xr_36_0 : X_row 36 0 = some (0, (.aload_n 0, 1), (0, 0, 0)) := by decide +kernel
theorem xr_36_1 : X_row 36 1 = some (1, (.getfield 52, 3), (2, 2, 22)) := by decide +kernel
theorem xr_36_4 : X_row 36 4 = some (4, (.invokevirtual 56, 3), (79, 0, 0)) := by decide +kernel
theorem xr_36_7 : X_row 36 7 = some (7, (.aload_n 0, 1), (0, 0, 0)) := by decide +kernel
theorem xr_36_8 : X_row 36 8 = some (8, (.iconst 0, 1), (0, 0, 0)) := by decide +kernel
theorem xr_36_9 : X_row 36 9 = some (9, (.putfield 9, 3), (2, 3, 24)) := by decide +kernel
theorem xr_36_12 : X_row 36 12 = some (12, (.aload_n 0, 1), (0, 0, 0)) := by decide +kernel
theorem xr_36_13 : X_row 36 13 = some (13, (.iconst 0, 1), (0, 0, 0)) := by decide +kernel
theorem xr_36_14 : X_row 36 14 = some (14, (.aload_n 0, 1), (0, 0, 0)) := by decide +kernel
theorem xr_36_15 : X_row 36 15 = some (15, (.getfield 48, 3), (2, 1, 20)) := by decide +kernel
theorem xr_36_18 : X_row 36 18 = some (18, (.getfield 61, 3), (6, 0, 15)) := by decide +kernel
theorem xr_36_21 : X_row 36 21 = some (21, (.iconst (-1), 1), (0, 0, 0)) := by decide +kernel
theorem xr_36_22 : X_row 36 22 = some (22, (.iconst (-1), 1), (0, 0, 0)) := by decide +kernel
theorem xr_36_23 : X_row 36 23 = some (23, (.invokevirtual 66, 3), (37, 2, 0)) := by decide +kernel
theorem xr_36_26 : X_row 36 26 = some (26, (.aload_n 0, 1), (0, 0, 0)) := by decide +kernel
theorem xr_36_27 : X_row 36 27 = some (27, (.iconst (-1), 1), (0, 0, 0)) := by decide +kernel
theorem xr_36_28 : X_row 36 28 = some (28, (.iconst (-1), 1), (0, 0, 0)) := by decide +kernel
theorem xr_36_29 : X_row 36 29 = some (29, (.lload_n 1, 1), (0, 0, 0)) := by decide +kernel
theorem xr_36_30 : X_row 36 30 = some (30, (.invokevirtual 70, 3), (38, 4, 0)) := by decide +kernel
theorem xr_36_33 : X_row 36 33 = some (33, (.iconst 0, 1), (0, 0, 0)) := by decide +kernel
theorem xr_36_34 : X_row 36 34 = some (34, (.istore_n 3, 1), (0, 0, 0)) := by decide +kernel
theorem xr_36_35 : X_row 36 35 = some (35, (.iload_n 3, 1), (0, 0, 0)) := by decide +kernel
theorem xr_36_36 : X_row 36 36 = some (36, (.bipush 30, 2), (0, 0, 0)) := by decide +kernel
theorem xr_36_38 : X_row 36 38 = some (38, (.if_icmp .ge 20, 3), (0, 0, 0)) := by decide +kernel
theorem xr_36_41 : X_row 36 41 = some (41, (.aload_n 0, 1), (0, 0, 0)) := by decide +kernel
theorem xr_36_42 : X_row 36 42 = some (42, (.getfield 9, 3), (2, 3, 24)) := by decide +kernel
theorem xr_36_45 : X_row 36 45 = some (45, (.ifCond .le 13, 3), (0, 0, 0)) := by decide +kernel
theorem xr_36_48 : X_row 36 48 = some (48, (.aload_n 0, 1), (0, 0, 0)) := by decide +kernel
theorem xr_36_49 : X_row 36 49 = some (49, (.invokevirtual 74, 3), (39, 6, 0)) := by decide +kernel
theorem xr_36_52 : X_row 36 52 = some (52, (.iinc 3 1, 3), (0, 0, 0)) := by decide +kernel
theorem xr_36_55 : X_row 36 55 = some (55, (.goto (-20), 3), (0, 0, 0)) := by decide +kernel
theorem xr_36_58 : X_row 36 58 = some (58, (.return_, 1), (0, 0, 0)) := by decide +kernel
theorem xr_79_0 : X_row 79 0 = some (0, (.aload_n 0, 1), (0, 0, 0)) := by decide +kernel
theorem xr_79_1 : X_row 79 1 = some (1, (.iconst 0, 1), (0, 0, 0)) := by decide +kernel
theorem xr_79_2 : X_row 79 2 = some (2, (.putfield 9, 3), (5, 0, 0)) := by decide +kernel
theorem xr_79_5 : X_row 79 5 = some (5, (.return_, 1), (0, 0, 0)) := by decide +kernel
theorem xn_36 : X_nL 36 = 4 := by decide +kernel
theorem xf_36 : X_na 36 = 1 ∧ X_ci 36 = 2 ∧ X_rt 36 = none := by decide +kernel
theorem xn_79 : X_nL 79 = 1 := by decide +kernel
theorem xf_79 : X_na 79 = 0 ∧ X_ci 79 = 5 ∧ X_rt 79 = none := by decide +kernel
set_option maxHeartbeats 3000000 in
theorem c_find (sc : X_Sc) (S : X_S) (oK : Int → Int64) (oW : Int → Int64) (oA : Int → Int64) (oH : Int → Int64) (tl : Int → Int64) (nW : Int → Int) (nF : Int → Int) (nL : Int → Int) (nP : Int → Int) (nH : Int → Int) (nC : Int → Int) (fF : Int → Int) (fE : Int → Int) (fP : Int → Int) (fH : Int → Int) (fW : Int → Int) (fK : Int → Int) (fN : Int → Int64) (hF : Int → Int) (hE : Int → Int) (B : Nat) (rc : Int) (rn : Int → Int64) (kn : Int → Int64) (G : X_G) (tn : Int) (fl : Int) (wt : Int) (nc : Int) (k : Nat) (hO501 : S.1 501 = .inr (6, [.int (iI tn), .ref 502, .ref 503])) (hO511 : S.1 511 = .inr (1, [.ref B, .ref 501, .int (iI fl), .ref 512, .ref 513, .ref 514, .ref 515, .ref 516])) (hO517 : S.1 517 = .inr (2, [.ref 511, .ref 501, .ref 504, .int (iI wt), .ref 518, .ref 519, .ref 520, .ref 521, .ref 522, .ref 523, .ref 524, .ref 525, .ref 526])) (hO504 : S.1 504 = .inr (5, [.int (iI nc), .ref 505, .ref 506, .ref 507, .ref 508, .ref 509, .ref 510])) (hA512 : S.1 512 = .inl (.long, 5115, .inr (.inl fun k : Nat => oK (k : Int)))) (hA513 : S.1 513 = .inl (.long, 13950, .inr (.inl fun k : Nat => oW (k : Int)))) (hA514 : S.1 514 = .inl (.long, 465, .inr (.inl fun k : Nat => oA (k : Int)))) (hA515 : S.1 515 = .inl (.long, 55800, .inr (.inl fun k : Nat => oH (k : Int)))) (hA516 : S.1 516 = .inl (.long, 7200, .inr (.inl fun k : Nat => tl (k : Int)))) (hA505 : S.1 505 = .inl (.int, 30, .inl fun k : Nat => iI (nW (k : Int)))) (hA506 : S.1 506 = .inl (.int, 30, .inl fun k : Nat => iI (nF (k : Int)))) (hA507 : S.1 507 = .inl (.int, 30, .inl fun k : Nat => iI (nL (k : Int)))) (hA508 : S.1 508 = .inl (.int, 30, .inl fun k : Nat => iI (nP (k : Int)))) (hA509 : S.1 509 = .inl (.int, 30, .inl fun k : Nat => iI (nH (k : Int)))) (hA510 : S.1 510 = .inl (.int, 120, .inl fun k : Nat => iI (nC (k : Int)))) (hA518 : S.1 518 = .inl (.int, 30, .inl fun k : Nat => iI (fF (k : Int)))) (hA519 : S.1 519 = .inl (.int, 30, .inl fun k : Nat => iI (fE (k : Int)))) (hA520 : S.1 520 = .inl (.int, 30, .inl fun k : Nat => iI (fP (k : Int)))) (hA521 : S.1 521 = .inl (.int, 30, .inl fun k : Nat => iI (fH (k : Int)))) (hA522 : S.1 522 = .inl (.int, 30, .inl fun k : Nat => iI (fW (k : Int)))) (hA523 : S.1 523 = .inl (.int, 30, .inl fun k : Nat => iI (fK (k : Int)))) (hA524 : S.1 524 = .inl (.long, 30, .inr (.inl fun k : Nat => fN (k : Int)))) (hA525 : S.1 525 = .inl (.int, 4, .inl fun k : Nat => iI (hF (k : Int)))) (hA526 : S.1 526 = .inl (.int, 4, .inl fun k : Nat => iI (hE (k : Int)))) (hB : B = 4 ∨ B = 250) (hb : C_bk S B rc (gk G) (gw G) rn (gl G) kn (ga G)) (hs : C_ws S B (gD G) (gW G)) (hG : X_Gok G) (htn : 1 ≤ tn ∧ tn ≤ 30) (hA502 : S.1 502 = .inl (.long, 30, .inr (.inl fun k : Nat => (gt G) (k : Int)))) (hcht : X_cht G (-2) tn oK oW oA oH) (hk : k < X_all G 0 tn) (hkm : k ≤ 9223372036854775807) : X_T sc 36 (0, [(0, .ref 517), (1, .long (iL (k : Int)))], [], S) (fun v S' => ∃ (r1 : Int) (nc1 : Int) (St1 : Int → X_It) (N1 : Int → Int → Int) (nW1 : Int → Int) (nF1 : Int → Int) (nL1 : Int → Int) (nP1 : Int → Int) (nH1 : Int → Int) (nC1 : Int → Int) (fF1 : Int → Int) (fE1 : Int → Int) (fP1 : Int → Int) (fH1 : Int → Int) (fW1 : Int → Int) (fK1 : Int → Int) (fN1 : Int → Int64) (tl1 : Int → Int64) (hF1 : Int → Int) (hE1 : Int → Int), v = none ∧ X_rd G tn k = (r1, St1, nc1, N1) ∧ (r1 ≤ 0 ∧ 0 ≤ nc1 ∧ nc1 ≤ tn) ∧ F_nd nc1 N1 nW1 nF1 nL1 nP1 nH1 ∧ F_ch nc1 N1 nC1 ∧ S'.1 517 = .inr (2, [.ref 511, .ref 501, .ref 504, .int (iI r1), .ref 518, .ref 519, .ref 520, .ref 521, .ref 522, .ref 523, .ref 524, .ref 525, .ref 526]) ∧ S'.1 504 = .inr (5, [.int (iI nc1), .ref 505, .ref 506, .ref 507, .ref 508, .ref 509, .ref 510]) ∧ S'.1 505 = .inl (.int, 30, .inl fun k : Nat => iI (nW1 (k : Int))) ∧ S'.1 506 = .inl (.int, 30, .inl fun k : Nat => iI (nF1 (k : Int))) ∧ S'.1 507 = .inl (.int, 30, .inl fun k : Nat => iI (nL1 (k : Int))) ∧ S'.1 508 = .inl (.int, 30, .inl fun k : Nat => iI (nP1 (k : Int))) ∧ S'.1 509 = .inl (.int, 30, .inl fun k : Nat => iI (nH1 (k : Int))) ∧ S'.1 510 = .inl (.int, 120, .inl fun k : Nat => iI (nC1 (k : Int))) ∧ S'.1 518 = .inl (.int, 30, .inl fun k : Nat => iI (fF1 (k : Int))) ∧ S'.1 519 = .inl (.int, 30, .inl fun k : Nat => iI (fE1 (k : Int))) ∧ S'.1 520 = .inl (.int, 30, .inl fun k : Nat => iI (fP1 (k : Int))) ∧ S'.1 521 = .inl (.int, 30, .inl fun k : Nat => iI (fH1 (k : Int))) ∧ S'.1 522 = .inl (.int, 30, .inl fun k : Nat => iI (fW1 (k : Int))) ∧ S'.1 523 = .inl (.int, 30, .inl fun k : Nat => iI (fK1 (k : Int))) ∧ S'.1 524 = .inl (.long, 30, .inr (.inl fun k : Nat => fN1 (k : Int))) ∧ S'.1 516 = .inl (.long, 7200, .inr (.inl fun k : Nat => tl1 (k : Int))) ∧ S'.1 525 = .inl (.int, 4, .inl fun k : Nat => iI (hF1 (k : Int))) ∧ S'.1 526 = .inl (.int, 4, .inl fun k : Nat => iI (hE1 (k : Int))) ∧ (X_Fr (fun q => (504 ≤ q ∧ q ≤ 510) ∨ (516 ≤ q ∧ q ≤ 526)) S S')) := by
  obtain ⟨hb0, hb1, hb2, hb3, hb4, ⟨f, hb5, hf⟩, ⟨hrc, hrcb⟩, ⟨hkc, hkcb⟩, ⟨hwc, hwcb⟩⟩ := id hb
  refine X_QI (fun Q hQ => ?_)
  refine T_p xr_36_0 xn_36 (pc' := 1) (ls' := [(0, .ref 517), (1, .long (iL (k : Int)))]) (st' := [.ref 517]) rfl ?_
  refine T_get xr_36_1 hO517 rfl (v := .ref 504) rfl (pc' := 4) rfl ?_
  refine T_cv (S := S) (q := 504) xr_36_4 xf_79.1 xf_79.2.1 xn_79 (as := []) (r := []) rfl hO504 (Nat.le_of_ble_eq_true rfl) (Nat.le_of_ble_eq_true rfl) (pc' := 7) rfl (ls' := [(0, .ref 504)]) rfl ?_
  refine T_p xr_79_0 xn_79 (pc' := 1) (ls' := [(0, .ref 504)]) (st' := [.ref 504]) rfl ?_
  refine T_p xr_79_1 xn_79 (pc' := 2) (ls' := [(0, .ref 504)]) (st' := [.int (iI 0), .ref 504]) rfl ?_
  refine T_put xr_79_2 hO504 rfl (Nat.le_of_ble_eq_true rfl) rfl (fs' := [.int (iI 0), .ref 505, .ref 506, .ref 507, .ref 508, .ref 509, .ref 510]) rfl (pc' := 5) rfl (fun S1631 h1632 n1633 e1634 => ?_)
  refine T_vret xr_79_5 xf_79.2.2 ?_
  show X_T sc 36 (7, [(0, .ref 517), (1, .long (iL (k : Int)))], [], S1631) _
  refine T_p xr_36_7 xn_36 (pc' := 8) (ls' := [(0, .ref 517), (1, .long (iL (k : Int)))]) (st' := [.ref 517]) rfl ?_
  refine T_p xr_36_8 xn_36 (pc' := 9) (ls' := [(0, .ref 517), (1, .long (iL (k : Int)))]) (st' := [.int (iI 0), .ref 517]) rfl ?_
  have h1635 := (n1633 517 (by decide)).trans (hO517)
  refine T_put xr_36_9 h1635 rfl (Nat.le_of_ble_eq_true rfl) rfl (fs' := [.ref 511, .ref 501, .ref 504, .int (iI 0), .ref 518, .ref 519, .ref 520, .ref 521, .ref 522, .ref 523, .ref 524, .ref 525, .ref 526]) rfl (pc' := 12) rfl (fun S1636 h1637 n1638 e1639 => ?_)
  refine T_p xr_36_12 xn_36 (pc' := 13) (ls' := [(0, .ref 517), (1, .long (iL (k : Int)))]) (st' := [.ref 517]) rfl ?_
  refine T_p xr_36_13 xn_36 (pc' := 14) (ls' := [(0, .ref 517), (1, .long (iL (k : Int)))]) (st' := [.int (iI 0), .ref 517]) rfl ?_
  refine T_p xr_36_14 xn_36 (pc' := 15) (ls' := [(0, .ref 517), (1, .long (iL (k : Int)))]) (st' := [.ref 517, .int (iI 0), .ref 517]) rfl ?_
  refine T_get xr_36_15 h1637 rfl (v := .ref 501) rfl (pc' := 18) rfl ?_
  have h1640 := (n1638 501 (by decide)).trans ((n1633 501 (by decide)).trans (hO501))
  refine T_get xr_36_18 h1640 rfl (v := .int (iI tn)) rfl (pc' := 21) rfl ?_
  refine T_p xr_36_21 xn_36 (pc' := 22) (ls' := [(0, .ref 517), (1, .long (iL (k : Int)))]) (st' := [.int (iI (-1)), .int (iI tn), .int (iI 0), .ref 517]) rfl ?_
  refine T_p xr_36_22 xn_36 (pc' := 23) (ls' := [(0, .ref 517), (1, .long (iL (k : Int)))]) (st' := [.int (iI (-1)), .int (iI (-1)), .int (iI tn), .int (iI 0), .ref 517]) rfl ?_
  refine T_cv (S := S1636) (q := 517) xr_36_23 xf_37.1 xf_37.2.1 xn_37 (as := [.int (iI 0), .int (iI tn), .int (iI (-1)), .int (iI (-1))]) (r := []) rfl h1637 (Nat.le_of_ble_eq_true rfl) (Nat.le_of_ble_eq_true rfl) (pc' := 26) rfl (ls' := [(0, .ref 517), (1, .int (iI 0)), (2, .int (iI tn)), (3, .int (iI (-1))), (4, .int (iI (-1)))]) rfl ?_
  refine T_p xr_37_0 xn_37 (pc' := 1) (ls' := [(0, .ref 517), (1, .int (iI 0)), (2, .int (iI tn)), (3, .int (iI (-1))), (4, .int (iI (-1)))]) (st' := [.ref 517]) rfl ?_
  refine T_get xr_37_1 h1637 rfl (v := .int (iI 0)) rfl (pc' := 4) rfl ?_
  refine T_p xr_37_4 xn_37 (pc' := 6) (ls' := [(0, .ref 517), (1, .int (iI 0)), (2, .int (iI tn)), (3, .int (iI (-1))), (4, .int (iI (-1)))]) (st' := [.int (iI 30), .int (iI 0)]) rfl ?_
  refine T_zicmp_gef xr_37_6 (t := 60) (pc' := 9) rfl rfl (by decide) ?_
  refine T_p xr_37_9 xn_37 (pc' := 10) (ls' := [(0, .ref 517), (1, .int (iI 0)), (2, .int (iI tn)), (3, .int (iI (-1))), (4, .int (iI (-1)))]) (st' := [.ref 517]) rfl ?_
  refine T_get xr_37_10 h1637 rfl (v := .ref 518) rfl (pc' := 13) rfl ?_
  refine T_p xr_37_13 xn_37 (pc' := 14) (ls' := [(0, .ref 517), (1, .int (iI 0)), (2, .int (iI tn)), (3, .int (iI (-1))), (4, .int (iI (-1)))]) (st' := [.ref 517, .ref 518]) rfl ?_
  refine T_get xr_37_14 h1637 rfl (v := .int (iI 0)) rfl (pc' := 17) rfl ?_
  refine T_p xr_37_17 xn_37 (pc' := 18) (ls' := [(0, .ref 517), (1, .int (iI 0)), (2, .int (iI tn)), (3, .int (iI (-1))), (4, .int (iI (-1)))]) (st' := [.int (iI 0), .int (iI 0), .ref 518]) rfl ?_
  have h1641 := (n1638 518 (by decide)).trans ((n1633 518 (by decide)).trans (hA518))
  refine T_ziast xr_37_18 h1641 (pc' := 19) rfl (fun S1642 h1643 n1644 e1645 => ?_)
  refine T_p xr_37_19 xn_37 (pc' := 20) (ls' := [(0, .ref 517), (1, .int (iI 0)), (2, .int (iI tn)), (3, .int (iI (-1))), (4, .int (iI (-1)))]) (st' := [.ref 517]) rfl ?_
  have h1646 := (n1644 517 (by decide)).trans (h1637)
  refine T_get xr_37_20 h1646 rfl (v := .ref 519) rfl (pc' := 23) rfl ?_
  refine T_p xr_37_23 xn_37 (pc' := 24) (ls' := [(0, .ref 517), (1, .int (iI 0)), (2, .int (iI tn)), (3, .int (iI (-1))), (4, .int (iI (-1)))]) (st' := [.ref 517, .ref 519]) rfl ?_
  refine T_get xr_37_24 h1646 rfl (v := .int (iI 0)) rfl (pc' := 27) rfl ?_
  refine T_p xr_37_27 xn_37 (pc' := 28) (ls' := [(0, .ref 517), (1, .int (iI 0)), (2, .int (iI tn)), (3, .int (iI (-1))), (4, .int (iI (-1)))]) (st' := [.int (iI tn), .int (iI 0), .ref 519]) rfl ?_
  have h1647 := (n1644 519 (by decide)).trans ((n1638 519 (by decide)).trans ((n1633 519 (by decide)).trans (hA519)))
  refine T_ziast xr_37_28 h1647 (pc' := 29) rfl (fun S1648 h1649 n1650 e1651 => ?_)
  refine T_p xr_37_29 xn_37 (pc' := 30) (ls' := [(0, .ref 517), (1, .int (iI 0)), (2, .int (iI tn)), (3, .int (iI (-1))), (4, .int (iI (-1)))]) (st' := [.ref 517]) rfl ?_
  have h1652 := (n1650 517 (by decide)).trans (h1646)
  refine T_get xr_37_30 h1652 rfl (v := .ref 520) rfl (pc' := 33) rfl ?_
  refine T_p xr_37_33 xn_37 (pc' := 34) (ls' := [(0, .ref 517), (1, .int (iI 0)), (2, .int (iI tn)), (3, .int (iI (-1))), (4, .int (iI (-1)))]) (st' := [.ref 517, .ref 520]) rfl ?_
  refine T_get xr_37_34 h1652 rfl (v := .int (iI 0)) rfl (pc' := 37) rfl ?_
  refine T_p xr_37_37 xn_37 (pc' := 38) (ls' := [(0, .ref 517), (1, .int (iI 0)), (2, .int (iI tn)), (3, .int (iI (-1))), (4, .int (iI (-1)))]) (st' := [.int (iI (-1)), .int (iI 0), .ref 520]) rfl ?_
  have h1653 := (n1650 520 (by decide)).trans ((n1644 520 (by decide)).trans ((n1638 520 (by decide)).trans ((n1633 520 (by decide)).trans (hA520))))
  refine T_ziast xr_37_38 h1653 (pc' := 39) rfl (fun S1654 h1655 n1656 e1657 => ?_)
  refine T_p xr_37_39 xn_37 (pc' := 40) (ls' := [(0, .ref 517), (1, .int (iI 0)), (2, .int (iI tn)), (3, .int (iI (-1))), (4, .int (iI (-1)))]) (st' := [.ref 517]) rfl ?_
  have h1658 := (n1656 517 (by decide)).trans (h1652)
  refine T_get xr_37_40 h1658 rfl (v := .ref 521) rfl (pc' := 43) rfl ?_
  refine T_p xr_37_43 xn_37 (pc' := 44) (ls' := [(0, .ref 517), (1, .int (iI 0)), (2, .int (iI tn)), (3, .int (iI (-1))), (4, .int (iI (-1)))]) (st' := [.ref 517, .ref 521]) rfl ?_
  refine T_get xr_37_44 h1658 rfl (v := .int (iI 0)) rfl (pc' := 47) rfl ?_
  refine T_p xr_37_47 xn_37 (pc' := 49) (ls' := [(0, .ref 517), (1, .int (iI 0)), (2, .int (iI tn)), (3, .int (iI (-1))), (4, .int (iI (-1)))]) (st' := [.int (iI (-1)), .int (iI 0), .ref 521]) rfl ?_
  have h1659 := (n1656 521 (by decide)).trans ((n1650 521 (by decide)).trans ((n1644 521 (by decide)).trans ((n1638 521 (by decide)).trans ((n1633 521 (by decide)).trans (hA521)))))
  refine T_ziast xr_37_49 h1659 (pc' := 50) rfl (fun S1660 h1661 n1662 e1663 => ?_)
  refine T_p xr_37_50 xn_37 (pc' := 51) (ls' := [(0, .ref 517), (1, .int (iI 0)), (2, .int (iI tn)), (3, .int (iI (-1))), (4, .int (iI (-1)))]) (st' := [.ref 517]) rfl ?_
  refine T_p xr_37_51 xn_37 (pc' := 52) (ls' := [(0, .ref 517), (1, .int (iI 0)), (2, .int (iI tn)), (3, .int (iI (-1))), (4, .int (iI (-1)))]) (st' := [.ref 517, .ref 517]) rfl ?_
  have h1664 := (n1662 517 (by decide)).trans (h1658)
  refine T_get xr_37_52 h1664 rfl (v := .int (iI 0)) rfl (pc' := 55) rfl ?_
  refine T_p xr_37_55 xn_37 (pc' := 56) (ls' := [(0, .ref 517), (1, .int (iI 0)), (2, .int (iI tn)), (3, .int (iI (-1))), (4, .int (iI (-1)))]) (st' := [.int (iI 1), .int (iI 0), .ref 517]) rfl ?_
  refine T_ziadd xr_37_56 (z := 1) (by decide) (pc' := 57) rfl ?_
  refine T_put xr_37_57 h1664 rfl (Nat.le_of_ble_eq_true rfl) rfl (fs' := [.ref 511, .ref 501, .ref 504, .int (iI 1), .ref 518, .ref 519, .ref 520, .ref 521, .ref 522, .ref 523, .ref 524, .ref 525, .ref 526]) rfl (pc' := 60) rfl (fun S1665 h1666 n1667 e1668 => ?_)
  refine T_vret xr_37_60 xf_37.2.2 ?_
  show X_T sc 36 (26, [(0, .ref 517), (1, .long (iL (k : Int)))], [], S1665) _
  refine T_p xr_36_26 xn_36 (pc' := 27) (ls' := [(0, .ref 517), (1, .long (iL (k : Int)))]) (st' := [.ref 517]) rfl ?_
  refine T_p xr_36_27 xn_36 (pc' := 28) (ls' := [(0, .ref 517), (1, .long (iL (k : Int)))]) (st' := [.int (iI (-1)), .ref 517]) rfl ?_
  refine T_p xr_36_28 xn_36 (pc' := 29) (ls' := [(0, .ref 517), (1, .long (iL (k : Int)))]) (st' := [.int (iI (-1)), .int (iI (-1)), .ref 517]) rfl ?_
  refine T_p xr_36_29 xn_36 (pc' := 30) (ls' := [(0, .ref 517), (1, .long (iL (k : Int)))]) (st' := [.long (iL (k : Int)), .int (iI (-1)), .int (iI (-1)), .ref 517]) rfl ?_
  refine T_cv (S := S1665) (q := 517) xr_36_30 xf_38.1 xf_38.2.1 xn_38 (as := [.int (iI (-1)), .int (iI (-1)), .long (iL (k : Int))]) (r := []) rfl h1666 (Nat.le_of_ble_eq_true rfl) (Nat.le_of_ble_eq_true rfl) (pc' := 33) rfl (ls' := [(0, .ref 517), (1, .int (iI (-1))), (2, .int (iI (-1))), (3, .long (iL (k : Int)))]) rfl ?_
  refine T_p xr_38_0 xn_38 (pc' := 1) (ls' := [(0, .ref 517), (1, .int (iI (-1))), (2, .int (iI (-1))), (3, .long (iL (k : Int)))]) (st' := [.ref 517]) rfl ?_
  refine T_get xr_38_1 h1666 rfl (v := .int (iI 1)) rfl (pc' := 4) rfl ?_
  refine T_zif_lef xr_38_4 (t := 43) (pc' := 7) rfl rfl (by decide) ?_
  refine T_p xr_38_7 xn_38 (pc' := 8) (ls' := [(0, .ref 517), (1, .int (iI (-1))), (2, .int (iI (-1))), (3, .long (iL (k : Int)))]) (st' := [.ref 517]) rfl ?_
  refine T_get xr_38_8 h1666 rfl (v := .ref 522) rfl (pc' := 11) rfl ?_
  refine T_p xr_38_11 xn_38 (pc' := 12) (ls' := [(0, .ref 517), (1, .int (iI (-1))), (2, .int (iI (-1))), (3, .long (iL (k : Int)))]) (st' := [.ref 517, .ref 522]) rfl ?_
  refine T_get xr_38_12 h1666 rfl (v := .int (iI 1)) rfl (pc' := 15) rfl ?_
  refine T_p xr_38_15 xn_38 (pc' := 16) (ls' := [(0, .ref 517), (1, .int (iI (-1))), (2, .int (iI (-1))), (3, .long (iL (k : Int)))]) (st' := [.int (iI 1), .int (iI 1), .ref 522]) rfl ?_
  refine T_zisub xr_38_16 (z := 0) (by decide) (pc' := 17) rfl ?_
  refine T_p xr_38_17 xn_38 (pc' := 18) (ls' := [(0, .ref 517), (1, .int (iI (-1))), (2, .int (iI (-1))), (3, .long (iL (k : Int)))]) (st' := [.int (iI (-1)), .int (iI 0), .ref 522]) rfl ?_
  have h1669 := (n1667 522 (by decide)).trans ((n1662 522 (by decide)).trans ((n1656 522 (by decide)).trans ((n1650 522 (by decide)).trans ((n1644 522 (by decide)).trans ((n1638 522 (by decide)).trans ((n1633 522 (by decide)).trans (hA522)))))))
  refine T_ziast xr_38_18 h1669 (pc' := 19) rfl (fun S1670 h1671 n1672 e1673 => ?_)
  refine T_p xr_38_19 xn_38 (pc' := 20) (ls' := [(0, .ref 517), (1, .int (iI (-1))), (2, .int (iI (-1))), (3, .long (iL (k : Int)))]) (st' := [.ref 517]) rfl ?_
  have h1674 := (n1672 517 (by decide)).trans (h1666)
  refine T_get xr_38_20 h1674 rfl (v := .ref 523) rfl (pc' := 23) rfl ?_
  refine T_p xr_38_23 xn_38 (pc' := 24) (ls' := [(0, .ref 517), (1, .int (iI (-1))), (2, .int (iI (-1))), (3, .long (iL (k : Int)))]) (st' := [.ref 517, .ref 523]) rfl ?_
  refine T_get xr_38_24 h1674 rfl (v := .int (iI 1)) rfl (pc' := 27) rfl ?_
  refine T_p xr_38_27 xn_38 (pc' := 28) (ls' := [(0, .ref 517), (1, .int (iI (-1))), (2, .int (iI (-1))), (3, .long (iL (k : Int)))]) (st' := [.int (iI 1), .int (iI 1), .ref 523]) rfl ?_
  refine T_zisub xr_38_28 (z := 0) (by decide) (pc' := 29) rfl ?_
  refine T_p xr_38_29 xn_38 (pc' := 30) (ls' := [(0, .ref 517), (1, .int (iI (-1))), (2, .int (iI (-1))), (3, .long (iL (k : Int)))]) (st' := [.int (iI (-1)), .int (iI 0), .ref 523]) rfl ?_
  have h1675 := (n1672 523 (by decide)).trans ((n1667 523 (by decide)).trans ((n1662 523 (by decide)).trans ((n1656 523 (by decide)).trans ((n1650 523 (by decide)).trans ((n1644 523 (by decide)).trans ((n1638 523 (by decide)).trans ((n1633 523 (by decide)).trans (hA523))))))))
  refine T_ziast xr_38_30 h1675 (pc' := 31) rfl (fun S1676 h1677 n1678 e1679 => ?_)
  refine T_p xr_38_31 xn_38 (pc' := 32) (ls' := [(0, .ref 517), (1, .int (iI (-1))), (2, .int (iI (-1))), (3, .long (iL (k : Int)))]) (st' := [.ref 517]) rfl ?_
  have h1680 := (n1678 517 (by decide)).trans (h1674)
  refine T_get xr_38_32 h1680 rfl (v := .ref 524) rfl (pc' := 35) rfl ?_
  refine T_p xr_38_35 xn_38 (pc' := 36) (ls' := [(0, .ref 517), (1, .int (iI (-1))), (2, .int (iI (-1))), (3, .long (iL (k : Int)))]) (st' := [.ref 517, .ref 524]) rfl ?_
  refine T_get xr_38_36 h1680 rfl (v := .int (iI 1)) rfl (pc' := 39) rfl ?_
  refine T_p xr_38_39 xn_38 (pc' := 40) (ls' := [(0, .ref 517), (1, .int (iI (-1))), (2, .int (iI (-1))), (3, .long (iL (k : Int)))]) (st' := [.int (iI 1), .int (iI 1), .ref 524]) rfl ?_
  refine T_zisub xr_38_40 (z := 0) (by decide) (pc' := 41) rfl ?_
  refine T_p xr_38_41 xn_38 (pc' := 42) (ls' := [(0, .ref 517), (1, .int (iI (-1))), (2, .int (iI (-1))), (3, .long (iL (k : Int)))]) (st' := [.long (iL (k : Int)), .int (iI 0), .ref 524]) rfl ?_
  have h1681 := (n1678 524 (by decide)).trans ((n1672 524 (by decide)).trans ((n1667 524 (by decide)).trans ((n1662 524 (by decide)).trans ((n1656 524 (by decide)).trans ((n1650 524 (by decide)).trans ((n1644 524 (by decide)).trans ((n1638 524 (by decide)).trans ((n1633 524 (by decide)).trans (hA524)))))))))
  refine T_zlast xr_38_42 h1681 (pc' := 43) rfl (fun S1682 h1683 n1684 e1685 => ?_)
  refine T_vret xr_38_43 xf_38.2.2 ?_
  show X_T sc 36 (33, [(0, .ref 517), (1, .long (iL (k : Int)))], [], S1682) _
  refine T_p xr_36_33 xn_36 (pc' := 34) (ls' := [(0, .ref 517), (1, .long (iL (k : Int)))]) (st' := [.int (iI 0)]) rfl ?_
  refine T_p xr_36_34 xn_36 (pc' := 35) (ls' := [(3, .int (iI 0)), (0, .ref 517), (1, .long (iL (k : Int)))]) (st' := []) rfl ?_
  have h1691 := (n1684 517 (by decide)).trans (h1680)
  have h1692 := (n1684 505 (by decide)).trans ((n1678 505 (by decide)).trans ((n1672 505 (by decide)).trans ((n1667 505 (by decide)).trans ((n1662 505 (by decide)).trans ((n1656 505 (by decide)).trans ((n1650 505 (by decide)).trans ((n1644 505 (by decide)).trans ((n1638 505 (by decide)).trans ((n1633 505 (by decide)).trans (hA505))))))))))
  have h1693 := (n1684 506 (by decide)).trans ((n1678 506 (by decide)).trans ((n1672 506 (by decide)).trans ((n1667 506 (by decide)).trans ((n1662 506 (by decide)).trans ((n1656 506 (by decide)).trans ((n1650 506 (by decide)).trans ((n1644 506 (by decide)).trans ((n1638 506 (by decide)).trans ((n1633 506 (by decide)).trans (hA506))))))))))
  have h1694 := (n1684 507 (by decide)).trans ((n1678 507 (by decide)).trans ((n1672 507 (by decide)).trans ((n1667 507 (by decide)).trans ((n1662 507 (by decide)).trans ((n1656 507 (by decide)).trans ((n1650 507 (by decide)).trans ((n1644 507 (by decide)).trans ((n1638 507 (by decide)).trans ((n1633 507 (by decide)).trans (hA507))))))))))
  have h1695 := (n1684 508 (by decide)).trans ((n1678 508 (by decide)).trans ((n1672 508 (by decide)).trans ((n1667 508 (by decide)).trans ((n1662 508 (by decide)).trans ((n1656 508 (by decide)).trans ((n1650 508 (by decide)).trans ((n1644 508 (by decide)).trans ((n1638 508 (by decide)).trans ((n1633 508 (by decide)).trans (hA508))))))))))
  have h1696 := (n1684 509 (by decide)).trans ((n1678 509 (by decide)).trans ((n1672 509 (by decide)).trans ((n1667 509 (by decide)).trans ((n1662 509 (by decide)).trans ((n1656 509 (by decide)).trans ((n1650 509 (by decide)).trans ((n1644 509 (by decide)).trans ((n1638 509 (by decide)).trans ((n1633 509 (by decide)).trans (hA509))))))))))
  have h1697 := (n1684 510 (by decide)).trans ((n1678 510 (by decide)).trans ((n1672 510 (by decide)).trans ((n1667 510 (by decide)).trans ((n1662 510 (by decide)).trans ((n1656 510 (by decide)).trans ((n1650 510 (by decide)).trans ((n1644 510 (by decide)).trans ((n1638 510 (by decide)).trans ((n1633 510 (by decide)).trans (hA510))))))))))
  have h1698 := (n1684 518 (by decide)).trans ((n1678 518 (by decide)).trans ((n1672 518 (by decide)).trans ((n1667 518 (by decide)).trans ((n1662 518 (by decide)).trans ((n1656 518 (by decide)).trans ((n1650 518 (by decide)).trans (h1643)))))))
  have h1699 := (n1684 519 (by decide)).trans ((n1678 519 (by decide)).trans ((n1672 519 (by decide)).trans ((n1667 519 (by decide)).trans ((n1662 519 (by decide)).trans ((n1656 519 (by decide)).trans (h1649))))))
  have h1700 := (n1684 520 (by decide)).trans ((n1678 520 (by decide)).trans ((n1672 520 (by decide)).trans ((n1667 520 (by decide)).trans ((n1662 520 (by decide)).trans (h1655)))))
  have h1701 := (n1684 521 (by decide)).trans ((n1678 521 (by decide)).trans ((n1672 521 (by decide)).trans ((n1667 521 (by decide)).trans (h1661))))
  have h1702 := (n1684 522 (by decide)).trans ((n1678 522 (by decide)).trans (h1671))
  have h1703 := (n1684 523 (by decide)).trans (h1677)
  have h1704 := (n1684 516 (by decide)).trans ((n1678 516 (by decide)).trans ((n1672 516 (by decide)).trans ((n1667 516 (by decide)).trans ((n1662 516 (by decide)).trans ((n1656 516 (by decide)).trans ((n1650 516 (by decide)).trans ((n1644 516 (by decide)).trans ((n1638 516 (by decide)).trans ((n1633 516 (by decide)).trans (hA516))))))))))
  have h1705 := (n1684 525 (by decide)).trans ((n1678 525 (by decide)).trans ((n1672 525 (by decide)).trans ((n1667 525 (by decide)).trans ((n1662 525 (by decide)).trans ((n1656 525 (by decide)).trans ((n1650 525 (by decide)).trans ((n1644 525 (by decide)).trans ((n1638 525 (by decide)).trans ((n1633 525 (by decide)).trans (hA525))))))))))
  have h1706 := (n1684 526 (by decide)).trans ((n1678 526 (by decide)).trans ((n1672 526 (by decide)).trans ((n1667 526 (by decide)).trans ((n1662 526 (by decide)).trans ((n1656 526 (by decide)).trans ((n1650 526 (by decide)).trans ((n1644 526 (by decide)).trans ((n1638 526 (by decide)).trans ((n1633 526 (by decide)).trans (hA526))))))))))
  have h1707 := (n1684 504 (by decide)).trans ((n1678 504 (by decide)).trans ((n1672 504 (by decide)).trans ((n1667 504 (by decide)).trans ((n1662 504 (by decide)).trans ((n1656 504 (by decide)).trans ((n1650 504 (by decide)).trans ((n1644 504 (by decide)).trans ((n1638 504 (by decide)).trans (h1632)))))))))
  have L1686 : ∀ (m1688 : Nat) (S1708 : X_S) (n : Int) (wt1 : Int) (St1 : Int → X_It) (N1 : Int → Int → Int) (nW1 : Int → Int) (nF1 : Int → Int) (nL1 : Int → Int) (nP1 : Int → Int) (nH1 : Int → Int) (nC1 : Int → Int) (fF1 : Int → Int) (fE1 : Int → Int) (fP1 : Int → Int) (fH1 : Int → Int) (fW1 : Int → Int) (fK1 : Int → Int) (fN1 : Int → Int64) (tl1 : Int → Int64) (hF1 : Int → Int) (hE1 : Int → Int) (hO17 : S1708.1 517 = .inr (2, [.ref 511, .ref 501, .ref 504, .int (iI wt1), .ref 518, .ref 519, .ref 520, .ref 521, .ref 522, .ref 523, .ref 524, .ref 525, .ref 526])) (hO04 : S1708.1 504 = .inr (5, [.int (iI n), .ref 505, .ref 506, .ref 507, .ref 508, .ref 509, .ref 510])) (hnW1 : S1708.1 505 = .inl (.int, 30, .inl fun k : Nat => iI (nW1 (k : Int)))) (hnF1 : S1708.1 506 = .inl (.int, 30, .inl fun k : Nat => iI (nF1 (k : Int)))) (hnL1 : S1708.1 507 = .inl (.int, 30, .inl fun k : Nat => iI (nL1 (k : Int)))) (hnP1 : S1708.1 508 = .inl (.int, 30, .inl fun k : Nat => iI (nP1 (k : Int)))) (hnH1 : S1708.1 509 = .inl (.int, 30, .inl fun k : Nat => iI (nH1 (k : Int)))) (hnC1 : S1708.1 510 = .inl (.int, 120, .inl fun k : Nat => iI (nC1 (k : Int)))) (hfF1 : S1708.1 518 = .inl (.int, 30, .inl fun k : Nat => iI (fF1 (k : Int)))) (hfE1 : S1708.1 519 = .inl (.int, 30, .inl fun k : Nat => iI (fE1 (k : Int)))) (hfP1 : S1708.1 520 = .inl (.int, 30, .inl fun k : Nat => iI (fP1 (k : Int)))) (hfH1 : S1708.1 521 = .inl (.int, 30, .inl fun k : Nat => iI (fH1 (k : Int)))) (hfW1 : S1708.1 522 = .inl (.int, 30, .inl fun k : Nat => iI (fW1 (k : Int)))) (hfK1 : S1708.1 523 = .inl (.int, 30, .inl fun k : Nat => iI (fK1 (k : Int)))) (hfN1 : S1708.1 524 = .inl (.long, 30, .inr (.inl fun k : Nat => fN1 (k : Int)))) (htl1 : S1708.1 516 = .inl (.long, 7200, .inr (.inl fun k : Nat => tl1 (k : Int)))) (hhF1 : S1708.1 525 = .inl (.int, 4, .inl fun k : Nat => iI (hF1 (k : Int)))) (hhE1 : S1708.1 526 = .inl (.int, 4, .inl fun k : Nat => iI (hE1 (k : Int)))) (hF1690 : X_Fr (fun q => (504 ≤ q ∧ q ≤ 510) ∨ (516 ≤ q ∧ q ≤ 526)) S1682 S1708) (hn : 0 ≤ n ∧ n ≤ 30) (hX : X_mks G (30 - n).toNat (wt1, St1, n, N1) = X_rd G tn k) (hM : X_Mok G tn (wt1, St1, n, N1)) (hst : F_st G wt1 St1 fF1 fE1 fP1 fH1 fW1 fK1 fN1) (hnd : F_nd n N1 nW1 nF1 nL1 nP1 nH1) (hch : F_ch n N1 nC1) (hm1689 : 30 - n < m1688), X_T sc 36 (35, [(3, .int (iI n)), (0, .ref 517)], [], S1708) Q := by
    intro m1688
    induction m1688 with
    | zero =>
      intro S1708 n wt1 St1 N1 nW1 nF1 nL1 nP1 nH1 nC1 fF1 fE1 fP1 fH1 fW1 fK1 fN1 tl1 hF1 hE1 hO17 hO04 hnW1 hnF1 hnL1 hnP1 hnH1 hnC1 hfF1 hfE1 hfP1 hfH1 hfW1 hfK1 hfN1 htl1 hhF1 hhE1 hF1690 hn hX hM hst hnd hch hm1689
      exact (show False by omega).elim
    | succ m1688 ih1687 =>
      intro S1708 n wt1 St1 N1 nW1 nF1 nL1 nP1 nH1 nC1 fF1 fE1 fP1 fH1 fW1 fK1 fN1 tl1 hF1 hE1 hO17 hO04 hnW1 hnF1 hnL1 hnP1 hnH1 hnC1 hfF1 hfE1 hfP1 hfH1 hfW1 hfK1 hfN1 htl1 hhF1 hhE1 hF1690 hn hX hM hst hnd hch hm1689
      have hle := X_Mok.le hM
      have hw0 : 0 ≤ wt1 := hM.1
      have hM2 : n + (X_Su (X_lw St1) 0 wt1 : Int) ≤ tn := hM.2.2.2
      refine T_p xr_36_35 xn_36 (pc' := 36) (ls' := [(3, .int (iI n)), (0, .ref 517)]) (st' := [.int (iI n)]) rfl ?_
      refine T_p xr_36_36 xn_36 (pc' := 38) (ls' := [(3, .int (iI n)), (0, .ref 517)]) (st' := [.int (iI 30), .int (iI n)]) rfl ?_
      refine T_zicmp_ge xr_36_38 (t := 58) (pc' := 41) rfl rfl (fun c1709 => ?_) (fun c1709 => ?_)
      · skip
        have c1709 : 30 ≤ n := c1709
        refine T_vret xr_36_58 xf_36.2.2 ?_
        refine hQ _ _ ?_
        have he1710 : X_mks G (30 - n).toNat (wt1, St1, n, N1) = (wt1, St1, n, N1) := by
          first
            | exact X_mks_e (show wt1 ≤ 0 by omega)
            | (rw [show (30 - n).toNat = 0 by omega]; rfl)
        have hle := X_Mok.le hM
        have hM2 : n + (X_Su (X_lw St1) 0 wt1 : Int) ≤ tn := hM.2.2.2
        exact ⟨wt1, n, St1, N1, nW1, nF1, nL1, nP1, nH1, nC1, fF1, fE1, fP1, fH1, fW1, fK1, fN1, tl1, hF1, hE1, rfl, (hX.symm.trans he1710), (by omega), hnd, hch, hO17, hO04, hnW1, hnF1, hnL1, hnP1, hnH1, hnC1, hfF1, hfE1, hfP1, hfH1, hfW1, hfK1, hfN1, htl1, hhF1, hhE1, (((((((((((X_Fr.rf).tr (X_Fr.of n1633 e1634 (by omega))).tr (X_Fr.of n1638 e1639 (by omega))).tr (X_Fr.of n1644 e1645 (by omega))).tr (X_Fr.of n1650 e1651 (by omega))).tr (X_Fr.of n1656 e1657 (by omega))).tr (X_Fr.of n1662 e1663 (by omega))).tr (X_Fr.of n1667 e1668 (by omega))).tr (X_Fr.of n1672 e1673 (by omega))).tr (X_Fr.of n1678 e1679 (by omega))).tr (X_Fr.of n1684 e1685 (by omega))).tr (X_Fr.mono ⟨hF1690.1, hF1690.2⟩ (fun q hq => (by omega)))⟩
      · skip
        have c1709 : ¬ (30 ≤ n) := c1709
        refine T_p xr_36_41 xn_36 (pc' := 42) (ls' := [(3, .int (iI n)), (0, .ref 517)]) (st' := [.ref 517]) rfl ?_
        refine T_get xr_36_42 hO17 rfl (v := .int (iI wt1)) rfl (pc' := 45) rfl ?_
        refine T_zif_le xr_36_45 (t := 58) (pc' := 48) rfl rfl (fun c1711 => ?_) (fun c1711 => ?_)
        · skip
          have c1711 : wt1 ≤ 0 := c1711
          refine T_vret xr_36_58 xf_36.2.2 ?_
          refine hQ _ _ ?_
          have he1712 : X_mks G (30 - n).toNat (wt1, St1, n, N1) = (wt1, St1, n, N1) := by
            first
              | exact X_mks_e (show wt1 ≤ 0 by omega)
              | (rw [show (30 - n).toNat = 0 by omega]; rfl)
          have hle := X_Mok.le hM
          have hM2 : n + (X_Su (X_lw St1) 0 wt1 : Int) ≤ tn := hM.2.2.2
          exact ⟨wt1, n, St1, N1, nW1, nF1, nL1, nP1, nH1, nC1, fF1, fE1, fP1, fH1, fW1, fK1, fN1, tl1, hF1, hE1, rfl, (hX.symm.trans he1712), (by omega), hnd, hch, hO17, hO04, hnW1, hnF1, hnL1, hnP1, hnH1, hnC1, hfF1, hfE1, hfP1, hfH1, hfW1, hfK1, hfN1, htl1, hhF1, hhE1, (((((((((((X_Fr.rf).tr (X_Fr.of n1633 e1634 (by omega))).tr (X_Fr.of n1638 e1639 (by omega))).tr (X_Fr.of n1644 e1645 (by omega))).tr (X_Fr.of n1650 e1651 (by omega))).tr (X_Fr.of n1656 e1657 (by omega))).tr (X_Fr.of n1662 e1663 (by omega))).tr (X_Fr.of n1667 e1668 (by omega))).tr (X_Fr.of n1672 e1673 (by omega))).tr (X_Fr.of n1678 e1679 (by omega))).tr (X_Fr.of n1684 e1685 (by omega))).tr (X_Fr.mono ⟨hF1690.1, hF1690.2⟩ (fun q hq => (by omega)))⟩
        · skip
          have c1711 : ¬ (wt1 ≤ 0) := c1711
          refine T_p xr_36_48 xn_36 (pc' := 49) (ls' := [(3, .int (iI n)), (0, .ref 517)]) (st' := [.ref 517]) rfl ?_
          refine T_cv (S := S1708) (q := 517) xr_36_49 xf_39.1 xf_39.2.1 xn_39 (as := []) (r := []) rfl hO17 (Nat.le_of_ble_eq_true rfl) (Nat.le_of_ble_eq_true rfl) (pc' := 52) rfl (ls' := [(0, .ref 517)]) rfl ?_
          have h1713 := (hF1690.1 512 (by omega)).trans ((n1684 512 (by decide)).trans ((n1678 512 (by decide)).trans ((n1672 512 (by decide)).trans ((n1667 512 (by decide)).trans ((n1662 512 (by decide)).trans ((n1656 512 (by decide)).trans ((n1650 512 (by decide)).trans ((n1644 512 (by decide)).trans ((n1638 512 (by decide)).trans ((n1633 512 (by decide)).trans (hA512)))))))))))
          have h1714 := (hF1690.1 513 (by omega)).trans ((n1684 513 (by decide)).trans ((n1678 513 (by decide)).trans ((n1672 513 (by decide)).trans ((n1667 513 (by decide)).trans ((n1662 513 (by decide)).trans ((n1656 513 (by decide)).trans ((n1650 513 (by decide)).trans ((n1644 513 (by decide)).trans ((n1638 513 (by decide)).trans ((n1633 513 (by decide)).trans (hA513)))))))))))
          have h1715 := (hF1690.1 514 (by omega)).trans ((n1684 514 (by decide)).trans ((n1678 514 (by decide)).trans ((n1672 514 (by decide)).trans ((n1667 514 (by decide)).trans ((n1662 514 (by decide)).trans ((n1656 514 (by decide)).trans ((n1650 514 (by decide)).trans ((n1644 514 (by decide)).trans ((n1638 514 (by decide)).trans ((n1633 514 (by decide)).trans (hA514)))))))))))
          have h1716 := (hF1690.1 515 (by omega)).trans ((n1684 515 (by decide)).trans ((n1678 515 (by decide)).trans ((n1672 515 (by decide)).trans ((n1667 515 (by decide)).trans ((n1662 515 (by decide)).trans ((n1656 515 (by decide)).trans ((n1650 515 (by decide)).trans ((n1644 515 (by decide)).trans ((n1638 515 (by decide)).trans ((n1633 515 (by decide)).trans (hA515)))))))))))
          have h1717 := (hF1690.1 501 (by omega)).trans ((n1684 501 (by decide)).trans ((n1678 501 (by decide)).trans ((n1672 501 (by decide)).trans ((n1667 501 (by decide)).trans ((n1662 501 (by decide)).trans ((n1656 501 (by decide)).trans ((n1650 501 (by decide)).trans ((n1644 501 (by decide)).trans (h1640)))))))))
          have h1718 := (hF1690.1 511 (by omega)).trans ((n1684 511 (by decide)).trans ((n1678 511 (by decide)).trans ((n1672 511 (by decide)).trans ((n1667 511 (by decide)).trans ((n1662 511 (by decide)).trans ((n1656 511 (by decide)).trans ((n1650 511 (by decide)).trans ((n1644 511 (by decide)).trans ((n1638 511 (by decide)).trans ((n1633 511 (by decide)).trans (hO511)))))))))))
          have h1719 := (hF1690.1 B (by omega)).trans ((n1684 B (by omega)).trans ((n1678 B (by omega)).trans ((n1672 B (by omega)).trans ((n1667 B (by omega)).trans ((n1662 B (by omega)).trans ((n1656 B (by omega)).trans ((n1650 B (by omega)).trans ((n1644 B (by omega)).trans ((n1638 B (by omega)).trans ((n1633 B (by omega)).trans (hb0)))))))))))
          have h1720 := (hF1690.1 (B + 1) (by omega)).trans ((n1684 (B + 1) (by omega)).trans ((n1678 (B + 1) (by omega)).trans ((n1672 (B + 1) (by omega)).trans ((n1667 (B + 1) (by omega)).trans ((n1662 (B + 1) (by omega)).trans ((n1656 (B + 1) (by omega)).trans ((n1650 (B + 1) (by omega)).trans ((n1644 (B + 1) (by omega)).trans ((n1638 (B + 1) (by omega)).trans ((n1633 (B + 1) (by omega)).trans (hb1)))))))))))
          have h1721 := (hF1690.1 (B + 2) (by omega)).trans ((n1684 (B + 2) (by omega)).trans ((n1678 (B + 2) (by omega)).trans ((n1672 (B + 2) (by omega)).trans ((n1667 (B + 2) (by omega)).trans ((n1662 (B + 2) (by omega)).trans ((n1656 (B + 2) (by omega)).trans ((n1650 (B + 2) (by omega)).trans ((n1644 (B + 2) (by omega)).trans ((n1638 (B + 2) (by omega)).trans ((n1633 (B + 2) (by omega)).trans (hb2)))))))))))
          have h1722 := (hF1690.1 (B + 3) (by omega)).trans ((n1684 (B + 3) (by omega)).trans ((n1678 (B + 3) (by omega)).trans ((n1672 (B + 3) (by omega)).trans ((n1667 (B + 3) (by omega)).trans ((n1662 (B + 3) (by omega)).trans ((n1656 (B + 3) (by omega)).trans ((n1650 (B + 3) (by omega)).trans ((n1644 (B + 3) (by omega)).trans ((n1638 (B + 3) (by omega)).trans ((n1633 (B + 3) (by omega)).trans (hb3)))))))))))
          have h1723 := (hF1690.1 (B + 4) (by omega)).trans ((n1684 (B + 4) (by omega)).trans ((n1678 (B + 4) (by omega)).trans ((n1672 (B + 4) (by omega)).trans ((n1667 (B + 4) (by omega)).trans ((n1662 (B + 4) (by omega)).trans ((n1656 (B + 4) (by omega)).trans ((n1650 (B + 4) (by omega)).trans ((n1644 (B + 4) (by omega)).trans ((n1638 (B + 4) (by omega)).trans ((n1633 (B + 4) (by omega)).trans (hb4)))))))))))
          have h1724 := (hF1690.1 (B + 5) (by omega)).trans ((n1684 (B + 5) (by omega)).trans ((n1678 (B + 5) (by omega)).trans ((n1672 (B + 5) (by omega)).trans ((n1667 (B + 5) (by omega)).trans ((n1662 (B + 5) (by omega)).trans ((n1656 (B + 5) (by omega)).trans ((n1650 (B + 5) (by omega)).trans ((n1644 (B + 5) (by omega)).trans ((n1638 (B + 5) (by omega)).trans ((n1633 (B + 5) (by omega)).trans (hb5)))))))))))
          have hs1725 : C_ws S1708 B (gD G) (gW G) := C_ws.fr (P := fun q => 501 ≤ q ∧ q ≤ 529) hs ((((((((((((X_Fr.rf).tr (X_Fr.of n1633 e1634 (by omega))).tr (X_Fr.of n1638 e1639 (by omega))).tr (X_Fr.of n1644 e1645 (by omega))).tr (X_Fr.of n1650 e1651 (by omega))).tr (X_Fr.of n1656 e1657 (by omega))).tr (X_Fr.of n1662 e1663 (by omega))).tr (X_Fr.of n1667 e1668 (by omega))).tr (X_Fr.of n1672 e1673 (by omega))).tr (X_Fr.of n1678 e1679 (by omega))).tr (X_Fr.of n1684 e1685 (by omega))).tr (X_Fr.mono ⟨hF1690.1, hF1690.2⟩ (fun q hq => (by omega)))) (fun k h1 h2 => by omega)
          have h1726 := (hF1690.1 502 (by omega)).trans ((n1684 502 (by decide)).trans ((n1678 502 (by decide)).trans ((n1672 502 (by decide)).trans ((n1667 502 (by decide)).trans ((n1662 502 (by decide)).trans ((n1656 502 (by decide)).trans ((n1650 502 (by decide)).trans ((n1644 502 (by decide)).trans ((n1638 502 (by decide)).trans ((n1633 502 (by decide)).trans (hA502)))))))))))
          refine T_mono (c_makeNode sc S1708 oK oW oA oH tl1 nW1 nF1 nL1 nP1 nH1 nC1 fF1 fE1 fP1 fH1 fW1 fK1 fN1 hF1 hE1 B rc rn kn G tn fl wt1 n N1 St1 h1717 h1718 hO17 hO04 h1713 h1714 h1715 h1716 htl1 hnW1 hnF1 hnL1 hnP1 hnH1 hnC1 hfF1 hfE1 hfP1 hfH1 hfW1 hfK1 hfN1 hhF1 hhE1 hB ⟨h1719, h1720, h1721, h1722, h1723, ⟨f, h1724, hf⟩, ⟨by omega, by omega⟩, ⟨by omega, by omega⟩, ⟨by omega, by omega⟩⟩ hs1725 hG (by omega) h1726 hcht hM (by omega) hst hnd hch) (fun v1727 S1728 h1729 => ?_)
          rcases h1729 with ⟨r1730, St1731, N1732, nW1733, nF1734, nL1735, nP1736, nH1737, nC1738, fF1739, fE1740, fP1741, fH1742, fW1743, fK1744, fN1745, tl1746, hF1747, hE1748, hv1749, hp1750, hp1751, hp1752, hp1753, hp1754, ho1755, ho1756, ha1757, ha1758, ha1759, ha1760, ha1761, ha1762, ha1763, ha1764, ha1765, ha1766, ha1767, ha1768, ha1769, ha1770, ha1771, ha1772, hf1773⟩
          rw [hv1749]
          show X_T sc 36 (52, [(3, .int (iI n)), (0, .ref 517)], [], S1728) _
          refine T_ziinc xr_36_52 xn_36 (a := n) (z := n + 1) rfl (Nat.le_of_ble_eq_true rfl) (by omega) (ls' := [(3, .int (iI (n + 1))), (0, .ref 517)]) rfl (pc' := 55) rfl ?_
          refine T_p xr_36_55 xn_36 (pc' := 35) (ls' := [(3, .int (iI (n + 1))), (0, .ref 517)]) (st' := []) rfl ?_
          exact ih1687 S1728 (n + 1) r1730 St1731 N1732 nW1733 nF1734 nL1735 nP1736 nH1737 nC1738 fF1739 fE1740 fP1741 fH1742 fW1743 fK1744 fN1745 tl1746 hF1747 hE1748 ho1755 ho1756 ha1757 ha1758 ha1759 ha1760 ha1761 ha1762 ha1763 ha1764 ha1765 ha1766 ha1767 ha1768 ha1769 ha1770 ha1771 ha1772 (hF1690.tr ((X_Fr.rf).tr (X_Fr.mono ⟨hf1773.1, hf1773.2⟩ (fun q hq => (by omega))))) (by omega) ((X_mks_s (s := (wt1, St1, n, N1)) (show 0 < wt1 by omega) (by omega) hp1750).symm.trans hX) hp1751 hp1752 hp1753 hp1754 (by omega)
  refine T_sub (ls := [(3, .int (iI 0)), (0, .ref 517)]) ⟨rfl, rfl, trivial⟩ rfl rfl ?_
  exact L1686 ((30 : Int) + 1).toNat S1682 0 1 (fun _ => (0, tn, -1, -1, 0, 0, 0, k)) (fun _ _ => 0) nW nF nL nP nH nC (X_ug fF 0 0) (X_ug fE 0 tn) (X_ug fP 0 (-1)) (X_ug fH 0 (-1)) (X_ug fW 0 (-1)) (X_ug fK 0 (-1)) (X_ug fN 0 (iL (k : Int))) tl hF hE h1691 h1707 h1692 h1693 h1694 h1695 h1696 h1697 h1698 h1699 h1700 h1701 h1702 h1703 h1683 h1704 h1705 h1706 ((X_Fr.rf)) (by omega) rfl (X_Mok_0 hG htn hk hkm) (fun q h1 h2 => by
        obtain rfl : q = 0 := by omega
        refine ⟨X_ug_s _ _ _, X_ug_s _ _ _, X_ug_s _ _ _, X_ug_s _ _ _, fun v g1 g2 => ?_, fun z g1 g2 => ?_, X_ug_s _ _ _⟩
        · rw [X_ug_s]; exact ⟨fun _ => ⟨(hG.2.2.1.1 _ (hG.kd v g1 g2).1 (hG.kd v g1 g2).2).1, Or.inl rfl⟩, fun _ => X_bt_m v (by omega)⟩
        · rw [X_ug_s]; exact ⟨fun _ => (hG.2.2.1.1 z g1 g2).1, fun _ => X_bt_m z (by omega)⟩) (fun n h1 h2 => absurd h2 (by omega)) (fun p h h1 h2 h3 h4 => absurd rfl h4) (by omega)
