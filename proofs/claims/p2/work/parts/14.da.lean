theorem xr_40_0 : X_row 40 0 = some (0, (.aload_n 0, 1), (0, 0, 0)) := by decide +kernel
theorem xr_40_1 : X_row 40 1 = some (1, (.getfield 52, 3), (2, 2, 22)) := by decide +kernel
theorem xr_40_4 : X_row 40 4 = some (4, (.invokevirtual 56, 3), (83, 0, 0)) := by decide +kernel
theorem xr_40_7 : X_row 40 7 = some (7, (.aload_n 0, 1), (0, 0, 0)) := by decide +kernel
theorem xr_40_8 : X_row 40 8 = some (8, (.iconst 0, 1), (0, 0, 0)) := by decide +kernel
theorem xr_40_9 : X_row 40 9 = some (9, (.putfield 9, 3), (2, 3, 24)) := by decide +kernel
theorem xr_40_12 : X_row 40 12 = some (12, (.aload_n 0, 1), (0, 0, 0)) := by decide +kernel
theorem xr_40_13 : X_row 40 13 = some (13, (.iconst 0, 1), (0, 0, 0)) := by decide +kernel
theorem xr_40_14 : X_row 40 14 = some (14, (.aload_n 0, 1), (0, 0, 0)) := by decide +kernel
theorem xr_40_15 : X_row 40 15 = some (15, (.getfield 48, 3), (2, 1, 20)) := by decide +kernel
theorem xr_40_18 : X_row 40 18 = some (18, (.getfield 61, 3), (6, 0, 15)) := by decide +kernel
theorem xr_40_21 : X_row 40 21 = some (21, (.iconst (-1), 1), (0, 0, 0)) := by decide +kernel
theorem xr_40_22 : X_row 40 22 = some (22, (.iconst (-1), 1), (0, 0, 0)) := by decide +kernel
theorem xr_40_23 : X_row 40 23 = some (23, (.invokevirtual 66, 3), (41, 2, 0)) := by decide +kernel
theorem xr_40_26 : X_row 40 26 = some (26, (.aload_n 0, 1), (0, 0, 0)) := by decide +kernel
theorem xr_40_27 : X_row 40 27 = some (27, (.iconst (-1), 1), (0, 0, 0)) := by decide +kernel
theorem xr_40_28 : X_row 40 28 = some (28, (.iconst (-1), 1), (0, 0, 0)) := by decide +kernel
theorem xr_40_29 : X_row 40 29 = some (29, (.lload_n 1, 1), (0, 0, 0)) := by decide +kernel
theorem xr_40_30 : X_row 40 30 = some (30, (.invokevirtual 70, 3), (42, 4, 0)) := by decide +kernel
theorem xr_40_33 : X_row 40 33 = some (33, (.iconst 0, 1), (0, 0, 0)) := by decide +kernel
theorem xr_40_34 : X_row 40 34 = some (34, (.istore_n 3, 1), (0, 0, 0)) := by decide +kernel
theorem xr_40_35 : X_row 40 35 = some (35, (.iload_n 3, 1), (0, 0, 0)) := by decide +kernel
theorem xr_40_36 : X_row 40 36 = some (36, (.bipush 30, 2), (0, 0, 0)) := by decide +kernel
theorem xr_40_38 : X_row 40 38 = some (38, (.if_icmp .ge 20, 3), (0, 0, 0)) := by decide +kernel
theorem xr_40_41 : X_row 40 41 = some (41, (.aload_n 0, 1), (0, 0, 0)) := by decide +kernel
theorem xr_40_42 : X_row 40 42 = some (42, (.getfield 9, 3), (2, 3, 24)) := by decide +kernel
theorem xr_40_45 : X_row 40 45 = some (45, (.ifCond .le 13, 3), (0, 0, 0)) := by decide +kernel
theorem xr_40_48 : X_row 40 48 = some (48, (.aload_n 0, 1), (0, 0, 0)) := by decide +kernel
theorem xr_40_49 : X_row 40 49 = some (49, (.invokevirtual 74, 3), (43, 6, 0)) := by decide +kernel
theorem xr_40_52 : X_row 40 52 = some (52, (.iinc 3 1, 3), (0, 0, 0)) := by decide +kernel
theorem xr_40_55 : X_row 40 55 = some (55, (.goto (-20), 3), (0, 0, 0)) := by decide +kernel
theorem xr_40_58 : X_row 40 58 = some (58, (.return_, 1), (0, 0, 0)) := by decide +kernel
theorem xr_83_0 : X_row 83 0 = some (0, (.aload_n 0, 1), (0, 0, 0)) := by decide +kernel
theorem xr_83_1 : X_row 83 1 = some (1, (.iconst 0, 1), (0, 0, 0)) := by decide +kernel
theorem xr_83_2 : X_row 83 2 = some (2, (.putfield 9, 3), (5, 0, 0)) := by decide +kernel
theorem xr_83_5 : X_row 83 5 = some (5, (.return_, 1), (0, 0, 0)) := by decide +kernel
theorem xn_40 : X_nL 40 = 4 := by decide +kernel
theorem xf_40 : X_na 40 = 1 ∧ X_ci 40 = 2 ∧ X_rt 40 = none := by decide +kernel
theorem xn_83 : X_nL 83 = 1 := by decide +kernel
theorem xf_83 : X_na 83 = 0 ∧ X_ci 83 = 5 ∧ X_rt 83 = none := by decide +kernel
set_option maxHeartbeats 3000000 in
theorem c_find (sc : X_Sc) (S : X_S) (oK : Int → Int64) (oW : Int → Int64) (oA : Int → Int64) (oH : Int → Int64) (tl : Int → Int64) (nW : Int → Int) (nF : Int → Int) (nL : Int → Int) (nP : Int → Int) (nH : Int → Int) (nC : Int → Int) (fF : Int → Int) (fE : Int → Int) (fP : Int → Int) (fH : Int → Int) (fW : Int → Int) (fK : Int → Int) (fN : Int → Int64) (hF : Int → Int) (hE : Int → Int) (B : Nat) (rc : Int) (rn : Int → Int64) (kn : Int → Int64) (G : X_G) (tn : Int) (fl : Int) (wt : Int) (nc : Int) (k : Nat) (hO501 : S.1 501 = .inr (6, [.int (iI tn), .ref 502, .ref 503])) (hO511 : S.1 511 = .inr (1, [.ref B, .ref 501, .int (iI fl), .ref 512, .ref 513, .ref 514, .ref 515, .ref 516])) (hO517 : S.1 517 = .inr (2, [.ref 511, .ref 501, .ref 504, .int (iI wt), .ref 518, .ref 519, .ref 520, .ref 521, .ref 522, .ref 523, .ref 524, .ref 525, .ref 526])) (hO504 : S.1 504 = .inr (5, [.int (iI nc), .ref 505, .ref 506, .ref 507, .ref 508, .ref 509, .ref 510])) (hA512 : S.1 512 = .inl (.long, 5115, .inr (.inl fun k : Nat => oK (k : Int)))) (hA513 : S.1 513 = .inl (.long, 13950, .inr (.inl fun k : Nat => oW (k : Int)))) (hA514 : S.1 514 = .inl (.long, 465, .inr (.inl fun k : Nat => oA (k : Int)))) (hA515 : S.1 515 = .inl (.long, 55800, .inr (.inl fun k : Nat => oH (k : Int)))) (hA516 : S.1 516 = .inl (.long, 7200, .inr (.inl fun k : Nat => tl (k : Int)))) (hA505 : S.1 505 = .inl (.int, 30, .inl fun k : Nat => iI (nW (k : Int)))) (hA506 : S.1 506 = .inl (.int, 30, .inl fun k : Nat => iI (nF (k : Int)))) (hA507 : S.1 507 = .inl (.int, 30, .inl fun k : Nat => iI (nL (k : Int)))) (hA508 : S.1 508 = .inl (.int, 30, .inl fun k : Nat => iI (nP (k : Int)))) (hA509 : S.1 509 = .inl (.int, 30, .inl fun k : Nat => iI (nH (k : Int)))) (hA510 : S.1 510 = .inl (.int, 120, .inl fun k : Nat => iI (nC (k : Int)))) (hA518 : S.1 518 = .inl (.int, 30, .inl fun k : Nat => iI (fF (k : Int)))) (hA519 : S.1 519 = .inl (.int, 30, .inl fun k : Nat => iI (fE (k : Int)))) (hA520 : S.1 520 = .inl (.int, 30, .inl fun k : Nat => iI (fP (k : Int)))) (hA521 : S.1 521 = .inl (.int, 30, .inl fun k : Nat => iI (fH (k : Int)))) (hA522 : S.1 522 = .inl (.int, 30, .inl fun k : Nat => iI (fW (k : Int)))) (hA523 : S.1 523 = .inl (.int, 30, .inl fun k : Nat => iI (fK (k : Int)))) (hA524 : S.1 524 = .inl (.long, 30, .inr (.inl fun k : Nat => fN (k : Int)))) (hA525 : S.1 525 = .inl (.int, 4, .inl fun k : Nat => iI (hF (k : Int)))) (hA526 : S.1 526 = .inl (.int, 4, .inl fun k : Nat => iI (hE (k : Int)))) (hB : B = 4 ∨ B = 250) (hb : C_bk S B rc (gk G) (gw G) rn (gl G) kn (ga G)) (hs : C_ws S B (gD G) (gW G)) (hG : X_Gok G) (htn : 1 ≤ tn ∧ tn ≤ 30) (hA502 : S.1 502 = .inl (.long, 30, .inr (.inl fun k : Nat => (gt G) (k : Int)))) (hcht : X_cht G (-2) tn oK oW oA oH) (hk : k < X_all G 0 tn) (hkm : k ≤ 9223372036854775807) : X_T sc 40 (0, [(0, .ref 517), (1, .long (iL (k : Int)))], [], S) (fun v S' => ∃ (r1 : Int) (nc1 : Int) (St1 : Int → X_It) (N1 : Int → Int → Int) (nW1 : Int → Int) (nF1 : Int → Int) (nL1 : Int → Int) (nP1 : Int → Int) (nH1 : Int → Int) (nC1 : Int → Int) (fF1 : Int → Int) (fE1 : Int → Int) (fP1 : Int → Int) (fH1 : Int → Int) (fW1 : Int → Int) (fK1 : Int → Int) (fN1 : Int → Int64) (tl1 : Int → Int64) (hF1 : Int → Int) (hE1 : Int → Int), v = none ∧ X_rd G tn k = (r1, St1, nc1, N1) ∧ (r1 ≤ 0 ∧ 0 ≤ nc1 ∧ nc1 ≤ tn) ∧ F_nd nc1 N1 nW1 nF1 nL1 nP1 nH1 ∧ F_ch nc1 N1 nC1 ∧ S'.1 517 = .inr (2, [.ref 511, .ref 501, .ref 504, .int (iI r1), .ref 518, .ref 519, .ref 520, .ref 521, .ref 522, .ref 523, .ref 524, .ref 525, .ref 526]) ∧ S'.1 504 = .inr (5, [.int (iI nc1), .ref 505, .ref 506, .ref 507, .ref 508, .ref 509, .ref 510]) ∧ S'.1 505 = .inl (.int, 30, .inl fun k : Nat => iI (nW1 (k : Int))) ∧ S'.1 506 = .inl (.int, 30, .inl fun k : Nat => iI (nF1 (k : Int))) ∧ S'.1 507 = .inl (.int, 30, .inl fun k : Nat => iI (nL1 (k : Int))) ∧ S'.1 508 = .inl (.int, 30, .inl fun k : Nat => iI (nP1 (k : Int))) ∧ S'.1 509 = .inl (.int, 30, .inl fun k : Nat => iI (nH1 (k : Int))) ∧ S'.1 510 = .inl (.int, 120, .inl fun k : Nat => iI (nC1 (k : Int))) ∧ S'.1 518 = .inl (.int, 30, .inl fun k : Nat => iI (fF1 (k : Int))) ∧ S'.1 519 = .inl (.int, 30, .inl fun k : Nat => iI (fE1 (k : Int))) ∧ S'.1 520 = .inl (.int, 30, .inl fun k : Nat => iI (fP1 (k : Int))) ∧ S'.1 521 = .inl (.int, 30, .inl fun k : Nat => iI (fH1 (k : Int))) ∧ S'.1 522 = .inl (.int, 30, .inl fun k : Nat => iI (fW1 (k : Int))) ∧ S'.1 523 = .inl (.int, 30, .inl fun k : Nat => iI (fK1 (k : Int))) ∧ S'.1 524 = .inl (.long, 30, .inr (.inl fun k : Nat => fN1 (k : Int))) ∧ S'.1 516 = .inl (.long, 7200, .inr (.inl fun k : Nat => tl1 (k : Int))) ∧ S'.1 525 = .inl (.int, 4, .inl fun k : Nat => iI (hF1 (k : Int))) ∧ S'.1 526 = .inl (.int, 4, .inl fun k : Nat => iI (hE1 (k : Int))) ∧ (X_Fr (fun q => (504 ≤ q ∧ q ≤ 510) ∨ (516 ≤ q ∧ q ≤ 526)) S S')) := by
  obtain ⟨hb0, hb1, hb2, hb3, hb4, ⟨f, hb5, hf⟩, ⟨hrc, hrcb⟩, ⟨hkc, hkcb⟩, ⟨hwc, hwcb⟩⟩ := id hb
  refine X_QI (fun Q hQ => ?_)
  refine T_p xr_40_0 xn_40 (pc' := 1) (ls' := [(0, .ref 517), (1, .long (iL (k : Int)))]) (st' := [.ref 517]) rfl ?_
  refine T_get xr_40_1 hO517 rfl (v := .ref 504) rfl (pc' := 4) rfl ?_
  refine T_cv (S := S) (q := 504) xr_40_4 xf_83.1 xf_83.2.1 xn_83 (as := []) (r := []) rfl hO504 (Nat.le_of_ble_eq_true rfl) (Nat.le_of_ble_eq_true rfl) (pc' := 7) rfl (ls' := [(0, .ref 504)]) rfl ?_
  refine T_p xr_83_0 xn_83 (pc' := 1) (ls' := [(0, .ref 504)]) (st' := [.ref 504]) rfl ?_
  refine T_p xr_83_1 xn_83 (pc' := 2) (ls' := [(0, .ref 504)]) (st' := [.int (iI 0), .ref 504]) rfl ?_
  refine T_put xr_83_2 hO504 rfl (Nat.le_of_ble_eq_true rfl) rfl (fs' := [.int (iI 0), .ref 505, .ref 506, .ref 507, .ref 508, .ref 509, .ref 510]) rfl (pc' := 5) rfl (fun S1732 h1733 n1734 e1735 => ?_)
  refine T_vret xr_83_5 xf_83.2.2 ?_
  show X_T sc 40 (7, [(0, .ref 517), (1, .long (iL (k : Int)))], [], S1732) _
  refine T_p xr_40_7 xn_40 (pc' := 8) (ls' := [(0, .ref 517), (1, .long (iL (k : Int)))]) (st' := [.ref 517]) rfl ?_
  refine T_p xr_40_8 xn_40 (pc' := 9) (ls' := [(0, .ref 517), (1, .long (iL (k : Int)))]) (st' := [.int (iI 0), .ref 517]) rfl ?_
  have h1736 := (n1734 517 (by decide)).trans (hO517)
  refine T_put xr_40_9 h1736 rfl (Nat.le_of_ble_eq_true rfl) rfl (fs' := [.ref 511, .ref 501, .ref 504, .int (iI 0), .ref 518, .ref 519, .ref 520, .ref 521, .ref 522, .ref 523, .ref 524, .ref 525, .ref 526]) rfl (pc' := 12) rfl (fun S1737 h1738 n1739 e1740 => ?_)
  refine T_p xr_40_12 xn_40 (pc' := 13) (ls' := [(0, .ref 517), (1, .long (iL (k : Int)))]) (st' := [.ref 517]) rfl ?_
  refine T_p xr_40_13 xn_40 (pc' := 14) (ls' := [(0, .ref 517), (1, .long (iL (k : Int)))]) (st' := [.int (iI 0), .ref 517]) rfl ?_
  refine T_p xr_40_14 xn_40 (pc' := 15) (ls' := [(0, .ref 517), (1, .long (iL (k : Int)))]) (st' := [.ref 517, .int (iI 0), .ref 517]) rfl ?_
  refine T_get xr_40_15 h1738 rfl (v := .ref 501) rfl (pc' := 18) rfl ?_
  have h1741 := (n1739 501 (by decide)).trans ((n1734 501 (by decide)).trans (hO501))
  refine T_get xr_40_18 h1741 rfl (v := .int (iI tn)) rfl (pc' := 21) rfl ?_
  refine T_p xr_40_21 xn_40 (pc' := 22) (ls' := [(0, .ref 517), (1, .long (iL (k : Int)))]) (st' := [.int (iI (-1)), .int (iI tn), .int (iI 0), .ref 517]) rfl ?_
  refine T_p xr_40_22 xn_40 (pc' := 23) (ls' := [(0, .ref 517), (1, .long (iL (k : Int)))]) (st' := [.int (iI (-1)), .int (iI (-1)), .int (iI tn), .int (iI 0), .ref 517]) rfl ?_
  refine T_cv (S := S1737) (q := 517) xr_40_23 xf_41.1 xf_41.2.1 xn_41 (as := [.int (iI 0), .int (iI tn), .int (iI (-1)), .int (iI (-1))]) (r := []) rfl h1738 (Nat.le_of_ble_eq_true rfl) (Nat.le_of_ble_eq_true rfl) (pc' := 26) rfl (ls' := [(0, .ref 517), (1, .int (iI 0)), (2, .int (iI tn)), (3, .int (iI (-1))), (4, .int (iI (-1)))]) rfl ?_
  refine T_p xr_41_0 xn_41 (pc' := 1) (ls' := [(0, .ref 517), (1, .int (iI 0)), (2, .int (iI tn)), (3, .int (iI (-1))), (4, .int (iI (-1)))]) (st' := [.ref 517]) rfl ?_
  refine T_get xr_41_1 h1738 rfl (v := .int (iI 0)) rfl (pc' := 4) rfl ?_
  refine T_p xr_41_4 xn_41 (pc' := 6) (ls' := [(0, .ref 517), (1, .int (iI 0)), (2, .int (iI tn)), (3, .int (iI (-1))), (4, .int (iI (-1)))]) (st' := [.int (iI 30), .int (iI 0)]) rfl ?_
  refine T_zicmp_gef xr_41_6 (t := 60) (pc' := 9) rfl rfl (by decide) ?_
  refine T_p xr_41_9 xn_41 (pc' := 10) (ls' := [(0, .ref 517), (1, .int (iI 0)), (2, .int (iI tn)), (3, .int (iI (-1))), (4, .int (iI (-1)))]) (st' := [.ref 517]) rfl ?_
  refine T_get xr_41_10 h1738 rfl (v := .ref 518) rfl (pc' := 13) rfl ?_
  refine T_p xr_41_13 xn_41 (pc' := 14) (ls' := [(0, .ref 517), (1, .int (iI 0)), (2, .int (iI tn)), (3, .int (iI (-1))), (4, .int (iI (-1)))]) (st' := [.ref 517, .ref 518]) rfl ?_
  refine T_get xr_41_14 h1738 rfl (v := .int (iI 0)) rfl (pc' := 17) rfl ?_
  refine T_p xr_41_17 xn_41 (pc' := 18) (ls' := [(0, .ref 517), (1, .int (iI 0)), (2, .int (iI tn)), (3, .int (iI (-1))), (4, .int (iI (-1)))]) (st' := [.int (iI 0), .int (iI 0), .ref 518]) rfl ?_
  have h1742 := (n1739 518 (by decide)).trans ((n1734 518 (by decide)).trans (hA518))
  refine T_ziast xr_41_18 h1742 (pc' := 19) rfl (fun S1743 h1744 n1745 e1746 => ?_)
  refine T_p xr_41_19 xn_41 (pc' := 20) (ls' := [(0, .ref 517), (1, .int (iI 0)), (2, .int (iI tn)), (3, .int (iI (-1))), (4, .int (iI (-1)))]) (st' := [.ref 517]) rfl ?_
  have h1747 := (n1745 517 (by decide)).trans (h1738)
  refine T_get xr_41_20 h1747 rfl (v := .ref 519) rfl (pc' := 23) rfl ?_
  refine T_p xr_41_23 xn_41 (pc' := 24) (ls' := [(0, .ref 517), (1, .int (iI 0)), (2, .int (iI tn)), (3, .int (iI (-1))), (4, .int (iI (-1)))]) (st' := [.ref 517, .ref 519]) rfl ?_
  refine T_get xr_41_24 h1747 rfl (v := .int (iI 0)) rfl (pc' := 27) rfl ?_
  refine T_p xr_41_27 xn_41 (pc' := 28) (ls' := [(0, .ref 517), (1, .int (iI 0)), (2, .int (iI tn)), (3, .int (iI (-1))), (4, .int (iI (-1)))]) (st' := [.int (iI tn), .int (iI 0), .ref 519]) rfl ?_
  have h1748 := (n1745 519 (by decide)).trans ((n1739 519 (by decide)).trans ((n1734 519 (by decide)).trans (hA519)))
  refine T_ziast xr_41_28 h1748 (pc' := 29) rfl (fun S1749 h1750 n1751 e1752 => ?_)
  refine T_p xr_41_29 xn_41 (pc' := 30) (ls' := [(0, .ref 517), (1, .int (iI 0)), (2, .int (iI tn)), (3, .int (iI (-1))), (4, .int (iI (-1)))]) (st' := [.ref 517]) rfl ?_
  have h1753 := (n1751 517 (by decide)).trans (h1747)
  refine T_get xr_41_30 h1753 rfl (v := .ref 520) rfl (pc' := 33) rfl ?_
  refine T_p xr_41_33 xn_41 (pc' := 34) (ls' := [(0, .ref 517), (1, .int (iI 0)), (2, .int (iI tn)), (3, .int (iI (-1))), (4, .int (iI (-1)))]) (st' := [.ref 517, .ref 520]) rfl ?_
  refine T_get xr_41_34 h1753 rfl (v := .int (iI 0)) rfl (pc' := 37) rfl ?_
  refine T_p xr_41_37 xn_41 (pc' := 38) (ls' := [(0, .ref 517), (1, .int (iI 0)), (2, .int (iI tn)), (3, .int (iI (-1))), (4, .int (iI (-1)))]) (st' := [.int (iI (-1)), .int (iI 0), .ref 520]) rfl ?_
  have h1754 := (n1751 520 (by decide)).trans ((n1745 520 (by decide)).trans ((n1739 520 (by decide)).trans ((n1734 520 (by decide)).trans (hA520))))
  refine T_ziast xr_41_38 h1754 (pc' := 39) rfl (fun S1755 h1756 n1757 e1758 => ?_)
  refine T_p xr_41_39 xn_41 (pc' := 40) (ls' := [(0, .ref 517), (1, .int (iI 0)), (2, .int (iI tn)), (3, .int (iI (-1))), (4, .int (iI (-1)))]) (st' := [.ref 517]) rfl ?_
  have h1759 := (n1757 517 (by decide)).trans (h1753)
  refine T_get xr_41_40 h1759 rfl (v := .ref 521) rfl (pc' := 43) rfl ?_
  refine T_p xr_41_43 xn_41 (pc' := 44) (ls' := [(0, .ref 517), (1, .int (iI 0)), (2, .int (iI tn)), (3, .int (iI (-1))), (4, .int (iI (-1)))]) (st' := [.ref 517, .ref 521]) rfl ?_
  refine T_get xr_41_44 h1759 rfl (v := .int (iI 0)) rfl (pc' := 47) rfl ?_
  refine T_p xr_41_47 xn_41 (pc' := 49) (ls' := [(0, .ref 517), (1, .int (iI 0)), (2, .int (iI tn)), (3, .int (iI (-1))), (4, .int (iI (-1)))]) (st' := [.int (iI (-1)), .int (iI 0), .ref 521]) rfl ?_
  have h1760 := (n1757 521 (by decide)).trans ((n1751 521 (by decide)).trans ((n1745 521 (by decide)).trans ((n1739 521 (by decide)).trans ((n1734 521 (by decide)).trans (hA521)))))
  refine T_ziast xr_41_49 h1760 (pc' := 50) rfl (fun S1761 h1762 n1763 e1764 => ?_)
  refine T_p xr_41_50 xn_41 (pc' := 51) (ls' := [(0, .ref 517), (1, .int (iI 0)), (2, .int (iI tn)), (3, .int (iI (-1))), (4, .int (iI (-1)))]) (st' := [.ref 517]) rfl ?_
  refine T_p xr_41_51 xn_41 (pc' := 52) (ls' := [(0, .ref 517), (1, .int (iI 0)), (2, .int (iI tn)), (3, .int (iI (-1))), (4, .int (iI (-1)))]) (st' := [.ref 517, .ref 517]) rfl ?_
  have h1765 := (n1763 517 (by decide)).trans (h1759)
  refine T_get xr_41_52 h1765 rfl (v := .int (iI 0)) rfl (pc' := 55) rfl ?_
  refine T_p xr_41_55 xn_41 (pc' := 56) (ls' := [(0, .ref 517), (1, .int (iI 0)), (2, .int (iI tn)), (3, .int (iI (-1))), (4, .int (iI (-1)))]) (st' := [.int (iI 1), .int (iI 0), .ref 517]) rfl ?_
  refine T_ziadd xr_41_56 (z := 1) (by decide) (pc' := 57) rfl ?_
  refine T_put xr_41_57 h1765 rfl (Nat.le_of_ble_eq_true rfl) rfl (fs' := [.ref 511, .ref 501, .ref 504, .int (iI 1), .ref 518, .ref 519, .ref 520, .ref 521, .ref 522, .ref 523, .ref 524, .ref 525, .ref 526]) rfl (pc' := 60) rfl (fun S1766 h1767 n1768 e1769 => ?_)
  refine T_vret xr_41_60 xf_41.2.2 ?_
  show X_T sc 40 (26, [(0, .ref 517), (1, .long (iL (k : Int)))], [], S1766) _
  refine T_p xr_40_26 xn_40 (pc' := 27) (ls' := [(0, .ref 517), (1, .long (iL (k : Int)))]) (st' := [.ref 517]) rfl ?_
  refine T_p xr_40_27 xn_40 (pc' := 28) (ls' := [(0, .ref 517), (1, .long (iL (k : Int)))]) (st' := [.int (iI (-1)), .ref 517]) rfl ?_
  refine T_p xr_40_28 xn_40 (pc' := 29) (ls' := [(0, .ref 517), (1, .long (iL (k : Int)))]) (st' := [.int (iI (-1)), .int (iI (-1)), .ref 517]) rfl ?_
  refine T_p xr_40_29 xn_40 (pc' := 30) (ls' := [(0, .ref 517), (1, .long (iL (k : Int)))]) (st' := [.long (iL (k : Int)), .int (iI (-1)), .int (iI (-1)), .ref 517]) rfl ?_
  refine T_cv (S := S1766) (q := 517) xr_40_30 xf_42.1 xf_42.2.1 xn_42 (as := [.int (iI (-1)), .int (iI (-1)), .long (iL (k : Int))]) (r := []) rfl h1767 (Nat.le_of_ble_eq_true rfl) (Nat.le_of_ble_eq_true rfl) (pc' := 33) rfl (ls' := [(0, .ref 517), (1, .int (iI (-1))), (2, .int (iI (-1))), (3, .long (iL (k : Int)))]) rfl ?_
  refine T_p xr_42_0 xn_42 (pc' := 1) (ls' := [(0, .ref 517), (1, .int (iI (-1))), (2, .int (iI (-1))), (3, .long (iL (k : Int)))]) (st' := [.ref 517]) rfl ?_
  refine T_get xr_42_1 h1767 rfl (v := .int (iI 1)) rfl (pc' := 4) rfl ?_
  refine T_zif_lef xr_42_4 (t := 43) (pc' := 7) rfl rfl (by decide) ?_
  refine T_p xr_42_7 xn_42 (pc' := 8) (ls' := [(0, .ref 517), (1, .int (iI (-1))), (2, .int (iI (-1))), (3, .long (iL (k : Int)))]) (st' := [.ref 517]) rfl ?_
  refine T_get xr_42_8 h1767 rfl (v := .ref 522) rfl (pc' := 11) rfl ?_
  refine T_p xr_42_11 xn_42 (pc' := 12) (ls' := [(0, .ref 517), (1, .int (iI (-1))), (2, .int (iI (-1))), (3, .long (iL (k : Int)))]) (st' := [.ref 517, .ref 522]) rfl ?_
  refine T_get xr_42_12 h1767 rfl (v := .int (iI 1)) rfl (pc' := 15) rfl ?_
  refine T_p xr_42_15 xn_42 (pc' := 16) (ls' := [(0, .ref 517), (1, .int (iI (-1))), (2, .int (iI (-1))), (3, .long (iL (k : Int)))]) (st' := [.int (iI 1), .int (iI 1), .ref 522]) rfl ?_
  refine T_zisub xr_42_16 (z := 0) (by decide) (pc' := 17) rfl ?_
  refine T_p xr_42_17 xn_42 (pc' := 18) (ls' := [(0, .ref 517), (1, .int (iI (-1))), (2, .int (iI (-1))), (3, .long (iL (k : Int)))]) (st' := [.int (iI (-1)), .int (iI 0), .ref 522]) rfl ?_
  have h1770 := (n1768 522 (by decide)).trans ((n1763 522 (by decide)).trans ((n1757 522 (by decide)).trans ((n1751 522 (by decide)).trans ((n1745 522 (by decide)).trans ((n1739 522 (by decide)).trans ((n1734 522 (by decide)).trans (hA522)))))))
  refine T_ziast xr_42_18 h1770 (pc' := 19) rfl (fun S1771 h1772 n1773 e1774 => ?_)
  refine T_p xr_42_19 xn_42 (pc' := 20) (ls' := [(0, .ref 517), (1, .int (iI (-1))), (2, .int (iI (-1))), (3, .long (iL (k : Int)))]) (st' := [.ref 517]) rfl ?_
  have h1775 := (n1773 517 (by decide)).trans (h1767)
  refine T_get xr_42_20 h1775 rfl (v := .ref 523) rfl (pc' := 23) rfl ?_
  refine T_p xr_42_23 xn_42 (pc' := 24) (ls' := [(0, .ref 517), (1, .int (iI (-1))), (2, .int (iI (-1))), (3, .long (iL (k : Int)))]) (st' := [.ref 517, .ref 523]) rfl ?_
  refine T_get xr_42_24 h1775 rfl (v := .int (iI 1)) rfl (pc' := 27) rfl ?_
  refine T_p xr_42_27 xn_42 (pc' := 28) (ls' := [(0, .ref 517), (1, .int (iI (-1))), (2, .int (iI (-1))), (3, .long (iL (k : Int)))]) (st' := [.int (iI 1), .int (iI 1), .ref 523]) rfl ?_
  refine T_zisub xr_42_28 (z := 0) (by decide) (pc' := 29) rfl ?_
  refine T_p xr_42_29 xn_42 (pc' := 30) (ls' := [(0, .ref 517), (1, .int (iI (-1))), (2, .int (iI (-1))), (3, .long (iL (k : Int)))]) (st' := [.int (iI (-1)), .int (iI 0), .ref 523]) rfl ?_
  have h1776 := (n1773 523 (by decide)).trans ((n1768 523 (by decide)).trans ((n1763 523 (by decide)).trans ((n1757 523 (by decide)).trans ((n1751 523 (by decide)).trans ((n1745 523 (by decide)).trans ((n1739 523 (by decide)).trans ((n1734 523 (by decide)).trans (hA523))))))))
  refine T_ziast xr_42_30 h1776 (pc' := 31) rfl (fun S1777 h1778 n1779 e1780 => ?_)
  refine T_p xr_42_31 xn_42 (pc' := 32) (ls' := [(0, .ref 517), (1, .int (iI (-1))), (2, .int (iI (-1))), (3, .long (iL (k : Int)))]) (st' := [.ref 517]) rfl ?_
  have h1781 := (n1779 517 (by decide)).trans (h1775)
  refine T_get xr_42_32 h1781 rfl (v := .ref 524) rfl (pc' := 35) rfl ?_
  refine T_p xr_42_35 xn_42 (pc' := 36) (ls' := [(0, .ref 517), (1, .int (iI (-1))), (2, .int (iI (-1))), (3, .long (iL (k : Int)))]) (st' := [.ref 517, .ref 524]) rfl ?_
  refine T_get xr_42_36 h1781 rfl (v := .int (iI 1)) rfl (pc' := 39) rfl ?_
  refine T_p xr_42_39 xn_42 (pc' := 40) (ls' := [(0, .ref 517), (1, .int (iI (-1))), (2, .int (iI (-1))), (3, .long (iL (k : Int)))]) (st' := [.int (iI 1), .int (iI 1), .ref 524]) rfl ?_
  refine T_zisub xr_42_40 (z := 0) (by decide) (pc' := 41) rfl ?_
  refine T_p xr_42_41 xn_42 (pc' := 42) (ls' := [(0, .ref 517), (1, .int (iI (-1))), (2, .int (iI (-1))), (3, .long (iL (k : Int)))]) (st' := [.long (iL (k : Int)), .int (iI 0), .ref 524]) rfl ?_
  have h1782 := (n1779 524 (by decide)).trans ((n1773 524 (by decide)).trans ((n1768 524 (by decide)).trans ((n1763 524 (by decide)).trans ((n1757 524 (by decide)).trans ((n1751 524 (by decide)).trans ((n1745 524 (by decide)).trans ((n1739 524 (by decide)).trans ((n1734 524 (by decide)).trans (hA524)))))))))
  refine T_zlast xr_42_42 h1782 (pc' := 43) rfl (fun S1783 h1784 n1785 e1786 => ?_)
  refine T_vret xr_42_43 xf_42.2.2 ?_
  show X_T sc 40 (33, [(0, .ref 517), (1, .long (iL (k : Int)))], [], S1783) _
  refine T_p xr_40_33 xn_40 (pc' := 34) (ls' := [(0, .ref 517), (1, .long (iL (k : Int)))]) (st' := [.int (iI 0)]) rfl ?_
  refine T_p xr_40_34 xn_40 (pc' := 35) (ls' := [(3, .int (iI 0)), (0, .ref 517), (1, .long (iL (k : Int)))]) (st' := []) rfl ?_
  have h1792 := (n1785 517 (by decide)).trans (h1781)
  have h1793 := (n1785 505 (by decide)).trans ((n1779 505 (by decide)).trans ((n1773 505 (by decide)).trans ((n1768 505 (by decide)).trans ((n1763 505 (by decide)).trans ((n1757 505 (by decide)).trans ((n1751 505 (by decide)).trans ((n1745 505 (by decide)).trans ((n1739 505 (by decide)).trans ((n1734 505 (by decide)).trans (hA505))))))))))
  have h1794 := (n1785 506 (by decide)).trans ((n1779 506 (by decide)).trans ((n1773 506 (by decide)).trans ((n1768 506 (by decide)).trans ((n1763 506 (by decide)).trans ((n1757 506 (by decide)).trans ((n1751 506 (by decide)).trans ((n1745 506 (by decide)).trans ((n1739 506 (by decide)).trans ((n1734 506 (by decide)).trans (hA506))))))))))
  have h1795 := (n1785 507 (by decide)).trans ((n1779 507 (by decide)).trans ((n1773 507 (by decide)).trans ((n1768 507 (by decide)).trans ((n1763 507 (by decide)).trans ((n1757 507 (by decide)).trans ((n1751 507 (by decide)).trans ((n1745 507 (by decide)).trans ((n1739 507 (by decide)).trans ((n1734 507 (by decide)).trans (hA507))))))))))
  have h1796 := (n1785 508 (by decide)).trans ((n1779 508 (by decide)).trans ((n1773 508 (by decide)).trans ((n1768 508 (by decide)).trans ((n1763 508 (by decide)).trans ((n1757 508 (by decide)).trans ((n1751 508 (by decide)).trans ((n1745 508 (by decide)).trans ((n1739 508 (by decide)).trans ((n1734 508 (by decide)).trans (hA508))))))))))
  have h1797 := (n1785 509 (by decide)).trans ((n1779 509 (by decide)).trans ((n1773 509 (by decide)).trans ((n1768 509 (by decide)).trans ((n1763 509 (by decide)).trans ((n1757 509 (by decide)).trans ((n1751 509 (by decide)).trans ((n1745 509 (by decide)).trans ((n1739 509 (by decide)).trans ((n1734 509 (by decide)).trans (hA509))))))))))
  have h1798 := (n1785 510 (by decide)).trans ((n1779 510 (by decide)).trans ((n1773 510 (by decide)).trans ((n1768 510 (by decide)).trans ((n1763 510 (by decide)).trans ((n1757 510 (by decide)).trans ((n1751 510 (by decide)).trans ((n1745 510 (by decide)).trans ((n1739 510 (by decide)).trans ((n1734 510 (by decide)).trans (hA510))))))))))
  have h1799 := (n1785 518 (by decide)).trans ((n1779 518 (by decide)).trans ((n1773 518 (by decide)).trans ((n1768 518 (by decide)).trans ((n1763 518 (by decide)).trans ((n1757 518 (by decide)).trans ((n1751 518 (by decide)).trans (h1744)))))))
  have h1800 := (n1785 519 (by decide)).trans ((n1779 519 (by decide)).trans ((n1773 519 (by decide)).trans ((n1768 519 (by decide)).trans ((n1763 519 (by decide)).trans ((n1757 519 (by decide)).trans (h1750))))))
  have h1801 := (n1785 520 (by decide)).trans ((n1779 520 (by decide)).trans ((n1773 520 (by decide)).trans ((n1768 520 (by decide)).trans ((n1763 520 (by decide)).trans (h1756)))))
  have h1802 := (n1785 521 (by decide)).trans ((n1779 521 (by decide)).trans ((n1773 521 (by decide)).trans ((n1768 521 (by decide)).trans (h1762))))
  have h1803 := (n1785 522 (by decide)).trans ((n1779 522 (by decide)).trans (h1772))
  have h1804 := (n1785 523 (by decide)).trans (h1778)
  have h1805 := (n1785 516 (by decide)).trans ((n1779 516 (by decide)).trans ((n1773 516 (by decide)).trans ((n1768 516 (by decide)).trans ((n1763 516 (by decide)).trans ((n1757 516 (by decide)).trans ((n1751 516 (by decide)).trans ((n1745 516 (by decide)).trans ((n1739 516 (by decide)).trans ((n1734 516 (by decide)).trans (hA516))))))))))
  have h1806 := (n1785 525 (by decide)).trans ((n1779 525 (by decide)).trans ((n1773 525 (by decide)).trans ((n1768 525 (by decide)).trans ((n1763 525 (by decide)).trans ((n1757 525 (by decide)).trans ((n1751 525 (by decide)).trans ((n1745 525 (by decide)).trans ((n1739 525 (by decide)).trans ((n1734 525 (by decide)).trans (hA525))))))))))
  have h1807 := (n1785 526 (by decide)).trans ((n1779 526 (by decide)).trans ((n1773 526 (by decide)).trans ((n1768 526 (by decide)).trans ((n1763 526 (by decide)).trans ((n1757 526 (by decide)).trans ((n1751 526 (by decide)).trans ((n1745 526 (by decide)).trans ((n1739 526 (by decide)).trans ((n1734 526 (by decide)).trans (hA526))))))))))
  have h1808 := (n1785 504 (by decide)).trans ((n1779 504 (by decide)).trans ((n1773 504 (by decide)).trans ((n1768 504 (by decide)).trans ((n1763 504 (by decide)).trans ((n1757 504 (by decide)).trans ((n1751 504 (by decide)).trans ((n1745 504 (by decide)).trans ((n1739 504 (by decide)).trans (h1733)))))))))
  have L1787 : ∀ (m1789 : Nat) (S1809 : X_S) (n : Int) (wt1 : Int) (St1 : Int → X_It) (N1 : Int → Int → Int) (nW1 : Int → Int) (nF1 : Int → Int) (nL1 : Int → Int) (nP1 : Int → Int) (nH1 : Int → Int) (nC1 : Int → Int) (fF1 : Int → Int) (fE1 : Int → Int) (fP1 : Int → Int) (fH1 : Int → Int) (fW1 : Int → Int) (fK1 : Int → Int) (fN1 : Int → Int64) (tl1 : Int → Int64) (hF1 : Int → Int) (hE1 : Int → Int) (hO17 : S1809.1 517 = .inr (2, [.ref 511, .ref 501, .ref 504, .int (iI wt1), .ref 518, .ref 519, .ref 520, .ref 521, .ref 522, .ref 523, .ref 524, .ref 525, .ref 526])) (hO04 : S1809.1 504 = .inr (5, [.int (iI n), .ref 505, .ref 506, .ref 507, .ref 508, .ref 509, .ref 510])) (hnW1 : S1809.1 505 = .inl (.int, 30, .inl fun k : Nat => iI (nW1 (k : Int)))) (hnF1 : S1809.1 506 = .inl (.int, 30, .inl fun k : Nat => iI (nF1 (k : Int)))) (hnL1 : S1809.1 507 = .inl (.int, 30, .inl fun k : Nat => iI (nL1 (k : Int)))) (hnP1 : S1809.1 508 = .inl (.int, 30, .inl fun k : Nat => iI (nP1 (k : Int)))) (hnH1 : S1809.1 509 = .inl (.int, 30, .inl fun k : Nat => iI (nH1 (k : Int)))) (hnC1 : S1809.1 510 = .inl (.int, 120, .inl fun k : Nat => iI (nC1 (k : Int)))) (hfF1 : S1809.1 518 = .inl (.int, 30, .inl fun k : Nat => iI (fF1 (k : Int)))) (hfE1 : S1809.1 519 = .inl (.int, 30, .inl fun k : Nat => iI (fE1 (k : Int)))) (hfP1 : S1809.1 520 = .inl (.int, 30, .inl fun k : Nat => iI (fP1 (k : Int)))) (hfH1 : S1809.1 521 = .inl (.int, 30, .inl fun k : Nat => iI (fH1 (k : Int)))) (hfW1 : S1809.1 522 = .inl (.int, 30, .inl fun k : Nat => iI (fW1 (k : Int)))) (hfK1 : S1809.1 523 = .inl (.int, 30, .inl fun k : Nat => iI (fK1 (k : Int)))) (hfN1 : S1809.1 524 = .inl (.long, 30, .inr (.inl fun k : Nat => fN1 (k : Int)))) (htl1 : S1809.1 516 = .inl (.long, 7200, .inr (.inl fun k : Nat => tl1 (k : Int)))) (hhF1 : S1809.1 525 = .inl (.int, 4, .inl fun k : Nat => iI (hF1 (k : Int)))) (hhE1 : S1809.1 526 = .inl (.int, 4, .inl fun k : Nat => iI (hE1 (k : Int)))) (hF1791 : X_Fr (fun q => (504 ≤ q ∧ q ≤ 510) ∨ (516 ≤ q ∧ q ≤ 526)) S1783 S1809) (hn : 0 ≤ n ∧ n ≤ 30) (hX : X_mks G (30 - n).toNat (wt1, St1, n, N1) = X_rd G tn k) (hM : X_Mok G tn (wt1, St1, n, N1)) (hst : F_st G wt1 St1 fF1 fE1 fP1 fH1 fW1 fK1 fN1) (hnd : F_nd n N1 nW1 nF1 nL1 nP1 nH1) (hch : F_ch n N1 nC1) (hm1790 : 30 - n < m1789), X_T sc 40 (35, [(3, .int (iI n)), (0, .ref 517)], [], S1809) Q := by
    intro m1789
    induction m1789 with
    | zero =>
      intro S1809 n wt1 St1 N1 nW1 nF1 nL1 nP1 nH1 nC1 fF1 fE1 fP1 fH1 fW1 fK1 fN1 tl1 hF1 hE1 hO17 hO04 hnW1 hnF1 hnL1 hnP1 hnH1 hnC1 hfF1 hfE1 hfP1 hfH1 hfW1 hfK1 hfN1 htl1 hhF1 hhE1 hF1791 hn hX hM hst hnd hch hm1790
      exact (show False by omega).elim
    | succ m1789 ih1788 =>
      intro S1809 n wt1 St1 N1 nW1 nF1 nL1 nP1 nH1 nC1 fF1 fE1 fP1 fH1 fW1 fK1 fN1 tl1 hF1 hE1 hO17 hO04 hnW1 hnF1 hnL1 hnP1 hnH1 hnC1 hfF1 hfE1 hfP1 hfH1 hfW1 hfK1 hfN1 htl1 hhF1 hhE1 hF1791 hn hX hM hst hnd hch hm1790
      have hle := X_Mok.le hM
      have hw0 : 0 ≤ wt1 := hM.1
      have hM2 : n + (X_Su (X_lw St1) 0 wt1 : Int) ≤ tn := hM.2.2.2
      refine T_p xr_40_35 xn_40 (pc' := 36) (ls' := [(3, .int (iI n)), (0, .ref 517)]) (st' := [.int (iI n)]) rfl ?_
      refine T_p xr_40_36 xn_40 (pc' := 38) (ls' := [(3, .int (iI n)), (0, .ref 517)]) (st' := [.int (iI 30), .int (iI n)]) rfl ?_
      refine T_zicmp_ge xr_40_38 (t := 58) (pc' := 41) rfl rfl (fun c1810 => ?_) (fun c1810 => ?_)
      · skip
        have c1810 : 30 ≤ n := c1810
        refine T_vret xr_40_58 xf_40.2.2 ?_
        refine hQ _ _ ?_
        have he1811 : X_mks G (30 - n).toNat (wt1, St1, n, N1) = (wt1, St1, n, N1) := by
          first
            | exact X_mks_e (show wt1 ≤ 0 by omega)
            | (rw [show (30 - n).toNat = 0 by omega]; rfl)
        have hle := X_Mok.le hM
        have hM2 : n + (X_Su (X_lw St1) 0 wt1 : Int) ≤ tn := hM.2.2.2
        exact ⟨wt1, n, St1, N1, nW1, nF1, nL1, nP1, nH1, nC1, fF1, fE1, fP1, fH1, fW1, fK1, fN1, tl1, hF1, hE1, rfl, (hX.symm.trans he1811), (by omega), hnd, hch, hO17, hO04, hnW1, hnF1, hnL1, hnP1, hnH1, hnC1, hfF1, hfE1, hfP1, hfH1, hfW1, hfK1, hfN1, htl1, hhF1, hhE1, (((((((((((X_Fr.rf).tr (X_Fr.of n1734 e1735 (by omega))).tr (X_Fr.of n1739 e1740 (by omega))).tr (X_Fr.of n1745 e1746 (by omega))).tr (X_Fr.of n1751 e1752 (by omega))).tr (X_Fr.of n1757 e1758 (by omega))).tr (X_Fr.of n1763 e1764 (by omega))).tr (X_Fr.of n1768 e1769 (by omega))).tr (X_Fr.of n1773 e1774 (by omega))).tr (X_Fr.of n1779 e1780 (by omega))).tr (X_Fr.of n1785 e1786 (by omega))).tr (X_Fr.mono ⟨hF1791.1, hF1791.2⟩ (fun q hq => (by omega)))⟩
      · skip
        have c1810 : ¬ (30 ≤ n) := c1810
        refine T_p xr_40_41 xn_40 (pc' := 42) (ls' := [(3, .int (iI n)), (0, .ref 517)]) (st' := [.ref 517]) rfl ?_
        refine T_get xr_40_42 hO17 rfl (v := .int (iI wt1)) rfl (pc' := 45) rfl ?_
        refine T_zif_le xr_40_45 (t := 58) (pc' := 48) rfl rfl (fun c1812 => ?_) (fun c1812 => ?_)
        · skip
          have c1812 : wt1 ≤ 0 := c1812
          refine T_vret xr_40_58 xf_40.2.2 ?_
          refine hQ _ _ ?_
          have he1813 : X_mks G (30 - n).toNat (wt1, St1, n, N1) = (wt1, St1, n, N1) := by
            first
              | exact X_mks_e (show wt1 ≤ 0 by omega)
              | (rw [show (30 - n).toNat = 0 by omega]; rfl)
          have hle := X_Mok.le hM
          have hM2 : n + (X_Su (X_lw St1) 0 wt1 : Int) ≤ tn := hM.2.2.2
          exact ⟨wt1, n, St1, N1, nW1, nF1, nL1, nP1, nH1, nC1, fF1, fE1, fP1, fH1, fW1, fK1, fN1, tl1, hF1, hE1, rfl, (hX.symm.trans he1813), (by omega), hnd, hch, hO17, hO04, hnW1, hnF1, hnL1, hnP1, hnH1, hnC1, hfF1, hfE1, hfP1, hfH1, hfW1, hfK1, hfN1, htl1, hhF1, hhE1, (((((((((((X_Fr.rf).tr (X_Fr.of n1734 e1735 (by omega))).tr (X_Fr.of n1739 e1740 (by omega))).tr (X_Fr.of n1745 e1746 (by omega))).tr (X_Fr.of n1751 e1752 (by omega))).tr (X_Fr.of n1757 e1758 (by omega))).tr (X_Fr.of n1763 e1764 (by omega))).tr (X_Fr.of n1768 e1769 (by omega))).tr (X_Fr.of n1773 e1774 (by omega))).tr (X_Fr.of n1779 e1780 (by omega))).tr (X_Fr.of n1785 e1786 (by omega))).tr (X_Fr.mono ⟨hF1791.1, hF1791.2⟩ (fun q hq => (by omega)))⟩
        · skip
          have c1812 : ¬ (wt1 ≤ 0) := c1812
          refine T_p xr_40_48 xn_40 (pc' := 49) (ls' := [(3, .int (iI n)), (0, .ref 517)]) (st' := [.ref 517]) rfl ?_
          refine T_cv (S := S1809) (q := 517) xr_40_49 xf_43.1 xf_43.2.1 xn_43 (as := []) (r := []) rfl hO17 (Nat.le_of_ble_eq_true rfl) (Nat.le_of_ble_eq_true rfl) (pc' := 52) rfl (ls' := [(0, .ref 517)]) rfl ?_
          have h1814 := (hF1791.1 512 (by omega)).trans ((n1785 512 (by decide)).trans ((n1779 512 (by decide)).trans ((n1773 512 (by decide)).trans ((n1768 512 (by decide)).trans ((n1763 512 (by decide)).trans ((n1757 512 (by decide)).trans ((n1751 512 (by decide)).trans ((n1745 512 (by decide)).trans ((n1739 512 (by decide)).trans ((n1734 512 (by decide)).trans (hA512)))))))))))
          have h1815 := (hF1791.1 513 (by omega)).trans ((n1785 513 (by decide)).trans ((n1779 513 (by decide)).trans ((n1773 513 (by decide)).trans ((n1768 513 (by decide)).trans ((n1763 513 (by decide)).trans ((n1757 513 (by decide)).trans ((n1751 513 (by decide)).trans ((n1745 513 (by decide)).trans ((n1739 513 (by decide)).trans ((n1734 513 (by decide)).trans (hA513)))))))))))
          have h1816 := (hF1791.1 514 (by omega)).trans ((n1785 514 (by decide)).trans ((n1779 514 (by decide)).trans ((n1773 514 (by decide)).trans ((n1768 514 (by decide)).trans ((n1763 514 (by decide)).trans ((n1757 514 (by decide)).trans ((n1751 514 (by decide)).trans ((n1745 514 (by decide)).trans ((n1739 514 (by decide)).trans ((n1734 514 (by decide)).trans (hA514)))))))))))
          have h1817 := (hF1791.1 515 (by omega)).trans ((n1785 515 (by decide)).trans ((n1779 515 (by decide)).trans ((n1773 515 (by decide)).trans ((n1768 515 (by decide)).trans ((n1763 515 (by decide)).trans ((n1757 515 (by decide)).trans ((n1751 515 (by decide)).trans ((n1745 515 (by decide)).trans ((n1739 515 (by decide)).trans ((n1734 515 (by decide)).trans (hA515)))))))))))
          have h1818 := (hF1791.1 501 (by omega)).trans ((n1785 501 (by decide)).trans ((n1779 501 (by decide)).trans ((n1773 501 (by decide)).trans ((n1768 501 (by decide)).trans ((n1763 501 (by decide)).trans ((n1757 501 (by decide)).trans ((n1751 501 (by decide)).trans ((n1745 501 (by decide)).trans (h1741)))))))))
          have h1819 := (hF1791.1 511 (by omega)).trans ((n1785 511 (by decide)).trans ((n1779 511 (by decide)).trans ((n1773 511 (by decide)).trans ((n1768 511 (by decide)).trans ((n1763 511 (by decide)).trans ((n1757 511 (by decide)).trans ((n1751 511 (by decide)).trans ((n1745 511 (by decide)).trans ((n1739 511 (by decide)).trans ((n1734 511 (by decide)).trans (hO511)))))))))))
          have h1820 := (hF1791.1 B (by omega)).trans ((n1785 B (by omega)).trans ((n1779 B (by omega)).trans ((n1773 B (by omega)).trans ((n1768 B (by omega)).trans ((n1763 B (by omega)).trans ((n1757 B (by omega)).trans ((n1751 B (by omega)).trans ((n1745 B (by omega)).trans ((n1739 B (by omega)).trans ((n1734 B (by omega)).trans (hb0)))))))))))
          have h1821 := (hF1791.1 (B + 1) (by omega)).trans ((n1785 (B + 1) (by omega)).trans ((n1779 (B + 1) (by omega)).trans ((n1773 (B + 1) (by omega)).trans ((n1768 (B + 1) (by omega)).trans ((n1763 (B + 1) (by omega)).trans ((n1757 (B + 1) (by omega)).trans ((n1751 (B + 1) (by omega)).trans ((n1745 (B + 1) (by omega)).trans ((n1739 (B + 1) (by omega)).trans ((n1734 (B + 1) (by omega)).trans (hb1)))))))))))
          have h1822 := (hF1791.1 (B + 2) (by omega)).trans ((n1785 (B + 2) (by omega)).trans ((n1779 (B + 2) (by omega)).trans ((n1773 (B + 2) (by omega)).trans ((n1768 (B + 2) (by omega)).trans ((n1763 (B + 2) (by omega)).trans ((n1757 (B + 2) (by omega)).trans ((n1751 (B + 2) (by omega)).trans ((n1745 (B + 2) (by omega)).trans ((n1739 (B + 2) (by omega)).trans ((n1734 (B + 2) (by omega)).trans (hb2)))))))))))
          have h1823 := (hF1791.1 (B + 3) (by omega)).trans ((n1785 (B + 3) (by omega)).trans ((n1779 (B + 3) (by omega)).trans ((n1773 (B + 3) (by omega)).trans ((n1768 (B + 3) (by omega)).trans ((n1763 (B + 3) (by omega)).trans ((n1757 (B + 3) (by omega)).trans ((n1751 (B + 3) (by omega)).trans ((n1745 (B + 3) (by omega)).trans ((n1739 (B + 3) (by omega)).trans ((n1734 (B + 3) (by omega)).trans (hb3)))))))))))
          have h1824 := (hF1791.1 (B + 4) (by omega)).trans ((n1785 (B + 4) (by omega)).trans ((n1779 (B + 4) (by omega)).trans ((n1773 (B + 4) (by omega)).trans ((n1768 (B + 4) (by omega)).trans ((n1763 (B + 4) (by omega)).trans ((n1757 (B + 4) (by omega)).trans ((n1751 (B + 4) (by omega)).trans ((n1745 (B + 4) (by omega)).trans ((n1739 (B + 4) (by omega)).trans ((n1734 (B + 4) (by omega)).trans (hb4)))))))))))
          have h1825 := (hF1791.1 (B + 5) (by omega)).trans ((n1785 (B + 5) (by omega)).trans ((n1779 (B + 5) (by omega)).trans ((n1773 (B + 5) (by omega)).trans ((n1768 (B + 5) (by omega)).trans ((n1763 (B + 5) (by omega)).trans ((n1757 (B + 5) (by omega)).trans ((n1751 (B + 5) (by omega)).trans ((n1745 (B + 5) (by omega)).trans ((n1739 (B + 5) (by omega)).trans ((n1734 (B + 5) (by omega)).trans (hb5)))))))))))
          have hs1826 : C_ws S1809 B (gD G) (gW G) := C_ws.fr (P := fun q => 501 ≤ q ∧ q ≤ 529) hs ((((((((((((X_Fr.rf).tr (X_Fr.of n1734 e1735 (by omega))).tr (X_Fr.of n1739 e1740 (by omega))).tr (X_Fr.of n1745 e1746 (by omega))).tr (X_Fr.of n1751 e1752 (by omega))).tr (X_Fr.of n1757 e1758 (by omega))).tr (X_Fr.of n1763 e1764 (by omega))).tr (X_Fr.of n1768 e1769 (by omega))).tr (X_Fr.of n1773 e1774 (by omega))).tr (X_Fr.of n1779 e1780 (by omega))).tr (X_Fr.of n1785 e1786 (by omega))).tr (X_Fr.mono ⟨hF1791.1, hF1791.2⟩ (fun q hq => (by omega)))) (fun k h1 h2 => by omega)
          have h1827 := (hF1791.1 502 (by omega)).trans ((n1785 502 (by decide)).trans ((n1779 502 (by decide)).trans ((n1773 502 (by decide)).trans ((n1768 502 (by decide)).trans ((n1763 502 (by decide)).trans ((n1757 502 (by decide)).trans ((n1751 502 (by decide)).trans ((n1745 502 (by decide)).trans ((n1739 502 (by decide)).trans ((n1734 502 (by decide)).trans (hA502)))))))))))
          refine T_mono (c_makeNode sc S1809 oK oW oA oH tl1 nW1 nF1 nL1 nP1 nH1 nC1 fF1 fE1 fP1 fH1 fW1 fK1 fN1 hF1 hE1 B rc rn kn G tn fl wt1 n N1 St1 h1818 h1819 hO17 hO04 h1814 h1815 h1816 h1817 htl1 hnW1 hnF1 hnL1 hnP1 hnH1 hnC1 hfF1 hfE1 hfP1 hfH1 hfW1 hfK1 hfN1 hhF1 hhE1 hB ⟨h1820, h1821, h1822, h1823, h1824, ⟨f, h1825, hf⟩, ⟨by omega, by omega⟩, ⟨by omega, by omega⟩, ⟨by omega, by omega⟩⟩ hs1826 hG (by omega) h1827 hcht hM (by omega) hst hnd hch) (fun v1828 S1829 h1830 => ?_)
          rcases h1830 with ⟨r1831, St1832, N1833, nW1834, nF1835, nL1836, nP1837, nH1838, nC1839, fF1840, fE1841, fP1842, fH1843, fW1844, fK1845, fN1846, tl1847, hF1848, hE1849, hv1850, hp1851, hp1852, hp1853, hp1854, hp1855, ho1856, ho1857, ha1858, ha1859, ha1860, ha1861, ha1862, ha1863, ha1864, ha1865, ha1866, ha1867, ha1868, ha1869, ha1870, ha1871, ha1872, ha1873, hf1874⟩
          rw [hv1850]
          show X_T sc 40 (52, [(3, .int (iI n)), (0, .ref 517)], [], S1829) _
          refine T_ziinc xr_40_52 xn_40 (a := n) (z := n + 1) rfl (Nat.le_of_ble_eq_true rfl) (by omega) (ls' := [(3, .int (iI (n + 1))), (0, .ref 517)]) rfl (pc' := 55) rfl ?_
          refine T_p xr_40_55 xn_40 (pc' := 35) (ls' := [(3, .int (iI (n + 1))), (0, .ref 517)]) (st' := []) rfl ?_
          exact ih1788 S1829 (n + 1) r1831 St1832 N1833 nW1834 nF1835 nL1836 nP1837 nH1838 nC1839 fF1840 fE1841 fP1842 fH1843 fW1844 fK1845 fN1846 tl1847 hF1848 hE1849 ho1856 ho1857 ha1858 ha1859 ha1860 ha1861 ha1862 ha1863 ha1864 ha1865 ha1866 ha1867 ha1868 ha1869 ha1870 ha1871 ha1872 ha1873 (hF1791.tr ((X_Fr.rf).tr (X_Fr.mono ⟨hf1874.1, hf1874.2⟩ (fun q hq => (by omega))))) (by omega) ((X_mks_s (s := (wt1, St1, n, N1)) (show 0 < wt1 by omega) (by omega) hp1851).symm.trans hX) hp1852 hp1853 hp1854 hp1855 (by omega)
  refine T_sub (ls := [(3, .int (iI 0)), (0, .ref 517)]) ⟨rfl, rfl, trivial⟩ rfl rfl ?_
  exact L1787 ((30 : Int) + 1).toNat S1783 0 1 (fun _ => (0, tn, -1, -1, 0, 0, 0, k)) (fun _ _ => 0) nW nF nL nP nH nC (X_ug fF 0 0) (X_ug fE 0 tn) (X_ug fP 0 (-1)) (X_ug fH 0 (-1)) (X_ug fW 0 (-1)) (X_ug fK 0 (-1)) (X_ug fN 0 (iL (k : Int))) tl hF hE h1792 h1808 h1793 h1794 h1795 h1796 h1797 h1798 h1799 h1800 h1801 h1802 h1803 h1804 h1784 h1805 h1806 h1807 ((X_Fr.rf)) (by omega) rfl (X_Mok_0 hG htn hk hkm) (fun q h1 h2 => by
        obtain rfl : q = 0 := by omega
        refine ⟨X_ug_s _ _ _, X_ug_s _ _ _, X_ug_s _ _ _, X_ug_s _ _ _, fun v g1 g2 => ?_, fun z g1 g2 => ?_, X_ug_s _ _ _⟩
        · rw [X_ug_s]; exact ⟨fun _ => ⟨(hG.2.2.1.1 _ (hG.kd v g1 g2).1 (hG.kd v g1 g2).2).1, Or.inl rfl⟩, fun _ => X_bt_m v (by omega)⟩
        · rw [X_ug_s]; exact ⟨fun _ => (hG.2.2.1.1 z g1 g2).1, fun _ => X_bt_m z (by omega)⟩) (fun n h1 h2 => absurd h2 (by omega)) (fun p h h1 h2 h3 h4 => absurd rfl h4) (by omega)
