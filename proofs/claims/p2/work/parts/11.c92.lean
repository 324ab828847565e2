theorem xr_76_0 : X_row 76 0 = some (0, (.aload_n 0, 1), (0, 0, 0)) := by decide +kernel
theorem xr_76_1 : X_row 76 1 = some (1, (.getfield 23, 3), (4, 0, 18)) := by decide +kernel
theorem xr_76_4 : X_row 76 4 = some (4, (.ldc2_w 170, 3), (1818584692, 697, 0)) := by decide +kernel
theorem xr_76_7 : X_row 76 7 = some (7, (.invokevirtual 45, 3), (51, 8, 0)) := by decide +kernel
theorem xr_76_10 : X_row 76 10 = some (10, (.ifCond .eq 18, 3), (0, 0, 0)) := by decide +kernel
theorem xr_76_13 : X_row 76 13 = some (13, (.aload_n 1, 1), (0, 0, 0)) := by decide +kernel
theorem xr_76_14 : X_row 76 14 = some (14, (.iconst 1, 1), (0, 0, 0)) := by decide +kernel
theorem xr_76_15 : X_row 76 15 = some (15, (.putfield 154, 3), (8, 1, 1)) := by decide +kernel
theorem xr_76_18 : X_row 76 18 = some (18, (.aload_n 0, 1), (0, 0, 0)) := by decide +kernel
theorem xr_76_19 : X_row 76 19 = some (19, (.getfield 23, 3), (4, 0, 18)) := by decide +kernel
theorem xr_76_22 : X_row 76 22 = some (22, (.invokevirtual 80, 3), (52, 18, 0)) := by decide +kernel
theorem xr_76_25 : X_row 76 25 = some (25, (.goto 28, 3), (0, 0, 0)) := by decide +kernel
theorem xr_76_28 : X_row 76 28 = some (28, (.aload_n 0, 1), (0, 0, 0)) := by decide +kernel
theorem xr_76_29 : X_row 76 29 = some (29, (.getfield 23, 3), (4, 0, 18)) := by decide +kernel
theorem xr_76_32 : X_row 76 32 = some (32, (.ldc2_w 172, 3), (491394656372, 698, 0)) := by decide +kernel
theorem xr_76_35 : X_row 76 35 = some (35, (.invokevirtual 45, 3), (51, 8, 0)) := by decide +kernel
theorem xr_76_38 : X_row 76 38 = some (38, (.ifCond .eq 15, 3), (0, 0, 0)) := by decide +kernel
theorem xr_76_41 : X_row 76 41 = some (41, (.aload_n 1, 1), (0, 0, 0)) := by decide +kernel
theorem xr_76_42 : X_row 76 42 = some (42, (.iconst 2, 1), (0, 0, 0)) := by decide +kernel
theorem xr_76_43 : X_row 76 43 = some (43, (.putfield 154, 3), (8, 1, 1)) := by decide +kernel
theorem xr_76_46 : X_row 76 46 = some (46, (.aload_n 0, 1), (0, 0, 0)) := by decide +kernel
theorem xr_76_47 : X_row 76 47 = some (47, (.getfield 23, 3), (4, 0, 18)) := by decide +kernel
theorem xr_76_50 : X_row 76 50 = some (50, (.invokevirtual 80, 3), (52, 18, 0)) := by decide +kernel
theorem xr_76_53 : X_row 76 53 = some (53, (.return_, 1), (0, 0, 0)) := by decide +kernel
theorem xn_76 : X_nL 76 = 2 := by decide +kernel
theorem xf_76 : X_na 76 = 1 ∧ X_ci 76 = 4 ∧ X_rt 76 = none := by decide +kernel
theorem X_wr_0 {d : Nat → Int → Int} {z : Int} (h : X_wr d) (hz : 0 ≤ z ∧ z ≤ 11) : X_wr (X_wu d 0 (fun _ => z)) := ⟨hz, h.2⟩
theorem X_wr_1 {d : Nat → Int → Int} {z : Int} (h : X_wr d) (hz : 0 ≤ z ∧ z ≤ 2) : X_wr (X_wu d 1 (fun _ => z)) := ⟨h.1, hz, h.2.2⟩
theorem X_wr_2 {d : Nat → Int → Int} {z : Int} (h : X_wr d) (hz : -1 ≤ z ∧ z ≤ 10) : X_wr (X_wu d 2 (fun _ => z)) := ⟨h.1, h.2.1, hz, h.2.2.2⟩
theorem X_wr_3 {d : Nat → Int → Int} {z : Int} (h : X_wr d) (hz : 0 ≤ z ∧ z ≤ 8) : X_wr (X_wu d 3 (fun _ => z)) := ⟨h.1, h.2.1, h.2.2.1, hz, h.2.2.2.2⟩
theorem X_wr_4 {d : Nat → Int → Int} {z : Int} (h : X_wr d) (hz : 0 ≤ z ∧ z ≤ 4) : X_wr (X_wu d 4 (fun _ => z)) := ⟨h.1, h.2.1, h.2.2.1, h.2.2.2.1, hz, h.2.2.2.2.2⟩
theorem X_wr_5 {d : Nat → Int → Int} {z : Int} (h : X_wr d) (hz : -1 ≤ z ∧ z ≤ 30) : X_wr (X_wu d 5 (fun _ => z)) := ⟨h.1, h.2.1, h.2.2.1, h.2.2.2.1, h.2.2.2.2.1, hz, h.2.2.2.2.2.2⟩
theorem X_wr_8 {d : Nat → Int → Int} {g : Int → Int} (h : X_wr d) : X_wr (X_wu d 8 g) := h
theorem X_wr_9 {d : Nat → Int → Int} {g : Int → Int} (h : X_wr d) : X_wr (X_wu d 9 g) := h
theorem X_wr_12 {d : Nat → Int → Int} {g : Int → Int} (h : X_wr d) : X_wr (X_wu d 12 g) := h
theorem X_wr_13 {d : Nat → Int → Int} {g : Int → Int} (h : X_wr d) : X_wr (X_wu d 13 g) := h
def X_lnC (n : Int) (so : Int → Int) (ct : Int → Int64) (c : Int) : Int := if (so c = 3 ∧ ct c = Int64.ofNat 1818584692) ∨ (so c = 3 ∧ ct c = Int64.ofNat 491394656372) then X_av n c else c
def X_lnV (so : Int → Int) (ct : Int → Int64) (c l : Int) : Int := if so c = 3 ∧ ct c = Int64.ofNat 1818584692 then 1 else if so c = 3 ∧ ct c = Int64.ofNat 491394656372 then 2 else l
theorem X_lnC_r {n : Int} {so : Int → Int} {ct : Int → Int64} {c : Int} (h : 0 ≤ c ∧ c < n) : 0 ≤ X_lnC n so ct c ∧ X_lnC n so ct c < n := by
  unfold X_lnC
  split
  · exact X_av_r h
  · exact h
theorem X_lnV_r {so : Int → Int} {ct : Int → Int64} {c l : Int} (h : 0 ≤ l ∧ l ≤ 2) : 0 ≤ X_lnV so ct c l ∧ X_lnV so ct c l ≤ 2 := by
  unfold X_lnV
  split
  · omega
  · split <;> omega
theorem c_parseLean (sc : X_Sc) (S : X_S) (B : Nat) (fl fp at_ n cur : Int) (so pl : Int → Int) (ct : Int → Int64) (rc kc wc : Int) (rn : Int → Int64) (lo : Int → Int) (kn : Int → Int64) (ab : Int → Int) (a : Nat) (d : Nat → Int → Int) (q : Int → Int64) (hB : 4 ≤ B ∧ B + 246 ≤ 496) (ha : B + 6 ≤ a ∧ a + 7 < B + 246) (hp : C_pa S B fl fp) (hx : C_lx S at_ n cur so pl ct) (hcu : 0 ≤ cur ∧ cur < n ∧ n ≤ 2001) (hso : ∀ i, 0 ≤ i → i < n → 0 ≤ so i ∧ so i ≤ 255) (hb : C_bk S B rc kc wc rn lo kn ab) (hw : C_wd S a d q) (hr : X_wr d) : X_T sc 76 (0, [(0, .ref 496), (1, .ref a)], [], S) (fun v S' => v = none ∧ C_pa S' B fl fp ∧ S'.1 497 = .inr (3, [.ref 2, .int (iI at_), .int (iI n), .ref 498, .ref 499, .ref 500, .int (iI (X_lnC n so ct cur))]) ∧ C_wd S' a (X_wu d 1 (fun _ => X_lnV so ct cur (d 1 0))) q ∧ X_Fr (fun q => q = 496 ∨ q = 497 ∨ (a ≤ q ∧ q ≤ a + 7)) S S') := by
  obtain ⟨hb0, hb1, hb2, hb3, hb4, ⟨f, hb5, hf⟩, ⟨hrc, hrcb⟩, ⟨hkc, hkcb⟩, ⟨hwc, hwcb⟩⟩ := id hb
  obtain ⟨⟨hr0, hr0b⟩, ⟨hr1, hr1b⟩, ⟨hr2, hr2b⟩, ⟨hr3, hr3b⟩, ⟨hr4, hr4b⟩, ⟨hr5, hr5b⟩, ⟨hr6, hr6b⟩, ⟨hr7, hr7b⟩⟩ := id hr
  refine X_QI (fun Q hQ => ?_)
  refine T_p xr_76_0 xn_76 (pc' := 1) (ls' := [(0, .ref 496), (1, .ref a)]) (st' := [.ref 496]) rfl ?_
  refine T_get xr_76_1 hp rfl (v := .ref 497) rfl (pc' := 4) rfl ?_
  refine T_p xr_76_4 xn_76 (pc' := 7) (ls' := [(0, .ref 496), (1, .ref a)]) (st' := [.long (Int64.ofNat 1818584692), .ref 497]) rfl ?_
  refine T_cv (S := S) (q := 497) xr_76_7 xf_51.1 xf_51.2.1 xn_51 (as := [.long (Int64.ofNat 1818584692)]) (r := []) rfl hx.1 (Nat.le_of_ble_eq_true rfl) (Nat.le_of_ble_eq_true rfl) (pc' := 10) rfl (ls' := [(0, .ref 497), (1, .long (Int64.ofNat 1818584692))]) rfl ?_
  refine T_mono (c_isKeyword sc S at_ n cur so pl ct (Int64.ofNat 1818584692) ⟨hx.1, hx.2.1, hx.2.2.1, hx.2.2.2⟩ (by omega) hso) (fun v1506 S1507 h1505 => ?_)
  obtain ⟨h1508, h1509⟩ := h1505
  rw [h1508, h1509]
  show X_T sc 76 (10, [(0, .ref 496), (1, .ref a)], [.int (iI (bI (so cur = 3 ∧ ct cur = (Int64.ofNat 1818584692))))], S) _
  refine T_bif_eq xr_76_10 (t := 28) (pc' := 13) rfl rfl (fun c1510 => ?_) (fun c1510 => ?_)
  · skip
    have c1510 : ¬ (so cur = 3 ∧ ct cur = (Int64.ofNat 1818584692)) := c1510
    refine T_p xr_76_28 xn_76 (pc' := 29) (ls' := [(0, .ref 496), (1, .ref a)]) (st' := [.ref 496]) rfl ?_
    refine T_get xr_76_29 hp rfl (v := .ref 497) rfl (pc' := 32) rfl ?_
    refine T_p xr_76_32 xn_76 (pc' := 35) (ls' := [(0, .ref 496), (1, .ref a)]) (st' := [.long (Int64.ofNat 491394656372), .ref 497]) rfl ?_
    refine T_cv (S := S) (q := 497) xr_76_35 xf_51.1 xf_51.2.1 xn_51 (as := [.long (Int64.ofNat 491394656372)]) (r := []) rfl hx.1 (Nat.le_of_ble_eq_true rfl) (Nat.le_of_ble_eq_true rfl) (pc' := 38) rfl (ls' := [(0, .ref 497), (1, .long (Int64.ofNat 491394656372))]) rfl ?_
    refine T_mono (c_isKeyword sc S at_ n cur so pl ct (Int64.ofNat 491394656372) ⟨hx.1, hx.2.1, hx.2.2.1, hx.2.2.2⟩ (by omega) hso) (fun v1512 S1513 h1511 => ?_)
    obtain ⟨h1514, h1515⟩ := h1511
    rw [h1514, h1515]
    show X_T sc 76 (38, [(0, .ref 496), (1, .ref a)], [.int (iI (bI (so cur = 3 ∧ ct cur = (Int64.ofNat 491394656372))))], S) _
    refine T_bif_eq xr_76_38 (t := 53) (pc' := 41) rfl rfl (fun c1516 => ?_) (fun c1516 => ?_)
    · skip
      have c1516 : ¬ (so cur = 3 ∧ ct cur = (Int64.ofNat 491394656372)) := c1516
      refine T_vret xr_76_53 xf_76.2.2 ?_
      refine hQ _ _ ?_
      have e1 : X_lnC n so ct cur = cur := by
        unfold X_lnC
        first | rw [if_pos (Or.inl (by assumption))] | rw [if_pos (Or.inr (by assumption))] | rw [if_neg (by rintro (h | h) <;> contradiction)]
      have e2 : X_lnV so ct cur (d 1 0) = d 1 0 := by
        unfold X_lnV
        first | rw [if_pos (by assumption)] | rw [if_neg (by assumption), if_pos (by assumption)] | rw [if_neg (by assumption), if_neg (by assumption)]
      rw [e1, e2]
      exact ⟨rfl, hp, hx.1, ⟨hw.1, hw.2.1, hw.2.2.1, hw.2.2.2.1, hw.2.2.2.2.1, hw.2.2.2.2.2.1, hw.2.2.2.2.2.2.1, hw.2.2.2.2.2.2.2⟩, X_Fr.rf⟩
    · skip
      have c1516 : (so cur = 3 ∧ ct cur = (Int64.ofNat 491394656372)) := c1516
      refine T_p xr_76_41 xn_76 (pc' := 42) (ls' := [(0, .ref 496), (1, .ref a)]) (st' := [.ref a]) rfl ?_
      refine T_p xr_76_42 xn_76 (pc' := 43) (ls' := [(0, .ref 496), (1, .ref a)]) (st' := [.int (iI 2), .ref a]) rfl ?_
      refine T_put xr_76_43 hw.1 rfl (Nat.le_of_ble_eq_true rfl) rfl (fs' := [.int (iI (d 0 0)), .int (iI 2), .int (iI (d 2 0)), .int (iI (d 3 0)), .int (iI (d 4 0)), .int (iI (d 5 0)), .int (iI (d 6 0)), .int (iI (d 7 0)), .ref (a + 1), .ref (a + 2), .ref (a + 3), .ref (a + 4), .ref (a + 5), .ref (a + 6), .ref (a + 7)]) rfl (pc' := 46) rfl (fun S1517 h1518 n1519 e1520 => ?_)
      refine T_p xr_76_46 xn_76 (pc' := 47) (ls' := [(0, .ref 496), (1, .ref a)]) (st' := [.ref 496]) rfl ?_
      have h1521 := (n1519 496 (by omega)).trans (hp)
      refine T_get xr_76_47 h1521 rfl (v := .ref 497) rfl (pc' := 50) rfl ?_
      have h1522 := (n1519 497 (by omega)).trans (hx.1)
      refine T_cv (S := S1517) (q := 497) xr_76_50 xf_52.1 xf_52.2.1 xn_52 (as := []) (r := []) rfl h1522 (Nat.le_of_ble_eq_true rfl) (Nat.le_of_ble_eq_true rfl) (pc' := 53) rfl (ls' := [(0, .ref 497)]) rfl ?_
      have h1523 := (n1519 498 (by omega)).trans (hx.2.1)
      have h1524 := (n1519 499 (by omega)).trans (hx.2.2.1)
      have h1525 := (n1519 500 (by omega)).trans (hx.2.2.2)
      refine T_mono (c_advance sc S1517 at_ n cur so pl ct ⟨h1522, h1523, h1524, h1525⟩ (by omega)) (fun v1527 S1528 h1526 => ?_)
      obtain ⟨h1529, h1531, h1530⟩ := h1526
      rw [h1529]
      show X_T sc 76 (53, [(0, .ref 496), (1, .ref a)], [], S1528) _
      have hv1532 := X_av_r (n := n) (c := cur) (by omega)
      refine T_vret xr_76_53 xf_76.2.2 ?_
      refine hQ _ _ ?_
      have h1533 := (h1530.1 a (by omega)).trans (h1518)
      have e1 : X_lnC n so ct cur = X_av n cur := by
        unfold X_lnC
        first | rw [if_pos (Or.inl (by assumption))] | rw [if_pos (Or.inr (by assumption))] | rw [if_neg (by rintro (h | h) <;> contradiction)]
      have e2 : X_lnV so ct cur (d 1 0) = 2 := by
        unfold X_lnV
        first | rw [if_pos (by assumption)] | rw [if_neg (by assumption), if_pos (by assumption)] | rw [if_neg (by assumption), if_neg (by assumption)]
      have h1534 := (h1530.1 496 (by omega)).trans (h1521)
      have h1535 := (h1530.1 (a + 1) (by omega)).trans ((n1519 (a + 1) (by omega)).trans (hw.2.1))
      have h1536 := (h1530.1 (a + 2) (by omega)).trans ((n1519 (a + 2) (by omega)).trans (hw.2.2.1))
      have h1537 := (h1530.1 (a + 3) (by omega)).trans ((n1519 (a + 3) (by omega)).trans (hw.2.2.2.1))
      have h1538 := (h1530.1 (a + 4) (by omega)).trans ((n1519 (a + 4) (by omega)).trans (hw.2.2.2.2.1))
      have h1539 := (h1530.1 (a + 5) (by omega)).trans ((n1519 (a + 5) (by omega)).trans (hw.2.2.2.2.2.1))
      have h1540 := (h1530.1 (a + 6) (by omega)).trans ((n1519 (a + 6) (by omega)).trans (hw.2.2.2.2.2.2.1))
      have h1541 := (h1530.1 (a + 7) (by omega)).trans ((n1519 (a + 7) (by omega)).trans (hw.2.2.2.2.2.2.2))
      rw [e1, e2]
      exact ⟨rfl, h1534, h1531, ⟨h1533, h1535, h1536, h1537, h1538, h1539, h1540, h1541⟩, ((X_Fr.rf).tr (X_Fr.of n1519 e1520 (by omega))).tr (X_Fr.mono ⟨h1530.1, h1530.2⟩ (fun q hq => (by omega)))⟩
  · skip
    have c1510 : (so cur = 3 ∧ ct cur = (Int64.ofNat 1818584692)) := c1510
    refine T_p xr_76_13 xn_76 (pc' := 14) (ls' := [(0, .ref 496), (1, .ref a)]) (st' := [.ref a]) rfl ?_
    refine T_p xr_76_14 xn_76 (pc' := 15) (ls' := [(0, .ref 496), (1, .ref a)]) (st' := [.int (iI 1), .ref a]) rfl ?_
    refine T_put xr_76_15 hw.1 rfl (Nat.le_of_ble_eq_true rfl) rfl (fs' := [.int (iI (d 0 0)), .int (iI 1), .int (iI (d 2 0)), .int (iI (d 3 0)), .int (iI (d 4 0)), .int (iI (d 5 0)), .int (iI (d 6 0)), .int (iI (d 7 0)), .ref (a + 1), .ref (a + 2), .ref (a + 3), .ref (a + 4), .ref (a + 5), .ref (a + 6), .ref (a + 7)]) rfl (pc' := 18) rfl (fun S1542 h1543 n1544 e1545 => ?_)
    refine T_p xr_76_18 xn_76 (pc' := 19) (ls' := [(0, .ref 496), (1, .ref a)]) (st' := [.ref 496]) rfl ?_
    have h1546 := (n1544 496 (by omega)).trans (hp)
    refine T_get xr_76_19 h1546 rfl (v := .ref 497) rfl (pc' := 22) rfl ?_
    have h1547 := (n1544 497 (by omega)).trans (hx.1)
    refine T_cv (S := S1542) (q := 497) xr_76_22 xf_52.1 xf_52.2.1 xn_52 (as := []) (r := []) rfl h1547 (Nat.le_of_ble_eq_true rfl) (Nat.le_of_ble_eq_true rfl) (pc' := 25) rfl (ls' := [(0, .ref 497)]) rfl ?_
    have h1548 := (n1544 498 (by omega)).trans (hx.2.1)
    have h1549 := (n1544 499 (by omega)).trans (hx.2.2.1)
    have h1550 := (n1544 500 (by omega)).trans (hx.2.2.2)
    refine T_mono (c_advance sc S1542 at_ n cur so pl ct ⟨h1547, h1548, h1549, h1550⟩ (by omega)) (fun v1552 S1553 h1551 => ?_)
    obtain ⟨h1554, h1556, h1555⟩ := h1551
    rw [h1554]
    show X_T sc 76 (25, [(0, .ref 496), (1, .ref a)], [], S1553) _
    have hv1557 := X_av_r (n := n) (c := cur) (by omega)
    refine T_p xr_76_25 xn_76 (pc' := 53) (ls' := [(0, .ref 496), (1, .ref a)]) (st' := []) rfl ?_
    refine T_vret xr_76_53 xf_76.2.2 ?_
    refine hQ _ _ ?_
    have h1558 := (h1555.1 a (by omega)).trans (h1543)
    have e1 : X_lnC n so ct cur = X_av n cur := by
      unfold X_lnC
      first | rw [if_pos (Or.inl (by assumption))] | rw [if_pos (Or.inr (by assumption))] | rw [if_neg (by rintro (h | h) <;> contradiction)]
    have e2 : X_lnV so ct cur (d 1 0) = 1 := by
      unfold X_lnV
      first | rw [if_pos (by assumption)] | rw [if_neg (by assumption), if_pos (by assumption)] | rw [if_neg (by assumption), if_neg (by assumption)]
    have h1559 := (h1555.1 496 (by omega)).trans (h1546)
    have h1560 := (h1555.1 (a + 1) (by omega)).trans ((n1544 (a + 1) (by omega)).trans (hw.2.1))
    have h1561 := (h1555.1 (a + 2) (by omega)).trans ((n1544 (a + 2) (by omega)).trans (hw.2.2.1))
    have h1562 := (h1555.1 (a + 3) (by omega)).trans ((n1544 (a + 3) (by omega)).trans (hw.2.2.2.1))
    have h1563 := (h1555.1 (a + 4) (by omega)).trans ((n1544 (a + 4) (by omega)).trans (hw.2.2.2.2.1))
    have h1564 := (h1555.1 (a + 5) (by omega)).trans ((n1544 (a + 5) (by omega)).trans (hw.2.2.2.2.2.1))
    have h1565 := (h1555.1 (a + 6) (by omega)).trans ((n1544 (a + 6) (by omega)).trans (hw.2.2.2.2.2.2.1))
    have h1566 := (h1555.1 (a + 7) (by omega)).trans ((n1544 (a + 7) (by omega)).trans (hw.2.2.2.2.2.2.2))
    rw [e1, e2]
    exact ⟨rfl, h1559, h1556, ⟨h1558, h1560, h1561, h1562, h1563, h1564, h1565, h1566⟩, ((X_Fr.rf).tr (X_Fr.of n1544 e1545 (by omega))).tr (X_Fr.mono ⟨h1555.1, h1555.2⟩ (fun q hq => (by omega)))⟩
