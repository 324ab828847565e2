theorem xr_72_0 : X_row 72 0 = some (0, (.aload_n 0, 1), (0, 0, 0)) := by decide +kernel
theorem xr_72_1 : X_row 72 1 = some (1, (.getfield 23, 3), (4, 0, 18)) := by decide +kernel
theorem xr_72_4 : X_row 72 4 = some (4, (.ldc2_w 170, 3), (1818584692, 620, 0)) := by decide +kernel
theorem xr_72_7 : X_row 72 7 = some (7, (.invokevirtual 45, 3), (47, 8, 0)) := by decide +kernel
theorem xr_72_10 : X_row 72 10 = some (10, (.ifCond .eq 18, 3), (0, 0, 0)) := by decide +kernel
theorem xr_72_13 : X_row 72 13 = some (13, (.aload_n 1, 1), (0, 0, 0)) := by decide +kernel
theorem xr_72_14 : X_row 72 14 = some (14, (.iconst 1, 1), (0, 0, 0)) := by decide +kernel
theorem xr_72_15 : X_row 72 15 = some (15, (.putfield 154, 3), (8, 1, 1)) := by decide +kernel
theorem xr_72_18 : X_row 72 18 = some (18, (.aload_n 0, 1), (0, 0, 0)) := by decide +kernel
theorem xr_72_19 : X_row 72 19 = some (19, (.getfield 23, 3), (4, 0, 18)) := by decide +kernel
theorem xr_72_22 : X_row 72 22 = some (22, (.invokevirtual 80, 3), (48, 18, 0)) := by decide +kernel
theorem xr_72_25 : X_row 72 25 = some (25, (.goto 28, 3), (0, 0, 0)) := by decide +kernel
theorem xr_72_28 : X_row 72 28 = some (28, (.aload_n 0, 1), (0, 0, 0)) := by decide +kernel
theorem xr_72_29 : X_row 72 29 = some (29, (.getfield 23, 3), (4, 0, 18)) := by decide +kernel
theorem xr_72_32 : X_row 72 32 = some (32, (.ldc2_w 172, 3), (491394656372, 621, 0)) := by decide +kernel
theorem xr_72_35 : X_row 72 35 = some (35, (.invokevirtual 45, 3), (47, 8, 0)) := by decide +kernel
theorem xr_72_38 : X_row 72 38 = some (38, (.ifCond .eq 15, 3), (0, 0, 0)) := by decide +kernel
theorem xr_72_41 : X_row 72 41 = some (41, (.aload_n 1, 1), (0, 0, 0)) := by decide +kernel
theorem xr_72_42 : X_row 72 42 = some (42, (.iconst 2, 1), (0, 0, 0)) := by decide +kernel
theorem xr_72_43 : X_row 72 43 = some (43, (.putfield 154, 3), (8, 1, 1)) := by decide +kernel
theorem xr_72_46 : X_row 72 46 = some (46, (.aload_n 0, 1), (0, 0, 0)) := by decide +kernel
theorem xr_72_47 : X_row 72 47 = some (47, (.getfield 23, 3), (4, 0, 18)) := by decide +kernel
theorem xr_72_50 : X_row 72 50 = some (50, (.invokevirtual 80, 3), (48, 18, 0)) := by decide +kernel
theorem xr_72_53 : X_row 72 53 = some (53, (.return_, 1), (0, 0, 0)) := by decide +kernel
theorem xn_72 : X_nL 72 = 2 := by decide +kernel
theorem xf_72 : X_na 72 = 1 ∧ X_ci 72 = 4 ∧ X_rt 72 = none := by decide +kernel
theorem X_wr_0 {d : Nat → Int → Int} {z : Int} (h : X_wr d) (hz : 0 ≤ z ∧ z ≤ 11) : X_wr (X_wu d 0 (fun _ => z)) := ⟨hz, h.2⟩
theorem X_wr_1 {d : Nat → Int → Int} {z : Int} (h : X_wr d) (hz : 0 ≤ z ∧ z ≤ 2) : X_wr (X_wu d 1 (fun _ => z)) := ⟨h.1, hz, h.2.2⟩
theorem X_wr_2 {d : Nat → Int → Int} {z : Int} (h : X_wr d) (hz : -1 ≤ z ∧ z ≤ 10) : X_wr (X_wu d 2 (fun _ => z)) := ⟨h.1, h.2.1, hz, h.2.2.2⟩
theorem X_wr_3 {d : Nat → Int → Int} {z : Int} (h : X_wr d) (hz : 0 ≤ z ∧ z ≤ 8) : X_wr (X_wu d 3 (fun _ => z)) := ⟨h.1, h.2.1, h.2.2.1, hz, h.2.2.2.2⟩
theorem X_wr_4 {d : Nat → Int → Int} {z : Int} (h : X_wr d) (hz : 0 ≤ z ∧ z ≤ 4) : X_wr (X_wu d 4 (fun _ => z)) := ⟨h.1, h.2.1, h.2.2.1, h.2.2.2.1, hz, h.2.2.2.2.2⟩
theorem X_wr_5 {d : Nat → Int → Int} {z : Int} (h : X_wr d) (hz : -1 ≤ z ∧ z ≤ 30) : X_wr (X_wu d 5 (fun _ => z)) := ⟨h.1, h.2.1, h.2.2.1, h.2.2.2.1, h.2.2.2.2.1, hz, h.2.2.2.2.2.2⟩
theorem X_wr_8 {d : Nat → Int → Int} {g : Int → Int} (h : X_wr d) : X_wr (X_wu d 8 g) := h
theorem X_wr_9 {d : Nat → Int → Int} {g : Int → Int} (h : X_wr d) : X_wr (X_wu d 9 g) := h
theorem X_wr_12 {d : Nat → Int → Int} {g : Int → Int} (h : X_wr d) : X_wr (X_wu d 12 g) := h
theorem X_wr_13 {d : Nat → Int → Int} {g : Int → Int} (h : X_wr d) : X_wr (X_wu d 13 g) := h
def X_lnC (n : Int) (so : Int → Int) (ct : Int → Int64) (c : Int) : Int := if (so c = 3 ∧ ct c = Int64.ofNat 1818584692) ∨ (so c = 3 ∧ ct c = Int64.ofNat 491394656372) then X_av n c else c
def X_lnV (so : Int → Int) (ct : Int → Int64) (c l : Int) : Int := if so c = 3 ∧ ct c = Int64.ofNat 1818584692 then 1 else if so c = 3 ∧ ct c = Int64.ofNat 491394656372 then 2 else l
theorem X_lnC_r {n : Int} {so : Int → Int} {ct : Int → Int64} {c : Int} (h : 0 ≤ c ∧ c < n) : 0 ≤ X_lnC n so ct c ∧ X_lnC n so ct c < n := by
  unfold X_lnC
  split
  · exact X_av_r h
  · exact h
theorem X_lnV_r {so : Int → Int} {ct : Int → Int64} {c l : Int} (h : 0 ≤ l ∧ l ≤ 2) : 0 ≤ X_lnV so ct c l ∧ X_lnV so ct c l ≤ 2 := by
  unfold X_lnV
  split
  · omega
  · split <;> omega
theorem c_parseLean (sc : X_Sc) (S : X_S) (B : Nat) (fl fp at_ n cur : Int) (so pl : Int → Int) (ct : Int → Int64) (rc kc wc : Int) (rn : Int → Int64) (lo : Int → Int) (kn : Int → Int64) (ab : Int → Int) (a : Nat) (d : Nat → Int → Int) (q : Int → Int64) (hB : 4 ≤ B ∧ B + 246 ≤ 496) (ha : B + 6 ≤ a ∧ a + 7 < B + 246) (hp : C_pa S B fl fp) (hx : C_lx S at_ n cur so pl ct) (hcu : 0 ≤ cur ∧ cur < n ∧ n ≤ 2001) (hso : ∀ i, 0 ≤ i → i < n → 0 ≤ so i ∧ so i ≤ 255) (hb : C_bk S B rc kc wc rn lo kn ab) (hw : C_wd S a d q) (hr : X_wr d) : X_T sc 72 (0, [(0, .ref 496), (1, .ref a)], [], S) (fun v S' => v = none ∧ C_pa S' B fl fp ∧ S'.1 497 = .inr (3, [.ref 2, .int (iI at_), .int (iI n), .ref 498, .ref 499, .ref 500, .int (iI (X_lnC n so ct cur))]) ∧ C_wd S' a (X_wu d 1 (fun _ => X_lnV so ct cur (d 1 0))) q ∧ X_Fr (fun q => q = 496 ∨ q = 497 ∨ (a ≤ q ∧ q ≤ a + 7)) S S') := by
  obtain ⟨hb0, hb1, hb2, hb3, hb4, ⟨f, hb5, hf⟩, ⟨hrc, hrcb⟩, ⟨hkc, hkcb⟩, ⟨hwc, hwcb⟩⟩ := id hb
  obtain ⟨⟨hr0, hr0b⟩, ⟨hr1, hr1b⟩, ⟨hr2, hr2b⟩, ⟨hr3, hr3b⟩, ⟨hr4, hr4b⟩, ⟨hr5, hr5b⟩, ⟨hr6, hr6b⟩, ⟨hr7, hr7b⟩⟩ := id hr
  refine X_QI (fun Q hQ => ?_)
  refine T_p xr_72_0 xn_72 (pc' := 1) (ls' := [(0, .ref 496), (1, .ref a)]) (st' := [.ref 496]) rfl ?_
  refine T_get xr_72_1 hp rfl (v := .ref 497) rfl (pc' := 4) rfl ?_
  refine T_p xr_72_4 xn_72 (pc' := 7) (ls' := [(0, .ref 496), (1, .ref a)]) (st' := [.long (Int64.ofNat 1818584692), .ref 497]) rfl ?_
  refine T_cv (S := S) (q := 497) xr_72_7 xf_47.1 xf_47.2.1 xn_47 (as := [.long (Int64.ofNat 1818584692)]) (r := []) rfl hx.1 (Nat.le_of_ble_eq_true rfl) (Nat.le_of_ble_eq_true rfl) (pc' := 10) rfl (ls' := [(0, .ref 497), (1, .long (Int64.ofNat 1818584692))]) rfl ?_
  refine T_mono (c_isKeyword sc S at_ n cur so pl ct (Int64.ofNat 1818584692) ⟨hx.1, hx.2.1, hx.2.2.1, hx.2.2.2⟩ (by omega) hso) (fun v1405 S1406 h1404 => ?_)
  obtain ⟨h1407, h1408⟩ := h1404
  rw [h1407, h1408]
  show X_T sc 72 (10, [(0, .ref 496), (1, .ref a)], [.int (iI (bI (so cur = 3 ∧ ct cur = (Int64.ofNat 1818584692))))], S) _
  refine T_bif_eq xr_72_10 (t := 28) (pc' := 13) rfl rfl (fun c1409 => ?_) (fun c1409 => ?_)
  · skip
    have c1409 : ¬ (so cur = 3 ∧ ct cur = (Int64.ofNat 1818584692)) := c1409
    refine T_p xr_72_28 xn_72 (pc' := 29) (ls' := [(0, .ref 496), (1, .ref a)]) (st' := [.ref 496]) rfl ?_
    refine T_get xr_72_29 hp rfl (v := .ref 497) rfl (pc' := 32) rfl ?_
    refine T_p xr_72_32 xn_72 (pc' := 35) (ls' := [(0, .ref 496), (1, .ref a)]) (st' := [.long (Int64.ofNat 491394656372), .ref 497]) rfl ?_
    refine T_cv (S := S) (q := 497) xr_72_35 xf_47.1 xf_47.2.1 xn_47 (as := [.long (Int64.ofNat 491394656372)]) (r := []) rfl hx.1 (Nat.le_of_ble_eq_true rfl) (Nat.le_of_ble_eq_true rfl) (pc' := 38) rfl (ls' := [(0, .ref 497), (1, .long (Int64.ofNat 491394656372))]) rfl ?_
    refine T_mono (c_isKeyword sc S at_ n cur so pl ct (Int64.ofNat 491394656372) ⟨hx.1, hx.2.1, hx.2.2.1, hx.2.2.2⟩ (by omega) hso) (fun v1411 S1412 h1410 => ?_)
    obtain ⟨h1413, h1414⟩ := h1410
    rw [h1413, h1414]
    show X_T sc 72 (38, [(0, .ref 496), (1, .ref a)], [.int (iI (bI (so cur = 3 ∧ ct cur = (Int64.ofNat 491394656372))))], S) _
    refine T_bif_eq xr_72_38 (t := 53) (pc' := 41) rfl rfl (fun c1415 => ?_) (fun c1415 => ?_)
    · skip
      have c1415 : ¬ (so cur = 3 ∧ ct cur = (Int64.ofNat 491394656372)) := c1415
      refine T_vret xr_72_53 xf_72.2.2 ?_
      refine hQ _ _ ?_
      have e1 : X_lnC n so ct cur = cur := by
        unfold X_lnC
        first | rw [if_pos (Or.inl (by assumption))] | rw [if_pos (Or.inr (by assumption))] | rw [if_neg (by rintro (h | h) <;> contradiction)]
      have e2 : X_lnV so ct cur (d 1 0) = d 1 0 := by
        unfold X_lnV
        first | rw [if_pos (by assumption)] | rw [if_neg (by assumption), if_pos (by assumption)] | rw [if_neg (by assumption), if_neg (by assumption)]
      rw [e1, e2]
      exact ⟨rfl, hp, hx.1, ⟨hw.1, hw.2.1, hw.2.2.1, hw.2.2.2.1, hw.2.2.2.2.1, hw.2.2.2.2.2.1, hw.2.2.2.2.2.2.1, hw.2.2.2.2.2.2.2⟩, X_Fr.rf⟩
    · skip
      have c1415 : (so cur = 3 ∧ ct cur = (Int64.ofNat 491394656372)) := c1415
      refine T_p xr_72_41 xn_72 (pc' := 42) (ls' := [(0, .ref 496), (1, .ref a)]) (st' := [.ref a]) rfl ?_
      refine T_p xr_72_42 xn_72 (pc' := 43) (ls' := [(0, .ref 496), (1, .ref a)]) (st' := [.int (iI 2), .ref a]) rfl ?_
      refine T_put xr_72_43 hw.1 rfl (Nat.le_of_ble_eq_true rfl) rfl (fs' := [.int (iI (d 0 0)), .int (iI 2), .int (iI (d 2 0)), .int (iI (d 3 0)), .int (iI (d 4 0)), .int (iI (d 5 0)), .int (iI (d 6 0)), .int (iI (d 7 0)), .ref (a + 1), .ref (a + 2), .ref (a + 3), .ref (a + 4), .ref (a + 5), .ref (a + 6), .ref (a + 7)]) rfl (pc' := 46) rfl (fun S1416 h1417 n1418 e1419 => ?_)
      refine T_p xr_72_46 xn_72 (pc' := 47) (ls' := [(0, .ref 496), (1, .ref a)]) (st' := [.ref 496]) rfl ?_
      have h1420 := (n1418 496 (by omega)).trans (hp)
      refine T_get xr_72_47 h1420 rfl (v := .ref 497) rfl (pc' := 50) rfl ?_
      have h1421 := (n1418 497 (by omega)).trans (hx.1)
      refine T_cv (S := S1416) (q := 497) xr_72_50 xf_48.1 xf_48.2.1 xn_48 (as := []) (r := []) rfl h1421 (Nat.le_of_ble_eq_true rfl) (Nat.le_of_ble_eq_true rfl) (pc' := 53) rfl (ls' := [(0, .ref 497)]) rfl ?_
      have h1422 := (n1418 498 (by omega)).trans (hx.2.1)
      have h1423 := (n1418 499 (by omega)).trans (hx.2.2.1)
      have h1424 := (n1418 500 (by omega)).trans (hx.2.2.2)
      refine T_mono (c_advance sc S1416 at_ n cur so pl ct ⟨h1421, h1422, h1423, h1424⟩ (by omega)) (fun v1426 S1427 h1425 => ?_)
      obtain ⟨h1428, h1430, h1429⟩ := h1425
      rw [h1428]
      show X_T sc 72 (53, [(0, .ref 496), (1, .ref a)], [], S1427) _
      have hv1431 := X_av_r (n := n) (c := cur) (by omega)
      refine T_vret xr_72_53 xf_72.2.2 ?_
      refine hQ _ _ ?_
      have h1432 := (h1429.1 a (by omega)).trans (h1417)
      have e1 : X_lnC n so ct cur = X_av n cur := by
        unfold X_lnC
        first | rw [if_pos (Or.inl (by assumption))] | rw [if_pos (Or.inr (by assumption))] | rw [if_neg (by rintro (h | h) <;> contradiction)]
      have e2 : X_lnV so ct cur (d 1 0) = 2 := by
        unfold X_lnV
        first | rw [if_pos (by assumption)] | rw [if_neg (by assumption), if_pos (by assumption)] | rw [if_neg (by assumption), if_neg (by assumption)]
      have h1433 := (h1429.1 496 (by omega)).trans (h1420)
      have h1434 := (h1429.1 (a + 1) (by omega)).trans ((n1418 (a + 1) (by omega)).trans (hw.2.1))
      have h1435 := (h1429.1 (a + 2) (by omega)).trans ((n1418 (a + 2) (by omega)).trans (hw.2.2.1))
      have h1436 := (h1429.1 (a + 3) (by omega)).trans ((n1418 (a + 3) (by omega)).trans (hw.2.2.2.1))
      have h1437 := (h1429.1 (a + 4) (by omega)).trans ((n1418 (a + 4) (by omega)).trans (hw.2.2.2.2.1))
      have h1438 := (h1429.1 (a + 5) (by omega)).trans ((n1418 (a + 5) (by omega)).trans (hw.2.2.2.2.2.1))
      have h1439 := (h1429.1 (a + 6) (by omega)).trans ((n1418 (a + 6) (by omega)).trans (hw.2.2.2.2.2.2.1))
      have h1440 := (h1429.1 (a + 7) (by omega)).trans ((n1418 (a + 7) (by omega)).trans (hw.2.2.2.2.2.2.2))
      rw [e1, e2]
      exact ⟨rfl, h1433, h1430, ⟨h1432, h1434, h1435, h1436, h1437, h1438, h1439, h1440⟩, ((X_Fr.rf).tr (X_Fr.of n1418 e1419 (by omega))).tr (X_Fr.mono ⟨h1429.1, h1429.2⟩ (fun q hq => (by omega)))⟩
  · skip
    have c1409 : (so cur = 3 ∧ ct cur = (Int64.ofNat 1818584692)) := c1409
    refine T_p xr_72_13 xn_72 (pc' := 14) (ls' := [(0, .ref 496), (1, .ref a)]) (st' := [.ref a]) rfl ?_
    refine T_p xr_72_14 xn_72 (pc' := 15) (ls' := [(0, .ref 496), (1, .ref a)]) (st' := [.int (iI 1), .ref a]) rfl ?_
    refine T_put xr_72_15 hw.1 rfl (Nat.le_of_ble_eq_true rfl) rfl (fs' := [.int (iI (d 0 0)), .int (iI 1), .int (iI (d 2 0)), .int (iI (d 3 0)), .int (iI (d 4 0)), .int (iI (d 5 0)), .int (iI (d 6 0)), .int (iI (d 7 0)), .ref (a + 1), .ref (a + 2), .ref (a + 3), .ref (a + 4), .ref (a + 5), .ref (a + 6), .ref (a + 7)]) rfl (pc' := 18) rfl (fun S1441 h1442 n1443 e1444 => ?_)
    refine T_p xr_72_18 xn_72 (pc' := 19) (ls' := [(0, .ref 496), (1, .ref a)]) (st' := [.ref 496]) rfl ?_
    have h1445 := (n1443 496 (by omega)).trans (hp)
    refine T_get xr_72_19 h1445 rfl (v := .ref 497) rfl (pc' := 22) rfl ?_
    have h1446 := (n1443 497 (by omega)).trans (hx.1)
    refine T_cv (S := S1441) (q := 497) xr_72_22 xf_48.1 xf_48.2.1 xn_48 (as := []) (r := []) rfl h1446 (Nat.le_of_ble_eq_true rfl) (Nat.le_of_ble_eq_true rfl) (pc' := 25) rfl (ls' := [(0, .ref 497)]) rfl ?_
    have h1447 := (n1443 498 (by omega)).trans (hx.2.1)
    have h1448 := (n1443 499 (by omega)).trans (hx.2.2.1)
    have h1449 := (n1443 500 (by omega)).trans (hx.2.2.2)
    refine T_mono (c_advance sc S1441 at_ n cur so pl ct ⟨h1446, h1447, h1448, h1449⟩ (by omega)) (fun v1451 S1452 h1450 => ?_)
    obtain ⟨h1453, h1455, h1454⟩ := h1450
    rw [h1453]
    show X_T sc 72 (25, [(0, .ref 496), (1, .ref a)], [], S1452) _
    have hv1456 := X_av_r (n := n) (c := cur) (by omega)
    refine T_p xr_72_25 xn_72 (pc' := 53) (ls' := [(0, .ref 496), (1, .ref a)]) (st' := []) rfl ?_
    refine T_vret xr_72_53 xf_72.2.2 ?_
    refine hQ _ _ ?_
    have h1457 := (h1454.1 a (by omega)).trans (h1442)
    have e1 : X_lnC n so ct cur = X_av n cur := by
      unfold X_lnC
      first | rw [if_pos (Or.inl (by assumption))] | rw [if_pos (Or.inr (by assumption))] | rw [if_neg (by rintro (h | h) <;> contradiction)]
    have e2 : X_lnV so ct cur (d 1 0) = 1 := by
      unfold X_lnV
      first | rw [if_pos (by assumption)] | rw [if_neg (by assumption), if_pos (by assumption)] | rw [if_neg (by assumption), if_neg (by assumption)]
    have h1458 := (h1454.1 496 (by omega)).trans (h1445)
    have h1459 := (h1454.1 (a + 1) (by omega)).trans ((n1443 (a + 1) (by omega)).trans (hw.2.1))
    have h1460 := (h1454.1 (a + 2) (by omega)).trans ((n1443 (a + 2) (by omega)).trans (hw.2.2.1))
    have h1461 := (h1454.1 (a + 3) (by omega)).trans ((n1443 (a + 3) (by omega)).trans (hw.2.2.2.1))
    have h1462 := (h1454.1 (a + 4) (by omega)).trans ((n1443 (a + 4) (by omega)).trans (hw.2.2.2.2.1))
    have h1463 := (h1454.1 (a + 5) (by omega)).trans ((n1443 (a + 5) (by omega)).trans (hw.2.2.2.2.2.1))
    have h1464 := (h1454.1 (a + 6) (by omega)).trans ((n1443 (a + 6) (by omega)).trans (hw.2.2.2.2.2.2.1))
    have h1465 := (h1454.1 (a + 7) (by omega)).trans ((n1443 (a + 7) (by omega)).trans (hw.2.2.2.2.2.2.2))
    rw [e1, e2]
    exact ⟨rfl, h1458, h1455, ⟨h1457, h1459, h1460, h1461, h1462, h1463, h1464, h1465⟩, ((X_Fr.rf).tr (X_Fr.of n1443 e1444 (by omega))).tr (X_Fr.mono ⟨h1454.1, h1454.2⟩ (fun q hq => (by omega)))⟩
