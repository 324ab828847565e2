/-! p20: the four texts and their books -/
theorem V_ti {n : Int} {so : Int → Int} {ct : Int → Int64} {c rc kc wc a b : Int} {rn : Int → Int64} {lo : Int → Int} {kn : Int → Int64} {ab : Int → Int} {D : Int → Nat → Int → Int} {W : Int → Int → Int64} (h0 : so c = 3) (h1 : ct c = Int64.ofNat 32766990153442674) (h2 : so (c + 1) = 2) (ha : X_ix rn rc (ct (c + 1)) = a) (ha0 : 0 ≤ a) (h3 : so (c + 2) = 2) (hb : X_ix rn rc (ct (c + 2)) = b) (hb0 : 0 ≤ b) (hab : ¬ a = b) (hl : ¬ X_bt (lo b) a) (h4 : so (c + 3) = 59) (hn : c + 4 < n) :
    sp_line n so ct (c, rc, kc, wc, rn, lo, kn, ab, D, W) = some (c + 4, rc, kc, wc, rn, X_tf rc lo a b, kn, ab, D, W) := by
  have e1 : X_av n c = c + 1 := V_av (by omega)
  have e2 : X_av n (c + 1) = c + 2 := (V_av (by omega)).trans (by omega)
  have e3 : X_av n (c + 2) = c + 3 := (V_av (by omega)).trans (by omega)
  have e4 : X_av n (c + 3) = c + 4 := (V_av (by omega)).trans (by omega)
  unfold sp_line
  simp only
  rw [if_neg (fun z => by rw [h1] at z; exact absurd z.2 (by decide)), if_pos ⟨h0, h1⟩]
  unfold sp_tight
  simp only
  rw [e1, if_pos h2, ha, if_neg (by omega), e2, if_pos h3, hb, if_neg (by omega), if_neg hab, if_neg hl, e3, if_pos h4, e4]
theorem V_hix {rn : Int → Int64} : X_ix (X_ug (X_ug rn 0 (Int64.ofNat 114)) 1 (Int64.ofNat 113)) 2 (Int64.ofNat 114) = 0 ∧ X_ix (X_ug (X_ug rn 0 (Int64.ofNat 114)) 1 (Int64.ofNat 113)) 2 (Int64.ofNat 113) = 1 := by
  have e0 : X_ug (X_ug rn 0 (Int64.ofNat 114)) 1 (Int64.ofNat 113) 0 = Int64.ofNat 114 := by rw [X_ug_n _ _ (by decide), X_ug_s]
  refine ⟨V_ix (by omega) (by omega) e0 (fun k h1 h2 => absurd h2 (by omega)), V_ix (by omega) (by omega) (X_ug_s _ _ _) (fun k h1 h2 => ?_)⟩
  rw [show k = 0 by omega, e0]
  decide
def V_head (T : List (Int × Int64)) (tg : Bool) : Bool :=
  V_tkC T 0 3 (Int64.ofNat 1918987883) && V_tkC T 1 2 (Int64.ofNat 114) && V_tkI T 2 59 && V_tkC T 3 3 (Int64.ofNat 1918987883) && V_tkC T 4 2 (Int64.ofNat 113) && V_tkI T 5 59 && (!tg || (V_tkC T 6 3 (Int64.ofNat 32766990153442674) && V_tkC T 7 2 (Int64.ofNat 114) && V_tkC T 8 2 (Int64.ofNat 113) && V_tkI T 9 59)) && decide (12 ≤ T.length)
theorem V_book_T {n : Int} {so : Int → Int} {ct : Int → Int64} {T : List (Int × Int64)} {rn : Int → Int64} {lo : Int → Int} {kn : Int → Int64} {ab : Int → Int} {D : Int → Nat → Int → Int} {W : Int → Int → Int64} (hn : n = (T.length : Int)) (hT : V_tt so ct 0 T) (tg : Bool) (ws : List V_W) (h1 : V_head T tg = true) (h2 : V_wls T (if tg = true then 10 else 6) ws = true) (h3 : ws.all (fun w => decide (w.1 = Int64.ofNat 114) || decide (w.1 = Int64.ofNat 113)) = true) (h4 : ws.length ≤ 30) :
    ∃ (c' : Int) (lo' : Int → Int) (D' : Int → Nat → Int → Int) (W' : Int → Int → Int64), sp_lines n so ct 2001 (0, 0, 1, 0, rn, lo, kn, ab, D, W) = some (c', 2, 1, (ws.length : Int), X_ug (X_ug rn 0 (Int64.ofNat 114)) 1 (Int64.ofNat 113), lo', kn, ab, D', W') ∧ ∀ (j : Nat) (w : V_W), ws[j]? = some w → V_qt (D' (j : Int)) (W' (j : Int)) 0 (V_pat w.2.2) := by
  unfold V_head at h1
  simp only [Bool.and_eq_true, decide_eq_true_eq] at h1
  obtain ⟨⟨⟨⟨⟨⟨⟨a0, a1⟩, a2⟩, a3⟩, a4⟩, a5⟩, a6⟩, a7⟩ := h1
  have b0 := V_tkC_e hT a0
  have b1 := V_tkC_e hT a1
  have b2 := V_tkI_e hT a2
  have b3 := V_tkC_e hT a3
  have b4 := V_tkC_e hT a4
  have b5 := V_tkI_e hT a5
  have r1 := V_rk (n := n) (so := so) (ct := ct) (c := 0) (rc := 0) (kc := 1) (wc := 0) (rn := rn) (lo := lo) (kn := kn) (ab := ab) (D := D) (W := W) b0.1 b0.2 (by omega) b1.1 (fun k g1 g2 => absurd g2 (by omega)) b2 (by omega)
  have r1 : sp_line n so ct (0, 0, 1, 0, rn, lo, kn, ab, D, W) = some (3, 1, 1, 0, X_ug rn 0 (Int64.ofNat 114), X_ug lo 0 0, kn, ab, D, W) := by
    rw [r1, show ct (0 + 1) = Int64.ofNat 114 from b1.2]
    rfl
  have r2 := V_rk (n := n) (so := so) (ct := ct) (c := 3) (rc := 1) (kc := 1) (wc := 0) (rn := X_ug rn 0 (Int64.ofNat 114)) (lo := X_ug lo 0 0) (kn := kn) (ab := ab) (D := D) (W := W) b3.1 b3.2 (by omega) b4.1 (fun k g1 g2 => by
    rw [show k = 0 by omega, X_ug_s, show ct (3 + 1) = Int64.ofNat 113 from b4.2]
    decide) b5 (by omega)
  have r2 : sp_line n so ct (3, 1, 1, 0, X_ug rn 0 (Int64.ofNat 114), X_ug lo 0 0, kn, ab, D, W) = some (6, 2, 1, 0, X_ug (X_ug rn 0 (Int64.ofNat 114)) 1 (Int64.ofNat 113), X_ug (X_ug lo 0 0) 1 0, kn, ab, D, W) := by
    rw [r2, show ct (3 + 1) = Int64.ofNat 113 from b4.2]
    rfl
  have hx : ∀ w ∈ ws, 0 ≤ X_ix (X_ug (X_ug rn 0 (Int64.ofNat 114)) 1 (Int64.ofNat 113)) 2 w.1 := fun w hw => by
    have z := List.all_eq_true.mp h3 w hw
    rw [Bool.or_eq_true, decide_eq_true_eq, decide_eq_true_eq] at z
    rcases z with z | z
    · rw [z, V_hix.1]; omega
    · rw [z, V_hix.2]; omega
  have s1 : sp_lines n so ct 2001 (0, 0, 1, 0, rn, lo, kn, ab, D, W) = sp_lines n so ct 1999 (6, 2, 1, 0, X_ug (X_ug rn 0 (Int64.ofNat 114)) 1 (Int64.ofNat 113), X_ug (X_ug lo 0 0) 1 0, kn, ab, D, W) :=
    (V_ls (m := 2000) (K := (0, 0, 1, 0, rn, lo, kn, ab, D, W)) (fun z => by have y : so 0 = 3 := b0.1; have z : so 0 = 0 := z; omega) r1).trans (V_ls (m := 1999) (fun z => by have y : so 3 = 3 := b3.1; have z : so 3 = 0 := z; omega) r2)
  rw [s1]
  cases tg with
  | false =>
    obtain ⟨c', D', W', f1, f2, -⟩ := V_wls_e (rc := 2) (kc := 1) (rn := X_ug (X_ug rn 0 (Int64.ofNat 114)) 1 (Int64.ofNat 113)) (lo := X_ug (X_ug lo 0 0) 1 0) (kn := kn) (ab := ab) hn hT ws 1999 6 0 D W h2 hx (by omega) (by omega)
    refine ⟨c', X_ug (X_ug lo 0 0) 1 0, D', W', ?_, fun j w hj => ?_⟩
    · rw [Int.zero_add] at f1
      exact f1
    · have := f2 j w hj
      rw [Int.zero_add] at this
      exact this
  | true =>
    have a6 : (!true || (V_tkC T 6 3 (Int64.ofNat 32766990153442674) && V_tkC T 7 2 (Int64.ofNat 114) && V_tkC T 8 2 (Int64.ofNat 113) && V_tkI T 9 59)) = true := a6
    simp only [Bool.not_true, Bool.false_or, Bool.and_eq_true] at a6
    obtain ⟨⟨⟨g6, g7⟩, g8⟩, g9⟩ := a6
    have b6 := V_tkC_e hT g6
    have b7 := V_tkC_e hT g7
    have b8 := V_tkC_e hT g8
    have b9 := V_tkI_e hT g9
    have r3 := V_ti (n := n) (so := so) (ct := ct) (c := 6) (rc := 2) (kc := 1) (wc := 0) (a := 0) (b := 1) (rn := X_ug (X_ug rn 0 (Int64.ofNat 114)) 1 (Int64.ofNat 113)) (lo := X_ug (X_ug lo 0 0) 1 0) (kn := kn) (ab := ab) (D := D) (W := W) b6.1 b6.2 b7.1 (by rw [show ct (6 + 1) = Int64.ofNat 114 from b7.2]; exact V_hix.1) (by omega) b8.1 (by rw [show ct (6 + 2) = Int64.ofNat 113 from b8.2]; exact V_hix.2) (by omega) (by omega) (by rw [X_ug_s]; exact X_bt_0 0 (by omega)) b9 (by omega)
    have s2 : sp_lines n so ct 1999 (6, 2, 1, 0, X_ug (X_ug rn 0 (Int64.ofNat 114)) 1 (Int64.ofNat 113), X_ug (X_ug lo 0 0) 1 0, kn, ab, D, W) = sp_lines n so ct 1998 (10, 2, 1, 0, X_ug (X_ug rn 0 (Int64.ofNat 114)) 1 (Int64.ofNat 113), X_tf 2 (X_ug (X_ug lo 0 0) 1 0) 0 1, kn, ab, D, W) := V_ls (m := 1998) (fun z => by have y : so 6 = 3 := b6.1; have z : so 6 = 0 := z; omega) r3
    rw [s2]
    obtain ⟨c', D', W', f1, f2, -⟩ := V_wls_e (rc := 2) (kc := 1) (rn := X_ug (X_ug rn 0 (Int64.ofNat 114)) 1 (Int64.ofNat 113)) (lo := X_tf 2 (X_ug (X_ug lo 0 0) 1 0) 0 1) (kn := kn) (ab := ab) hn hT ws 1998 10 0 D W h2 hx (by omega) (by omega)
    refine ⟨c', X_tf 2 (X_ug (X_ug lo 0 0) 1 0) 0 1, D', W', ?_, fun j w hj => ?_⟩
    · rw [Int.zero_add] at f1
      exact f1
    · have := f2 j w hj
      rw [Int.zero_add] at this
      exact this
def V_w0 : List V_W := [(Int64.ofNat 113, 2, [some (Int64.ofNat 105), none, some (Int64.ofNat 116), none]), (Int64.ofNat 114, 1, [none, some (Int64.ofNat 116), none]), (Int64.ofNat 114, 1, [none, some (Int64.ofNat 106), none]), (Int64.ofNat 113, 1, [none, some (Int64.ofNat 106), none]), (Int64.ofNat 113, 0, [some (Int64.ofNat 120)]), (Int64.ofNat 114, 0, [some (Int64.ofNat 120)])]
def V_w1 : List V_W := [(Int64.ofNat 114, 2, [some (Int64.ofNat 105), none, some (Int64.ofNat 116), none]), (Int64.ofNat 114, 0, [some (Int64.ofNat 105), none, some (Int64.ofNat 116), none, some (Int64.ofNat 101), none]), (Int64.ofNat 114, 1, [none, some (Int64.ofNat 106), none]), (Int64.ofNat 113, 1, [none, some (Int64.ofNat 106), none]), (Int64.ofNat 113, 0, [some (Int64.ofNat 120)]), (Int64.ofNat 114, 0, [some (Int64.ofNat 120)])]
def V_L00 : List Int := [114, 97, 110, 107, 32, 114, 59, 114, 97, 110, 107, 32, 113, 59, 119, 111, 114, 100, 32, 113, 32, 114, 105, 103, 104, 116, 58, 34, 105, 34, 95, 34, 116, 34, 95, 59, 119, 111, 114, 100, 32, 114, 32, 108, 101, 102, 116, 58, 95, 34, 116, 34, 95, 59, 119, 111, 114, 100, 32, 114, 32, 108, 101, 102, 116, 58, 95, 34, 106, 34, 95, 59, 119, 111, 114, 100, 32, 113, 32, 108, 101, 102, 116, 58, 95, 34, 106, 34, 95, 59, 119, 111, 114, 100, 32, 113, 58, 34, 120, 34, 59, 119, 111, 114, 100, 32, 114, 58, 34, 120, 34, 59]
def V_T00 : List (Int × Int64) := [(3, Int64.ofNat 1918987883), (2, Int64.ofNat 114), (59, Int64.ofNat 0), (3, Int64.ofNat 1918987883), (2, Int64.ofNat 113), (59, Int64.ofNat 0), (3, Int64.ofNat 2003792484), (2, Int64.ofNat 113), (3, Int64.ofNat 491394656372), (58, Int64.ofNat 0), (6, Int64.ofNat 105), (95, Int64.ofNat 0), (6, Int64.ofNat 116), (95, Int64.ofNat 0), (59, Int64.ofNat 0), (3, Int64.ofNat 2003792484), (2, Int64.ofNat 114), (3, Int64.ofNat 1818584692), (58, Int64.ofNat 0), (95, Int64.ofNat 0), (6, Int64.ofNat 116), (95, Int64.ofNat 0), (59, Int64.ofNat 0), (3, Int64.ofNat 2003792484), (2, Int64.ofNat 114), (3, Int64.ofNat 1818584692), (58, Int64.ofNat 0), (95, Int64.ofNat 0), (6, Int64.ofNat 106), (95, Int64.ofNat 0), (59, Int64.ofNat 0), (3, Int64.ofNat 2003792484), (2, Int64.ofNat 113), (3, Int64.ofNat 1818584692), (58, Int64.ofNat 0), (95, Int64.ofNat 0), (6, Int64.ofNat 106), (95, Int64.ofNat 0), (59, Int64.ofNat 0), (3, Int64.ofNat 2003792484), (2, Int64.ofNat 113), (58, Int64.ofNat 0), (6, Int64.ofNat 120), (59, Int64.ofNat 0), (3, Int64.ofNat 2003792484), (2, Int64.ofNat 114), (58, Int64.ofNat 0), (6, Int64.ofNat 120), (59, Int64.ofNat 0), (0, Int64.ofNat 0)]
set_option maxRecDepth 100000 in
theorem V_t00 : V_tks V_L00 100 0 = V_T00 := by decide +kernel
theorem V_g00 : V_tg V_T00 = true := by decide +kernel
theorem V_h00 : V_head V_T00 false = true := by decide +kernel
theorem V_s00 : V_wls V_T00 (if false = true then 10 else 6) V_w0 = true := by decide +kernel
def V_L01 : List Int := [114, 97, 110, 107, 32, 114, 59, 114, 97, 110, 107, 32, 113, 59, 119, 111, 114, 100, 32, 114, 32, 114, 105, 103, 104, 116, 58, 34, 105, 34, 95, 34, 116, 34, 95, 59, 119, 111, 114, 100, 32, 114, 58, 34, 105, 34, 95, 34, 116, 34, 95, 34, 101, 34, 95, 59, 119, 111, 114, 100, 32, 114, 32, 108, 101, 102, 116, 58, 95, 34, 106, 34, 95, 59, 119, 111, 114, 100, 32, 113, 32, 108, 101, 102, 116, 58, 95, 34, 106, 34, 95, 59, 119, 111, 114, 100, 32, 113, 58, 34, 120, 34, 59, 119, 111, 114, 100, 32, 114, 58, 34, 120, 34, 59]
def V_T01 : List (Int × Int64) := [(3, Int64.ofNat 1918987883), (2, Int64.ofNat 114), (59, Int64.ofNat 0), (3, Int64.ofNat 1918987883), (2, Int64.ofNat 113), (59, Int64.ofNat 0), (3, Int64.ofNat 2003792484), (2, Int64.ofNat 114), (3, Int64.ofNat 491394656372), (58, Int64.ofNat 0), (6, Int64.ofNat 105), (95, Int64.ofNat 0), (6, Int64.ofNat 116), (95, Int64.ofNat 0), (59, Int64.ofNat 0), (3, Int64.ofNat 2003792484), (2, Int64.ofNat 114), (58, Int64.ofNat 0), (6, Int64.ofNat 105), (95, Int64.ofNat 0), (6, Int64.ofNat 116), (95, Int64.ofNat 0), (6, Int64.ofNat 101), (95, Int64.ofNat 0), (59, Int64.ofNat 0), (3, Int64.ofNat 2003792484), (2, Int64.ofNat 114), (3, Int64.ofNat 1818584692), (58, Int64.ofNat 0), (95, Int64.ofNat 0), (6, Int64.ofNat 106), (95, Int64.ofNat 0), (59, Int64.ofNat 0), (3, Int64.ofNat 2003792484), (2, Int64.ofNat 113), (3, Int64.ofNat 1818584692), (58, Int64.ofNat 0), (95, Int64.ofNat 0), (6, Int64.ofNat 106), (95, Int64.ofNat 0), (59, Int64.ofNat 0), (3, Int64.ofNat 2003792484), (2, Int64.ofNat 113), (58, Int64.ofNat 0), (6, Int64.ofNat 120), (59, Int64.ofNat 0), (3, Int64.ofNat 2003792484), (2, Int64.ofNat 114), (58, Int64.ofNat 0), (6, Int64.ofNat 120), (59, Int64.ofNat 0), (0, Int64.ofNat 0)]
set_option maxRecDepth 100000 in
theorem V_t01 : V_tks V_L01 100 0 = V_T01 := by decide +kernel
theorem V_g01 : V_tg V_T01 = true := by decide +kernel
theorem V_h01 : V_head V_T01 false = true := by decide +kernel
theorem V_s01 : V_wls V_T01 (if false = true then 10 else 6) V_w1 = true := by decide +kernel
def V_L10 : List Int := [114, 97, 110, 107, 32, 114, 59, 114, 97, 110, 107, 32, 113, 59, 116, 105, 103, 104, 116, 101, 114, 32, 114, 32, 113, 59, 119, 111, 114, 100, 32, 113, 32, 114, 105, 103, 104, 116, 58, 34, 105, 34, 95, 34, 116, 34, 95, 59, 119, 111, 114, 100, 32, 114, 32, 108, 101, 102, 116, 58, 95, 34, 116, 34, 95, 59, 119, 111, 114, 100, 32, 114, 32, 108, 101, 102, 116, 58, 95, 34, 106, 34, 95, 59, 119, 111, 114, 100, 32, 113, 32, 108, 101, 102, 116, 58, 95, 34, 106, 34, 95, 59, 119, 111, 114, 100, 32, 113, 58, 34, 120, 34, 59, 119, 111, 114, 100, 32, 114, 58, 34, 120, 34, 59]
def V_T10 : List (Int × Int64) := [(3, Int64.ofNat 1918987883), (2, Int64.ofNat 114), (59, Int64.ofNat 0), (3, Int64.ofNat 1918987883), (2, Int64.ofNat 113), (59, Int64.ofNat 0), (3, Int64.ofNat 32766990153442674), (2, Int64.ofNat 114), (2, Int64.ofNat 113), (59, Int64.ofNat 0), (3, Int64.ofNat 2003792484), (2, Int64.ofNat 113), (3, Int64.ofNat 491394656372), (58, Int64.ofNat 0), (6, Int64.ofNat 105), (95, Int64.ofNat 0), (6, Int64.ofNat 116), (95, Int64.ofNat 0), (59, Int64.ofNat 0), (3, Int64.ofNat 2003792484), (2, Int64.ofNat 114), (3, Int64.ofNat 1818584692), (58, Int64.ofNat 0), (95, Int64.ofNat 0), (6, Int64.ofNat 116), (95, Int64.ofNat 0), (59, Int64.ofNat 0), (3, Int64.ofNat 2003792484), (2, Int64.ofNat 114), (3, Int64.ofNat 1818584692), (58, Int64.ofNat 0), (95, Int64.ofNat 0), (6, Int64.ofNat 106), (95, Int64.ofNat 0), (59, Int64.ofNat 0), (3, Int64.ofNat 2003792484), (2, Int64.ofNat 113), (3, Int64.ofNat 1818584692), (58, Int64.ofNat 0), (95, Int64.ofNat 0), (6, Int64.ofNat 106), (95, Int64.ofNat 0), (59, Int64.ofNat 0), (3, Int64.ofNat 2003792484), (2, Int64.ofNat 113), (58, Int64.ofNat 0), (6, Int64.ofNat 120), (59, Int64.ofNat 0), (3, Int64.ofNat 2003792484), (2, Int64.ofNat 114), (58, Int64.ofNat 0), (6, Int64.ofNat 120), (59, Int64.ofNat 0), (0, Int64.ofNat 0)]
set_option maxRecDepth 100000 in
theorem V_t10 : V_tks V_L10 100 0 = V_T10 := by decide +kernel
theorem V_g10 : V_tg V_T10 = true := by decide +kernel
theorem V_h10 : V_head V_T10 true = true := by decide +kernel
theorem V_s10 : V_wls V_T10 (if true = true then 10 else 6) V_w0 = true := by decide +kernel
def V_L11 : List Int := [114, 97, 110, 107, 32, 114, 59, 114, 97, 110, 107, 32, 113, 59, 116, 105, 103, 104, 116, 101, 114, 32, 114, 32, 113, 59, 119, 111, 114, 100, 32, 114, 32, 114, 105, 103, 104, 116, 58, 34, 105, 34, 95, 34, 116, 34, 95, 59, 119, 111, 114, 100, 32, 114, 58, 34, 105, 34, 95, 34, 116, 34, 95, 34, 101, 34, 95, 59, 119, 111, 114, 100, 32, 114, 32, 108, 101, 102, 116, 58, 95, 34, 106, 34, 95, 59, 119, 111, 114, 100, 32, 113, 32, 108, 101, 102, 116, 58, 95, 34, 106, 34, 95, 59, 119, 111, 114, 100, 32, 113, 58, 34, 120, 34, 59, 119, 111, 114, 100, 32, 114, 58, 34, 120, 34, 59]
def V_T11 : List (Int × Int64) := [(3, Int64.ofNat 1918987883), (2, Int64.ofNat 114), (59, Int64.ofNat 0), (3, Int64.ofNat 1918987883), (2, Int64.ofNat 113), (59, Int64.ofNat 0), (3, Int64.ofNat 32766990153442674), (2, Int64.ofNat 114), (2, Int64.ofNat 113), (59, Int64.ofNat 0), (3, Int64.ofNat 2003792484), (2, Int64.ofNat 114), (3, Int64.ofNat 491394656372), (58, Int64.ofNat 0), (6, Int64.ofNat 105), (95, Int64.ofNat 0), (6, Int64.ofNat 116), (95, Int64.ofNat 0), (59, Int64.ofNat 0), (3, Int64.ofNat 2003792484), (2, Int64.ofNat 114), (58, Int64.ofNat 0), (6, Int64.ofNat 105), (95, Int64.ofNat 0), (6, Int64.ofNat 116), (95, Int64.ofNat 0), (6, Int64.ofNat 101), (95, Int64.ofNat 0), (59, Int64.ofNat 0), (3, Int64.ofNat 2003792484), (2, Int64.ofNat 114), (3, Int64.ofNat 1818584692), (58, Int64.ofNat 0), (95, Int64.ofNat 0), (6, Int64.ofNat 106), (95, Int64.ofNat 0), (59, Int64.ofNat 0), (3, Int64.ofNat 2003792484), (2, Int64.ofNat 113), (3, Int64.ofNat 1818584692), (58, Int64.ofNat 0), (95, Int64.ofNat 0), (6, Int64.ofNat 106), (95, Int64.ofNat 0), (59, Int64.ofNat 0), (3, Int64.ofNat 2003792484), (2, Int64.ofNat 113), (58, Int64.ofNat 0), (6, Int64.ofNat 120), (59, Int64.ofNat 0), (3, Int64.ofNat 2003792484), (2, Int64.ofNat 114), (58, Int64.ofNat 0), (6, Int64.ofNat 120), (59, Int64.ofNat 0), (0, Int64.ofNat 0)]
set_option maxRecDepth 100000 in
theorem V_t11 : V_tks V_L11 100 0 = V_T11 := by decide +kernel
theorem V_g11 : V_tg V_T11 = true := by decide +kernel
theorem V_h11 : V_head V_T11 true = true := by decide +kernel
theorem V_s11 : V_wls V_T11 (if true = true then 10 else 6) V_w1 = true := by decide +kernel
theorem V_n0 : V_w0.all (fun w => decide (w.1 = Int64.ofNat 114) || decide (w.1 = Int64.ofNat 113)) = true := by decide +kernel
theorem V_n1 : V_w1.all (fun w => decide (w.1 = Int64.ofNat 114) || decide (w.1 = Int64.ofNat 113)) = true := by decide +kernel
def V_qs (D : Int → Nat → Int → Int) (W : Int → Int → Int64) (Ps : List (List Bool)) : Prop := ∀ (j : Nat) (P : List Bool), Ps[j]? = some P → V_qt (D (j : Int)) (W (j : Int)) 0 P
theorem V_qs_of {D : Int → Nat → Int → Int} {W : Int → Int → Int64} {ws : List V_W} {Ps : List (List Bool)} (he : ws.map (fun w => V_pat w.2.2) = Ps) (h : ∀ (j : Nat) (w : V_W), ws[j]? = some w → V_qt (D (j : Int)) (W (j : Int)) 0 (V_pat w.2.2)) : V_qs D W Ps := by
  intro j P hj
  rw [← he, List.getElem?_map] at hj
  cases hw : ws[j]? with
  | none => rw [hw] at hj; cases hj
  | some w =>
    rw [hw] at hj
    cases hj
    exact h j w hw
theorem V_e0 : V_w0.map (fun w => V_pat w.2.2) = V_P0 := by decide +kernel
theorem V_e1 : V_w1.map (fun w => V_pat w.2.2) = V_P1 := by decide +kernel
def V_isT (L : List Int) : Prop := L = V_L00 ∨ L = V_L01 ∨ L = V_L10 ∨ L = V_L11
theorem V_text {len n : Int} {tb : Int → Int} {L : List Int} {so pl : Int → Int} {ct : Int → Int64} {rn : Int → Int64} {lo : Int → Int} {kn : Int → Int64} {ab : Int → Int} {D : Int → Nat → Int → Int} {W : Int → Int → Int64} (hX : X_Txt tb len n so pl ct) (ht : V_tp len tb L) (hL : V_isT L) :
    ∃ (c' : Int) (lo' : Int → Int) (D' : Int → Nat → Int → Int) (W' : Int → Int → Int64), sp_lines n so ct 2001 (0, 0, 1, 0, rn, lo, kn, ab, D, W) = some (c', 2, 1, 6, X_ug (X_ug rn 0 (Int64.ofNat 114)) 1 (Int64.ofNat 113), lo', kn, ab, D', W') ∧ (V_qs D' W' V_P0 ∨ V_qs D' W' V_P1) := by
  rcases hL with rfl | rfl | rfl | rfl
  · obtain ⟨h1, h2⟩ := V_toks ht hX 100 V_t00 V_g00
    obtain ⟨c', lo', D', W', f1, f2⟩ := V_book_T (rn := rn) (lo := lo) (kn := kn) (ab := ab) (D := D) (W := W) h1 h2 false V_w0 V_h00 V_s00 V_n0 (show 6 ≤ 30 by omega)
    exact ⟨c', lo', D', W', f1, Or.inl (V_qs_of V_e0 f2)⟩
  · obtain ⟨h1, h2⟩ := V_toks ht hX 100 V_t01 V_g01
    obtain ⟨c', lo', D', W', f1, f2⟩ := V_book_T (rn := rn) (lo := lo) (kn := kn) (ab := ab) (D := D) (W := W) h1 h2 false V_w1 V_h01 V_s01 V_n1 (show 6 ≤ 30 by omega)
    exact ⟨c', lo', D', W', f1, Or.inr (V_qs_of V_e1 f2)⟩
  · obtain ⟨h1, h2⟩ := V_toks ht hX 100 V_t10 V_g10
    obtain ⟨c', lo', D', W', f1, f2⟩ := V_book_T (rn := rn) (lo := lo) (kn := kn) (ab := ab) (D := D) (W := W) h1 h2 true V_w0 V_h10 V_s10 V_n0 (show 6 ≤ 30 by omega)
    exact ⟨c', lo', D', W', f1, Or.inl (V_qs_of V_e0 f2)⟩
  · obtain ⟨h1, h2⟩ := V_toks ht hX 100 V_t11 V_g11
    obtain ⟨c', lo', D', W', f1, f2⟩ := V_book_T (rn := rn) (lo := lo) (kn := kn) (ab := ab) (D := D) (W := W) h1 h2 true V_w1 V_h11 V_s11 V_n1 (show 6 ≤ 30 by omega)
    exact ⟨c', lo', D', W', f1, Or.inr (V_qs_of V_e1 f2)⟩
theorem V_ps_of {G : X_G} : ∀ (Ps : List (List Bool)) (v : Int), v + (Ps.length : Int) = gw G → (∀ (j : Nat) (P : List Bool), Ps[j]? = some P → V_pt G (v + (j : Int)) 0 P) → V_ps G v Ps := by
  intro Ps
  induction Ps with
  | nil =>
    intro v h _
    show v = gw G
    rw [← h]
    exact (Int.add_zero v).symm
  | cons P r ih =>
    intro v h hp
    rw [List.length_cons] at h
    refine ⟨by omega, ?_, ih (v + 1) (by omega) (fun j Q hj => ?_)⟩
    · have := hp 0 P rfl
      rw [show v + ((0 : Nat) : Int) = v from Int.add_zero v] at this
      exact this
    · have := hp (j + 1) Q hj
      rw [show v + ((j + 1 : Nat) : Int) = v + 1 + (j : Int) by omega] at this
      exact this
/-- the book that is told -/
theorem V_told {len n : Int} {tb : Int → Int} {L : List Int} {so pl : Int → Int} {ct : Int → Int64} {rn rn1 : Int → Int64} {lo lo1 : Int → Int} {kn kn1 : Int → Int64} {ab ab1 : Int → Int} {D D1 D3 : Int → Nat → Int → Int} {W W1 : Int → Int → Int64} {c1 rc1 kc1 wc1 : Int} {tt : Int → Int64} (hX : X_Txt tb len n so pl ct) (ht : V_tp len tb L) (hL : V_isT L) (hs : sp_lines n so ct 2001 (0, 0, 1, 0, rn, lo, kn, ab, D, W) = some (c1, rc1, kc1, wc1, rn1, lo1, kn1, ab1, D1, W1)) (hD : X_sD D1 D3) : wc1 = 6 ∧ V_bk (kc1, wc1, lo1, ab1, D3, W1, tt) := by
  obtain ⟨c', lo', D', W', f1, f2⟩ := V_text (rn := rn) (lo := lo) (kn := kn) (ab := ab) (D := D) (W := W) hX ht hL
  have e := hs.symm.trans f1
  simp only [Option.some.injEq, Prod.mk.injEq] at e
  obtain ⟨-, -, -, e4, -, -, -, -, e9, e10⟩ := e
  rw [← e9, ← e10] at f2
  refine ⟨e4, e4, ?_⟩
  have key : ∀ Ps : List (List Bool), Ps.length = 6 → V_qs D1 W1 Ps → V_ps (kc1, wc1, lo1, ab1, D3, W1, tt) 0 Ps := fun Ps h6 hq => V_ps_of Ps 0 (by rw [h6]; exact e4.symm) (fun j P hj => by
    rw [Int.zero_add]
    exact V_qt_pt (G := (kc1, wc1, lo1, ab1, D3, W1, tt)) (w := (j : Int)) (d := D1 (j : Int)) (q := W1 (j : Int)) (congrFun (hD (j : Int) 3 (by decide) (by decide)) 0) rfl P 0 (hq j P hj))
  rcases f2 with f2 | f2
  · exact Or.inl (key _ rfl f2)
  · exact Or.inr (key _ rfl f2)
