/-! fields 6 and 7 (what is bound) don't count -/
def X_Dr (G : X_G) : X_G := (gk G, gw G, gl G, ga G, fun w f e => if f = 6 ∨ f = 7 then 0 else gD G w f e, gW G, gt G)
theorem X_Dr_D {G : X_G} {w : Int} {f : Nat} (h : ¬ (f = 6 ∨ f = 7)) : gD (X_Dr G) w f = gD G w f := by
  funext e
  show (if f = 6 ∨ f = 7 then 0 else gD G w f e) = _
  rw [if_neg h]
theorem X_en_dr {G : X_G} {v : Int} : X_en (gD (X_Dr G) v) (gW (X_Dr G) v) = X_en (gD G v) (gW G v) := rfl
theorem X_lt_dr {G : X_G} {o en v : Int} : X_lt (X_Dr G) o en v ↔ X_lt G o en v := Iff.rfl
theorem X_Hq_dr {G : X_G} {T : X_TT} {u i j : Int} : X_Hq (X_Dr G) T u i j = X_Hq G T u i j := rfl
theorem X_Hv_dr {G : X_G} {T : X_TT} {u o en i j : Int} : X_Hv (X_Dr G) T u o en i j = X_Hv G T u o en i j := rfl
theorem X_Hc_dr {G : X_G} {T : X_TT} {u o en i j : Int} : X_Hc (X_Dr G) T u o en i j = X_Hc G T u o en i j := by
  unfold X_Hc
  rw [X_Hq_dr, X_Hv_dr]
theorem X_Hw_dr {G : X_G} {T : X_TT} {w e i j : Int} : X_Hw (X_Dr G) T w e i j = X_Hw G T w e i j := by
  unfold X_Hw
  rw [X_Hc_dr]
  rfl
theorem X_Kd_dr {G : X_G} {T : X_TT} {k i j : Int} : X_Kd (X_Dr G) T k i j = X_Kd G T k i j := rfl
theorem X_El_dr {G : X_G} {T : X_TT} {w : Int} : ∀ (r : Nat) (p j : Int), X_El (X_Dr G) T w r p j = X_El G T w r p j := by
  intro r
  induction r with
  | zero => intro p j; rfl
  | succ r ih =>
    intro p j
    show (if gW (X_Dr G) w (gD (X_Dr G) w 3 0 - (r + 1)) = 0 then X_Su (fun q => X_Hw (X_Dr G) T w (gD (X_Dr G) w 3 0 - (r + 1)) p q * X_El (X_Dr G) T w r q j) (p + 1) (j + 1)
      else X_if (p < j ∧ gt (X_Dr G) p = gW (X_Dr G) w (gD (X_Dr G) w 3 0 - (r + 1))) (X_El (X_Dr G) T w r (p + 1) j)) = (if gW G w (gD G w 3 0 - (r + 1)) = 0 then X_Su (fun q => X_Hw G T w (gD G w 3 0 - (r + 1)) p q * X_El G T w r q j) (p + 1) (j + 1)
      else X_if (p < j ∧ gt G p = gW G w (gD G w 3 0 - (r + 1))) (X_El G T w r (p + 1) j))
    rw [ih (p + 1) j, X_Su_c (g := fun q => X_Hw G T w (gD G w 3 0 - (r + 1)) p q * X_El G T w r q j) (fun q _ _ => by rw [ih q j, X_Hw_dr]; rfl)]
    rfl
theorem X_Ew_dr {G : X_G} {T : X_TT} {w e p j : Int} : X_Ew (X_Dr G) T w e p j = X_Ew G T w e p j := X_El_dr _ _ _
theorem X_Tb_dr {G : X_G} : ∀ n : Nat, X_Tb (X_Dr G) n = X_Tb G n := by
  intro n
  induction n with
  | zero => rfl
  | succ n ih =>
    show ((fun w i j => if j - i ≤ n then (X_Tb (X_Dr G) n).1 w i j else X_Ew (X_Dr G) (X_Tb (X_Dr G) n) w 0 i j, fun k i j => if j - i ≤ n then (X_Tb (X_Dr G) n).2 k i j else X_if (X_brk (X_Dr G) i j) (X_Kd (X_Dr G) (X_Tb (X_Dr G) n) k (i + 1) (j - 1))) : X_TT) = ((fun w i j => if j - i ≤ n then (X_Tb G n).1 w i j else X_Ew G (X_Tb G n) w 0 i j, fun k i j => if j - i ≤ n then (X_Tb G n).2 k i j else X_if (X_brk G i j) (X_Kd G (X_Tb G n) k (i + 1) (j - 1))) : X_TT)
    rw [ih]
    refine Prod.ext ?_ ?_
    · funext w i j
      show (if j - i ≤ n then _ else _) = (if j - i ≤ n then _ else _)
      rw [X_Ew_dr]
    · funext k i j
      show (if j - i ≤ n then _ else _) = (if j - i ≤ n then _ else _)
      rw [X_Kd_dr]
      rfl
theorem X_T_dr {G : X_G} : X_T_ (X_Dr G) = X_T_ G := X_Tb_dr 30
theorem X_all_dr {G : X_G} {i j : Int} : X_all (X_Dr G) i j = X_all G i j := by
  unfold X_all
  rw [X_T_dr]
  rfl
theorem X_eh_dr {G : X_G} {w h : Int} : X_eh (X_Dr G) w h = X_eh G w h := rfl
theorem X_Hh_dr {G : X_G} {w h i j : Int} : X_Hh (X_Dr G) w h i j = X_Hh G w h i j := by
  unfold X_Hh
  rw [X_T_dr, X_Hc_dr, X_eh_dr]
  rfl
theorem X_gw_dr {G : X_G} {w : Int} : X_gw (X_Dr G) w ↔ X_gw G w := Iff.rfl
theorem X_Gok_dr {G : X_G} : X_Gok (X_Dr G) ↔ X_Gok G := Iff.rfl
theorem X_Gst_dr {G : X_G} : X_Gst (X_Dr G) ↔ X_Gst G := Iff.rfl
theorem X_Rok_dr {G : X_G} {tn nc : Int} {N : Int → Int → Int} : X_Rok (X_Dr G) tn nc N ↔ X_Rok G tn nc N := Iff.rfl
theorem X_rw_dr {G : X_G} {m i j : Int} {oK oW oA oH : Int → Int64} : X_rw (X_Dr G) m i j oK oW oA oH ↔ X_rw G m i j oK oW oA oH := by
  unfold X_rw
  rw [X_T_dr, X_all_dr]
  refine and_congr Iff.rfl (and_congr Iff.rfl (and_congr Iff.rfl ?_))
  refine forall_congr' fun w => forall_congr' fun _ => forall_congr' fun _ => forall_congr' fun e => forall_congr' fun _ => forall_congr' fun _ => forall_congr' fun _ => ?_
  rw [X_Hw_dr]
  exact Iff.rfl
theorem X_cht_dr {G : X_G} {m tn : Int} {oK oW oA oH : Int → Int64} : X_cht (X_Dr G) m tn oK oW oA oH ↔ X_cht G m tn oK oW oA oH := forall_congr' fun _ => forall_congr' fun _ => forall_congr' fun _ => forall_congr' fun _ => forall_congr' fun _ => X_rw_dr
theorem R_rc_dr {G : X_G} {i j : Int} {oW oK oH : Int → Int64} : R_rc (X_Dr G) i j oW oK oH ↔ R_rc G i j oW oK oH := by
  unfold R_rc
  rw [X_T_dr]
  refine and_congr Iff.rfl (and_congr Iff.rfl ?_)
  refine forall_congr' fun w => forall_congr' fun _ => forall_congr' fun _ => forall_congr' fun h => forall_congr' fun _ => forall_congr' fun _ => ?_
  rw [X_Hh_dr]
theorem R_ct_dr {G : X_G} {tn : Int} {oW oK oH : Int → Int64} : R_ct (X_Dr G) tn oW oK oH ↔ R_ct G tn oW oK oH := forall_congr' fun _ => forall_congr' fun _ => forall_congr' fun _ => forall_congr' fun _ => forall_congr' fun _ => R_rc_dr
/-- a word is bound -/
def X_Gb (G : X_G) (w vl : Int) : X_G := (gk G, gw G, gl G, ga G, X_ug (gD G) w (X_wu (X_wu (gD G w) 6 (fun _ => 1)) 7 (fun _ => vl)), gW G, gt G)
theorem X_Gb_D {G : X_G} {w vl v : Int} {f : Nat} (h : ¬ (f = 6 ∨ f = 7)) : gD (X_Gb G w vl) v f = gD G v f := by
  show X_ug (gD G) w (X_wu (X_wu (gD G w) 6 (fun _ => 1)) 7 (fun _ => vl)) v f = _
  by_cases hv : v = w
  · rw [hv, X_ug_s]
    show (if f = 7 then (fun _ => vl) else if f = 6 then (fun _ => 1) else gD G w f) = gD G w f
    rw [if_neg (fun z => h (Or.inr z)), if_neg (fun z => h (Or.inl z))]
  · rw [X_ug_n _ _ hv]
theorem X_Gb_dr {G : X_G} {w vl : Int} : X_Dr (X_Gb G w vl) = X_Dr G := by
  show ((gk G, gw G, gl G, ga G, fun v f e => if f = 6 ∨ f = 7 then 0 else gD (X_Gb G w vl) v f e, gW G, gt G) : X_G) = _
  have e : (fun v f e => if f = 6 ∨ f = 7 then 0 else gD (X_Gb G w vl) v f e) = (fun v (f : Nat) e => if f = 6 ∨ f = 7 then 0 else gD G v f e) := by
    funext v f x
    by_cases h : f = 6 ∨ f = 7
    · rw [if_pos h, if_pos h]
    · rw [if_neg h, if_neg h, X_Gb_D h]
  rw [e]
  rfl
/-- other tokens -/
def X_Gt (G : X_G) (t : Int → Int64) : X_G := (gk G, gw G, gl G, ga G, gD G, gW G, t)
theorem X_Gt_ok {G : X_G} {t : Int → Int64} : X_Gok (X_Gt G t) ↔ X_Gok G := Iff.rfl
theorem X_Gt_st {G : X_G} {t : Int → Int64} : X_Gst (X_Gt G t) ↔ X_Gst G := Iff.rfl
