/-! what a reading's making leaves alone -/
theorem X_mk_old {G : X_G} {wt nc : Int} {St : Int → X_It} {N : Int → Int → Int} : (X_mk G (wt, St, nc, N)).2.2.1 = nc + 1 ∧ ∃ a b c d e, (X_mk G (wt, St, nc, N)).2.2.2 = X_nn N nc a b c d e ∧ d = (St (wt - 1)).2.2.1 ∧ e = (St (wt - 1)).2.2.2.1 := by
  obtain ⟨⟨i, j, p, h, u, o, en, k⟩, ht⟩ : ∃ t : X_It, St (wt - 1) = t := ⟨_, rfl⟩
  by_cases hk : k < X_Hq G (X_T_ G) u i j
  · by_cases hj : j = i + 1
    · rw [X_mk_n ht hk hj]
      exact ⟨rfl, _, _, _, _, _, rfl, by rw [ht], by rw [ht]⟩
    · rw [X_mk_b ht hk hj]
      exact ⟨rfl, _, _, _, _, _, rfl, by rw [ht], by rw [ht]⟩
  · rw [X_mk_w ht hk (Prod.eta _).symm (show _ = ((X_spl G _ j _ 0 i _ 1 (fun _ => 0) (fun _ => 0)).1, (X_spl G _ j _ 0 i _ 1 (fun _ => 0) (fun _ => 0)).2.1, (X_spl G _ j _ 0 i _ 1 (fun _ => 0) (fun _ => 0)).2.2) from rfl)]
    exact ⟨rfl, _, _, _, _, _, rfl, by rw [ht], by rw [ht]⟩
theorem X_mks_old {G : X_G} {f n : Int} : ∀ (m : Nat) (s : X_Ms), n < s.2.2.1 → (X_mks G m s).2.2.2 f n = s.2.2.2 f n := by
  intro m
  induction m with
  | zero => intro s h; rfl
  | succ m ih =>
    intro s h
    by_cases hw : s.1 ≤ 0
    · rw [X_mks_e hw]
    · have e : X_mks G (m + 1) s = X_mks G m (X_mk G s) := by
        show (if s.1 ≤ 0 then s else _) = _
        rw [if_neg hw]
      obtain ⟨wt, St, nc, N⟩ := s
      obtain ⟨h1, a, b, c, d, e2, h2, -⟩ := X_mk_old (G := G) (wt := wt) (St := St) (nc := nc) (N := N)
      rw [e, ih _ (by rw [h1]; have : n < nc := h; omega), h2]
      unfold X_nn
      have : n < nc := h
      rw [if_neg (by omega)]
/-- the first node is in no hole -/
theorem X_rd_4 {G : X_G} {tn : Int} {k : Nat} : (X_rd G tn k).2.2.2 4 0 = -1 := by
  have e : X_rd G tn k = X_mks G 29 (X_mk G (1, fun _ => (0, tn, -1, -1, 0, 0, 0, k), 0, fun _ _ => 0)) := by
    have key : ∀ s : X_Ms, 0 < s.1 → X_mks G 30 s = X_mks G 29 (X_mk G s) := fun s hs => by
      show (if s.1 ≤ 0 then s else X_mks G 29 (X_mk G s)) = _
      rw [if_neg (by omega)]
    exact key _ (show (0 : Int) < 1 by omega)
  obtain ⟨h1, a, b, c, d, e2, h2, h3, h4⟩ := X_mk_old (G := G) (wt := 1) (St := fun _ => (0, tn, -1, -1, 0, 0, 0, k)) (nc := 0) (N := fun _ _ => 0)
  rw [e, X_mks_old 29 _ (by rw [h1]; omega), h2, h4]
  rfl
theorem X_Rok.n4 {G : X_G} {tn nc : Int} {N : Int → Int → Int} (hR : X_Rok G tn nc N) (h : N 4 0 = -1) : ∀ n, 0 ≤ n → n < nc → N 3 n < 0 → N 4 n = -1 := fun n h1 h2 h3 => by
  by_cases hn : n = 0
  · rw [hn]; exact h
  · have := (hR.2.2.1 n (by omega) h2).1
    omega
/-! the reference's work -/
theorem iI_ndiv {a : Int} : iI a / iI (-1) = iI (-a) := by
  rw [show iI (-a) = -(iI a) from Int32.ofInt_neg a]
  refine Int32.toInt_inj.mp ?_
  rw [Int32.toInt_div, Int32.toInt_neg, show (iI (-1)).toInt = -1 by decide, Int.tdiv_neg, Int.tdiv_one]
theorem iI_nmod {a : Int} : iI 0 = iI a - iI a / iI (-1) * iI (-1) := by
  rw [iI_ndiv, show iI a - iI (-a) * iI (-1) = iI (a - -a * -1) from by
    show Int32.ofInt a - Int32.ofInt (-a) * Int32.ofInt (-1) = _
    rw [← Int32.ofInt_mul, ← Int32.ofInt_sub]]
  congr 1
  omega
theorem X_lc_0 {N : Int → Int → Int} {nc n h : Int} (ht : X_tr0 N nc) (h0 : 0 ≤ n) (h1 : n < nc) : X_lc N n h (n + 1).toNat = -1 := by
  refine Classical.byContradiction (fun z => ?_)
  have h2 := X_lc_r (N := N) (p := n) (h := h) (n + 1).toNat
  have h3 := h2.2.2 z
  have h4 := ht (X_lc N n h (n + 1).toNat) (by omega) (by omega)
  omega
theorem X_lc_s {N : Int → Int → Int} {p h m : Int} (h0 : 0 ≤ m) : X_lc N p h (m + 1).toNat = if N 3 m = p ∧ N 4 m = h then m else X_lc N p h m.toNat := by
  rw [show (m + 1).toNat = m.toNat + 1 by omega]
  show (if N 3 (m.toNat : Int) = p ∧ N 4 (m.toNat : Int) = h then ((m.toNat : Nat) : Int) else X_lc N p h m.toNat) = _
  rw [show ((m.toNat : Nat) : Int) = m by omega]
/-- what is worked: nodes ahead of nx that n isn't in -/
def R_dn (N : Int → Int → Int) (nc nx n : Int) (dn : Int → Int) : Prop := ∀ m, 0 ≤ m → m < nc → (dn m = 1 ↔ m < nx ∧ ¬ X_An N n m) ∧ (dn m = 0 ∨ dn m = 1)
def R_cn (dn : Int → Int) : Int → Nat := fun m => if dn m = 1 then 1 else 0
theorem R_cn_le {dn : Int → Int} {m : Int} (h : 0 ≤ m) : (X_Su (R_cn dn) 0 m : Int) ≤ m := by
  refine X_Su_ind (a := 0) (b := m) (fun k => (X_Su (R_cn dn) 0 k : Int) ≤ k) ?_ (fun k h1 h2 ih => ?_) h
  · rw [X_Su_e (Int.le_refl 0)]; exact Int.le_refl 0
  · rw [X_Su_s h1]
    have : R_cn dn k ≤ 1 := by unfold R_cn; split <;> omega
    omega
theorem R_cn_lt {dn : Int → Int} {m n : Int} (h0 : 0 ≤ n) (h1 : n < m) (hn : ¬ dn n = 1) : (X_Su (R_cn dn) 0 m : Int) < m := by
  refine X_Su_ind (a := n + 1) (b := m) (fun k => (X_Su (R_cn dn) 0 k : Int) < k) ?_ (fun k g1 g2 ih => ?_) (by omega)
  · rw [X_Su_s h0, show R_cn dn n = 0 from if_neg hn]
    have := R_cn_le (dn := dn) h0
    omega
  · rw [X_Su_s (by omega)]
    have : R_cn dn k ≤ 1 := by unfold R_cn; split <;> omega
    omega
theorem R_cn_u {dn : Int → Int} {m n : Int} (h0 : 0 ≤ n) (h1 : n < m) (hn : ¬ dn n = 1) : X_Su (R_cn (X_ug dn n 1)) 0 m = X_Su (R_cn dn) 0 m + 1 := by
  refine X_Su_ind (a := n + 1) (b := m) (fun k => X_Su (R_cn (X_ug dn n 1)) 0 k = X_Su (R_cn dn) 0 k + 1) ?_ (fun k g1 g2 ih => ?_) (by omega)
  · rw [X_Su_s h0, X_Su_s h0, show R_cn dn n = 0 from if_neg hn, show R_cn (X_ug dn n 1) n = 1 from if_pos (X_ug_s _ _ _)]
    rw [X_Su_c (g := R_cn dn) (fun k g1 g2 => by unfold R_cn; rw [X_ug_n _ _ (by omega)])]
  · rw [X_Su_s (by omega), X_Su_s (by omega), ih, show R_cn (X_ug dn n 1) k = R_cn dn k from by unfold R_cn; rw [X_ug_n _ _ (by omega)]]
    omega
section X_RWK
variable {G : X_G} {tn nc nx n : Int} {N : Int → Int → Int} {dn : Int → Int}
theorem R_dn.self (h : R_dn N nc nx n dn) (h0 : 0 ≤ n) (h1 : n < nc) : ¬ dn n = 1 := fun z => ((h n h0 h1).1.mp z).2 X_An.rf
/-- a child that isn't worked: it is the next -/
theorem R_wk_d (hR : X_Rok G tn nc N) (hnx : 1 ≤ nx ∧ nx ≤ nc) (hn : 0 ≤ n ∧ n < nx) (hAo : X_An N n (X_wn N nc nx)) (hd : R_dn N nc nx n dn) {r : Int} (hr : n < r ∧ r < nc) (hr3 : N 3 r = n) (hr0 : dn r = 0) (hm : ∀ m, n < m → m < r → N 3 m = n → ¬ dn m = 0) : r = nx ∧ X_wn N nc nx = n ∧ nx < nc ∧ N 3 nx = n := by
  have t0 := hR.2.1
  have t1 := hR.2.2.1
  have hrA : X_An N r n := X_An.up (by omega) (by rw [hr3]; exact X_An.rf)
  have hnA : ¬ X_An N n r := fun z => by have := z.le t0 (by omega) (by omega); omega
  have hrx : ¬ r < nx := fun z => by
    have := (hd r (by omega) hr.2).1.mpr ⟨z, hnA⟩
    omega
  have hle := hAo.le t0 (by omega) (by omega)
  have hwn : X_wn N nc nx = n := Classical.byContradiction (fun z => X_An_no t0 t1 hnx.1 hn.2 (by omega) hn.1 (r - nx).toNat r (by omega) hr.2 hrA)
  have hxc : nx < nc := Classical.byContradiction (fun z => by unfold X_wn at hwn; rw [if_neg z] at hwn; omega)
  have h3 : N 3 nx = n := by unfold X_wn at hwn; rw [if_pos hxc] at hwn; exact hwn
  refine ⟨Classical.byContradiction (fun z => ?_), hwn, hxc, h3⟩
  have hd1 := (hd nx (by omega) hxc)
  have hd2 : ¬ dn nx = 1 := fun y => by have := (hd1.1.mp y).1; omega
  exact hm nx (by omega) (by omega) h3 (hd1.2.resolve_right hd2)
/-- no such child: it is to be worked -/
theorem R_wk_e (hR : X_Rok G tn nc N) (hnx : 1 ≤ nx ∧ nx ≤ nc) (hn : 0 ≤ n ∧ n < nx) (hAo : X_An N n (X_wn N nc nx)) (hd : R_dn N nc nx n dn) (h : (∀ m, n < m → m < nc → N 3 m = n → ¬ dn m = 0) ∨ (n + 1 = nc ∨ n + 1 < nc ∧ N 3 (n + 1) < n)) : X_wn N nc nx < n := by
  have t0 := hR.2.1
  have t1 := hR.2.2.1
  have hle := hAo.le t0 (by omega) (by omega)
  refine Classical.byContradiction (fun z => ?_)
  have hwn : X_wn N nc nx = n := by omega
  have hxc : nx < nc := Classical.byContradiction (fun z => by unfold X_wn at hwn; rw [if_neg z] at hwn; omega)
  have h3 : N 3 nx = n := by unfold X_wn at hwn; rw [if_pos hxc] at hwn; exact hwn
  rcases h with h | h | ⟨h1, h2⟩
  · have hd1 := (hd nx (by omega) hxc)
    have hd2 : ¬ dn nx = 1 := fun y => by have := (hd1.1.mp y).1; omega
    exact h nx (by omega) hxc h3 (hd1.2.resolve_right hd2)
  · omega
  · exact X_An_no t0 t1 (show 1 ≤ n + 1 by omega) (show n < n + 1 by omega) (by unfold X_wn; rw [if_pos h1]; exact h2) hn.1 (nx - (n + 1)).toNat nx (by omega) hxc (X_An.up (by omega) (by rw [h3]; exact X_An.rf))
theorem R_dn.down (hR : X_Rok G tn nc N) (hd : R_dn N nc nx n dn) (hn : 0 ≤ n ∧ n < nx) (hx : nx < nc) (h3 : N 3 nx = n) : R_dn N nc (nx + 1) nx dn := fun m h1 h2 => by
  have hm := hd m h1 h2
  refine ⟨⟨fun z => ?_, fun z => ?_⟩, hm.2⟩
  · have := hm.1.mp z
    refine ⟨by omega, fun y => ?_⟩
    have := (y.dn (by omega)).2
    rw [h3] at this
    exact (hm.1.mp z).2 this
  · obtain ⟨z1, z2⟩ := z
    by_cases hmx : m = nx
    · rw [hmx] at z2
      exact absurd X_An.rf z2
    · exact hm.1.mpr ⟨by omega, fun y => z2 (X_An.up (by omega) (by rw [h3]; exact y))⟩
theorem R_dn.upd (hR : X_Rok G tn nc N) (hd : R_dn N nc nx n dn) (hn : 0 ≤ n ∧ n < nx) (hx : nx ≤ nc) : R_dn N nc nx (N 3 n) (X_ug dn n 1) := fun m h1 h2 => by
  have t0 := hR.2.1
  have h3 := t0 n hn.1 (by omega)
  by_cases hmn : m = n
  · rw [hmn, X_ug_s]
    refine ⟨⟨fun _ => ⟨hn.2, fun y => ?_⟩, fun _ => rfl⟩, Or.inr rfl⟩
    have := y.le t0 (by omega) h3.1
    omega
  · rw [X_ug_n _ _ hmn]
    have hm := hd m h1 h2
    refine ⟨hm.1.trans ⟨fun z => ⟨z.1, fun y => z.2 (X_An.up hn.1 y)⟩, fun z => ⟨z.1, fun y => z.2 (y.dn (fun e => hmn e.symm)).2⟩⟩, hm.2⟩
theorem R_dn_0 (hz : ∀ m, 0 ≤ m → m < nc → dn m = 0) : R_dn N nc 1 0 dn := fun m h1 h2 => by
  refine ⟨⟨fun z => by rw [hz m h1 h2] at z; omega, fun z => ?_⟩, Or.inl (hz m h1 h2)⟩
  have : m = 0 := by omega
  rw [this] at z
  exact absurd X_An.rf z.2
theorem R_cn_0 (hz : ∀ m, 0 ≤ m → m < nc → dn m = 0) : X_Su (R_cn dn) 0 nc = 0 := X_Su_0 (fun k h1 h2 => if_neg (by rw [hz k h1 h2]; omega))
end X_RWK
