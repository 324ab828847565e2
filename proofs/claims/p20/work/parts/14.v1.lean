/-! p20: a node's holes are filled in their order, one behind the other -/
theorem X_spl_or {G : X_G} {w j : Int} (hg : X_gw G w) : ∀ (n : Nat) (e p : Int) (l b : Nat) (HF HE : Int → Int), 0 ≤ e → e + n = gD G w 3 0 → p ≤ j → l < b * X_Ew G (X_T_ G) w e p j →
    ∀ h, X_hn (gW G w) e ≤ h → h + 1 < gD G w 4 0 → (X_spl G w j n e p l b HF HE).2.2 h ≤ (X_spl G w j n e p l b HF HE).2.1 (h + 1) := by
  intro n
  have hhn := hg.2.2.2.2.2.2.1
  induction n with
  | zero =>
    intro e p l b HF HE h0 he hp hl h h1 h2
    have e1 : e = gD G w 3 0 := by omega
    rw [e1] at h1
    omega
  | succ n ih =>
    intro e p l b HF HE h0 he hp hl h hh hh2
    by_cases hq : gW G w e = 0
    · obtain ⟨m, r, h1, h2, h3, h4, h5⟩ := X_sp_h (by omega) hq hp hl
      rw [X_spl_h hq h1]
      have hs := X_hn_s (q := gW G w) (e := e) h0
      rw [if_pos hq] at hs
      have h8 := hg.2.2.2.2.2.2.2.1 e h0 (by omega) hq
      obtain ⟨i1, i2, -⟩ := X_spl_ok (j := j) hg n (e + 1) m r (b * X_Hw G (X_T_ G) w e p m) (X_ug HF (gD G w 8 e) p) (X_ug HE (gD G w 8 e) m) (by omega) (by omega) h3 h5
      by_cases hx : h = X_hn (gW G w) e
      · have g1 := (i1 (gD G w 8 e) (by omega)).2
        rw [X_ug_s] at g1
        have g2 := (i2 (h + 1) (by omega) hh2).1
        have g3 : (X_spl G w j n (e + 1) m r (b * X_Hw G (X_T_ G) w e p m) (X_ug HF (gD G w 8 e) p) (X_ug HE (gD G w 8 e) m)).2.2 h = m := by
          have z : h = gD G w 8 e := by omega
          rw [← z] at g1 ⊢
          exact g1
        rw [g3]
        exact g2
      · exact ih (e + 1) m r (b * X_Hw G (X_T_ G) w e p m) (X_ug HF (gD G w 8 e) p) (X_ug HE (gD G w 8 e) m) (by omega) (by omega) h3 h5 h (by omega) hh2
    · obtain ⟨h1, h2, h3⟩ := X_sp_p (by omega) hq hl
      rw [X_spl_p hq]
      have hs := X_hn_s (q := gW G w) (e := e) h0
      rw [if_neg hq, Int.add_zero] at hs
      exact ih (e + 1) (p + 1) l b HF HE (by omega) (by omega) (by omega) h3 h (by omega) hh2
abbrev V_T : Type := Int × Int × Int
/-- n's children among the first nodes: hole, from, tokens -/
def V_md (N : Int → Int → Int) (n : Int) : Nat → List V_T
  | 0 => []
  | m + 1 => V_md N n m ++ (if N 3 (m : Int) = n then [(N 4 (m : Int), N 1 (m : Int), N 2 (m : Int))] else [])
/-- n's children that wait, the top first -/
def V_pd (St : Int → X_It) (n : Int) : Nat → List V_T
  | 0 => []
  | m + 1 => (if (St (m : Int)).2.2.1 = n then [((St (m : Int)).2.2.2.1, (St (m : Int)).1, (St (m : Int)).2.1 - (St (m : Int)).1)] else []) ++ V_pd St n m
/-- from hole h, place a, signs s: in order, one behind the other, at the end H holes, not behind e, all -/
def V_gd (H e all : Int) : Int → Int → Int → List V_T → Prop
  | h, a, s, [] => h = H ∧ a ≤ e ∧ s = all
  | h, a, s, t :: r => t.1 = h ∧ a ≤ t.2.1 ∧ V_gd H e all (h + 1) (t.2.1 + t.2.2) (s + t.2.2) r
def V_H (G : X_G) (w : Int) : Int := if w = -2 then 0 else if w = -3 then 1 else gD G w 4 0
def V_S (G : X_G) (w : Int) : Int := if w = -2 then 1 else if w = -3 then 2 else gD G w 3 0 - gD G w 4 0
def V_ok (G : X_G) (N : Int → Int → Int) (n : Int) (L : List V_T) : Prop := V_gd (V_H G (N 0 n)) (N 1 n + N 2 n) (N 2 n) 0 (N 1 n) (V_S G (N 0 n)) L
def V_Inv (G : X_G) (wt : Int) (St : Int → X_It) (nc : Int) (N : Int → Int → Int) : Prop := ∀ n, 0 ≤ n → n < nc → V_ok G N n (V_md N n nc.toNat ++ V_pd St n wt.toNat)
theorem V_md_c {N N' : Int → Int → Int} {n : Int} : ∀ m : Nat, (∀ k : Int, 0 ≤ k → k < m → N 3 k = N' 3 k ∧ N 4 k = N' 4 k ∧ N 1 k = N' 1 k ∧ N 2 k = N' 2 k) → V_md N n m = V_md N' n m := by
  intro m
  induction m with
  | zero => intro _; rfl
  | succ m ih =>
    intro h
    obtain ⟨a, b, c, d⟩ := h m (by omega) (by omega)
    unfold V_md
    rw [ih (fun k h1 h2 => h k h1 (by omega)), a, b, c, d]
theorem V_md_0 {N : Int → Int → Int} {n : Int} : ∀ m : Nat, (∀ k : Int, 0 ≤ k → k < m → ¬ N 3 k = n) → V_md N n m = [] := by
  intro m
  induction m with
  | zero => intro _; rfl
  | succ m ih =>
    intro h
    unfold V_md
    rw [ih (fun k h1 h2 => h k h1 (by omega)), if_neg (h m (by omega) (by omega))]
    rfl
theorem V_pd_c {St St' : Int → X_It} {n : Int} : ∀ m : Nat, (∀ k : Int, 0 ≤ k → k < m → St k = St' k) → V_pd St n m = V_pd St' n m := by
  intro m
  induction m with
  | zero => intro _; rfl
  | succ m ih =>
    intro h
    unfold V_pd
    rw [ih (fun k h1 h2 => h k h1 (by omega)), h m (by omega) (by omega)]
theorem V_pd_0 {St : Int → X_It} {n : Int} : ∀ m : Nat, (∀ k : Int, 0 ≤ k → k < m → ¬ (St k).2.2.1 = n) → V_pd St n m = [] := by
  intro m
  induction m with
  | zero => intro _; rfl
  | succ m ih =>
    intro h
    unfold V_pd
    rw [ih (fun k h1 h2 => h k h1 (by omega)), if_neg (h m (by omega) (by omega))]
    rfl
/-- what waits above a place, none of it n's -/
theorem V_pd_a {St : Int → X_It} {n : Int} (a : Nat) : ∀ m : Nat, (∀ k : Int, (a : Int) ≤ k → k < a + m → ¬ (St k).2.2.1 = n) → V_pd St n (a + m) = V_pd St n a := by
  intro m
  induction m with
  | zero => intro _; rfl
  | succ m ih =>
    intro h
    show (if (St ((a + m : Nat) : Int)).2.2.1 = n then _ else []) ++ V_pd St n (a + m) = _
    rw [if_neg (h _ (by omega) (by omega)), ih (fun k h1 h2 => h k h1 (by omega))]
    rfl
/-- one more node: the others' children are the same -/
theorem V_step {G : X_G} {tn wt wt' nc i j p h w : Int} {St St' : Int → X_It} {N : Int → Int → Int} (hI : V_Inv G wt St nc N) (hw : 0 < wt) (hnc : 0 ≤ nc) (ht0 : X_tr0 N nc) (hi : (St (wt - 1)).1 = i) (hj : (St (wt - 1)).2.1 = j) (hp : (St (wt - 1)).2.2.1 = p) (hh : (St (wt - 1)).2.2.2.1 = h) (hpn : p < nc)
    (hq : ∀ q, 0 ≤ q → q < wt - 1 → (St q).2.2.1 < nc) (h1 : wt - 1 ≤ wt') (h2 : ∀ q, q < wt - 1 → St' q = St q) (h3 : ∀ q, wt - 1 ≤ q → q < wt' → (St' q).2.2.1 = nc)
    (hn : V_gd (V_H G w) (i + (j - i)) (j - i) 0 i (V_S G w) (V_pd St' nc wt'.toNat)) : V_Inv G wt' St' (nc + 1) (X_nn N nc w i (j - i) p h) := by
  intro n g1 g2
  have hd : ∀ x f : Int, ¬ x = nc → X_nn N nc w i (j - i) p h f x = N f x := fun x f hx => X_nn_o hx
  by_cases hnn : n = nc
  · subst hnn
    have e1 : V_md (X_nn N n w i (j - i) p h) n (n + 1).toNat = [] := V_md_0 _ (fun k k1 k2 => by
      by_cases hk : k = n
      · rw [hk, X_nn_3]; omega
      · rw [hd k 3 hk]
        have := ht0 k k1 (by omega)
        omega)
    unfold V_ok
    rw [X_nn_0, X_nn_1, X_nn_2, e1, List.nil_append]
    exact hn
  · have e1 : V_md (X_nn N nc w i (j - i) p h) n (nc + 1).toNat = V_md N n nc.toNat ++ (if p = n then [(h, i, j - i)] else []) := by
      rw [show (nc + 1).toNat = nc.toNat + 1 by omega]
      show V_md (X_nn N nc w i (j - i) p h) n nc.toNat ++ (if X_nn N nc w i (j - i) p h 3 (nc.toNat : Int) = n then [(X_nn N nc w i (j - i) p h 4 (nc.toNat : Int), X_nn N nc w i (j - i) p h 1 (nc.toNat : Int), X_nn N nc w i (j - i) p h 2 (nc.toNat : Int))] else []) = _
      rw [show ((nc.toNat : Nat) : Int) = nc by omega, X_nn_3, X_nn_4, X_nn_1, X_nn_2, V_md_c (N' := N) nc.toNat (fun k k1 k2 => ⟨hd k 3 (by omega), hd k 4 (by omega), hd k 1 (by omega), hd k 2 (by omega)⟩)]
    have e2 : V_pd St' n wt'.toNat = V_pd St n (wt - 1).toNat := by
      have a := V_pd_a (St := St') (n := n) (wt - 1).toNat (wt' - (wt - 1)).toNat (fun k k1 k2 => by
        rw [h3 k (by omega) (by omega)]
        exact fun z => hnn z.symm)
      rw [show (wt - 1).toNat + (wt' - (wt - 1)).toNat = wt'.toNat by omega] at a
      rw [a]
      exact V_pd_c _ (fun k k1 k2 => h2 k (by omega))
    have e3 : V_pd St n wt.toNat = (if p = n then [(h, i, j - i)] else []) ++ V_pd St n (wt - 1).toNat := by
      rw [show wt.toNat = (wt - 1).toNat + 1 by omega]
      show (if (St (((wt - 1).toNat : Nat) : Int)).2.2.1 = n then [((St (((wt - 1).toNat : Nat) : Int)).2.2.2.1, (St (((wt - 1).toNat : Nat) : Int)).1, (St (((wt - 1).toNat : Nat) : Int)).2.1 - (St (((wt - 1).toNat : Nat) : Int)).1)] else []) ++ V_pd St n (wt - 1).toNat = _
      rw [show (((wt - 1).toNat : Nat) : Int) = wt - 1 by omega, hp, hh, hi, hj]
    have z := hI n g1 (by omega)
    unfold V_ok at z ⊢
    rw [hd n 0 hnn, hd n 1 hnn, hd n 2 hnn, e1, e2, List.append_assoc, ← e3]
    exact z
/-- the holes of a word as they wait -/
def V_hl (HF HE : Int → Int) : Nat → List V_T
  | 0 => []
  | h + 1 => V_hl HF HE h ++ [((h : Int), HF h, HE h - HF h)]
theorem V_pus {G : X_G} {w nc : Int} {HF HE : Int → Int} : ∀ (h : Nat) (l : Nat) (s : Int × (Int → X_It)), 0 ≤ s.1 → V_pd (X_pus G w nc HF HE h l s).2 nc (s.1 + h).toNat = V_hl HF HE h ++ V_pd s.2 nc s.1.toNat := by
  intro h
  induction h with
  | zero =>
    intro l s hs
    rw [show s.1 + ((0 : Nat) : Int) = s.1 by omega]
    rfl
  | succ h ih =>
    intro l s hs
    have e := ih (l / X_Hh G w h (HF h) (HE h)) (s.1 + 1, X_ug s.2 s.1 (HF h, HE h, nc, h, gD G w 9 h, w, X_eh G w h, l % X_Hh G w h (HF h) (HE h))) (show 0 ≤ s.1 + 1 by omega)
    rw [show s.1 + ((h + 1 : Nat) : Int) = s.1 + 1 + (h : Int) by omega]
    refine e.trans ?_
    show V_hl HF HE h ++ V_pd (X_ug s.2 s.1 (HF h, HE h, nc, h, gD G w 9 h, w, X_eh G w h, l % X_Hh G w h (HF h) (HE h))) nc (s.1 + 1).toNat = (V_hl HF HE h ++ [((h : Int), HF h, HE h - HF h)]) ++ V_pd s.2 nc s.1.toNat
    rw [show (s.1 + 1).toNat = s.1.toNat + 1 by omega, List.append_assoc]
    congr 1
    show (if (X_ug s.2 s.1 (HF h, HE h, nc, (h : Int), gD G w 9 h, w, X_eh G w h, l % X_Hh G w h (HF h) (HE h)) ((s.1.toNat : Nat) : Int)).2.2.1 = nc then [((X_ug s.2 s.1 (HF h, HE h, nc, (h : Int), gD G w 9 h, w, X_eh G w h, l % X_Hh G w h (HF h) (HE h)) ((s.1.toNat : Nat) : Int)).2.2.2.1, (X_ug s.2 s.1 (HF h, HE h, nc, (h : Int), gD G w 9 h, w, X_eh G w h, l % X_Hh G w h (HF h) (HE h)) ((s.1.toNat : Nat) : Int)).1, (X_ug s.2 s.1 (HF h, HE h, nc, (h : Int), gD G w 9 h, w, X_eh G w h, l % X_Hh G w h (HF h) (HE h)) ((s.1.toNat : Nat) : Int)).2.1 - (X_ug s.2 s.1 (HF h, HE h, nc, (h : Int), gD G w 9 h, w, X_eh G w h, l % X_Hh G w h (HF h) (HE h)) ((s.1.toNat : Nat) : Int)).1)] else []) ++ V_pd (X_ug s.2 s.1 (HF h, HE h, nc, (h : Int), gD G w 9 h, w, X_eh G w h, l % X_Hh G w h (HF h) (HE h))) nc s.1.toNat = _
    rw [show ((s.1.toNat : Nat) : Int) = s.1 by omega, X_ug_s, V_pd_c (St' := s.2) _ (fun k k1 k2 => X_ug_n _ _ (by omega))]
    rw [if_pos rfl]
/-- where hole h may begin -/
def V_at (i : Int) (HE : Int → Int) (h : Nat) : Int := if h = 0 then i else HE ((h : Int) - 1)
theorem V_hl_gd {H e all i sg : Int} {HF HE : Int → Int} (ho : ∀ x : Nat, (x : Int) < H → V_at i HE x ≤ HF x) (hl : ∀ x : Int, 0 ≤ x → x < H → HF x ≤ HE x) : ∀ (h : Nat) (L : List V_T), (h : Int) ≤ H → V_gd H e all h (V_at i HE h) (sg + (X_Su (fun x => (HE x - HF x).toNat) 0 h : Int)) L → V_gd H e all 0 i sg (V_hl HF HE h ++ L) := by
  intro h
  induction h with
  | zero =>
    intro L hh hL
    rw [X_Su_e (by omega)] at hL
    rw [show sg + ((0 : Nat) : Int) = sg by omega] at hL
    exact hL
  | succ h ih =>
    intro L hh hL
    show V_gd H e all 0 i sg ((V_hl HF HE h ++ [((h : Int), HF h, HE h - HF h)]) ++ L)
    rw [List.append_assoc]
    refine ih _ (by omega) ?_
    refine ⟨rfl, ho h (by omega), ?_⟩
    have e1 : V_at i HE (h + 1) = HE h := by
      unfold V_at
      rw [if_neg (by omega)]
      congr 1
      omega
    rw [e1, show ((h + 1 : Nat) : Int) = (h : Int) + 1 by omega, X_Su_s (by omega)] at hL
    have h2 := hl h (by omega) (by omega)
    show V_gd H e all ((h : Int) + 1) (HF h + (HE h - HF h)) (sg + (X_Su (fun x => (HE x - HF x).toNat) 0 h : Int) + (HE h - HF h)) L
    rw [show HF h + (HE h - HF h) = HE h by omega, show sg + (X_Su (fun x => (HE x - HF x).toNat) 0 (h : Int) : Int) + (HE h - HF h) = sg + ((X_Su (fun x => (HE x - HF x).toNat) 0 (h : Int) + (HE h - HF h).toNat : Nat) : Int) by omega]
    exact hL
theorem V_Inv_mk {G : X_G} {tn : Int} (hG : X_Gok G) (htn : tn ≤ 30) {wt nc : Int} {St : Int → X_It} {N : Int → Int → Int} (hM : X_Mok G tn (wt, St, nc, N)) (hw : 0 < wt) (hT : X_Tre G tn wt St nc N) (hI : V_Inv G wt St nc N) : V_Inv G (X_mk G (wt, St, nc, N)).1 (X_mk G (wt, St, nc, N)).2.1 (nc + 1) (X_mk G (wt, St, nc, N)).2.2.2 := by
  obtain ⟨⟨i, j, p, h, u, o, en, k⟩, ht⟩ : ∃ t : X_It, St (wt - 1) = t := ⟨_, rfl⟩
  have hnc : 0 ≤ nc := hM.2.1
  have hI1 := hM.2.2.1 (wt - 1) (show 0 ≤ wt - 1 by omega) (show wt - 1 < wt by omega)
  rw [show (wt, St, nc, N).2.1 (wt - 1) = (i, j, p, h, u, o, en, k) from ht] at hI1
  have hij : 0 ≤ i ∧ i < j ∧ j ≤ tn := hI1.1
  have hpn : p < nc ∨ p = -1 := by
    have z : (-1 ≤ p ∧ p < nc) ∨ p = -1 := hI1.2.1
    omega
  have hpn : p < nc := by omega
  have hkH : k < X_Hc G (X_T_ G) u o en i j := hI1.2.2.2.2.2.2.2.1
  have hkm : k ≤ 9223372036854775807 := hI1.2.2.2.2.2.2.2.2
  have hqs : ∀ q, 0 ≤ q → q < wt - 1 → (St q).2.2.1 < nc := fun q g1 g2 => by
    have z : (-1 ≤ (St q).2.2.1 ∧ (St q).2.2.1 < nc) ∨ (St q).2.2.1 = -1 := (hM.2.2.1 q g1 (show q < wt by omega)).2.1
    omega
  by_cases hk : k < X_Hq G (X_T_ G) u i j
  · by_cases hj : j = i + 1
    · rw [X_mk_n ht hk hj]
      refine V_step (tn := tn) hI hw hnc hT.1 (by rw [ht]) (by rw [ht]) (by rw [ht]) (by rw [ht]) hpn hqs (Int.le_refl _) (fun q _ => rfl) (fun q g1 g2 => by omega) ?_
      show V_gd (V_H G (-2)) (i + (j - i)) (j - i) 0 i (V_S G (-2)) (V_pd St nc (wt - 1).toNat)
      rw [V_pd_0 _ (fun q g1 g2 => by have := hqs q g1 (by omega); omega)]
      exact ⟨rfl, by omega, show (1 : Int) = j - i by omega⟩
    · rw [X_mk_b ht hk hj]
      obtain ⟨hbk, -⟩ := X_Mok_b hG htn hM hw ht hk hj (N' := N)
      have hb1 := hbk.1
      refine V_step (tn := tn) hI hw hnc hT.1 (by rw [ht]) (by rw [ht]) (by rw [ht]) (by rw [ht]) hpn hqs (by omega) (fun q g1 => X_ug_n _ _ (by omega)) (fun q g1 g2 => by
        have g2 : q < wt := g2
        show (X_ug St (wt - 1) (i + 1, j - 1, nc, 0, u, 0, 0, k) q).2.2.1 = nc
        rw [show q = wt - 1 by omega, X_ug_s]) ?_
      show V_gd (V_H G (-3)) (i + (j - i)) (j - i) 0 i (V_S G (-3)) (V_pd (X_ug St (wt - 1) (i + 1, j - 1, nc, 0, u, 0, 0, k)) nc wt.toNat)
      rw [show wt.toNat = (wt - 1).toNat + 1 by omega]
      show V_gd (V_H G (-3)) (i + (j - i)) (j - i) 0 i (V_S G (-3)) ((if (X_ug St (wt - 1) (i + 1, j - 1, nc, 0, u, 0, 0, k) (((wt - 1).toNat : Nat) : Int)).2.2.1 = nc then [((X_ug St (wt - 1) (i + 1, j - 1, nc, 0, u, 0, 0, k) (((wt - 1).toNat : Nat) : Int)).2.2.2.1, (X_ug St (wt - 1) (i + 1, j - 1, nc, 0, u, 0, 0, k) (((wt - 1).toNat : Nat) : Int)).1, (X_ug St (wt - 1) (i + 1, j - 1, nc, 0, u, 0, 0, k) (((wt - 1).toNat : Nat) : Int)).2.1 - (X_ug St (wt - 1) (i + 1, j - 1, nc, 0, u, 0, 0, k) (((wt - 1).toNat : Nat) : Int)).1)] else []) ++ V_pd (X_ug St (wt - 1) (i + 1, j - 1, nc, 0, u, 0, 0, k)) nc (wt - 1).toNat)
      rw [show (((wt - 1).toNat : Nat) : Int) = wt - 1 by omega, X_ug_s, if_pos rfl, V_pd_0 _ (fun q g1 g2 => by rw [X_ug_n _ _ (by omega)]; have := hqs q g1 (by omega); omega)]
      exact ⟨rfl, show i ≤ i + 1 by omega, rfl, show i + 1 + (j - 1 - (i + 1)) ≤ i + (j - i) by omega, show (2 : Int) + (j - 1 - (i + 1)) = j - i by omega⟩
  · obtain ⟨v, k2, hf, hv, hok, hke, hk2⟩ := X_ch hG hkH hk
    obtain ⟨⟨l, HF, HE⟩, hs⟩ : ∃ z : Nat × (Int → Int) × (Int → Int), X_spl G v j (gD G v 3 0).toNat 0 i k2 1 (fun _ => 0) (fun _ => 0) = z := ⟨_, rfl⟩
    rw [X_mk_w ht hk hf hs]
    have hg := hG.2.2.2 v hv.1 hv.2
    have hgs := hg.1
    have hgh := hg.2.1
    have hE : k2 < 1 * X_Ew G (X_T_ G) v 0 i j := by rw [Nat.one_mul, ← X_T_W hg.2.2.1 hij.2.1 (by omega)]; exact hk2
    have s1 := X_spl_ok (j := j) hg (gD G v 3 0).toNat 0 i k2 1 (fun _ => 0) (fun _ => 0) (Int.le_refl 0) (by omega) (by omega) hE
    have s2 := X_spl_or (j := j) hg (gD G v 3 0).toNat 0 i k2 1 (fun _ => 0) (fun _ => 0) (Int.le_refl 0) (by omega) (by omega) hE
    rw [hs] at s1 s2
    have z0 : X_hn (gW G v) 0 = 0 := rfl
    rw [z0] at s1 s2
    obtain ⟨-, s3, s4⟩ := s1
    have s2 : ∀ x, 0 ≤ x → x + 1 < gD G v 4 0 → HE x ≤ HF (x + 1) := s2
    have s3 : ∀ x, 0 ≤ x → x < gD G v 4 0 → i ≤ HF x ∧ HF x < HE x ∧ HE x ≤ j ∧ 0 < X_Hh G v x (HF x) (HE x) := s3
    have s4 : (X_Su (fun h => (HE h - HF h).toNat) 0 (gD G v 4 0) : Int) = j - i - ((gD G v 3 0 - 0) - (gD G v 4 0 - 0)) := s4
    obtain ⟨p1, p2, p3⟩ := X_pus_pa (G := G) (w := v) (nc := nc) (HF := HF) (HE := HE) (gD G v 4 0).toNat l (wt - 1, St)
    have p1 : (X_pus G v nc HF HE (gD G v 4 0).toNat l (wt - 1, St)).1 = wt - 1 + ((gD G v 4 0).toNat : Int) := p1
    have p2 : ∀ q, q < wt - 1 → (X_pus G v nc HF HE (gD G v 4 0).toNat l (wt - 1, St)).2 q = St q := p2
    have p4 := V_pus (G := G) (w := v) (nc := nc) (HF := HF) (HE := HE) (gD G v 4 0).toNat l (wt - 1, St) (show 0 ≤ wt - 1 by omega)
    have p4 : V_pd (X_pus G v nc HF HE (gD G v 4 0).toNat l (wt - 1, St)).2 nc (wt - 1 + ((gD G v 4 0).toNat : Int)).toNat = V_hl HF HE (gD G v 4 0).toNat ++ V_pd St nc (wt - 1).toNat := p4
    refine V_step (tn := tn) hI hw hnc hT.1 (by rw [ht]) (by rw [ht]) (by rw [ht]) (by rw [ht]) hpn hqs (by omega) p2 (fun q g1 g2 => (p3 q g1 (show q < wt - 1 + ((gD G v 4 0).toNat : Int) by omega)).1) ?_
    have hv2 : ¬ v = -2 ∧ ¬ v = -3 := by omega
    have eH : V_H G v = gD G v 4 0 := by unfold V_H; rw [if_neg hv2.1, if_neg hv2.2]
    have eS : V_S G v = gD G v 3 0 - gD G v 4 0 := by unfold V_S; rw [if_neg hv2.1, if_neg hv2.2]
    rw [p1, p4, V_pd_0 _ (fun q g1 g2 => by have := hqs q g1 (by omega); omega), eH, eS]
    refine V_hl_gd (fun x hx => ?_) (fun x g1 g2 => by have := s3 x g1 g2; omega) (gD G v 4 0).toNat [] (by omega) ?_
    · unfold V_at
      by_cases h0 : x = 0
      · rw [if_pos h0, h0]
        exact (s3 0 (Int.le_refl 0) (by omega)).1
      · rw [if_neg h0]
        have := s2 ((x : Int) - 1) (by omega) (by omega)
        rw [show (x : Int) - 1 + 1 = x by omega] at this
        exact this
    · refine ⟨by omega, ?_, ?_⟩
      · unfold V_at
        by_cases h0 : (gD G v 4 0).toNat = 0
        · rw [if_pos h0]; omega
        · rw [if_neg h0]
          have := s3 (((gD G v 4 0).toNat : Int) - 1) (by omega) (by omega)
          omega
      · rw [show (((gD G v 4 0).toNat : Nat) : Int) = gD G v 4 0 by omega, s4]
        omega
/-- a reading's nodes: their children in order -/
theorem V_mks {G : X_G} {tn : Int} (hG : X_Gok G) (htn : tn ≤ 30) : ∀ (m : Nat) (s : X_Ms), s.2.2.1 + m = 30 → X_Mok G tn s → X_Tre G tn s.1 s.2.1 s.2.2.1 s.2.2.2 → V_Inv G s.1 s.2.1 s.2.2.1 s.2.2.2 → V_Inv G (X_mks G m s).1 (X_mks G m s).2.1 (X_mks G m s).2.2.1 (X_mks G m s).2.2.2 := by
  intro m
  induction m with
  | zero => intro s h1 h2 h3 h4; exact h4
  | succ m ih =>
    intro s h1 h2 h3 h4
    by_cases hw : s.1 ≤ 0
    · rw [X_mks_e hw]; exact h4
    · have e : X_mks G (m + 1) s = X_mks G m (X_mk G s) := by
        show (if s.1 ≤ 0 then s else _) = _
        rw [if_neg hw]
      obtain ⟨wt, St, nc, N⟩ := s
      have h1 : nc + ((m + 1 : Nat) : Int) = 30 := h1
      have hw0 : 0 < wt := by have : ¬ wt ≤ 0 := hw; omega
      obtain ⟨a1, a2, a3⟩ := X_Mok_mk hG htn h2 hw0 h3
      have a4 := V_Inv_mk hG htn h2 hw0 h3 h4
      rw [e]
      exact ih (X_mk G (wt, St, nc, N)) (by omega) a1 (by rw [a2]; exact a3) (by rw [a2]; exact a4)
theorem V_rd {G : X_G} {tn : Int} {k : Nat} (hG : X_Gok G) (htn : 1 ≤ tn ∧ tn ≤ 30) (hk : k < X_all G 0 tn) (hkm : k ≤ 9223372036854775807) : ∀ n, 0 ≤ n → n < (X_rd G tn k).2.2.1 → V_ok G (X_rd G tn k).2.2.2 n (V_md (X_rd G tn k).2.2.2 n (X_rd G tn k).2.2.1.toNat) := by
  have hM := X_Mok_0 hG htn hk hkm
  have hT0 : X_Tre G tn 1 (fun _ => (0, tn, -1, -1, 0, 0, 0, k)) 0 (fun _ _ => 0) := ⟨fun z h1 h2 => by omega, fun z h1 h2 => by omega, ⟨fun _ => ⟨rfl, rfl⟩, fun z => by omega⟩, ⟨fun q h1 h2 h3 => by omega, fun q q' _ _ _ => Int.le_refl _⟩, fun n h1 h2 => by omega, fun n h1 h2 => by omega, fun n h1 h2 => by omega⟩
  have h := V_mks hG htn.2 30 (1, fun _ => (0, tn, -1, -1, 0, 0, 0, k), 0, fun _ _ => 0) rfl hM hT0 (fun n h1 h2 => absurd (show n < 0 from h2) (by omega))
  have hw := X_mks_ok hG htn.2 30 (1, fun _ => (0, tn, -1, -1, 0, 0, 0, k), 0, fun _ _ => 0) rfl hM hT0
  intro n h1 h2
  have z := h n h1 h2
  rw [show (X_mks G 30 (1, fun _ => (0, tn, -1, -1, 0, 0, 0, k), 0, fun _ _ => 0)).1.toNat = 0 by have := hw.1; omega] at z
  rw [show V_pd (X_mks G 30 (1, fun _ => (0, tn, -1, -1, 0, 0, 0, k), 0, fun _ _ => 0)).2.1 n 0 = [] from rfl, List.append_nil] at z
  exact z
