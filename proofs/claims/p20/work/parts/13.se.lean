/-- a reading that is being made is a tree -/
def X_Tre (G : X_G) (tn : Int) (wt : Int) (St : Int → X_It) (nc : Int) (N : Int → Int → Int) : Prop :=
  X_tr0 N nc ∧ X_tr1 N nc ∧ ((nc = 0 → wt = 1 ∧ (St 0).2.2.1 = -1) ∧ (0 < nc → N 3 0 = -1)) ∧
  ((∀ q, 0 ≤ q → q < wt → 0 < nc → 0 ≤ (St q).2.2.1 ∧ X_An N (nc - 1) (St q).2.2.1) ∧ ∀ q q', 0 ≤ q → q ≤ q' → q' < wt → (St q).2.2.1 ≤ (St q').2.2.1) ∧
  (∀ n, 0 ≤ n → n < nc → (N 0 n = -2 ∨ N 0 n = -3 ∨ (0 ≤ N 0 n ∧ N 0 n < gw G)) ∧ (N 0 n = -2 → (0 ≤ N 1 n ∧ N 1 n < tn) ∧ 0 ≤ X_nv (gt G (N 1 n))) ∧ (-1 ≤ N 4 n ∧ N 4 n ≤ 3) ∧ (1 ≤ n → 0 ≤ N 4 n) ∧ (0 ≤ N 1 n ∧ 1 ≤ N 2 n ∧ N 1 n + N 2 n ≤ tn)) ∧
  (∀ n, 0 ≤ n → n < nc → 0 ≤ N 0 n → ∀ h, 0 ≤ h → h < gD G (N 0 n) 4 0 → (∃ k, n < k ∧ k < nc ∧ N 3 k = n ∧ N 4 k = h) ∨ (∃ q, 0 ≤ q ∧ q < wt ∧ (St q).2.2.1 = n ∧ (St q).2.2.2.1 = h)) ∧
  ∀ n, 0 ≤ n → n < nc → N 0 n = -3 → (n + 1 = nc → 0 < wt ∧ (St (wt - 1)).2.2.1 = n ∧ (St (wt - 1)).2.2.2.1 = 0 ∧ ∀ q, 0 ≤ q → q < wt - 1 → ¬ (St q).2.2.1 = n) ∧ (n + 1 < nc → N 3 (n + 1) = n ∧ N 4 (n + 1) = 0 ∧ (∀ k, n + 1 < k → k < nc → ¬ N 3 k = n) ∧ ∀ q, 0 ≤ q → q < wt → ¬ (St q).2.2.1 = n)
theorem X_An_c {N N' : Int → Int → Int} {nc : Int} (ht : X_tr0 N nc) (hc : ∀ k, 0 ≤ k → k < nc → N' 3 k = N 3 k) : ∀ (f : Nat) (n m : Int), n < f → n < nc → X_An N n m → X_An N' n m := by
  intro f
  induction f with
  | zero =>
    intro n m h1 h2 h
    by_cases hne : n = m
    · rw [hne]; exact X_An.rf
    · have := (h.dn hne).1; omega
  | succ f ih =>
    intro n m h1 h2 h
    by_cases hne : n = m
    · rw [hne]; exact X_An.rf
    · obtain ⟨h4, h5⟩ := h.dn hne
      have h6 := ht n h4 h2
      refine X_An.up h4 ?_
      rw [hc n h4 h2]
      exact ih (N 3 n) m (by omega) (by omega) h5
theorem X_nn_o {N : Int → Int → Int} {nc a b c d e f n : Int} (h : ¬ n = nc) : X_nn N nc a b c d e f n = N f n := by
  unfold X_nn
  rw [if_neg h]
theorem X_nn_0 {N : Int → Int → Int} {nc a b c d e : Int} : X_nn N nc a b c d e 0 nc = a := by unfold X_nn; simp
theorem X_nn_1 {N : Int → Int → Int} {nc a b c d e : Int} : X_nn N nc a b c d e 1 nc = b := by unfold X_nn; simp
theorem X_nn_2 {N : Int → Int → Int} {nc a b c d e : Int} : X_nn N nc a b c d e 2 nc = c := by unfold X_nn; simp
theorem X_nn_3 {N : Int → Int → Int} {nc a b c d e : Int} : X_nn N nc a b c d e 3 nc = d := by unfold X_nn; simp
theorem X_nn_4 {N : Int → Int → Int} {nc a b c d e : Int} : X_nn N nc a b c d e 4 nc = e := by unfold X_nn; simp
theorem X_Tre_st {G : X_G} {tn wt wt' nc i j p h w : Int} {St St' : Int → X_It} {N : Int → Int → Int} (hT : X_Tre G tn wt St nc N) (hw : 0 < wt) (hnc : 0 ≤ nc) (hij : 0 ≤ i ∧ i < j ∧ j ≤ tn) (hpr : (-1 ≤ p ∧ p < nc) ∨ p = -1) (hh : -1 ≤ h ∧ h ≤ 3) (hph : 0 ≤ p → 0 ≤ h) (hp : (St (wt - 1)).2.2.1 = p) (hho : (St (wt - 1)).2.2.2.1 = h) (h1 : wt - 1 ≤ wt') (h2 : ∀ q, 0 ≤ q → q < wt - 1 → St' q = St q) (h3 : ∀ q, wt - 1 ≤ q → q < wt' → (St' q).2.2.1 = nc)
    (h4 : (w = -2 ∨ w = -3 ∨ (0 ≤ w ∧ w < gw G)) ∧ (w = -2 → (0 ≤ i ∧ i < tn) ∧ 0 ≤ X_nv (gt G i))) (h5 : 0 ≤ w → ∀ x, 0 ≤ x → x < gD G w 4 0 → ∃ q, wt - 1 ≤ q ∧ q < wt' ∧ (St' q).2.2.2.1 = x) (h6 : w = -3 → wt' = wt ∧ (St' (wt - 1)).2.2.2.1 = 0) : X_Tre G tn wt' St' (nc + 1) (X_nn N nc w i (j - i) p h) := by
  obtain ⟨t0, t1, ⟨t2, t2b⟩, ⟨t3, t3b⟩, t4, t5, t6⟩ := hT
  have hoc : ∀ k, 0 ≤ k → k < nc → X_nn N nc w i (j - i) p h 3 k = N 3 k := fun k g1 g2 => X_nn_o (by omega)
  have hpl : ∀ q, 0 ≤ q → q < wt - 1 → (St q).2.2.1 ≤ p := fun q g1 g2 => by rw [← hp]; exact t3b q (wt - 1) g1 (by omega) (by omega)
  have hA : ∀ n m, n < nc → X_An N n m → X_An (X_nn N nc w i (j - i) p h) n m := fun n m g1 g2 => X_An_c t0 hoc (n + 1).toNat n m (by omega) g1 g2
  have hr0 : X_tr0 (X_nn N nc w i (j - i) p h) (nc + 1) := fun k g1 g2 => by
    by_cases hk : k = nc
    · rw [hk, X_nn_3]; omega
    · rw [X_nn_o hk]; exact t0 k g1 (by omega)
  refine ⟨hr0, fun k g1 g2 => ?_, ⟨fun z => by omega, fun z => ?_⟩, ⟨fun q g1 g2 g3 => ?_, fun q q' g1 g2 g3 => ?_⟩, fun n g1 g2 => ?_, fun n g1 g2 g3 x g4 g5 => ?_, fun n g1 g2 g3 => ⟨fun g4 => ?_, fun g4 => ?_⟩⟩
  · by_cases hk : k = nc
    · rw [hk, X_nn_3]
      have := t3 (wt - 1) (by omega) (by omega) (by omega)
      rw [hp] at this
      exact ⟨this.1, hA _ _ (by omega) this.2⟩
    · rw [X_nn_o hk]
      have := t1 k g1 (by omega)
      exact ⟨this.1, hA _ _ (by omega) this.2⟩
  · by_cases h0 : nc = 0
    · rw [h0, X_nn_3, ← hp, (t2 h0).1]
      exact (t2 h0).2
    · rw [X_nn_o (by omega)]
      exact t2b (by omega)
  · rw [show nc + 1 - 1 = nc by omega]
    by_cases hq : wt - 1 ≤ q
    · rw [h3 q hq g2]
      exact ⟨hnc, X_An.rf⟩
    · rw [h2 q g1 (by omega)]
      have h0 : 0 < nc := by
        refine Classical.byContradiction (fun z => ?_)
        have := (t2 (by omega)).1
        omega
      have e1 := t3 q g1 (by omega) h0
      have e2 := t3 (wt - 1) (by omega) (by omega) h0
      rw [hp] at e2
      refine ⟨e1.1, X_An.up hnc ?_⟩
      rw [X_nn_3]
      exact hA _ _ (by omega) (X_An.cp e2.2 e1.2 (hpl q g1 (by omega)) t0 (by omega) (by omega))
  · by_cases hq : wt - 1 ≤ q
    · rw [h3 q hq (by omega), h3 q' (by omega) g3]
      exact Int.le_refl _
    · rw [h2 q g1 (by omega)]
      have := hpl q g1 (by omega)
      by_cases hq' : wt - 1 ≤ q'
      · rw [h3 q' hq' g3]
        omega
      · rw [h2 q' (by omega) (by omega)]
        exact t3b q q' g1 g2 (by omega)
  · by_cases hn : n = nc
    · rw [hn, X_nn_0, X_nn_1, X_nn_2, X_nn_4]
      refine ⟨h4.1, h4.2, hh, fun z => hph ?_, by omega⟩
      have := t3 (wt - 1) (by omega) (by omega) (by omega)
      rw [hp] at this
      exact this.1
    · rw [X_nn_o hn, X_nn_o hn, X_nn_o hn, X_nn_o hn]
      exact t4 n g1 (by omega)
  · by_cases hn : n = nc
    · rw [hn, X_nn_0] at g3 g5
      obtain ⟨q, e1, e2, e3⟩ := h5 g3 x g4 g5
      exact Or.inr ⟨q, by omega, e2, by rw [h3 q e1 e2, hn], e3⟩
    · rw [X_nn_o hn] at g3 g5
      rcases t5 n g1 (by omega) g3 x g4 g5 with ⟨k, e1, e2, e3, e4⟩ | ⟨q, e1, e2, e3, e4⟩
      · exact Or.inl ⟨k, e1, by omega, by rw [X_nn_o (by omega)]; exact e3, by rw [X_nn_o (by omega)]; exact e4⟩
      · by_cases hq : q = wt - 1
        · rw [hq, hp] at e3
          rw [hq, hho] at e4
          exact Or.inl ⟨nc, by omega, by omega, by rw [X_nn_3]; exact e3, by rw [X_nn_4]; exact e4⟩
        · exact Or.inr ⟨q, e1, by omega, by rw [h2 q e1 (by omega)]; exact e3, by rw [h2 q e1 (by omega)]; exact e4⟩
  · have hn : n = nc := by omega
    rw [hn, X_nn_0] at g3
    obtain ⟨e1, e2⟩ := h6 g3
    rw [e1]
    refine ⟨hw, by rw [h3 (wt - 1) (Int.le_refl _) (by omega), hn], e2, fun q z1 z2 => ?_⟩
    rw [h2 q z1 z2]
    have := hpl q z1 z2
    omega
  · have hn : ¬ n = nc := by omega
    rw [X_nn_o hn] at g3
    obtain ⟨e1, e2⟩ := t6 n g1 (by omega) g3
    by_cases hn1 : n + 1 = nc
    · obtain ⟨-, a2, a3, a4⟩ := e1 hn1
      rw [hn1, X_nn_3, X_nn_4]
      refine ⟨by rw [← hp]; exact a2, by rw [← hho]; exact a3, fun k z1 z2 => by omega, fun q z1 z2 => ?_⟩
      by_cases hq : wt - 1 ≤ q
      · rw [h3 q hq z2]; omega
      · rw [h2 q z1 (by omega)]; exact a4 q z1 (by omega)
    · obtain ⟨a1, a2, a3, a4⟩ := e2 (by omega)
      rw [X_nn_o (by omega), X_nn_o (by omega)]
      refine ⟨a1, a2, fun k z1 z2 => ?_, fun q z1 z2 => ?_⟩
      · by_cases hk : k = nc
        · rw [hk, X_nn_3, ← hp]
          exact a4 (wt - 1) (by omega) (by omega)
        · rw [X_nn_o hk]
          exact a3 k z1 (by omega)
      · by_cases hq : wt - 1 ≤ q
        · rw [h3 q hq z2]; omega
        · rw [h2 q z1 (by omega)]; exact a4 q z1 (by omega)
theorem X_pus_pa {G : X_G} {w nc : Int} {HF HE : Int → Int} : ∀ (h : Nat) (l : Nat) (s : Int × (Int → X_It)), (X_pus G w nc HF HE h l s).1 = s.1 + h ∧ (∀ q, q < s.1 → (X_pus G w nc HF HE h l s).2 q = s.2 q) ∧ ∀ q, s.1 ≤ q → q < s.1 + h → ((X_pus G w nc HF HE h l s).2 q).2.2.1 = nc ∧ ((X_pus G w nc HF HE h l s).2 q).2.2.2.1 = s.1 + h - 1 - q := by
  intro h
  induction h with
  | zero => intro l s; exact ⟨by show s.1 = s.1 + 0; omega, fun q _ => rfl, fun q h1 h2 => by omega⟩
  | succ h ih =>
    intro l s
    obtain ⟨i1, i2, i3⟩ := ih (l / X_Hh G w h (HF h) (HE h)) (s.1 + 1, X_ug s.2 s.1 (HF h, HE h, nc, h, gD G w 9 h, w, X_eh G w h, l % X_Hh G w h (HF h) (HE h)))
    have i1 : (X_pus G w nc HF HE (h + 1) l s).1 = s.1 + 1 + (h : Int) := i1
    refine ⟨by omega, fun q hq => (i2 q (show q < s.1 + 1 by omega)).trans (X_ug_n _ _ (by omega)), fun q h1 h2 => ?_⟩
    by_cases hq : q = s.1
    · have := i2 q (show q < s.1 + 1 by omega)
      have e : (X_pus G w nc HF HE (h + 1) l s).2 q = (HF h, HE h, nc, (h : Int), gD G w 9 h, w, X_eh G w h, l % X_Hh G w h (HF h) (HE h)) := this.trans (by rw [hq]; exact X_ug_s _ _ _)
      rw [e]
      exact ⟨rfl, (show (h : Int) = s.1 + ((h + 1 : Nat) : Int) - 1 - q by omega)⟩
    · have := i3 q (show s.1 + 1 ≤ q by omega) (show q < s.1 + 1 + (h : Int) by omega)
      refine ⟨this.1, this.2.trans ?_⟩
      show s.1 + 1 + (h : Int) - 1 - q = _
      omega
theorem X_Hq_n {G : X_G} {u i j : Int} {k : Nat} (hk : k < X_Hq G (X_T_ G) u i j) (hj : j = i + 1) : 0 ≤ X_nv (gt G i) := by
  refine Classical.byContradiction (fun z => ?_)
  have : X_Hq G (X_T_ G) u i j = 0 := X_Su_0 (fun q h1 h2 => by
    rw [(X_nmB (k := q) (i := i) (j := j) (by omega) (by omega)).1 hj, X_if_f (p := 0 ≤ X_nv (gt G i) ∧ q = bI (1 < gk G)) (fun y => z y.1)]
    exact X_if_0)
  omega
/-- one more node: what waits stays readable, the nodes a tree -/
theorem X_Mok_mk {G : X_G} {tn : Int} (hG : X_Gok G) (htn : tn ≤ 30) {wt nc : Int} {St : Int → X_It} {N : Int → Int → Int} (hM : X_Mok G tn (wt, St, nc, N)) (hw : 0 < wt) (hT : X_Tre G tn wt St nc N) : X_Mok G tn (X_mk G (wt, St, nc, N)) ∧ (X_mk G (wt, St, nc, N)).2.2.1 = nc + 1 ∧ X_Tre G tn (X_mk G (wt, St, nc, N)).1 (X_mk G (wt, St, nc, N)).2.1 (nc + 1) (X_mk G (wt, St, nc, N)).2.2.2 := by
  obtain ⟨⟨i, j, p, h, u, o, en, k⟩, ht⟩ : ∃ t : X_It, St (wt - 1) = t := ⟨_, rfl⟩
  have hnc : 0 ≤ nc := hM.2.1
  have hI := hM.2.2.1 (wt - 1) (show 0 ≤ wt - 1 by omega) (show wt - 1 < wt by omega)
  rw [show (wt, St, nc, N).2.1 (wt - 1) = (i, j, p, h, u, o, en, k) from ht] at hI
  obtain ⟨hIij, hIp, hIh, hIph, hIu, hIo, hIe, hIk, hIm⟩ := hI
  have hij : 0 ≤ i ∧ i < j ∧ j ≤ tn := hIij
  have hp : (St (wt - 1)).2.2.1 = p := by rw [ht]
  have hh : (St (wt - 1)).2.2.2.1 = h := by rw [ht]
  by_cases hk : k < X_Hq G (X_T_ G) u i j
  · by_cases hj : j = i + 1
    · rw [X_mk_n ht hk hj]
      refine ⟨X_Mok_n hM hw ht, rfl, ?_⟩
      exact X_Tre_st hT hw hnc hij hIp hIh hIph hp hh (Int.le_refl _) (fun q _ _ => rfl) (fun q g1 g2 => by have : q < wt - 1 := g2; omega) ⟨Or.inl rfl, fun _ => ⟨by omega, X_Hq_n hk hj⟩⟩ (fun z => absurd z (by omega)) (fun z => absurd z (by omega))
    · rw [X_mk_b ht hk hj]
      refine ⟨(X_Mok_b hG htn hM hw ht hk hj).2, rfl, ?_⟩
      refine X_Tre_st hT hw hnc hij hIp hIh hIph hp hh (show wt - 1 ≤ wt by omega) (fun q g1 g2 => X_ug_n _ _ (by omega)) (fun q g1 g2 => ?_) ⟨Or.inr (Or.inl rfl), fun z => absurd z (by omega)⟩ (fun z => absurd z (by omega)) (fun _ => ⟨rfl, by show (X_ug St (wt - 1) (i + 1, j - 1, nc, 0, u, 0, 0, k) (wt - 1)).2.2.2.1 = 0; rw [X_ug_s]⟩)
      have g2 : q < wt := g2
      show (X_ug St (wt - 1) (i + 1, j - 1, nc, 0, u, 0, 0, k) q).2.2.1 = nc
      rw [show q = wt - 1 by omega, X_ug_s]
  · obtain ⟨v, k2, c1, c2, c3, c4, c5⟩ := X_ch hG hIk hk
    obtain ⟨⟨l, HF, HE⟩, hs⟩ : ∃ r, X_spl G v j (gD G v 3 0).toNat 0 i k2 1 (fun _ => 0) (fun _ => 0) = r := ⟨_, rfl⟩
    rw [X_mk_w ht hk c1 hs]
    have hIm : k ≤ 9223372036854775807 := hIm
    have hg := hG.2.2.2 v c2.1 c2.2
    have hl : l ≤ k2 := by
      have key : ∀ (n : Nat) (e p : Int) (l b : Nat) (HF HE : Int → Int), (X_spl G v j n e p l b HF HE).1 ≤ l := by
        intro n
        induction n with
        | zero => intro e p l b HF HE; exact Nat.le_refl _
        | succ n ih =>
          intro e p l b HF HE
          have kf : ∀ (F : Int → Nat) (m : Nat) (a : Int) (x : Nat), (X_fd F m a x).2 ≤ x := by
            intro F m
            induction m with
            | zero => intro a x; exact Nat.le_refl _
            | succ m ih2 =>
              intro a x
              unfold X_fd
              split
              · exact Nat.le_refl _
              · exact Nat.le_trans (ih2 _ _) (Nat.sub_le _ _)
          unfold X_spl
          split
          · exact Nat.le_trans (ih _ _ _ _ _ _) (kf _ _ _ _)
          · exact ih _ _ _ _ _ _
      have := key (gD G v 3 0).toNat 0 i k2 1 (fun _ => 0) (fun _ => 0)
      rw [hs] at this
      exact this
    have hW := X_Mok_w (N' := X_nn N nc v i (j - i) p h) hG htn hM hw ht c2 c5 (by omega) hs (by omega)
    obtain ⟨b1, b2, b3⟩ := X_pus_pa (G := G) (w := v) (nc := nc) (HF := HF) (HE := HE) (gD G v 4 0).toNat l (wt - 1, St)
    have hb := hg.2.1
    refine ⟨hW.2.2.2, rfl, ?_⟩
    refine X_Tre_st hT hw hnc hij hIp hIh hIph hp hh (by show wt - 1 ≤ (X_pus G v nc HF HE (gD G v 4 0).toNat l (wt - 1, St)).1; have := hW.2.2.1; omega) (fun q g1 g2 => b2 q g2) (fun q g1 g2 => (b3 q g1 (by have : q < (X_pus G v nc HF HE (gD G v 4 0).toNat l (wt - 1, St)).1 := g2; rw [b1] at this; exact this)).1) ⟨Or.inr (Or.inr c2), fun z => absurd z (by omega)⟩ (fun _ x g1 g2 => ?_) (fun z => absurd z (by omega))
    refine ⟨wt - 1 + (gD G v 4 0 - 1 - x), by omega, ?_, ?_⟩
    · show _ < (X_pus G v nc HF HE (gD G v 4 0).toNat l (wt - 1, St)).1
      rw [b1]
      show _ < wt - 1 + ((gD G v 4 0).toNat : Int)
      omega
    · have := (b3 (wt - 1 + (gD G v 4 0 - 1 - x)) (show wt - 1 ≤ _ by omega) (show _ < wt - 1 + ((gD G v 4 0).toNat : Int) by omega)).2
      refine this.trans ?_
      show wt - 1 + ((gD G v 4 0).toNat : Int) - 1 - _ = x
      omega
