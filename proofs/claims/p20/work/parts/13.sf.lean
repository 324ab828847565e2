/-- a book's steps are sound -/
def X_Gst (G : X_G) : Prop := ∀ w, 0 ≤ w → w < gw G → gD G w 5 0 = -1 ∨ (X_sok (gD G w) ∧ gD G w 5 0 ≤ 30 ∧ X_ph (gD G w 12) (gD G w 5 0).toNat = 1)
/-- a reading, or none -/
def X_Rok (G : X_G) (tn nc : Int) (N : Int → Int → Int) : Prop :=
  (0 ≤ nc ∧ nc ≤ tn ∧ tn ≤ 30) ∧ X_tr0 N nc ∧ X_tr1 N nc ∧ (0 < nc → N 3 0 = -1) ∧
  (∀ n, 0 ≤ n → n < nc → (N 0 n = -2 ∨ N 0 n = -3 ∨ (0 ≤ N 0 n ∧ N 0 n < gw G)) ∧ (N 0 n = -2 → (0 ≤ N 1 n ∧ N 1 n < tn) ∧ 0 ≤ X_nv (gt G (N 1 n))) ∧ (-1 ≤ N 4 n ∧ N 4 n ≤ 3) ∧ (1 ≤ n → 0 ≤ N 4 n) ∧ (0 ≤ N 1 n ∧ 1 ≤ N 2 n ∧ N 1 n + N 2 n ≤ tn)) ∧
  (∀ n, 0 ≤ n → n < nc → 0 ≤ N 0 n → ∀ h, 0 ≤ h → h < gD G (N 0 n) 4 0 → ¬ X_lc N n h nc.toNat = -1) ∧
  ∀ n, 0 ≤ n → n < nc → N 0 n = -3 → n + 1 < nc ∧ X_lc N n 0 nc.toNat = n + 1 ∧ N 3 (n + 1) = n ∧ ∀ k, n + 1 < k → k < nc → ¬ N 3 k = n
theorem X_Rok_0 {G : X_G} {tn : Int} {N : Int → Int → Int} (h : 0 ≤ tn ∧ tn ≤ 30) : X_Rok G tn 0 N := ⟨⟨Int.le_refl _, h.1, h.2⟩, fun k h1 h2 => by omega, fun k h1 h2 => by omega, fun z => by omega, fun n h1 h2 => by omega, fun n h1 h2 => by omega, fun n h1 h2 => by omega⟩
theorem X_Tre.ok {G : X_G} {tn wt nc : Int} {St : Int → X_It} {N : Int → Int → Int} (h : X_Tre G tn wt St nc N) (hw : wt ≤ 0) (hn : 0 ≤ nc ∧ nc ≤ tn ∧ tn ≤ 30) : X_Rok G tn nc N := by
  obtain ⟨t0, t1, ⟨t2, t2b⟩, t3, t4, t5, t6⟩ := h
  refine ⟨hn, t0, t1, t2b, t4, fun n g1 g2 g3 x g4 g5 => ?_, fun n g1 g2 g3 => ?_⟩
  · rcases t5 n g1 g2 g3 x g4 g5 with ⟨k, e1, e2, e3, e4⟩ | ⟨q, e1, e2, -⟩
    · have := X_lc_u (N := N) (p := n) (h := x) (k := k) nc.toNat (by omega) (by omega) e3 e4
      omega
    · omega
  · obtain ⟨e1, e2⟩ := t6 n g1 g2 g3
    by_cases hn1 : n + 1 = nc
    · have := (e1 hn1).1
      omega
    · obtain ⟨a1, a2, a3, a4⟩ := e2 (by omega)
      refine ⟨by omega, ?_, a1, a3⟩
      have h1 := X_lc_u (N := N) (p := n) (h := 0) (k := n + 1) nc.toNat (by omega) (by omega) a1 a2
      have h2 := X_lc_r (N := N) (p := n) (h := 0) nc.toNat
      have h3 := (h2.2.2 (by omega)).1
      refine Classical.byContradiction (fun z => ?_)
      exact a3 _ (by omega) (by omega) h3
theorem X_mks_ok {G : X_G} {tn : Int} (hG : X_Gok G) (htn : tn ≤ 30) : ∀ (m : Nat) (s : X_Ms), s.2.2.1 + m = 30 → X_Mok G tn s → X_Tre G tn s.1 s.2.1 s.2.2.1 s.2.2.2 → (X_mks G m s).1 ≤ 0 ∧ s.2.2.1 ≤ (X_mks G m s).2.2.1 ∧ X_Mok G tn (X_mks G m s) ∧ X_Tre G tn (X_mks G m s).1 (X_mks G m s).2.1 (X_mks G m s).2.2.1 (X_mks G m s).2.2.2 := by
  intro m
  induction m with
  | zero =>
    intro s h1 h2 h3
    obtain ⟨wt, St, nc, N⟩ := s
    have h1 : nc + ((0 : Nat) : Int) = 30 := h1
    have hl := X_Mok.le h2
    have h4 : nc + (X_Su (X_lw St) 0 wt : Int) ≤ tn := h2.2.2.2
    exact ⟨(show wt ≤ 0 by omega), Int.le_refl _, h2, h3⟩
  | succ m ih =>
    intro s h1 h2 h3
    by_cases hw : s.1 ≤ 0
    · rw [X_mks_e hw]
      exact ⟨hw, Int.le_refl _, h2, h3⟩
    · have e : X_mks G (m + 1) s = X_mks G m (X_mk G s) := by
        show (if s.1 ≤ 0 then s else _) = _
        rw [if_neg hw]
      obtain ⟨wt, St, nc, N⟩ := s
      have h1 : nc + ((m + 1 : Nat) : Int) = 30 := h1
      obtain ⟨a1, a2, a3⟩ := X_Mok_mk hG htn h2 (show 0 < wt by have : ¬ wt ≤ 0 := hw; omega) h3
      rw [e]
      have := ih (X_mk G (wt, St, nc, N)) (by omega) a1 (by rw [a2]; exact a3)
      exact ⟨this.1, by show nc ≤ _; omega, this.2.2⟩
theorem X_rd_ok {G : X_G} {tn : Int} {k : Nat} (hG : X_Gok G) (htn : 1 ≤ tn ∧ tn ≤ 30) (hk : k < X_all G 0 tn) (hkm : k ≤ 9223372036854775807) : 1 ≤ (X_rd G tn k).2.2.1 ∧ X_Rok G tn (X_rd G tn k).2.2.1 (X_rd G tn k).2.2.2 := by
  have hM := X_Mok_0 hG htn hk hkm
  have hT0 : X_Tre G tn 1 (fun _ => (0, tn, -1, -1, 0, 0, 0, k)) 0 (fun _ _ => 0) := ⟨fun z h1 h2 => by omega, fun z h1 h2 => by omega, ⟨fun _ => ⟨rfl, rfl⟩, fun z => by omega⟩, ⟨fun q h1 h2 h3 => by omega, fun q q' _ _ _ => Int.le_refl _⟩, fun n h1 h2 => by omega, fun n h1 h2 => by omega, fun n h1 h2 => by omega⟩
  have e : X_rd G tn k = X_mks G 29 (X_mk G (1, fun _ => (0, tn, -1, -1, 0, 0, 0, k), 0, fun _ _ => 0)) := by
    have key : ∀ s : X_Ms, 0 < s.1 → X_mks G 30 s = X_mks G 29 (X_mk G s) := fun s hs => by
      show (if s.1 ≤ 0 then s else X_mks G 29 (X_mk G s)) = _
      rw [if_neg (by omega)]
    exact key _ (show (0 : Int) < 1 by omega)
  obtain ⟨a1, a2, a3⟩ := X_Mok_mk hG htn.2 hM (show (0 : Int) < 1 by omega) hT0
  have h := X_mks_ok hG htn.2 29 _ (by rw [a2]; omega) a1 (by rw [a2]; exact a3)
  rw [← e] at h
  obtain ⟨b1, b2, b3, b4⟩ := h
  have hs : ∀ s : X_Ms, X_Mok G tn s → 0 ≤ s.2.2.1 ∧ s.2.2.1 ≤ tn := fun s hs => ⟨hs.2.1, by have := hs.2.2.2; omega⟩
  have h5 := hs _ b3
  exact ⟨by omega, b4.ok b1 ⟨h5.1, h5.2, htn.2⟩⟩
/-- a node's holes are worked ahead of it -/
theorem X_ch_ev {G : X_G} {tn nc nx n h : Int} {N : Int → Int → Int} (hR : X_Rok G tn nc N) (hnx : 1 ≤ nx ∧ nx ≤ nc) (hA : X_An N (nx - 1) n) (h0 : 0 ≤ n) (ho : X_wn N nc nx < n) (hc : ¬ X_lc N n h nc.toNat = -1) : n < X_lc N n h nc.toNat ∧ X_lc N n h nc.toNat < nx ∧ ¬ X_An N n (X_lc N n h nc.toNat) := by
  obtain ⟨-, t0, t1, -⟩ := hR
  have hr := X_lc_r (N := N) (p := n) (h := h) nc.toNat
  have h3 := (hr.2.2 hc).1
  have hn := hA.le t0 (by omega) (by omega)
  have hk := t0 _ (show 0 ≤ X_lc N n h nc.toNat by omega) (by omega)
  have hlt : n < X_lc N n h nc.toNat := by omega
  refine ⟨hlt, ?_, fun z => ?_⟩
  · refine Classical.byContradiction (fun z => ?_)
    refine X_An_no t0 t1 hnx.1 (by omega) ho h0 (X_lc N n h nc.toNat - nx).toNat (X_lc N n h nc.toNat) (by omega) (by omega) ?_
    refine X_An.up (by omega) ?_
    rw [h3]
    exact X_An.rf
  · have := z.le t0 (by omega) (by omega)
    omega
/-- what has been worked: a holds V there -/
def X_Wr (N : Int → Int → Int) (nx n : Int) (V a : Int → Int) : Prop := ∀ m, 0 ≤ m → m < nx → ¬ X_An N n m → a m = V m
theorem X_Wr.st {N : Int → Int → Int} {nx n v : Int} {V a a' : Int → Int} (h : X_Wr N nx n V a) (h0 : 0 ≤ n) (ha : a' n = v) (ho : ∀ m, ¬ m = n → a' m = a m) : X_Wr N nx (N 3 n) (X_ug V n v) a' := fun m h1 h2 h3 => by
  by_cases hm : m = n
  · rw [hm, X_ug_s, ha]
  · rw [X_ug_n _ _ hm, ho m hm]
    exact h m h1 h2 (fun z => h3 (z.dn (fun e => hm e.symm)).2)
theorem X_Wr.nx {N : Int → Int → Int} {nx n : Int} {V a : Int → Int} (h : X_Wr N nx n V a) (h0 : 0 ≤ nx) (hn : N 3 nx = n) : X_Wr N (nx + 1) nx V a := fun m h1 h2 h3 => by
  by_cases hm : m = nx
  · exact absurd (by rw [hm]; exact X_An.rf) h3
  · refine h m h1 (by omega) (fun z => h3 (X_An.up h0 ?_))
    rw [hn]
    exact z
