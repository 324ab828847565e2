/-! p20: what isWhole walks; the first node; how many readings at most -/
/-- n's children among the nodes k, k + 1 ..: hole, from, tokens -/
def V_mf (N : Int → Int → Int) (n : Int) : Nat → Int → List V_T
  | 0, _ => []
  | m + 1, k => (if N 3 k = n then [(N 4 k, N 1 k, N 2 k)] else []) ++ V_mf N n m (k + 1)
theorem V_md_mf {N : Int → Int → Int} {n : Int} : ∀ (m a : Nat), V_md N n (a + m) = V_md N n a ++ V_mf N n m (a : Int) := by
  intro m
  induction m with
  | zero => intro a; exact (List.append_nil _).symm
  | succ m ih =>
    intro a
    have h := ih (a + 1)
    rw [show a + 1 + m = a + (m + 1) by omega] at h
    rw [h]
    show (V_md N n a ++ (if N 3 (a : Int) = n then [(N 4 (a : Int), N 1 (a : Int), N 2 (a : Int))] else [])) ++ V_mf N n m ((a + 1 : Nat) : Int) = V_md N n a ++ ((if N 3 (a : Int) = n then [(N 4 (a : Int), N 1 (a : Int), N 2 (a : Int))] else []) ++ V_mf N n m ((a : Int) + 1))
    rw [List.append_assoc]
    rfl
/-- a node's children all stand behind it -/
theorem V_md_n {N : Int → Int → Int} {n nc : Int} (ht : X_tr0 N nc) (hn : 0 ≤ n ∧ n < nc) : V_md N n nc.toNat = V_mf N n (nc - (n + 1)).toNat (n + 1) := by
  have h := V_md_mf (N := N) (n := n) (nc - (n + 1)).toNat (n + 1).toNat
  rw [show (n + 1).toNat + (nc - (n + 1)).toNat = nc.toNat by omega] at h
  rw [h, V_md_0 (n + 1).toNat (fun k h1 h2 => by have := ht k h1 (by omega); omega), List.nil_append, show (((n + 1).toNat : Nat) : Int) = n + 1 by omega]
/-- one step of that walk -/
theorem V_mf_s {N : Int → Int → Int} {n nc k : Int} (hk : k < nc) : V_mf N n (nc - k).toNat k = (if N 3 k = n then [(N 4 k, N 1 k, N 2 k)] else []) ++ V_mf N n (nc - (k + 1)).toNat (k + 1) := by
  rw [show (nc - k).toNat = (nc - (k + 1)).toNat + 1 by omega]
  rfl
theorem V_mf_y {N : Int → Int → Int} {n nc k H e all h a s : Int} (hk : k < nc) (hn : N 3 k = n) (hv : V_gd H e all h a s (V_mf N n (nc - k).toNat k)) : N 4 k = h ∧ a ≤ N 1 k ∧ V_gd H e all (h + 1) (N 1 k + N 2 k) (s + N 2 k) (V_mf N n (nc - (k + 1)).toNat (k + 1)) := by
  rw [V_mf_s hk, if_pos hn] at hv
  exact hv
theorem V_mf_n {N : Int → Int → Int} {n nc k H e all h a s : Int} (hk : k < nc) (hn : ¬ N 3 k = n) (hv : V_gd H e all h a s (V_mf N n (nc - k).toNat k)) : V_gd H e all h a s (V_mf N n (nc - (k + 1)).toNat (k + 1)) := by
  rw [V_mf_s hk, if_neg hn] at hv
  exact hv
theorem V_mf_e {N : Int → Int → Int} {n nc k H e all h a s : Int} (hk : nc ≤ k) (hv : V_gd H e all h a s (V_mf N n (nc - k).toNat k)) : h = H ∧ a ≤ e ∧ s = all := by
  rw [show (nc - k).toNat = 0 by omega] at hv
  exact hv
/-- the node that is made has its stretch's tokens -/
theorem V_mk2 {G : X_G} {wt nc : Int} {St : Int → X_It} {N : Int → Int → Int} : (X_mk G (wt, St, nc, N)).2.2.2 2 nc = (St (wt - 1)).2.1 - (St (wt - 1)).1 := by
  obtain ⟨⟨i, j, p, h, u, o, en, k⟩, ht⟩ : ∃ t : X_It, St (wt - 1) = t := ⟨_, rfl⟩
  by_cases hk : k < X_Hq G (X_T_ G) u i j
  · by_cases hj : j = i + 1
    · rw [X_mk_n ht hk hj, ht]
      exact X_nn_2
    · rw [X_mk_b ht hk hj, ht]
      exact X_nn_2
  · rw [X_mk_w ht hk (Prod.eta _).symm (show _ = ((X_spl G _ j _ 0 i _ 1 (fun _ => 0) (fun _ => 0)).1, (X_spl G _ j _ 0 i _ 1 (fun _ => 0) (fun _ => 0)).2.1, (X_spl G _ j _ 0 i _ 1 (fun _ => 0) (fun _ => 0)).2.2) from rfl), ht]
    exact X_nn_2
/-- the first node has all tokens -/
theorem V_rd_2 {G : X_G} {tn : Int} {k : Nat} : (X_rd G tn k).2.2.2 2 0 = tn := by
  have key : ∀ s : X_Ms, 0 < s.1 → X_mks G 30 s = X_mks G 29 (X_mk G s) := fun s hs => by
    show (if s.1 ≤ 0 then s else X_mks G 29 (X_mk G s)) = _
    rw [if_neg (by omega)]
  have e : X_rd G tn k = X_mks G 29 (X_mk G (1, fun _ => (0, tn, -1, -1, 0, 0, 0, k), 0, fun _ _ => 0)) := key _ (show (0 : Int) < 1 by omega)
  have h1 := (X_mk_old (G := G) (wt := 1) (St := fun _ => (0, tn, -1, -1, 0, 0, 0, k)) (nc := 0) (N := fun _ _ => 0)).1
  rw [e, X_mks_old 29 _ (by rw [h1]; omega), V_mk2]
  show tn - 0 = tn
  omega
/-- what is kept of the words of a book: the patterns of their elements -/
def V_P0 : List (List Bool) := [[false, true, false, true], [true, false, true], [true, false, true], [true, false, true], [false], [false]]
def V_P1 : List (List Bool) := [[false, true, false, true], [false, true, false, true, false, true], [true, false, true], [true, false, true], [false], [false]]
def V_ML : List Nat := [0, 2, 0, 12, 4, 144, 96, 2176, 2160, 37008, 48464, 677376, 1094016, 13043392]
def V_M (L : Nat) : Nat := V_ML.getD L 0
theorem V_M_0 : ∀ L : Nat, L < 14 → V_sB V_M L V_P0 ≤ V_M L := by decide +kernel
theorem V_M_1 : ∀ L : Nat, L < 14 → V_sB V_M L V_P1 ≤ V_M L := by decide +kernel
theorem V_M_r : ∀ L : Nat, L < 14 → V_M L ≤ 2000000000 := by decide +kernel
/-- the book's words are those of one of the texts -/
def V_bk (G : X_G) : Prop := gw G = 6 ∧ (V_ps G 0 V_P0 ∨ V_ps G 0 V_P1)
theorem V_fit {G : X_G} {tn i j : Int} (hG : X_Gok G) (hb : V_bk G) (hp : V_pl G tn) (htn : tn ≤ 13) (h0 : 0 ≤ i) (h : i < j) (hj : j ≤ tn) : X_all G i j ≤ 2000000000 := by
  have h1 := V_all_le hG hp h0 h hj (by omega)
  have h2 : V_al G i j ≤ V_M (j - i).toNat := by
    rcases hb.2 with hP | hP
    · exact V_al_le hG hp (by omega) hP (fun L g1 g2 => V_M_0 L (by omega)) (j - i).toNat i j h0 h hj (by omega)
    · exact V_al_le hG hp (by omega) hP (fun L g1 g2 => V_M_1 L (by omega)) (j - i).toNat i j h0 h hj (by omega)
  have h3 := V_M_r (j - i).toNat (by omega)
  omega
