/-! p20: the books' lines, read by a program over the tokens -/
/-- a word's pattern -/
def V_qt (d : Nat → Int → Int) (q : Int → Int64) : Int → List Bool → Prop
  | e, [] => e = d 3 0
  | e, b :: r => e < d 3 0 ∧ (b = true ↔ q e = 0) ∧ V_qt d q (e + 1) r
theorem V_qt_pt {G : X_G} {w : Int} {d : Nat → Int → Int} {q : Int → Int64} (h3 : gD G w 3 0 = d 3 0) (hq : gW G w = q) : ∀ (P : List Bool) (e : Int), V_qt d q e P → V_pt G w e P := by
  intro P
  induction P with
  | nil =>
    intro e h
    have h : e = d 3 0 := h
    show e = gD G w 3 0
    rw [h3]
    exact h
  | cons b r ih =>
    intro e h
    obtain ⟨a1, a2, a3⟩ := h
    exact ⟨by rw [h3]; exact a1, by rw [hq]; exact a2, ih (e + 1) a3⟩
theorem V_qt_last {d : Nat → Int → Int} {q : Int → Int64} : ∀ (P : List Bool) (e : Int), 0 ≤ e → V_qt d q e (P ++ [true]) → X_hl d q (d 3 0 - 1) := by
  intro P
  induction P with
  | nil =>
    intro e h0 h
    obtain ⟨a1, a2, a3⟩ := h
    have a3 : e + 1 = d 3 0 := a3
    refine ⟨by omega, by omega, ?_⟩
    rw [show d 3 0 - 1 = e by omega]
    exact a2.mp rfl
  | cons b r ih =>
    intro e h0 h
    exact ih (e + 1) (by omega) h.2.2
def V_hc : List (Option Int64) → Nat
  | [] => 0
  | some _ :: r => V_hc r
  | none :: r => V_hc r + 1
/-- parts are not nothing, no two holes side by side; the flag: a hole is ahead -/
def V_al2 : List (Option Int64) → Bool → Bool
  | [], _ => true
  | some t :: r, _ => decide (¬ t = 0) && V_al2 r false
  | none :: r, b => !b && V_al2 r true
theorem V_ed_f : ∀ (L : List (Option Int64)) (d : Nat → Int → Int) (f : Nat), f ≠ 3 → f ≠ 4 → f ≠ 8 → f ≠ 9 → V_ed L d f = d f := by
  intro L
  induction L with
  | nil => intro d f _ _ _ _; rfl
  | cons x r ih =>
    intro d f h3 h4 h8 h9
    cases x with
    | some t =>
      refine (ih (X_aP d) f h3 h4 h8 h9).trans ?_
      unfold X_aP X_wu
      rw [if_neg h3]
    | none =>
      refine (ih (X_aH d 0) f h3 h4 h8 h9).trans ?_
      unfold X_aH X_wu
      rw [if_neg h4, if_neg h3, if_neg h9, if_neg h8]
theorem V_ed_3 : ∀ (L : List (Option Int64)) (d : Nat → Int → Int), V_ed L d 3 0 = d 3 0 + (L.length : Int) ∧ V_ed L d 4 0 = d 4 0 + (V_hc L : Int) := by
  intro L
  induction L with
  | nil => intro d; exact ⟨(Int.add_zero _).symm, (Int.add_zero _).symm⟩
  | cons x r ih =>
    intro d
    cases x with
    | some t =>
      have h := ih (X_aP d)
      have e1 : X_aP d 3 0 = d 3 0 + 1 := rfl
      have e2 : X_aP d 4 0 = d 4 0 := rfl
      rw [e1, e2] at h
      show V_ed r (X_aP d) 3 0 = d 3 0 + ((r.length + 1 : Nat) : Int) ∧ V_ed r (X_aP d) 4 0 = d 4 0 + (V_hc r : Int)
      omega
    | none =>
      have h := ih (X_aH d 0)
      have e1 : X_aH d 0 3 0 = d 3 0 + 1 := rfl
      have e2 : X_aH d 0 4 0 = d 4 0 + 1 := rfl
      rw [e1, e2] at h
      show V_ed r (X_aH d 0) 3 0 = d 3 0 + ((r.length + 1 : Nat) : Int) ∧ V_ed r (X_aH d 0) 4 0 = d 4 0 + ((V_hc r + 1 : Nat) : Int)
      omega
theorem V_eq_o : ∀ (L : List (Option Int64)) (d : Nat → Int → Int) (q : Int → Int64) (e : Int), e < d 3 0 → V_eq L d q e = q e := by
  intro L
  induction L with
  | nil => intro d q e _; rfl
  | cons x r ih =>
    intro d q e h
    cases x with
    | some t =>
      refine (ih (X_aP d) (X_ug q (d 3 0) t) e (show e < d 3 0 + 1 by omega)).trans ?_
      exact X_ug_n _ _ (by omega)
    | none =>
      refine (ih (X_aH d 0) (X_ug q (d 3 0) 0) e (show e < d 3 0 + 1 by omega)).trans ?_
      exact X_ug_n _ _ (by omega)
def V_pat (L : List (Option Int64)) : List Bool := L.map Option.isNone
theorem V_qt_ed : ∀ (L : List (Option Int64)) (b : Bool) (d : Nat → Int → Int) (q : Int → Int64), V_al2 L b = true → V_qt (V_ed L d) (V_eq L d q) (d 3 0) (V_pat L) := by
  intro L
  induction L with
  | nil => intro b d q _; rfl
  | cons x r ih =>
    intro b d q h
    cases x with
    | some t =>
      have h : (decide (¬ t = 0) && V_al2 r false) = true := h
      rw [Bool.and_eq_true, decide_eq_true_eq] at h
      have z := ih false (X_aP d) (X_ug q (d 3 0) t) h.2
      have e3 := (V_ed_3 r (X_aP d)).1
      have e1 : X_aP d 3 0 = d 3 0 + 1 := rfl
      rw [e1] at z e3
      have eq := V_eq_o r (X_aP d) (X_ug q (d 3 0) t) (d 3 0) (show d 3 0 < d 3 0 + 1 by omega)
      rw [X_ug_s] at eq
      refine ⟨show d 3 0 < V_ed r (X_aP d) 3 0 by omega, ?_, z⟩
      show (false = true ↔ V_eq r (X_aP d) (X_ug q (d 3 0) t) (d 3 0) = 0)
      rw [eq]
      exact ⟨fun y => (by cases y), fun y => absurd y h.1⟩
    | none =>
      have h : (!b && V_al2 r true) = true := h
      rw [Bool.and_eq_true] at h
      have z := ih true (X_aH d 0) (X_ug q (d 3 0) 0) h.2
      have e3 := (V_ed_3 r (X_aH d 0)).1
      have e1 : X_aH d 0 3 0 = d 3 0 + 1 := rfl
      rw [e1] at z e3
      have eq := V_eq_o r (X_aH d 0) (X_ug q (d 3 0) 0) (d 3 0) (show d 3 0 < d 3 0 + 1 by omega)
      rw [X_ug_s] at eq
      refine ⟨show d 3 0 < V_ed r (X_aH d 0) 3 0 by omega, ?_, z⟩
      show (true = true ↔ V_eq r (X_aH d 0) (X_ug q (d 3 0) 0) (d 3 0) = 0)
      rw [eq]
      exact ⟨fun _ => rfl, fun _ => rfl⟩
theorem V_ec_ok : ∀ (L : List (Option Int64)) (b : Bool) (d : Nat → Int → Int) (q : Int → Int64), V_al2 L b = true → (b = false → ¬ X_hl d q (d 3 0 - 1)) → 0 ≤ d 3 0 → d 3 0 + (L.length : Int) ≤ 8 → d 4 0 + (V_hc L : Int) ≤ 4 → V_ec L d q := by
  intro L
  induction L with
  | nil => intro b d q _ _ _ _ _; trivial
  | cons x r ih =>
    intro b d q h hb h0 h8 h4
    rw [List.length_cons] at h8
    cases x with
    | some t =>
      have h : (decide (¬ t = 0) && V_al2 r false) = true := h
      rw [Bool.and_eq_true, decide_eq_true_eq] at h
      have h4 : d 4 0 + (V_hc r : Int) ≤ 4 := h4
      refine ⟨by omega, ih false (X_aP d) (X_ug q (d 3 0) t) h.2 (fun _ z => ?_) (show 0 ≤ d 3 0 + 1 by omega) (show d 3 0 + 1 + (r.length : Int) ≤ 8 by omega) h4⟩
      have z := z.2.2
      rw [show X_aP d 3 0 - 1 = d 3 0 from (show d 3 0 + 1 - 1 = d 3 0 by omega), X_ug_s] at z
      exact h.1 z
    | none =>
      have h : (!b && V_al2 r true) = true := h
      rw [Bool.and_eq_true] at h
      have h4 : d 4 0 + ((V_hc r + 1 : Nat) : Int) ≤ 4 := h4
      have hbf : b = false := by
        cases b with
        | false => rfl
        | true => exact absurd h.1 (by decide)
      exact ⟨⟨by omega, by omega, hb hbf⟩, ih true (X_aH d 0) (X_ug q (d 3 0) 0) h.2 (fun y => by cases y) (show 0 ≤ d 3 0 + 1 by omega) (show d 3 0 + 1 + (r.length : Int) ≤ 8 by omega) (show d 4 0 + 1 + (V_hc r : Int) ≤ 4 by omega)⟩
/-- tokens, looked up -/
def V_tkI (T : List (Int × Int64)) (c : Nat) (r : Int) : Bool := match T[c]? with
  | some t => decide (t.1 = r)
  | none => false
def V_tkC (T : List (Int × Int64)) (c : Nat) (r : Int) (x : Int64) : Bool := match T[c]? with
  | some t => decide (t.1 = r) && decide (t.2 = x)
  | none => false
theorem V_tkI_e {so : Int → Int} {ct : Int → Int64} {T : List (Int × Int64)} (hT : V_tt so ct 0 T) {c : Nat} {r : Int} (h : V_tkI T c r = true) : so (c : Int) = r := by
  unfold V_tkI at h
  split at h
  · rename_i t ht
    have := (hT c t ht).1
    rw [Int.zero_add] at this
    rw [this]
    exact of_decide_eq_true h
  · cases h
theorem V_tkC_e {so : Int → Int} {ct : Int → Int64} {T : List (Int × Int64)} (hT : V_tt so ct 0 T) {c : Nat} {r : Int} {x : Int64} (h : V_tkC T c r x = true) : so (c : Int) = r ∧ ct (c : Int) = x := by
  unfold V_tkC at h
  split at h
  · rename_i t ht
    have := hT c t ht
    rw [Int.zero_add] at this
    rw [this.1, this.2]
    rw [Bool.and_eq_true, decide_eq_true_eq, decide_eq_true_eq] at h
    exact h
  · cases h
def V_etT (T : List (Int × Int64)) : Nat → List (Option Int64) → Bool
  | c, [] => V_tkI T c 59
  | c, some t :: r => V_tkC T c 6 t && V_etT T (c + 1) r
  | c, none :: r => V_tkI T c 95 && V_etT T (c + 1) r
theorem V_etT_e {so : Int → Int} {ct : Int → Int64} {T : List (Int × Int64)} (hT : V_tt so ct 0 T) : ∀ (L : List (Option Int64)) (c : Nat), V_etT T c L = true → V_et so ct (c : Int) L := by
  intro L
  induction L with
  | nil => intro c h; exact V_tkI_e hT h
  | cons x r ih =>
    intro c h
    cases x with
    | some t =>
      have h : (V_tkC T c 6 t && V_etT T (c + 1) r) = true := h
      rw [Bool.and_eq_true] at h
      have z := V_tkC_e hT h.1
      exact ⟨z.1, z.2, ih (c + 1) h.2⟩
    | none =>
      have h : (V_tkI T c 95 && V_etT T (c + 1) r) = true := h
      rw [Bool.and_eq_true] at h
      exact ⟨V_tkI_e hT h.1, ih (c + 1) h.2⟩
/-- where the : of a word's line stands -/
def V_cl (c : Nat) (ln : Int) : Nat := if ln = 0 then c + 2 else c + 3
def V_lnT (T : List (Int × Int64)) (c : Nat) (ln : Int) : Bool := if ln = 0 then true else if ln = 1 then V_tkC T (c + 2) 3 (Int64.ofNat 1818584692) else if ln = 2 then V_tkC T (c + 2) 3 (Int64.ofNat 491394656372) else false
/-- a word's line: its rank's name, its lean, its elements -/
abbrev V_W : Type := Int64 × Int × List (Option Int64)
def V_lsT (ln : Int) (L : List (Option Int64)) : Bool := decide (ln = 0) || (match L.reverse with
  | none :: _ => true
  | _ => false)
def V_wl (T : List (Int × Int64)) (c : Nat) (w : V_W) : Bool :=
  V_tkC T c 3 (Int64.ofNat 2003792484) && V_tkC T (c + 1) 2 w.1 && V_lnT T c w.2.1 && V_tkI T (V_cl c w.2.1) 58 && V_etT T (V_cl c w.2.1 + 1) w.2.2 && V_al2 w.2.2 false && decide (w.2.2.length ≤ 8) && decide (V_hc w.2.2 ≤ 4) && decide (V_hc w.2.2 < w.2.2.length) && V_lsT w.2.1 w.2.2 && decide (V_cl c w.2.1 + 1 + w.2.2.length + 1 < T.length)
theorem V_wl_e {n : Int} {so : Int → Int} {ct : Int → Int64} {T : List (Int × Int64)} {c : Nat} {w : V_W} {rc kc wc i : Int} {rn : Int → Int64} {lo : Int → Int} {kn : Int → Int64} {ab : Int → Int} {D : Int → Nat → Int → Int} {W : Int → Int → Int64} (hn : n = (T.length : Int)) (hT : V_tt so ct 0 T) (h : V_wl T c w = true) (hw : wc < 30) (hi : X_ix rn rc w.1 = i) (hi0 : 0 ≤ i) :
    ∃ (d : Nat → Int → Int) (q : Int → Int64), sp_line n so ct ((c : Int), rc, kc, wc, rn, lo, kn, ab, D, W) = some (((V_cl c w.2.1 + 1 + w.2.2.length + 1 : Nat) : Int), rc, kc, wc + 1, rn, lo, kn, ab, X_ug D wc d, X_ug W wc q) ∧ V_qt d q 0 (V_pat w.2.2) := by
  obtain ⟨nm, ln, L⟩ := w
  unfold V_wl at h
  simp only [Bool.and_eq_true, decide_eq_true_eq] at h
  obtain ⟨⟨⟨⟨⟨⟨⟨⟨⟨⟨h1, h2⟩, h3⟩, h4⟩, h5⟩, h6⟩, h7⟩, h8⟩, h9⟩, h10⟩, h11⟩ := h
  have a1 := V_tkC_e hT h1
  have a2 := V_tkC_e hT h2
  rw [show ((c + 1 : Nat) : Int) = (c : Int) + 1 from rfl] at a2
  have a4 := V_tkI_e hT h4
  have a5 := V_etT_e hT L (V_cl c ln + 1) h5
  have hlen := V_ed_3 L (X_wu (X_wu (X_clr (D wc) i) 1 (fun _ => ln)) 2 (fun _ => 0))
  have e3 : X_wu (X_wu (X_clr (D wc) i) 1 (fun _ => ln)) 2 (fun _ => 0) 3 0 = 0 := rfl
  have e4 : X_wu (X_wu (X_clr (D wc) i) 1 (fun _ => ln)) 2 (fun _ => 0) 4 0 = 0 := rfl
  have hq := V_qt_ed L false (X_wu (X_wu (X_clr (D wc) i) 1 (fun _ => ln)) 2 (fun _ => 0)) (W wc) h6
  rw [e3] at hq
  rw [e3, e4] at hlen
  refine ⟨_, _, ?_, hq⟩
  have key := V_wd (n := n) (so := so) (ct := ct) (c := (c : Int)) (rc := rc) (kc := kc) (wc := wc) (i := i) (ln := ln) (b := ((V_cl c ln : Nat) : Int)) (rn := rn) (lo := lo) (kn := kn) (ab := ab) (D := D) (W := W) (L := L) a1.1 a1.2 hw a2.1 (by rw [a2.2]; exact hi) hi0 ?_ a4 a5 h7 (by omega) ?_ ?_ ?_ ?_
  · rw [key]
    rfl
  · unfold V_lnT at h3
    unfold V_cl
    by_cases z0 : ln = 0
    · rw [if_pos z0]
      exact Or.inl ⟨z0, by omega⟩
    · rw [if_neg z0] at h3 ⊢
      by_cases z1 : ln = 1
      · rw [if_pos z1] at h3
        have y := V_tkC_e hT h3
        exact Or.inr (Or.inl ⟨z1, by omega, y.1, y.2⟩)
      · rw [if_neg z1] at h3
        by_cases z2 : ln = 2
        · rw [if_pos z2] at h3
          have y := V_tkC_e hT h3
          exact Or.inr (Or.inr ⟨z2, by omega, y.1, y.2⟩)
        · rw [if_neg z2] at h3
          cases h3
  · exact V_ec_ok L false _ _ h6 (fun _ z => by have := z.1; rw [e3] at this; omega) (by rw [e3]; omega) (by rw [e3]; omega) (by rw [e4]; omega)
  · intro z0
    have hlast : ∃ M, L = M ++ [none] := by
      unfold V_lsT at h10
      rw [Bool.or_eq_true, decide_eq_true_eq] at h10
      rcases h10 with y | y
      · exact absurd y z0
      · cases hr : L.reverse with
        | nil => rw [hr] at y; cases y
        | cons x r =>
          cases x with
          | some t => rw [hr] at y; cases y
          | none =>
            refine ⟨r.reverse, ?_⟩
            have := congrArg List.reverse hr
            rw [List.reverse_reverse, List.reverse_cons] at this
            exact this
    obtain ⟨M, hM⟩ := hlast
    have hp : V_pat L = V_pat M ++ [true] := by
      rw [hM]
      unfold V_pat
      rw [List.map_append]
      rfl
    rw [hp] at hq
    have y := V_qt_last (V_pat M) 0 (Int.le_refl 0) hq
    unfold X_en
    rw [bI_t y]
    have := bI_r (X_hl (V_ed L (X_wu (X_wu (X_clr (D wc) i) 1 (fun _ => ln)) 2 (fun _ => 0))) (V_eq L (X_wu (X_wu (X_clr (D wc) i) 1 (fun _ => ln)) 2 (fun _ => 0)) (W wc)) 0)
    omega
  · rw [V_ed_f L _ 1 (by decide) (by decide) (by decide) (by decide)]
    rfl
  · omega
theorem V_ls {n : Int} {so : Int → Int} {ct : Int → Int64} {m : Nat} {K K' : X_Kp} (h0 : ¬ so K.1 = 0) (h : sp_line n so ct K = some K') : sp_lines n so ct (m + 1) K = sp_lines n so ct m K' := by
  show (if so K.1 = 0 then some K else (sp_line n so ct K).bind (sp_lines n so ct m)) = _
  rw [if_neg h0, h]
  rfl
theorem V_ls_e {n : Int} {so : Int → Int} {ct : Int → Int64} {m : Nat} {K : X_Kp} (h0 : so K.1 = 0) : sp_lines n so ct (m + 1) K = some K := by
  show (if so K.1 = 0 then some K else (sp_line n so ct K).bind (sp_lines n so ct m)) = _
  rw [if_pos h0]
/-- the words' lines, one behind the other, and the end -/
def V_wls (T : List (Int × Int64)) : Nat → List V_W → Bool
  | c, [] => V_tkI T c 0
  | c, w :: r => V_wl T c w && V_wls T (V_cl c w.2.1 + 1 + w.2.2.length + 1) r
theorem V_wl_0 {T : List (Int × Int64)} {c : Nat} {w : V_W} (h : V_wl T c w = true) : V_tkC T c 3 (Int64.ofNat 2003792484) = true := by
  unfold V_wl at h
  simp only [Bool.and_eq_true] at h
  exact h.1.1.1.1.1.1.1.1.1.1
theorem V_wls_e {n : Int} {so : Int → Int} {ct : Int → Int64} {T : List (Int × Int64)} {rc kc : Int} {rn : Int → Int64} {lo : Int → Int} {kn : Int → Int64} {ab : Int → Int} (hn : n = (T.length : Int)) (hT : V_tt so ct 0 T) : ∀ (ws : List V_W) (m c : Nat) (wc : Int) (D : Int → Nat → Int → Int) (W : Int → Int → Int64), V_wls T c ws = true → (∀ w ∈ ws, 0 ≤ X_ix rn rc w.1) → wc + (ws.length : Int) ≤ 30 → ws.length < m →
    ∃ (c' : Int) (D' : Int → Nat → Int → Int) (W' : Int → Int → Int64), sp_lines n so ct m ((c : Int), rc, kc, wc, rn, lo, kn, ab, D, W) = some (c', rc, kc, wc + (ws.length : Int), rn, lo, kn, ab, D', W') ∧ (∀ (j : Nat) (w : V_W), ws[j]? = some w → V_qt (D' (wc + (j : Int))) (W' (wc + (j : Int))) 0 (V_pat w.2.2)) ∧ ∀ v, v < wc → D' v = D v ∧ W' v = W v := by
  intro ws
  induction ws with
  | nil =>
    intro m c wc D W h _ _ hm
    obtain ⟨k, rfl⟩ : ∃ k, m = k + 1 := ⟨m - 1, by rw [List.length_nil] at hm; omega⟩
    have h0 := V_tkI_e hT (show V_tkI T c 0 = true from h)
    refine ⟨(c : Int), D, W, ?_, fun j w hj => by simp at hj, fun v _ => ⟨rfl, rfl⟩⟩
    rw [V_ls_e (show so (c : Int) = 0 from h0)]
    rw [show wc + (([] : List V_W).length : Int) = wc from Int.add_zero wc]
  | cons w r ih =>
    intro m c wc D W h hx hw hm
    have h : (V_wl T c w && V_wls T (V_cl c w.2.1 + 1 + w.2.2.length + 1) r) = true := h
    rw [Bool.and_eq_true] at h
    rw [List.length_cons] at hw hm
    obtain ⟨k, rfl⟩ : ∃ k, m = k + 1 := ⟨m - 1, by omega⟩
    obtain ⟨d, q, e1, e2⟩ := V_wl_e (kc := kc) (wc := wc) (rn := rn) (lo := lo) (kn := kn) (ab := ab) (D := D) (W := W) hn hT h.1 (by omega) (i := X_ix rn rc w.1) rfl (hx w List.mem_cons_self)
    have h3 := (V_tkC_e hT (V_wl_0 h.1)).1
    rw [V_ls (show ¬ so (c : Int) = 0 by omega) e1]
    obtain ⟨c', D', W', f1, f2, f3⟩ := ih k (V_cl c w.2.1 + 1 + w.2.2.length + 1) (wc + 1) (X_ug D wc d) (X_ug W wc q) h.2 (fun v hv => hx v (List.mem_cons_of_mem _ hv)) (by omega) (by omega)
    refine ⟨c', D', W', ?_, fun j v hj => ?_, fun v hv => ?_⟩
    · rw [f1, show wc + 1 + (r.length : Int) = wc + ((w :: r).length : Int) by rw [List.length_cons]; omega]
    · cases j with
      | zero =>
        cases hj
        have g := f3 wc (by omega)
        rw [X_ug_s, X_ug_s] at g
        rw [show wc + ((0 : Nat) : Int) = wc by omega, g.1, g.2]
        exact e2
      | succ j =>
        have hj : r[j]? = some v := hj
        have := f2 j v hj
        rw [show wc + ((j + 1 : Nat) : Int) = wc + 1 + (j : Int) by omega]
        exact this
    · have g := f3 v (by omega)
      rw [X_ug_n _ _ (by omega), X_ug_n _ _ (by omega)] at g
      exact g
