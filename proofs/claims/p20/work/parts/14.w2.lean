/-! p20: the tape as a list of bytes; what put adds -/
def V_tp (len : Int) (tb : Int → Int) (L : List Int) : Prop := len = (L.length : Int) ∧ ∀ (i : Nat) (x : Int), L[i]? = some x → tb (i : Int) % 256 = x
theorem V_tp_0 {tb : Int → Int} : V_tp 0 tb [] := ⟨rfl, fun i x h => by simp at h⟩
/-- byte n of a long, the highest first -/
def V_b (w : Int64) (n : Int) : Int64 := (w.toUInt64 >>> ((iI (56 - 8 * n)).toInt64.toUInt64 &&& Int64.toUInt64 63)).toInt64 &&& iL 255
/-- how many bytes there are before one is 0 -/
def V_nf (w : Int64) : Nat → Int → Int
  | 0, n => n
  | m + 1, n => if V_b w n = iL 0 then n else V_nf w m (n + 1)
def V_nb (w : Int64) : Int := V_nf w 8 0
theorem V_nf_r (w : Int64) : ∀ (m : Nat) (n : Int), n ≤ V_nf w m n ∧ V_nf w m n ≤ n + m := by
  intro m
  induction m with
  | zero => intro n; exact ⟨Int.le_refl _, by show n ≤ n + 0; omega⟩
  | succ m ih =>
    intro n
    show n ≤ (if V_b w n = iL 0 then n else V_nf w m (n + 1)) ∧ (if V_b w n = iL 0 then n else V_nf w m (n + 1)) ≤ n + ((m + 1 : Nat) : Int)
    have := ih (n + 1)
    split <;> omega
theorem V_nb_r (w : Int64) : 0 ≤ V_nb w ∧ V_nb w ≤ 8 := by
  have := V_nf_r w 8 0
  unfold V_nb
  omega
theorem V_nf_y {w : Int64} {n : Int} (h0 : 0 ≤ n) (hn : n < 8) (h : ¬ V_b w n = iL 0) : V_nf w (8 - n).toNat n = V_nf w (8 - (n + 1)).toNat (n + 1) := by
  rw [show (8 - n).toNat = (8 - (n + 1)).toNat + 1 by omega]
  show (if V_b w n = iL 0 then n else V_nf w (8 - (n + 1)).toNat (n + 1)) = _
  rw [if_neg h]
theorem V_nf_n {w : Int64} {n : Int} (h0 : 0 ≤ n) (hn : n < 8) (h : V_b w n = iL 0) : V_nf w (8 - n).toNat n = n := by
  rw [show (8 - n).toNat = (8 - (n + 1)).toNat + 1 by omega]
  show (if V_b w n = iL 0 then n else V_nf w (8 - (n + 1)).toNat (n + 1)) = _
  rw [if_pos h]
theorem V_nf_8 {w : Int64} {n : Int} (hn : 8 ≤ n) : V_nf w (8 - n).toNat n = n := by
  rw [show (8 - n).toNat = 0 by omega]
  rfl
/-- the two ints that put feeds -/
def V_hi (w : Int64) : Int := ((w.toUInt64 >>> ((iI 32).toInt64.toUInt64 &&& Int64.toUInt64 63)).toInt64).toInt32.toInt
def V_lo (w : Int64) : Int := w.toInt32.toInt
/-- the bytes that put adds -/
def V_by (w : Int64) : List Int := (List.range (V_nb w).toNat).map fun (k : Nat) => X_fb (V_hi w) (V_lo w) 0 0 0 (k : Int) % 256
theorem V_by_len (w : Int64) : ((V_by w).length : Int) = V_nb w := by
  unfold V_by
  rw [List.length_map, List.length_range]
  have := V_nb_r w
  omega
theorem V_tp_put {len : Int} {tb : Int → Int} {L : List Int} (w : Int64) (h : V_tp len tb L) : V_tp (len + V_nb w) (X_fd5 tb len (V_hi w) (V_lo w) 0 0 0) (L ++ V_by w) := by
  obtain ⟨h1, h2⟩ := h
  have hb := V_nb_r w
  have hl := V_by_len w
  refine ⟨by rw [List.length_append]; omega, fun i x hx => ?_⟩
  by_cases hi : i < L.length
  · rw [List.getElem?_append_left hi] at hx
    rw [X_fd5_o (by omega)]
    exact h2 i x hx
  · rw [List.getElem?_append_right (by omega)] at hx
    have hk : i - L.length < (V_by w).length := by
      rcases Nat.lt_or_ge (i - L.length) (V_by w).length with z | z
      · exact z
      · rw [List.getElem?_eq_none z] at hx
        cases hx
    unfold V_by at hx
    rw [List.getElem?_map, List.getElem?_range (by omega)] at hx
    simp only [Option.map_some, Option.some.injEq] at hx
    rw [show (i : Int) = len + ((i - L.length : Nat) : Int) by omega, X_fd5_i (by omega)]
    exact hx
theorem V_tp_at {len : Int} {tb : Int → Int} {L : List Int} (h : V_tp len tb L) {i : Nat} {x : Int} (hx : L[i]? = some x) : X_at tb len (i : Int) = x := by
  obtain ⟨h1, h2⟩ := h
  have hi : i < L.length := by
    rcases Nat.lt_or_ge i L.length with z | z
    · exact z
    · rw [List.getElem?_eq_none z] at hx
      cases hx
  rw [X_at_in (by omega)]
  exact h2 i x hx
/-! the signs of a sentence, a blank behind each -/
def V_two : List Int → List Int
  | [] => []
  | c :: r => c :: 32 :: V_two r
theorem V_two_a : ∀ (a b : List Int), V_two (a ++ b) = V_two a ++ V_two b := by
  intro a
  induction a with
  | nil => intro b; rfl
  | cons c r ih =>
    intro b
    show c :: 32 :: V_two (r ++ b) = c :: 32 :: (V_two r ++ V_two b)
    rw [ih]
theorem V_two_l : ∀ a : List Int, (V_two a).length = 2 * a.length := by
  intro a
  induction a with
  | nil => rfl
  | cons c r ih =>
    show (V_two r).length + 1 + 1 = 2 * (r.length + 1)
    omega
theorem V_two_at : ∀ (a : List Int) (i : Nat) (x : Int), a[i]? = some x → (V_two a)[2 * i]? = some x ∧ (V_two a)[2 * i + 1]? = some 32 := by
  intro a
  induction a with
  | nil => intro i x h; simp at h
  | cons c r ih =>
    intro i x h
    cases i with
    | zero =>
      have h : some c = some x := h
      exact ⟨h, rfl⟩
    | succ i =>
      have h : r[i]? = some x := h
      have := ih i x h
      rw [show 2 * (i + 1) = 2 * i + 1 + 1 by omega]
      exact this
def V_sg (c : Int) : Prop := c = 120 ∨ c = 105 ∨ c = 106 ∨ c = 116 ∨ c = 101
def V_sgs (cs : List Int) (k : Int) : Prop := (cs.length : Int) = k ∧ ∀ c ∈ cs, V_sg c
theorem V_sgs_0 : V_sgs [] 0 := ⟨rfl, fun c h => by cases h⟩
theorem V_sgs_s {cs : List Int} {k c : Int} (h : V_sgs cs k) (hc : V_sg c) : V_sgs (cs ++ [c]) (k + 1) := by
  refine ⟨by rw [List.length_append]; have := h.1; show ((cs.length + 1 : Nat) : Int) = k + 1; omega, fun d hd => ?_⟩
  rcases List.mem_append.mp hd with z | z
  · exact h.2 d z
  · rw [List.mem_singleton.mp z]
    exact hc
/-- such a text's tokens -/
theorem V_sn {len n : Int} {tb : Int → Int} {cs : List Int} (hn : n ≤ 30) (hc : V_sgs cs n) (ht : V_tp len tb (V_two cs)) : ∀ k : Nat, (k : Int) ≤ n → ∃ t, X_sn tb len (2 * k) = some ((k : Int), 0, t) ∧ ∀ i : Int, 0 ≤ i → i < k → ∃ c, V_sg c ∧ t i = (iI c).toInt64 := by
  intro k
  induction k with
  | zero => intro _; exact ⟨fun _ => 0, rfl, fun i h1 h2 => absurd h2 (by omega)⟩
  | succ k ih =>
    intro hk
    obtain ⟨t, h1, h2⟩ := ih (by omega)
    have hl : k < cs.length := by have := hc.1; omega
    obtain ⟨c, hx⟩ : ∃ c, cs[k]? = some c := ⟨_, List.getElem?_eq_getElem hl⟩
    have hs := hc.2 c (List.mem_of_getElem? hx)
    obtain ⟨e1, e2⟩ := V_two_at cs k c hx
    have a1 := V_tp_at ht e1
    have a2 := V_tp_at ht e2
    have s1 : X_sn tb len (2 * k + 1) = some ((k : Int) + 1, 1, X_ug t (k : Int) (iI c).toInt64) := by
      show (X_sn tb len (2 * k)).bind (fun s => X_sn1 s (X_at tb len ((2 * k : Nat) : Int))) = _
      rw [h1, a1]
      show X_sn1 ((k : Int), 0, t) c = _
      unfold V_sg at hs
      rw [X_sn1_n (by unfold X_isBl; omega) (by omega) (by omega), if_neg (by omega), if_neg (by omega)]
    have s2 : X_sn tb len (2 * k + 1 + 1) = some ((k : Int) + 1, 0, X_ug t (k : Int) (iI c).toInt64) := by
      show (X_sn tb len (2 * k + 1)).bind (fun s => X_sn1 s (X_at tb len ((2 * k + 1 : Nat) : Int))) = _
      rw [s1, a2]
      show X_sn1 ((k : Int) + 1, 1, X_ug t (k : Int) (iI c).toInt64) 32 = _
      exact X_sn1_b (Or.inl rfl)
    refine ⟨X_ug t (k : Int) (iI c).toInt64, ?_, fun i g1 g2 => ?_⟩
    · rw [show 2 * (k + 1) = 2 * k + 1 + 1 by omega, s2]
      rfl
    · by_cases hi : i = k
      · rw [hi, X_ug_s]
        exact ⟨c, hs, rfl⟩
      · rw [X_ug_n _ _ hi]
        exact h2 i g1 (by omega)
theorem V_sg_nv {c : Int} (h : V_sg c) : X_nv (iI c).toInt64 = -1 ∧ ¬ (iI c).toInt64 = iL 40 := by
  have k1 : X_nv (iI 120).toInt64 = -1 ∧ ¬ (iI 120).toInt64 = iL 40 := by decide +kernel
  have k2 : X_nv (iI 105).toInt64 = -1 ∧ ¬ (iI 105).toInt64 = iL 40 := by decide +kernel
  have k3 : X_nv (iI 106).toInt64 = -1 ∧ ¬ (iI 106).toInt64 = iL 40 := by decide +kernel
  have k4 : X_nv (iI 116).toInt64 = -1 ∧ ¬ (iI 116).toInt64 = iL 40 := by decide +kernel
  have k5 : X_nv (iI 101).toInt64 = -1 ∧ ¬ (iI 101).toInt64 = iL 40 := by decide +kernel
  rcases h with h | h | h | h | h <;> rw [h]
  · exact k1
  · exact k2
  · exact k3
  · exact k4
  · exact k5
/-- the sentence that is taken: its tokens are signs -/
theorem V_sent {len n : Int} {tb : Int → Int} {cs : List Int} (h0 : 0 ≤ n) (hn : n ≤ 30) (hc : V_sgs cs n) (ht : V_tp len tb (V_two cs)) : ∃ t, X_sn tb len len.toNat = some (n, 0, t) ∧ ∀ i, 0 ≤ i → i < n → X_nv (t i) = -1 ∧ ¬ t i = iL 40 := by
  have hl : len = 2 * n := by
    have h1 := ht.1
    rw [V_two_l] at h1
    have := hc.1
    omega
  obtain ⟨t, h1, h2⟩ := V_sn hn hc ht n.toNat (by omega)
  rw [show 2 * n.toNat = len.toNat by omega, show ((n.toNat : Nat) : Int) = n by omega] at h1
  refine ⟨t, h1, fun i g1 g2 => ?_⟩
  obtain ⟨c, hs, e⟩ := h2 i g1 (by omega)
  rw [e]
  exact V_sg_nv hs
