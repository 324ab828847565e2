/-! THE SMALL MACHINE AND THE TRUE ONE: cell k + 1 stands at B + k, cell 0 (the script) at b -/
def X_ad (b B : Nat) : Nat → Nat
  | 0 => b
  | k + 1 => B + k
theorem X_ad_inj {b B : Nat} (h : b < B) {i j : Nat} (e : X_ad b B i = X_ad b B j) : i = j := by
  cases i <;> cases j <;> simp only [X_ad] at e <;> omega
theorem X_ad_ge {b B : Nat} {k : Nat} (h : k ≠ 0) : B ≤ X_ad b B k := by
  cases k with
  | zero => exact absurd rfl h
  | succ k => exact Nat.le_add_right _ _
theorem X_ad_lt {b B i n : Nat} (h : b < B) (hi : i < n) (h0 : 0 < n) : X_ad b B i < X_ad b B n := by
  cases n with
  | zero => omega
  | succ n => cases i <;> simp only [X_ad] <;> omega
theorem X_ad_succ {b B n : Nat} (h0 : 0 < n) : X_ad b B (n + 1) = X_ad b B n + 1 := by
  cases n with
  | zero => omega
  | succ n => simp only [X_ad]; omega
def X_cv (ad : Nat → Nat) (v : Value) : Value := match v with
  | .ref k => .ref (ad k)
  | .int x => .int x
  | .long x => .long x
  | .float x => .float x
  | .double x => .double x
  | .null => .null
  | .retAddr x => .retAddr x
theorem X_cv_cat (ad : Nat → Nat) (v : Value) : (X_cv ad v).category = v.category := by cases v <;> rfl
def X_cvs (ad : Nat → Nat) (st : List Value) : List Value := st.map (X_cv ad)
def X_cvl (ad : Nat → Nat) (ls : X_L) : X_L := ls.map (fun q => (q.1, X_cv ad q.2))
theorem X_cvs_cat (ad : Nat → Nat) (st : List Value) : ((X_cvs ad st).map fun v => v.category).sum = (st.map fun v => v.category).sum := by
  unfold X_cvs
  rw [List.map_map]
  congr 1
  exact List.map_congr_left (fun v _ => X_cv_cat ad v)
theorem X_cvl_s1 (ad : Nat → Nat) (ls : X_L) (i : Nat) (v : Value) :
    (i, X_cv ad v) :: (X_cvl ad ls).filter (fun q => !(q.1 == i) && !(q.1 + 1 == i && q.2.category == 2)) = X_cvl ad (X_s1 ls i v) := by
  unfold X_s1 X_cvl
  rw [List.map_cons, List.filter_map]
  congr 2
  refine List.filter_congr (fun q _ => ?_)
  simp only [Function.comp, X_cv_cat]
theorem X_cvl_s2 (ad : Nat → Nat) (ls : X_L) (i : Nat) (v : Value) :
    (i, X_cv ad v) :: (X_cvl ad ls).filter (fun q => !(q.1 == i) && (!(q.1 == i + 1) && !(q.1 + 1 == i && q.2.category == 2))) = X_cvl ad (X_s2 ls i v) := by
  unfold X_s2 X_cvl
  rw [List.map_cons, List.filter_map]
  congr 2
  refine List.filter_congr (fun q _ => ?_)
  simp only [Function.comp, X_cv_cat]
theorem X_ld_mem {ls : X_L} {i : Nat} {v : Value} (h : X_ld ls i = some v) : (i, v) ∈ ls := by
  induction ls with
  | nil => simp [X_ld] at h
  | cons q r ih =>
    unfold X_ld at h
    split at h
    · rename_i hq
      cases h
      subst hq
      exact List.mem_cons_self
    · exact List.mem_cons_of_mem _ (ih h)
theorem X_ld_at {ad : Nat → Nat} {lsA : Array Slot} {nL : Nat} {ls : X_L} {i : Nat} {v : Value} (hl : lv_has lsA nL (X_cvl ad ls)) (h : X_ld ls i = some v) : lsA[i]? = some (.val (X_cv ad v)) :=
  hl.2.2 (i, X_cv ad v) (List.mem_map.mpr ⟨_, X_ld_mem h, rfl⟩)
theorem X_tg_spec {pc t : Nat} {off : Int} (h : X_tg pc off = some t) : (pc : Int) + off = (t : Int) := by
  unfold X_tg at h
  split at h
  · rename_i z hz
    cases h
    exact hz
  · cases h
theorem X_args (ad : Nat → Nat) (as : List Value) : ∀ n, lv_args n (X_cvs ad as) = X_cvl ad (lv_args n as) := by
  induction as with
  | nil => intro n; rfl
  | cons v r ih =>
    intro n
    show (n, X_cv ad v) :: lv_args (if (X_cv ad v).category = 2 then n + 2 else n + 1) (X_cvs ad r) = _
    rw [X_cv_cat, ih]
    rfl
/-! cells -/
def X_va (ad : Nat → Nat) (a : vp_A) : vp_A := match a.2 with
  | .inr (.inr (.inr (.inr f))) => (a.1, .inr (.inr (.inr (.inr fun j => (f j).map ad))))
  | .inl f => (a.1, .inl f)
  | .inr (.inl f) => (a.1, .inr (.inl f))
  | .inr (.inr (.inl f)) => (a.1, .inr (.inr (.inl f)))
  | .inr (.inr (.inr (.inl f))) => (a.1, .inr (.inr (.inr (.inl f))))
def X_ce (ad : Nat → Nat) (cA : FieldType → ClassId) (c : X_Cell) : va_E := match c with
  | .inl a => .inl (cA a.1, X_va ad a.2)
  | .inr o => .inr (o.1, X_cvs ad o.2)
/-- the type of a row's components by its sign -/
def X_rty (t : FieldType) : FieldType := match t with
  | .short => .object RX8
  | t => t
def X_tys : List FieldType := [.int, .long, .byte, .short]
/-- the heap of the small machine in the true one's; the script's cell is none of it -/
def X_Rl (b B : Nat) (scr : Cell) (D : va_G) (cA : FieldType → ClassId) (S : X_S) (H : Heap) : Prop :=
  b < B ∧ H.size = X_ad b B S.2.1 ∧ 0 < S.2.1 ∧ H[b]? = some scr ∧ S.1 0 = X_no
  ∧ (∀ k, 0 < k → k < S.2.1 → va_at D X_cl (X_ad b B k, X_ce (X_ad b B) cA (S.1 k)) H) ∧ ∀ k, S.2.1 ≤ k → S.1 k = X_no
/-- what the tables say -/
def X_K (D : va_G) (cA : FieldType → ClassId) (s : State) : Prop :=
  (∀ (c : Nat) (q : vw_C), X_cl[c]? = some q → u_Kn s q.1 q.2.1 q.2.2 (D.1 c) (D.2 c)) ∧ (∀ ty ∈ X_tys, ArrOfT s (cA ty) (X_rty ty) ∧ va_RA s (cA ty) (X_rty ty)) ∧ (∀ w ∈ X_nest, va_Nw w s) ∧ va_AO RX8 s
theorem X_Rl.upd {b B : Nat} {scr : Cell} {D : va_G} {cA : FieldType → ClassId} {S : X_S} {H H1 : Heap} (h : X_Rl b B scr D cA S H) {q : Nat} {c : X_Cell} (h0 : 0 < q) (hq : q < S.2.1) (z : H1.size = H.size)
    (oq : ∀ r : Nat, r ≠ X_ad b B q → H1[r]? = H[r]?) (hc : va_at D X_cl (X_ad b B q, X_ce (X_ad b B) cA c) H1) : X_Rl b B scr D cA (X_upd S.1 q c, S.2) H1 := by
  obtain ⟨hb, h1, h2, h3, h4, h5, h6⟩ := h
  refine ⟨hb, by rw [z]; exact h1, h2, ?_, ?_, fun k hk hk2 => ?_, fun k hk => ?_⟩
  · rw [oq b (fun e => by have := X_ad_ge (b := b) (B := B) (k := q) (by omega); omega)]
    exact h3
  · show X_upd S.1 q c 0 = _
    unfold X_upd
    rw [if_neg (by omega)]
    exact h4
  · show va_at D X_cl (X_ad b B k, X_ce (X_ad b B) cA (X_upd S.1 q c k)) H1
    unfold X_upd
    by_cases e : k = q
    · subst e
      rw [if_pos rfl]
      exact hc
    · rw [if_neg e]
      exact (h5 k hk hk2).kept (oq _ (fun e2 => e (X_ad_inj hb e2)))
  · show X_upd S.1 q c k = _
    unfold X_upd
    rw [if_neg (by have : S.2.1 ≤ k := hk; omega)]
    exact h6 k hk
theorem X_Rl.push {b B : Nat} {scr : Cell} {D : va_G} {cA : FieldType → ClassId} {S : X_S} {H H1 : Heap} (h : X_Rl b B scr D cA S H) {c : X_Cell} {n : Nat} (z : H1.size = H.size + 1)
    (oq : ∀ r : Nat, r < H.size → H1[r]? = H[r]?) (hc : va_at D X_cl (H.size, X_ce (X_ad b B) cA c) H1) : X_Rl b B scr D cA (X_upd S.1 S.2.1 c, S.2.1 + 1, S.2.2 + n) H1 := by
  obtain ⟨hb, h1, h2, h3, h4, h5, h6⟩ := h
  have hbs : b < H.size := by rw [h1]; exact X_ad_lt (i := 0) hb h2 h2
  refine ⟨hb, by rw [z, h1]; exact (X_ad_succ h2).symm, Nat.succ_pos _, by rw [oq b hbs]; exact h3, ?_, fun k hk hk2 => ?_, fun k hk => ?_⟩
  · show X_upd S.1 S.2.1 c 0 = _
    unfold X_upd
    rw [if_neg (by omega)]
    exact h4
  · show va_at D X_cl (X_ad b B k, X_ce (X_ad b B) cA (X_upd S.1 S.2.1 c k)) H1
    unfold X_upd
    by_cases e : k = S.2.1
    · subst e
      rw [if_pos rfl, ← h1]
      exact hc
    · rw [if_neg e]
      have hk3 : k < S.2.1 := by have : k < S.2.1 + 1 := hk2; omega
      exact (h5 k hk hk3).kept (oq _ (by rw [h1]; exact X_ad_lt hb hk3 h2))
  · show X_upd S.1 S.2.1 c k = _
    have hk' : S.2.1 + 1 ≤ k := hk
    unfold X_upd
    rw [if_neg (by omega)]
    exact h6 k (by omega)
/-- a cell that is there -/
theorem X_Rl.lt {b B : Nat} {scr : Cell} {D : va_G} {cA : FieldType → ClassId} {S : X_S} {H : Heap} (h : X_Rl b B scr D cA S H) {q : Nat} (hq : S.1 q ≠ X_no) : q < S.2.1 := by
  rcases Nat.lt_or_ge q S.2.1 with h1 | h1
  · exact h1
  · exact absurd (h.2.2.2.2.2.2 q h1) hq
theorem X_Rl.pos {b B : Nat} {scr : Cell} {D : va_G} {cA : FieldType → ClassId} {S : X_S} {H : Heap} (h : X_Rl b B scr D cA S H) {q : Nat} {c : X_Cell} (hc : S.1 q = c) (hne : c ≠ X_no) : 0 < q := by
  rcases Nat.eq_zero_or_pos q with h1 | h1
  · subst h1
    exact absurd (hc.symm.trans h.2.2.2.2.1) hne
  · exact h1
theorem X_Rl.at {b B : Nat} {scr : Cell} {D : va_G} {cA : FieldType → ClassId} {S : X_S} {H : Heap} (h : X_Rl b B scr D cA S H) {q : Nat} {c : X_Cell} (hc : S.1 q = c) (hne : c ≠ X_no) : va_at D X_cl (X_ad b B q, X_ce (X_ad b B) cA c) H := by
  have h0 := h.pos hc hne
  subst hc
  exact h.2.2.2.2.2.1 q h0 (h.lt hne)
theorem X_inl_ne {a : FieldType × vp_A} : (Sum.inl a : X_Cell) ≠ X_no := fun e => by cases e
theorem X_fit_ok {ty : FieldType} {v : Value} (ad : Nat → Nat) (h : X_fit ty v = true) : narrow ty (X_cv ad v) = X_cv ad v ∧ fits ty (X_cv ad v) = true := by
  unfold X_fit at h
  split at h
  · exact ⟨rfl, rfl⟩
  · exact ⟨rfl, rfl⟩
  · rename_i x
    simp only [Bool.or_eq_true, decide_eq_true_eq] at h
    have e0 : narrow .boolean (.int 0) = .int 0 ∧ fits .boolean (.int 0) = true := by decide
    have e1 : narrow .boolean (.int 1) = .int 1 ∧ fits .boolean (.int 1) = true := by decide
    rcases h with h | h
    · subst h
      exact e0
    · subst h
      exact e1
  · exact ⟨rfl, rfl⟩
  · exact ⟨rfl, rfl⟩
  · cases h
