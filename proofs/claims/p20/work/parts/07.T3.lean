/-! more locals than told do no harm -/
def X_sub (ls ls' : X_L) : Prop := (ls.map Prod.fst).Nodup ∧ (ls'.map Prod.fst).Nodup ∧ ∀ i v, X_ld ls i = some v → X_ld ls' i = some v
theorem X_ld_m {ls : X_L} {i : Nat} {v : Value} (h : X_ld ls i = some v) : i ∈ ls.map Prod.fst := by
  induction ls with
  | nil => cases h
  | cons q r ih =>
    unfold X_ld at h
    by_cases hq : q.1 = i
    · rw [← hq]; exact List.mem_cons_self
    · rw [if_neg hq] at h
      exact List.mem_cons_of_mem _ (ih h)
theorem X_ld_f {p : Nat × Value → Bool} {ls : X_L} {i : Nat} {v : Value} (hn : (ls.map Prod.fst).Nodup) : X_ld (ls.filter p) i = some v ↔ X_ld ls i = some v ∧ p (i, v) = true := by
  induction ls with
  | nil => exact ⟨fun h => (by cases h), fun h => (by cases h.1)⟩
  | cons q r ih =>
    rw [List.map_cons, List.nodup_cons] at hn
    have ih := ih hn.2
    by_cases hq : q.1 = i
    · have e : X_ld (q :: r) i = some q.2 := by
        show (if q.1 = i then some q.2 else X_ld r i) = _
        rw [if_pos hq]
      rw [e]
      by_cases hp : p q = true
      · rw [List.filter_cons_of_pos hp]
        have e2 : X_ld (q :: r.filter p) i = some q.2 := by
          show (if q.1 = i then some q.2 else X_ld (r.filter p) i) = _
          rw [if_pos hq]
        rw [e2]
        constructor
        · intro h
          refine ⟨h, ?_⟩
          cases h
          rw [← hq]
          exact hp
        · exact fun h => h.1
      · rw [List.filter_cons_of_neg hp]
        constructor
        · intro h
          have := (ih.mp h).1
          exact absurd (hq ▸ X_ld_m this) hn.1
        · rintro ⟨h, h2⟩
          cases h
          rw [← hq] at h2
          exact absurd h2 hp
    · have e : X_ld (q :: r) i = X_ld r i := by
        show (if q.1 = i then some q.2 else X_ld r i) = _
        rw [if_neg hq]
      rw [e]
      by_cases hp : p q = true
      · rw [List.filter_cons_of_pos hp]
        have e2 : X_ld (q :: r.filter p) i = X_ld (r.filter p) i := by
          show (if q.1 = i then some q.2 else X_ld (r.filter p) i) = _
          rw [if_neg hq]
        rw [e2]
        exact ih
      · rw [List.filter_cons_of_neg hp]
        exact ih
theorem X_sub_c {ls ls' : X_L} {p : Nat × Value → Bool} {i : Nat} {v : Value} (h : X_sub ls ls') (hp : ∀ w, p (i, w) = false) : X_sub ((i, v) :: ls.filter p) ((i, v) :: ls'.filter p) := by
  obtain ⟨h1, h2, h3⟩ := h
  have key : ∀ l : X_L, (l.map Prod.fst).Nodup → (((i, v) :: l.filter p).map Prod.fst).Nodup := by
    intro l hl
    rw [List.map_cons, List.nodup_cons]
    refine ⟨?_, (List.filter_sublist.map Prod.fst).nodup hl⟩
    intro hm
    obtain ⟨⟨a, b⟩, hb, rfl⟩ := List.mem_map.mp hm
    have := (List.mem_filter.mp hb).2
    rw [hp b] at this
    cases this
  refine ⟨key _ h1, key _ h2, ?_⟩
  intro k w hk
  by_cases hik : i = k
  · subst hik
    have e : ∀ l : X_L, X_ld ((i, v) :: l) i = some v := fun l => by
      show (if i = i then some v else X_ld l i) = _
      rw [if_pos rfl]
    rw [e] at hk ⊢
    exact hk
  · have e : ∀ l : X_L, X_ld ((i, v) :: l) k = X_ld l k := fun l => by
      show (if i = k then some v else X_ld l k) = _
      rw [if_neg hik]
    rw [e] at hk ⊢
    rw [X_ld_f h1] at hk
    rw [X_ld_f h2]
    exact ⟨h3 _ _ hk.1, hk.2⟩
theorem X_sub_1 {ls ls' : X_L} {i : Nat} {v : Value} (h : X_sub ls ls') : X_sub (X_s1 ls i v) (X_s1 ls' i v) := X_sub_c h (fun w => by simp)
theorem X_sub_2 {ls ls' : X_L} {i : Nat} {v : Value} (h : X_sub ls ls') : X_sub (X_s2 ls i v) (X_s2 ls' i v) := X_sub_c h (fun w => by simp)
/-- an outcome, the locals aside -/
def X_pk3 (ls' : X_L) (o : Option X_P) : Option X_P := o.map fun r => (r.1, ls', r.2.2)
theorem X_ps_sub {nL : Nat} {row : X_Row} {ls ls' : X_L} {st : List Value} {pc : Nat} {l1 : X_L} {st1 : List Value} (hR : X_sub ls ls') (h : X_pstep nL row ls st = some (pc, l1, st1)) : ∃ l1', X_pstep nL row ls' st = some (pc, l1', st1) ∧ X_sub l1 l1' := by
  obtain ⟨pp, ⟨i, n⟩, ax⟩ := row
  have hl := hR.2.2
  have fin : ∀ {o o' : Option X_P}, o = some (pc, l1, st1) → (∀ r, o = some r → r.2.1 = ls ∧ o' = some (r.1, ls', r.2.2)) → ∃ l1', o' = some (pc, l1', st1) ∧ X_sub l1 l1' := fun ho hk => by
    obtain ⟨e1, e2⟩ := hk _ ho
    simp only at e1 e2
    subst e1
    exact ⟨ls', e2, hR⟩
  cases i <;> first
    | (cases h; done)
    | (simp only [X_pstep, X_li_] at h ⊢
       split at h <;> first | (cases h; done) | (rename_i e; rw [hl _ _ e]; cases h; exact ⟨ls', rfl, hR⟩))
    | (simp only [X_pstep, X_ll_] at h ⊢
       split at h <;> first | (cases h; done) | (rename_i e; rw [hl _ _ e]; cases h; exact ⟨ls', rfl, hR⟩))
    | (simp only [X_pstep, X_la_] at h ⊢
       split at h <;> first | (cases h; done) | (rename_i e; rw [hl _ _ e]; cases h; exact ⟨ls', rfl, hR⟩))
    | (simp only [X_pstep, X_si_] at h ⊢
       split at h <;> first | (cases h; done) | skip
       split at h <;> first | (cases h; done) | skip
       rename_i e; simp only [if_pos e]; cases h; exact ⟨_, rfl, X_sub_1 hR⟩)
    | (simp only [X_pstep, X_sa_] at h ⊢
       split at h <;> first | (cases h; done) | skip
       split at h <;> first | (cases h; done) | skip
       rename_i e; simp only [if_pos e]; cases h; exact ⟨_, rfl, X_sub_1 hR⟩)
    | (simp only [X_pstep, X_sl_] at h ⊢
       split at h <;> first | (cases h; done) | skip
       split at h <;> first | (cases h; done) | skip
       rename_i e; simp only [if_pos e]; cases h; exact ⟨_, rfl, X_sub_2 hR⟩)
    | (simp only [X_pstep] at h ⊢
       split at h <;> first | (cases h; done) | skip
       rename_i x e0
       split at h <;> first | (cases h; done) | skip
       rename_i e; rw [hl _ _ e0]; simp only [if_pos e]; cases h; exact ⟨_, rfl, X_sub_1 hR⟩)
    | (refine fin h ?_
       clear h fin
       intro r hr
       simp only [X_pstep, X_i2, X_l2, X_li, X_i1, X_l1, X_br] at hr ⊢
       repeat' split at hr
       all_goals first
         | (cases hr; done)
         | (cases hr; exact ⟨rfl, rfl⟩)
         | (cases hr; simp_all; done)
         | (cases hr; simp_all; intro h; exact (show False by omega).elim))
theorem X_ps_no {sc : X_Sc} {nL j : Nat} {row : X_Row} {ls ls' : X_L} {st : List Value} {S : X_S} (h : X_hstep sc row st S ≠ none ∨ X_cstep j row ls st S ≠ none) : X_pstep nL row ls' st = none := by
  obtain ⟨pp, ⟨i, n⟩, ax⟩ := row
  cases i <;> first
    | rfl
    | exact (h.elim (fun h => h rfl) (fun h => h rfl)).elim
theorem X_cs_sub {j : Nat} {row : X_Row} {ls ls' : X_L} {st : List Value} {S : X_S} {o : X_O} (h : X_cstep j row ls st S = some o) :
    (∃ k as pc r S1, o = .inr (.inl (k, as, (pc, ls, r, S1))) ∧ X_cstep j row ls' st S = some (.inr (.inl (k, as, (pc, ls', r, S1))))) ∨ (∃ r, o = .inr (.inr r) ∧ X_cstep j row ls' st S = some (.inr (.inr r))) := by
  obtain ⟨pp, ⟨i, n⟩, ax⟩ := row
  cases i <;> first
    | (cases h; done)
    | (simp only [X_cstep] at h ⊢
       repeat' split at h
       all_goals first
         | (cases h; done)
         | (cases h; exact Or.inr ⟨_, rfl, rfl⟩)
         | (cases h; exact Or.inr ⟨_, rfl, by simp_all⟩)
         | (cases h; exact Or.inl ⟨_, _, _, _, _, rfl, rfl⟩)
         | (cases h; exact Or.inl ⟨_, _, _, _, _, rfl, by simp_all⟩))
theorem X_run_sub (sc : X_Sc) : ∀ (n j pc : Nat) (ls ls' : X_L) (st : List Value) (S : X_S) (r : Option Value × X_S), X_sub ls ls' → X_run sc n j (pc, ls, st, S) = some r → X_run sc n j (pc, ls', st, S) = some r := by
  intro n
  induction n with
  | zero => intro j pc ls ls' st S r hR h; cases h
  | succ n ih =>
    intro j pc ls ls' st S r hR h
    unfold X_run at h ⊢
    cases hrow : X_row j pc with
    | none =>
      have e : X_step sc j (pc, ls, st, S) = none := by simp only [X_step, hrow]
      rw [e] at h
      cases h
    | some row =>
      cases hp : X_pstep (X_nL j) row ls st with
      | some o =>
        obtain ⟨pc1, l1, st1⟩ := o
        obtain ⟨l1', hp', hR'⟩ := X_ps_sub hR hp
        have e : X_step sc j (pc, ls, st, S) = some (.inl (pc1, l1, st1, S)) := by simp only [X_step, hrow, hp]
        have e' : X_step sc j (pc, ls', st, S) = some (.inl (pc1, l1', st1, S)) := by simp only [X_step, hrow, hp']
        rw [e] at h
        rw [e']
        exact ih _ _ _ _ _ _ _ hR' h
      | none =>
        cases hh : X_hstep sc row st S with
        | some o =>
          obtain ⟨pc1, st1, S1⟩ := o
          have hp' : X_pstep (X_nL j) row ls' st = none := X_ps_no (sc := sc) (j := j) (ls := ls) (S := S) (Or.inl (by rw [hh]; simp))
          have e : X_step sc j (pc, ls, st, S) = some (.inl (pc1, ls, st1, S1)) := by simp only [X_step, hrow, hp, hh]
          have e' : X_step sc j (pc, ls', st, S) = some (.inl (pc1, ls', st1, S1)) := by simp only [X_step, hrow, hp', hh]
          rw [e] at h
          rw [e']
          exact ih _ _ _ _ _ _ _ hR h
        | none =>
          cases hc : X_cstep j row ls st S with
          | none =>
            have e : X_step sc j (pc, ls, st, S) = none := by simp only [X_step, hrow, hp, hh, hc]
            rw [e] at h
            cases h
          | some o =>
            have hp' : X_pstep (X_nL j) row ls' st = none := X_ps_no (sc := sc) (j := j) (ls := ls) (S := S) (Or.inr (by rw [hc]; simp))
            have e : X_step sc j (pc, ls, st, S) = some o := by simp only [X_step, hrow, hp, hh, hc]
            rw [e] at h
            rcases X_cs_sub (ls' := ls') hc with ⟨k, as, pc1, st1, S1, rfl, hc'⟩ | ⟨r1, rfl, hc'⟩
            · have e' : X_step sc j (pc, ls', st, S) = some (.inr (.inl (k, as, (pc1, ls', st1, S1)))) := by simp only [X_step, hrow, hp', hh, hc']
              rw [e']
              simp only at h ⊢
              split at h
              · exact ih _ _ _ _ _ _ _ hR h
              · cases h
            · have e' : X_step sc j (pc, ls', st, S) = some (.inr (.inr r1)) := by simp only [X_step, hrow, hp', hh, hc']
              rw [e']
              exact h
/-- a walk over fewer locals serves -/
def X_lsub : X_L → X_L → Prop
  | [], _ => True
  | (i, v) :: t, l => X_ld l i = some v ∧ X_lsub t l
theorem X_lsub_ld {ls ls' : X_L} (h : X_lsub ls ls') {i : Nat} {v : Value} (hv : X_ld ls i = some v) : X_ld ls' i = some v := by
  induction ls with
  | nil => cases hv
  | cons q r ih =>
    obtain ⟨k, w⟩ := q
    unfold X_ld at hv
    by_cases hk : k = i
    · simp only [hk, if_true] at hv
      cases hv
      rw [← hk]
      exact h.1
    · simp only [hk, if_false] at hv
      exact ih h.2 hv
def X_ndb : X_L → Bool
  | [] => true
  | q :: r => (r.all fun z => !(z.1 == q.1)) && X_ndb r
theorem X_ndb_n {ls : X_L} (h : X_ndb ls = true) : (ls.map Prod.fst).Nodup := by
  induction ls with
  | nil => exact List.nodup_nil
  | cons q r ih =>
    unfold X_ndb at h
    rw [Bool.and_eq_true] at h
    rw [List.map_cons, List.nodup_cons]
    refine ⟨?_, ih h.2⟩
    intro hm
    obtain ⟨z, hz, hz2⟩ := List.mem_map.mp hm
    have := List.all_eq_true.mp h.1 z hz
    rw [hz2] at this
    simp at this
theorem T_sub {sc : X_Sc} {j pc : Nat} {ls ls' : X_L} {st : List Value} {S : X_S} {Q : Option Value → X_S → Prop} (h1 : X_lsub ls ls') (h2 : X_ndb ls = true) (h3 : X_ndb ls' = true) (h : X_T sc j (pc, ls, st, S) Q) : X_T sc j (pc, ls', st, S) Q := by
  obtain ⟨n, v, S', hr, hq⟩ := h
  exact ⟨n, v, S', X_run_sub sc n j pc ls ls' st S _ ⟨X_ndb_n h2, X_ndb_n h3, fun i v hv => X_lsub_ld h1 hv⟩ hr, hq⟩
