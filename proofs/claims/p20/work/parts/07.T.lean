/-! runs that end, with what holds at their end -/
theorem X_run_mono {sc : X_Sc} : ∀ (n m j : Nat) (F : X_F) (r : Option Value × X_S), n ≤ m → X_run sc n j F = some r → X_run sc m j F = some r := by
  intro n
  induction n with
  | zero => intro m j F r _ h; cases h
  | succ n ih =>
    intro m j F r hm h
    cases m with
    | zero => omega
    | succ m =>
      unfold X_run at h ⊢
      cases hs : X_step sc j F with
      | none => rw [hs] at h; cases h
      | some O =>
        rw [hs] at h
        rcases O with F' | ⟨k, as, pc, ls, st, S⟩ | q
        · exact ih m j F' r (by omega) h
        · simp only at h ⊢
          cases h1 : X_run sc n k (0, lv_args 0 as, [], S) with
          | none => rw [h1] at h; cases h
          | some v1 =>
            obtain ⟨v, S'⟩ := v1
            rw [h1] at h
            rw [ih m k _ _ (by omega) h1]
            exact ih m j _ r (by omega) h
        · exact h
def X_T (sc : X_Sc) (j : Nat) (F : X_F) (Q : Option Value → X_S → Prop) : Prop := ∃ n v S', X_run sc n j F = some (v, S') ∧ Q v S'
section X_TR
variable {sc : X_Sc} {j : Nat} {F F' : X_F} {Q Q' : Option Value → X_S → Prop} {pc pc' : Nat} {ls ls' : X_L} {st st' : List Value} {S : X_S}
theorem T_go (h : X_step sc j F = some (.inl F')) (k : X_T sc j F' Q) : X_T sc j F Q := by
  obtain ⟨n, v, S', h1, h2⟩ := k
  refine ⟨n + 1, v, S', ?_, h2⟩
  unfold X_run
  rw [h]
  exact h1
theorem T_ret {v : Option Value} (h : X_step sc j F = some (.inr (.inr (v, S)))) (hq : Q v S) : X_T sc j F Q := by
  refine ⟨1, v, S, ?_, hq⟩
  unfold X_run
  rw [h]
theorem T_call {k : Nat} {as : List Value} (h : X_step sc j F = some (.inr (.inl (k, as, (pc, ls, st, S))))) (hk : X_T sc k (0, lv_args 0 as, [], S) (fun v S' => X_T sc j (pc, ls, v.toList ++ st, S') Q)) : X_T sc j F Q := by
  obtain ⟨n, v, S', h1, m, v2, S2, h3, h4⟩ := hk
  refine ⟨(n + m) + 1, v2, S2, ?_, h4⟩
  unfold X_run
  rw [h]
  simp only
  rw [X_run_mono n (n + m) _ _ _ (Nat.le_add_right _ _) h1]
  exact X_run_mono m (n + m) _ _ _ (Nat.le_add_left _ _) h3
theorem T_mono (h : X_T sc j F Q') (hq : ∀ v S', Q' v S' → Q v S') : X_T sc j F Q := by
  obtain ⟨n, v, S', h1, h2⟩ := h
  exact ⟨n, v, S', h1, hq _ _ h2⟩
/-- an instruction that leaves the heap alone -/
theorem T_p {row : X_Row} {nL : Nat} (hr : X_row j pc = some row) (hn : X_nL j = nL) (h : X_pstep nL row ls st = some (pc', ls', st')) (k : X_T sc j (pc', ls', st', S) Q) : X_T sc j (pc, ls, st, S) Q := by
  refine T_go ?_ k
  unfold X_step
  subst hn
  simp only [hr, h]
theorem X_pn_get {nL pc n idx : Nat} {ax : Nat × Nat × Nat} {ls : X_L} {st : List Value} : X_pstep nL (pc, (.getfield idx, n), ax) ls st = none := rfl
theorem T_h {row : X_Row} (hr : X_row j pc = some row) (hp : X_pstep (X_nL j) row ls st = none) {S1 : X_S} (h : X_hstep sc row st S = some (pc', st', S1)) (k : X_T sc j (pc', ls, st', S1) Q) : X_T sc j (pc, ls, st, S) Q := by
  refine T_go ?_ k
  unfold X_step
  simp only [hr, hp, h]
theorem T_c {row : X_Row} (hr : X_row j pc = some row) (hp : X_pstep (X_nL j) row ls st = none) (hh : X_hstep sc row st S = none) {O : X_O} (h : X_cstep j row ls st S = some O) : X_step sc j (pc, ls, st, S) = some O := by
  unfold X_step
  simp only [hr, hp, hh, h]
theorem T_get {n idx q ci c k w : Nat} {r fs : List Value} {v : Value} (hr : X_row j pc = some (pc, (.getfield idx, n), (ci, k, w))) (h : S.1 q = .inr (c, fs)) (hc : c = ci) (hv : fs[k]? = some v) (hp : pc + 3 = pc') (kk : X_T sc j (pc', ls, v :: r, S) Q) : X_T sc j (pc, ls, .ref q :: r, S) Q := by
  subst hp
  refine T_h hr rfl ?_ kk
  simp only [X_hstep, h, hc, if_true, hv]
theorem T_put {n idx q ci c k w : Nat} {r fs fs' : List Value} {v : Value} (hr : X_row j pc = some (pc, (.putfield idx, n), (ci, k, w))) (h : S.1 q = .inr (c, fs)) (hc : c = ci) (hl : k < fs.length) (hf : X_fit (X_ty ci k) v = true) (hs : fs.set k v = fs') (hp : pc + 3 = pc')
    (kk : ∀ S' : X_S, S'.1 q = .inr (ci, fs') → (∀ r, r ≠ q → S'.1 r = S.1 r) → S'.2 = S.2 → X_T sc j (pc', ls, r, S') Q) : X_T sc j (pc, ls, v :: .ref q :: r, S) Q := by
  subst hp; subst hc; subst hs
  refine T_h hr rfl (S1 := (X_upd S.1 q (.inr (c, fs.set k v)), S.2)) ?_ (kk _ (by simp [X_upd]) (fun r hr => by simp [X_upd, hr]) rfl)
  simp only [X_hstep, h]
  rw [if_pos ⟨trivial, hl, hf⟩]
theorem T_iald {n q k0 : Nat} {ax : Nat × Nat} {i : Int32} {f : Nat → Int32} {r : List Value} {x : Int32} (hr : X_row j pc = some (pc, (.iaload, n), (0, ax))) (h : S.1 q = .inl (.int, k0, .inl f)) (h0 : ¬ (i < 0 ∨ k0 ≤ i.toNatClampNeg)) (hx : f i.toNatClampNeg = x) (hp : pc + 1 = pc') (kk : X_T sc j (pc', ls, .int x :: r, S) Q) : X_T sc j (pc, ls, .int i :: .ref q :: r, S) Q := by
  subst hp; subst hx
  refine T_h hr rfl ?_ kk
  simp only [X_hstep, if_true, h]
  rw [if_neg h0]
theorem T_sald {n a : Nat} {ax : Nat × Nat} {i : Int32} {r : List Value} {x : Int32} (hr : X_row j pc = some (pc, (.iaload, n), (a + 1, ax))) (h0 : ¬ (i < 0 ∨ sc.1 ≤ i.toNatClampNeg)) (hx : sc.2 i.toNatClampNeg = x) (hp : pc + 1 = pc') (kk : X_T sc j (pc', ls, .int x :: r, S) Q) : X_T sc j (pc, ls, .int i :: .ref 0 :: r, S) Q := by
  subst hp; subst hx
  refine T_h hr rfl ?_ kk
  simp only [X_hstep, Nat.succ_ne_zero, if_false, if_true]
  rw [if_neg h0]
theorem T_slen {n a : Nat} {ax : Nat × Nat} {r : List Value} {x : Int32} (hr : X_row j pc = some (pc, (.arraylength, n), (a + 1, ax))) (hx : Int32.ofNat sc.1 = x) (hp : pc + 1 = pc') (kk : X_T sc j (pc', ls, .int x :: r, S) Q) : X_T sc j (pc, ls, .ref 0 :: r, S) Q := by
  subst hp; subst hx
  refine T_h hr rfl ?_ kk
  simp only [X_hstep]
  rw [if_pos ⟨trivial, Nat.succ_ne_zero _⟩]
theorem T_lald {n q k0 : Nat} {ax : Nat × Nat × Nat} {i : Int32} {f : Nat → Int64} {r : List Value} {x : Int64} (hr : X_row j pc = some (pc, (.laload, n), ax)) (h : S.1 q = .inl (.long, k0, .inr (.inl f))) (h0 : ¬ (i < 0 ∨ k0 ≤ i.toNatClampNeg)) (hx : f i.toNatClampNeg = x) (hp : pc + 1 = pc') (kk : X_T sc j (pc', ls, .long x :: r, S) Q) : X_T sc j (pc, ls, .int i :: .ref q :: r, S) Q := by
  subst hp; subst hx
  refine T_h hr rfl ?_ kk
  simp only [X_hstep, h]
  rw [if_neg h0]
theorem T_bald {n q k0 : Nat} {ax : Nat × Nat × Nat} {i : Int32} {f : Nat → Int32} {r : List Value} {x : Int32} (hr : X_row j pc = some (pc, (.baload, n), ax)) (h : S.1 q = .inl (.byte, k0, .inl f)) (h0 : ¬ (i < 0 ∨ k0 ≤ i.toNatClampNeg)) (hx : f i.toNatClampNeg = x) (hp : pc + 1 = pc') (kk : X_T sc j (pc', ls, .int x :: r, S) Q) : X_T sc j (pc, ls, .int i :: .ref q :: r, S) Q := by
  subst hp; subst hx
  refine T_h hr rfl ?_ kk
  simp only [X_hstep, h]
  rw [if_neg h0]
theorem T_aald {n q k0 : Nat} {ax : Nat × Nat × Nat} {i : Int32} {f : Nat → Option Nat} {r : List Value} {x : Nat} (hr : X_row j pc = some (pc, (.aaload, n), ax)) (h : S.1 q = .inl (.short, k0, .inr (.inr (.inr (.inr f))))) (h0 : ¬ (i < 0 ∨ k0 ≤ i.toNatClampNeg)) (hx : f i.toNatClampNeg = some x) (hp : pc + 1 = pc') (kk : X_T sc j (pc', ls, .ref x :: r, S) Q) : X_T sc j (pc, ls, .int i :: .ref q :: r, S) Q := by
  subst hp
  have kk' : X_T sc j (pc + 1, ls, va_rf (f i.toNatClampNeg) :: r, S) Q := by rw [hx]; exact kk
  refine T_h hr rfl ?_ kk'
  simp only [X_hstep, h]
  rw [if_neg h0]
theorem T_iast {n q k0 : Nat} {ax : Nat × Nat × Nat} {i x : Int32} {f : Nat → Int32} {r : List Value} (hr : X_row j pc = some (pc, (.iastore, n), ax)) (h : S.1 q = .inl (.int, k0, .inl f)) (h0 : ¬ (i < 0 ∨ k0 ≤ i.toNatClampNeg)) (hp : pc + 1 = pc')
    (kk : ∀ S' : X_S, S'.1 q = .inl (.int, k0, .inl (upd f i.toNatClampNeg x)) → (∀ r, r ≠ q → S'.1 r = S.1 r) → S'.2 = S.2 → X_T sc j (pc', ls, r, S') Q) : X_T sc j (pc, ls, .int x :: .int i :: .ref q :: r, S) Q := by
  subst hp
  refine T_h hr rfl (S1 := (X_upd S.1 q (.inl (.int, k0, .inl (upd f i.toNatClampNeg x))), S.2)) ?_ (kk _ (by simp [X_upd]) (fun r hr => by simp [X_upd, hr]) rfl)
  simp only [X_hstep, h]
  rw [if_neg h0]
theorem T_last {n q k0 : Nat} {ax : Nat × Nat × Nat} {i : Int32} {x : Int64} {f : Nat → Int64} {r : List Value} (hr : X_row j pc = some (pc, (.lastore, n), ax)) (h : S.1 q = .inl (.long, k0, .inr (.inl f))) (h0 : ¬ (i < 0 ∨ k0 ≤ i.toNatClampNeg)) (hp : pc + 1 = pc')
    (kk : ∀ S' : X_S, S'.1 q = .inl (.long, k0, .inr (.inl (vp_updL f i.toNatClampNeg x))) → (∀ r, r ≠ q → S'.1 r = S.1 r) → S'.2 = S.2 → X_T sc j (pc', ls, r, S') Q) : X_T sc j (pc, ls, .long x :: .int i :: .ref q :: r, S) Q := by
  subst hp
  refine T_h hr rfl (S1 := (X_upd S.1 q (.inl (.long, k0, .inr (.inl (vp_updL f i.toNatClampNeg x)))), S.2)) ?_ (kk _ (by simp [X_upd]) (fun r hr => by simp [X_upd, hr]) rfl)
  simp only [X_hstep, h]
  rw [if_neg h0]
theorem T_bast {n q k0 : Nat} {ax : Nat × Nat × Nat} {i x : Int32} {f : Nat → Int32} {r : List Value} (hr : X_row j pc = some (pc, (.bastore, n), ax)) (h : S.1 q = .inl (.byte, k0, .inl f)) (h0 : ¬ (i < 0 ∨ k0 ≤ i.toNatClampNeg)) (hp : pc + 1 = pc')
    (kk : ∀ S' : X_S, S'.1 q = .inl (.byte, k0, .inl (upd f i.toNatClampNeg (vp_nar .byte x))) → (∀ r, r ≠ q → S'.1 r = S.1 r) → S'.2 = S.2 → X_T sc j (pc', ls, r, S') Q) : X_T sc j (pc, ls, .int x :: .int i :: .ref q :: r, S) Q := by
  subst hp
  refine T_h hr rfl (S1 := (X_upd S.1 q (.inl (.byte, k0, .inl (upd f i.toNatClampNeg (vp_nar .byte x)))), S.2)) ?_ (kk _ (by simp [X_upd]) (fun r hr => by simp [X_upd, hr]) rfl)
  simp only [X_hstep, h]
  rw [if_neg h0]
/-- calls: the facts of the method that is called are na, ci, nL -/
theorem T_cv {n idx k w na ci nL q : Nat} {as r fs : List Value} (hr : X_row j pc = some (pc, (.invokevirtual idx, n), (k, w, 0))) (hna : X_na k = na) (hci : X_ci k = ci) (hnL : X_nL k = nL) (hpop : X_pop na st = some (as, .ref q :: r)) (h : S.1 q = .inr (ci, fs)) (h8 : (r.map fun v => v.category).sum ≤ 8) (hn : 1 + (as.map fun v => v.category).sum ≤ nL) (hp : pc + 3 = pc') (ha : lv_args 0 (.ref q :: as) = ls')
    (kk : X_T sc k (0, ls', [], S) (fun v S' => X_T sc j (pc', ls, v.toList ++ r, S') Q)) : X_T sc j (pc, ls, st, S) Q := by
  subst hp; subst ha; subst hna; subst hci; subst hnL
  refine T_call (T_c hr rfl rfl ?_) kk
  simp only [X_cstep, hpop, h]
  rw [if_pos ⟨trivial, h8, hn⟩]
theorem T_cs {n idx k w na nL : Nat} {as r : List Value} (hr : X_row j pc = some (pc, (.invokestatic idx, n), (k, w, 0))) (hk : k ≠ 9998) (hna : X_na k = na) (hnL : X_nL k = nL) (hpop : X_pop na st = some (as, r)) (h8 : (r.map fun v => v.category).sum ≤ 8) (hn : (as.map fun v => v.category).sum ≤ nL) (hp : pc + 3 = pc') (ha : lv_args 0 as = ls')
    (kk : X_T sc k (0, ls', [], S) (fun v S' => X_T sc j (pc', ls, v.toList ++ r, S') Q)) : X_T sc j (pc, ls, st, S) Q := by
  subst hp; subst ha; subst hna; subst hnL
  refine T_call (T_c hr rfl ?_ ?_) kk
  · simp only [X_hstep]
    rw [if_neg hk]
  · simp only [X_cstep, hpop]
    rw [if_pos ⟨hk, h8, hn⟩]
theorem T_ci {n idx k w na nL q : Nat} {as r : List Value} (hr : X_row j pc = some (pc, (.invokespecial idx, n), (k, w, 0))) (hk : k ≠ 9999) (hna : X_na k = na) (hnL : X_nL k = nL) (hpop : X_pop na st = some (as, .ref q :: r)) (h8 : (r.map fun v => v.category).sum ≤ 8) (hn : 1 + (as.map fun v => v.category).sum ≤ nL) (hp : pc + 3 = pc') (ha : lv_args 0 (.ref q :: as) = ls')
    (kk : X_T sc k (0, ls', [], S) (fun v S' => X_T sc j (pc', ls, v.toList ++ r, S') Q)) : X_T sc j (pc, ls, st, S) Q := by
  subst hp; subst ha; subst hna; subst hnL
  refine T_call (T_c hr rfl ?_ ?_) kk
  · simp only [X_hstep]
    split
    · rw [if_neg (fun z => hk z.1)]
    · rfl
  · simp only [X_cstep, hpop]
    rw [if_pos ⟨hk, h8, hn⟩]
theorem T_iret {n : Nat} {ax : Nat × Nat × Nat} {x : Int32} {ty : FieldType} (hr : X_row j pc = some (pc, (.ireturn, n), ax)) (ht : X_rt j = some ty) (hf : X_fit ty (.int x) = true) (hq : Q (some (.int x)) S) : X_T sc j (pc, ls, [.int x], S) Q := by
  refine T_ret (T_c hr rfl rfl ?_) hq
  simp only [X_cstep, ht, hf, if_true]
theorem T_lret {n : Nat} {ax : Nat × Nat × Nat} {x : Int64} {ty : FieldType} (hr : X_row j pc = some (pc, (.lreturn, n), ax)) (ht : X_rt j = some ty) (hf : X_fit ty (.long x) = true) (hq : Q (some (.long x)) S) : X_T sc j (pc, ls, [.long x], S) Q := by
  refine T_ret (T_c hr rfl rfl ?_) hq
  simp only [X_cstep, ht, hf, if_true]
theorem T_vret {n : Nat} {ax : Nat × Nat × Nat} (hr : X_row j pc = some (pc, (.return_, n), ax)) (ht : X_rt j = none) (hq : Q none S) : X_T sc j (pc, ls, [], S) Q := by
  refine T_ret (T_c hr rfl rfl ?_) hq
  simp only [X_cstep, ht]
theorem T_obj {n idx q w : Nat} {r : List Value} (hr : X_row j pc = some (pc, (.invokespecial idx, n), (9999, w, 0))) (h8 : (r.map fun v => v.category).sum ≤ 8) (hp : pc + 3 = pc') (k : X_T sc j (pc', ls, r, S) Q) : X_T sc j (pc, ls, .ref q :: r, S) Q := by
  subst hp
  refine T_h hr rfl ?_ k
  simp only [X_hstep]
  rw [if_pos ⟨trivial, h8⟩]
/-- an int on the stack by a name -/
theorem T_nm {x : Int32} {r : List Value} (k : ∀ y : Int32, y = x → X_T sc j (pc, ls, .int y :: r, S) Q) : X_T sc j (pc, ls, .int x :: r, S) Q := k x rfl
theorem T_nml {x : Int64} {r : List Value} (k : ∀ y : Int64, y = x → X_T sc j (pc, ls, .long y :: r, S) Q) : X_T sc j (pc, ls, .long x :: r, S) Q := k x rfl
end X_TR
/-- only the law reads the script -/
theorem X_step_sc {sc sc' : X_Sc} {j : Nat} (hj : j < X_lawlo) (F : X_F) : X_step sc j F = X_step sc' j F := by
  unfold X_step
  cases hr : X_row j F.1 with
  | none => rfl
  | some row =>
    obtain ⟨-, hc⟩ := X_row_chk hr
    have : X_hstep sc row F.2.2.1 F.2.2.2 = X_hstep sc' row F.2.2.1 F.2.2.2 := by
      obtain ⟨pc, ⟨i, n⟩, ax⟩ := row
      cases i with
      | iaload =>
        have h0 : ax.1 = 0 := by
          unfold X_chk at hc
          simp only [Bool.and_eq_true, Bool.or_eq_true, decide_eq_true_eq] at hc
          exact hc.2.resolve_right (by omega)
        simp only [X_hstep, h0, if_true]
      | arraylength =>
        have h0 : ax.1 = 0 := by
          unfold X_chk at hc
          simp only [Bool.and_eq_true, Bool.or_eq_true, decide_eq_true_eq] at hc
          exact hc.2.resolve_right (by omega)
        simp only [X_hstep, h0, ne_eq, not_true_eq_false, and_false, if_false]
      | _ => rfl
    simp only [this]
theorem X_step_to {sc : X_Sc} {j k pc : Nat} {F : X_F} {as : List Value} {ls : X_L} {st : List Value} {S : X_S} (hj : j < X_lawlo) (h : X_step sc j F = some (.inr (.inl (k, as, (pc, ls, st, S))))) : k < X_lawlo := by
  unfold X_step at h
  cases hr : X_row j F.1 with
  | none => rw [hr] at h; cases h
  | some row =>
    rw [hr] at h
    obtain ⟨-, hc⟩ := X_row_chk hr
    simp only at h
    split at h
    · cases h
    · split at h
      · cases h
      · obtain ⟨pc, ⟨i, n⟩, ax⟩ := row
        have key : ∀ idx, X_cw j (X_o j) idx ax = true → ax.1 < X_lawlo := fun idx h => (X_cw_lo h).resolve_left (by omega)
        cases i with
        | invokevirtual idx =>
          have hw : X_cw j (X_o j) idx ax = true := by
            unfold X_chk at hc
            simp only [Bool.and_eq_true] at hc
            exact hc.2.1
          simp only [X_cstep] at h
          repeat' split at h
          all_goals first
            | (cases h; done)
            | (cases h; exact key _ hw)
        | invokespecial idx =>
          simp only [X_cstep] at h
          split at h
          · split at h
            · rename_i h99
              have hw : X_cw j (X_o j) idx ax = true := by
                unfold X_chk at hc
                simp only [Bool.and_eq_true, h99.1, if_false] at hc
                exact hc.2.1
              cases h
              exact key _ hw
            · cases h
          · cases h
        | invokestatic idx =>
          simp only [X_cstep] at h
          split at h
          · split at h
            · rename_i h99
              have hw : X_cw j (X_o j) idx ax = true := by
                unfold X_chk at hc
                simp only [Bool.and_eq_true, h99.1, if_false] at hc
                exact hc.2.1
              cases h
              exact key _ hw
            · cases h
          · cases h
        | _ =>
          simp only [X_cstep] at h
          repeat' split at h
          all_goals cases h
theorem X_run_sc {sc sc' : X_Sc} : ∀ (n j : Nat), j < X_lawlo → ∀ F : X_F, X_run sc n j F = X_run sc' n j F := by
  intro n
  induction n with
  | zero => intro j _ F; rfl
  | succ n ih =>
    intro j hj F
    unfold X_run
    rw [X_step_sc (sc := sc) (sc' := sc') hj F]
    cases hs : X_step sc' j F with
    | none => rfl
    | some O =>
      rcases O with F' | ⟨k, as, pc, ls, st, S⟩ | q
      · exact ih j hj F'
      · have hk := X_step_to hj hs
        simp only
        rw [ih k hk]
        cases X_run sc' n k (0, lv_args 0 as, [], S) with
        | none => rfl
        | some v => exact ih j hj _
      · rfl
theorem T_sc {sc sc' : X_Sc} {j : Nat} {F : X_F} {Q : Option Value → X_S → Prop} (hj : j < X_lawlo) (h : X_T sc j F Q) : X_T sc' j F Q := by
  obtain ⟨n, v, S', h1, h2⟩ := h
  exact ⟨n, v, S', by rw [X_run_sc (sc := sc') (sc' := sc) n j hj F]; exact h1, h2⟩
theorem X_cd_ne (x y : Int32) : X_cd .ne x y = !X_cd .eq x y := by simp [X_cd]
theorem X_cd_ge (x y : Int32) : X_cd .ge x y = !X_cd .lt x y := by
  unfold X_cd
  rw [← decide_not]
  exact decide_eq_decide.mpr Int32.not_lt.symm
theorem X_cd_gt (x y : Int32) : X_cd .gt x y = X_cd .lt y x := rfl
theorem X_cd_le (x y : Int32) : X_cd .le x y = !X_cd .lt y x := by
  unfold X_cd
  rw [← decide_not]
  exact decide_eq_decide.mpr Int32.not_lt.symm
section X_TB
variable {sc : X_Sc} {j : Nat} {Q : Option Value → X_S → Prop} {pc pc' t : Nat} {ls : X_L} {r : List Value} {S : X_S}
theorem T_b1t {cd : Jvm.ClassFile.Cond} {off : Int} {n : Nat} {ax : Nat × Nat × Nat} {x : Int32} (hr : X_row j pc = some (pc, (.ifCond cd off, n), ax)) (hc : X_cd cd x 0 = true) (ht : X_tg pc off = some t) (k : X_T sc j (t, ls, r, S) Q) : X_T sc j (pc, ls, .int x :: r, S) Q := by
  refine T_p hr rfl ?_ k
  simp only [X_pstep, X_br, ht, hc, if_true]
theorem T_b1f {cd : Jvm.ClassFile.Cond} {off : Int} {n : Nat} {ax : Nat × Nat × Nat} {x : Int32} (hr : X_row j pc = some (pc, (.ifCond cd off, n), ax)) (hc : X_cd cd x 0 = false) (ht : X_tg pc off = some t) (hp : pc + 3 = pc') (k : X_T sc j (pc', ls, r, S) Q) : X_T sc j (pc, ls, .int x :: r, S) Q := by
  subst hp
  refine T_p hr rfl ?_ k
  simp only [X_pstep, X_br, ht, hc, Bool.false_eq_true, if_false]
theorem T_b2t {cd : Jvm.ClassFile.Cond} {off : Int} {n : Nat} {ax : Nat × Nat × Nat} {x y : Int32} (hr : X_row j pc = some (pc, (.if_icmp cd off, n), ax)) (hc : X_cd cd x y = true) (ht : X_tg pc off = some t) (k : X_T sc j (t, ls, r, S) Q) : X_T sc j (pc, ls, .int y :: .int x :: r, S) Q := by
  refine T_p hr rfl ?_ k
  simp only [X_pstep, X_br, ht, hc, if_true]
theorem T_b2f {cd : Jvm.ClassFile.Cond} {off : Int} {n : Nat} {ax : Nat × Nat × Nat} {x y : Int32} (hr : X_row j pc = some (pc, (.if_icmp cd off, n), ax)) (hc : X_cd cd x y = false) (ht : X_tg pc off = some t) (hp : pc + 3 = pc') (k : X_T sc j (pc', ls, r, S) Q) : X_T sc j (pc, ls, .int y :: .int x :: r, S) Q := by
  subst hp
  refine T_p hr rfl ?_ k
  simp only [X_pstep, X_br, ht, hc, Bool.false_eq_true, if_false]
theorem T_b1 {cd : Jvm.ClassFile.Cond} {off : Int} {n : Nat} {ax : Nat × Nat × Nat} {x : Int32} (hr : X_row j pc = some (pc, (.ifCond cd off, n), ax)) (ht : X_tg pc off = some t) (hp : pc + 3 = pc') (kt : X_cd cd x 0 = true → X_T sc j (t, ls, r, S) Q) (kf : X_cd cd x 0 = false → X_T sc j (pc', ls, r, S) Q) : X_T sc j (pc, ls, .int x :: r, S) Q := by
  cases h : X_cd cd x 0 with
  | true => exact T_b1t hr h ht (kt h)
  | false => exact T_b1f hr h ht hp (kf h)
theorem T_b2 {cd : Jvm.ClassFile.Cond} {off : Int} {n : Nat} {ax : Nat × Nat × Nat} {x y : Int32} (hr : X_row j pc = some (pc, (.if_icmp cd off, n), ax)) (ht : X_tg pc off = some t) (hp : pc + 3 = pc') (kt : X_cd cd x y = true → X_T sc j (t, ls, r, S) Q) (kf : X_cd cd x y = false → X_T sc j (pc', ls, r, S) Q) : X_T sc j (pc, ls, .int y :: .int x :: r, S) Q := by
  cases h : X_cd cd x y with
  | true => exact T_b2t hr h ht (kt h)
  | false => exact T_b2f hr h ht hp (kf h)
end X_TB
/-! a closed run, by the kernel -/
def X_ob (c : X_Cell) : Option (Nat × List Value) := match c with
  | .inr o => some o
  | .inl _ => none
theorem X_ob_eq {c : X_Cell} {o : Nat × List Value} (h : X_ob c = some o) : c = .inr o := by
  unfold X_ob at h
  split at h <;> cases h
  rfl
/-- a row's sign and length, and its first components -/
def X_sh (c : X_Cell) : Option (FieldType × Nat × Nat) := match c with
  | .inl (t, n, .inl _) => some (t, n, 0)
  | .inl (t, n, .inr (.inl _)) => some (t, n, 1)
  | .inl (t, n, .inr (.inr (.inr (.inr _)))) => some (t, n, 4)
  | _ => none
theorem X_sh_i {c : X_Cell} {t : FieldType} {n : Nat} (h : X_sh c = some (t, n, 0)) : ∃ f, c = .inl (t, n, .inl f) := by
  unfold X_sh at h
  split at h <;> cases h
  exact ⟨_, rfl⟩
theorem X_sh_l {c : X_Cell} {t : FieldType} {n : Nat} (h : X_sh c = some (t, n, 1)) : ∃ f, c = .inl (t, n, .inr (.inl f)) := by
  unfold X_sh at h
  split at h <;> cases h
  exact ⟨_, rfl⟩
theorem X_sh_q {c : X_Cell} {t : FieldType} {n : Nat} (h : X_sh c = some (t, n, 4)) : ∃ f, c = .inl (t, n, .inr (.inr (.inr (.inr f)))) := by
  unfold X_sh at h
  split at h <;> cases h
  exact ⟨_, rfl⟩
/-- an int row's component -/
def X_a0i (c : X_Cell) (i : Nat) : Option Int32 := match c with
  | .inl (_, _, .inl f) => some (f i)
  | _ => none
abbrev X_sc0 : X_Sc := (0, fun _ => 0)
def X_out (o : Option (Option Value × X_S)) : X_S := match o with
  | some r => r.2
  | none => X_S0
theorem X_out_eq {o : Option (Option Value × X_S)} {v : Option Value} {p : Nat × Nat} (h : o.map (fun r => (r.1, r.2.2)) = some (v, p)) : o = some (v, X_out o) ∧ (X_out o).2 = p := by
  cases o with
  | none => cases h
  | some r =>
    obtain ⟨v', S⟩ := r
    cases h
    exact ⟨rfl, rfl⟩
theorem X_lt_tr {a b c : Int32} (h1 : X_cd .lt a c = false) (h2 : X_cd .lt c b = false) : X_cd .lt a b = false := by
  have h1 := of_decide_eq_false h1
  have h2 := of_decide_eq_false h2
  refine decide_eq_false ?_
  rw [Int32.lt_iff_toInt_lt] at *
  omega
