section
/-! runs that end, with what holds at their end -/
theorem X_run_mono {sc : X_Sc} : ∀ (n m j : Nat) (F : X_F) (r : Option Value × X_S), n ≤ m → X_run sc n j F = some r → X_run sc m j F = some r := by
  intro n
  induction n with
  | zero => intro m j F r _ h; cases h
  | succ n ih =>
    intro m j F r hm h
    cases m with
    | zero => omega
    | succ m =>
      unfold X_run at h ⊢
      cases hs : X_step sc j F with
      | none => rw [hs] at h; cases h
      | some O =>
        rw [hs] at h
        rcases O with F' | ⟨k, as, pc, ls, st, S⟩ | q
        · exact ih m j F' r (by omega) h
        · simp only at h ⊢
          cases h1 : X_run sc n k (0, lv_args 0 as, [], S) with
          | none => rw [h1] at h; cases h
          | some v1 =>
            obtain ⟨v, S'⟩ := v1
            rw [h1] at h
            rw [ih m k _ _ (by omega) h1]
            exact ih m j _ r (by omega) h
        · exact h
def X_T (sc : X_Sc) (j : Nat) (F : X_F) (Q : Option Value → X_S → Prop) : Prop := ∃ n v S', X_run sc n j F = some (v, S') ∧ Q v S'
section X_TR
variable {sc : X_Sc} {j : Nat} {F F' : X_F} {Q Q' : Option Value → X_S → Prop} {pc pc' : Nat} {ls ls' : X_L} {st st' : List Value} {S : X_S}
theorem T_go (h : X_step sc j F = some (.inl F')) (k : X_T sc j F' Q) : X_T sc j F Q := by
  obtain ⟨n, v, S', h1, h2⟩ := k
  refine ⟨n + 1, v, S', ?_, h2⟩
  unfold X_run
  rw [h]
  exact h1
theorem T_ret {v : Option Value} (h : X_step sc j F = some (.inr (.inr (v, S)))) (hq : Q v S) : X_T sc j F Q := by
  refine ⟨1, v, S, ?_, hq⟩
  unfold X_run
  rw [h]
theorem T_call {k : Nat} {as : List Value} (h : X_step sc j F = some (.inr (.inl (k, as, (pc, ls, st, S))))) (hk : X_T sc k (0, lv_args 0 as, [], S) (fun v S' => X_T sc j (pc, ls, v.toList ++ st, S') Q)) : X_T sc j F Q := by
  obtain ⟨n, v, S', h1, m, v2, S2, h3, h4⟩ := hk
  refine ⟨(n + m) + 1, v2, S2, ?_, h4⟩
  unfold X_run
  rw [h]
  simp only
  rw [X_run_mono n (n + m) _ _ _ (Nat.le_add_right _ _) h1]
  exact X_run_mono m (n + m) _ _ _ (Nat.le_add_left _ _) h3
theorem T_mono (h : X_T sc j F Q') (hq : ∀ v S', Q' v S' → Q v S') : X_T sc j F Q := by
  obtain ⟨n, v, S', h1, h2⟩ := h
  exact ⟨n, v, S', h1, hq _ _ h2⟩
/-- an instruction that leaves the heap alone -/
theorem T_p {row : X_Row} {nL : Nat} (hr : X_row j pc = some row) (hn : X_nL j = nL) (h : X_pstep nL row ls st = some (pc', ls', st')) (k : X_T sc j (pc', ls', st', S) Q) : X_T sc j (pc, ls, st, S) Q := by
  refine T_go ?_ k
  unfold X_step
  subst hn
  simp only [hr, h]
theorem X_pn_get {nL pc n idx : Nat} {ax : Nat × Nat × Nat} {ls : X_L} {st : List Value} : X_pstep nL (pc, (.getfield idx, n), ax) ls st = none := rfl
theorem T_h {row : X_Row} (hr : X_row j pc = some row) (hp : X_pstep (X_nL j) row ls st = none) {S1 : X_S} (h : X_hstep sc row st S = some (pc', st', S1)) (k : X_T sc j (pc', ls, st', S1) Q) : X_T sc j (pc, ls, st, S) Q := by
  refine T_go ?_ k
  unfold X_step
  simp only [hr, hp, h]
theorem T_c {row : X_Row} (hr : X_row j pc = some row) (hp : X_pstep (X_nL j) row ls st = none) (hh : X_hstep sc row st S = none) {O : X_O} (h : X_cstep j row ls st S = some O) : X_step sc j (pc, ls, st, S) = some O := by
  unfold X_step
  simp only [hr, hp, hh, h]
theorem T_get {n idx q ci c k w : Nat} {r fs : List Value} {v : Value} (hr : X_row j pc = some (pc, (.getfield idx, n), (ci, k, w))) (h : S.1 q = .inr (c, fs)) (hc : c = ci) (hv : fs[k]? = some v) (hp : pc + 3 = pc') (kk : X_T sc j (pc', ls, v :: r, S) Q) : X_T sc j (pc, ls, .ref q :: r, S) Q := by
  subst hp
  refine T_h hr rfl ?_ kk
  simp only [X_hstep, h, hc, if_true, hv]
theorem T_put {n idx q ci c k w : Nat} {r fs fs' : List Value} {v : Value} (hr : X_row j pc = some (pc, (.putfield idx, n), (ci, k, w))) (h : S.1 q = .inr (c, fs)) (hc : c = ci) (hl : k < fs.length) (hf : X_fit (X_ty ci k) v = true) (hs : fs.set k v = fs') (hp : pc + 3 = pc')
    (kk : ∀ S' : X_S, S'.1 q = .inr (ci, fs') → (∀ r, r ≠ q → S'.1 r = S.1 r) → S'.2 = S.2 → X_T sc j (pc', ls, r, S') Q) : X_T sc j (pc, ls, v :: .ref q :: r, S) Q := by
  subst hp; subst hc; subst hs
  refine T_h hr rfl (S1 := (X_upd S.1 q (.inr (c, fs.set k v)), S.2)) ?_ (kk _ (by simp [X_upd]) (fun r hr => by simp [X_upd, hr]) rfl)
  simp only [X_hstep, h]
  rw [if_pos ⟨trivial, hl, hf⟩]
theorem T_iald {n q k0 : Nat} {ax : Nat × Nat} {i : Int32} {f : Nat → Int32} {r : List Value} {x : Int32} (hr : X_row j pc = some (pc, (.iaload, n), (0, ax))) (h : S.1 q = .inl (.int, k0, .inl f)) (h0 : ¬ (i < 0 ∨ k0 ≤ i.toNatClampNeg)) (hx : f i.toNatClampNeg = x) (hp : pc + 1 = pc') (kk : X_T sc j (pc', ls, .int x :: r, S) Q) : X_T sc j (pc, ls, .int i :: .ref q :: r, S) Q := by
  subst hp; subst hx
  refine T_h hr rfl ?_ kk
  simp only [X_hstep, if_true, h]
  rw [if_neg h0]
theorem T_sald {n a : Nat} {ax : Nat × Nat} {i : Int32} {r : List Value} {x : Int32} (hr : X_row j pc = some (pc, (.iaload, n), (a + 1, ax))) (h0 : ¬ (i < 0 ∨ sc.1 ≤ i.toNatClampNeg)) (hx : sc.2 i.toNatClampNeg = x) (hp : pc + 1 = pc') (kk : X_T sc j (pc', ls, .int x :: r, S) Q) : X_T sc j (pc, ls, .int i :: .ref 0 :: r, S) Q := by
  subst hp; subst hx
  refine T_h hr rfl ?_ kk
  simp only [X_hstep, Nat.succ_ne_zero, if_false, if_true]
  rw [if_neg h0]
theorem T_slen {n a : Nat} {ax : Nat × Nat} {r : List Value} {x : Int32} (hr : X_row j pc = some (pc, (.arraylength, n), (a + 1, ax))) (hx : Int32.ofNat sc.1 = x) (hp : pc + 1 = pc') (kk : X_T sc j (pc', ls, .int x :: r, S) Q) : X_T sc j (pc, ls, .ref 0 :: r, S) Q := by
  subst hp; subst hx
  refine T_h hr rfl ?_ kk
  simp only [X_hstep]
  rw [if_pos ⟨trivial, Nat.succ_ne_zero _⟩]
theorem T_lald {n q k0 : Nat} {ax : Nat × Nat × Nat} {i : Int32} {f : Nat → Int64} {r : List Value} {x : Int64} (hr : X_row j pc = some (pc, (.laload, n), ax)) (h : S.1 q = .inl (.long, k0, .inr (.inl f))) (h0 : ¬ (i < 0 ∨ k0 ≤ i.toNatClampNeg)) (hx : f i.toNatClampNeg = x) (hp : pc + 1 = pc') (kk : X_T sc j (pc', ls, .long x :: r, S) Q) : X_T sc j (pc, ls, .int i :: .ref q :: r, S) Q := by
  subst hp; subst hx
  refine T_h hr rfl ?_ kk
  simp only [X_hstep, h]
  rw [if_neg h0]
theorem T_bald {n q k0 : Nat} {ax : Nat × Nat × Nat} {i : Int32} {f : Nat → Int32} {r : List Value} {x : Int32} (hr : X_row j pc = some (pc, (.baload, n), ax)) (h : S.1 q = .inl (.byte, k0, .inl f)) (h0 : ¬ (i < 0 ∨ k0 ≤ i.toNatClampNeg)) (hx : f i.toNatClampNeg = x) (hp : pc + 1 = pc') (kk : X_T sc j (pc', ls, .int x :: r, S) Q) : X_T sc j (pc, ls, .int i :: .ref q :: r, S) Q := by
  subst hp; subst hx
  refine T_h hr rfl ?_ kk
  simp only [X_hstep, h]
  rw [if_neg h0]
theorem T_zald {n q k0 : Nat} {ax : Nat × Nat × Nat} {i : Int32} {f : Nat → Int32} {r : List Value} {x : Int32} (hr : X_row j pc = some (pc, (.baload, n), ax)) (h : S.1 q = .inl (.boolean, k0, .inl f)) (h0 : ¬ (i < 0 ∨ k0 ≤ i.toNatClampNeg)) (hx : f i.toNatClampNeg = x) (hp : pc + 1 = pc') (kk : X_T sc j (pc', ls, .int x :: r, S) Q) : X_T sc j (pc, ls, .int i :: .ref q :: r, S) Q := by
  subst hp; subst hx
  refine T_h hr rfl ?_ kk
  simp only [X_hstep, h]
  rw [if_neg h0]
theorem T_aald {n q k0 : Nat} {ax : Nat × Nat × Nat} {i : Int32} {f : Nat → Option Nat} {r : List Value} {x : Nat} (hr : X_row j pc = some (pc, (.aaload, n), ax)) (h : S.1 q = .inl (.short, k0, .inr (.inr (.inr (.inr f))))) (h0 : ¬ (i < 0 ∨ k0 ≤ i.toNatClampNeg)) (hx : f i.toNatClampNeg = some x) (hp : pc + 1 = pc') (kk : X_T sc j (pc', ls, .ref x :: r, S) Q) : X_T sc j (pc, ls, .int i :: .ref q :: r, S) Q := by
  subst hp
  have kk' : X_T sc j (pc + 1, ls, va_rf (f i.toNatClampNeg) :: r, S) Q := by rw [hx]; exact kk
  refine T_h hr rfl ?_ kk'
  simp only [X_hstep, h]
  rw [if_neg h0]
theorem T_iast {n q k0 : Nat} {ax : Nat × Nat × Nat} {i x : Int32} {f : Nat → Int32} {r : List Value} (hr : X_row j pc = some (pc, (.iastore, n), ax)) (h : S.1 q = .inl (.int, k0, .inl f)) (h0 : ¬ (i < 0 ∨ k0 ≤ i.toNatClampNeg)) (hp : pc + 1 = pc')
    (kk : ∀ S' : X_S, S'.1 q = .inl (.int, k0, .inl (upd f i.toNatClampNeg x)) → (∀ r, r ≠ q → S'.1 r = S.1 r) → S'.2 = S.2 → X_T sc j (pc', ls, r, S') Q) : X_T sc j (pc, ls, .int x :: .int i :: .ref q :: r, S) Q := by
  subst hp
  refine T_h hr rfl (S1 := (X_upd S.1 q (.inl (.int, k0, .inl (upd f i.toNatClampNeg x))), S.2)) ?_ (kk _ (by simp [X_upd]) (fun r hr => by simp [X_upd, hr]) rfl)
  simp only [X_hstep, h]
  rw [if_neg h0]
theorem T_last {n q k0 : Nat} {ax : Nat × Nat × Nat} {i : Int32} {x : Int64} {f : Nat → Int64} {r : List Value} (hr : X_row j pc = some (pc, (.lastore, n), ax)) (h : S.1 q = .inl (.long, k0, .inr (.inl f))) (h0 : ¬ (i < 0 ∨ k0 ≤ i.toNatClampNeg)) (hp : pc + 1 = pc')
    (kk : ∀ S' : X_S, S'.1 q = .inl (.long, k0, .inr (.inl (vp_updL f i.toNatClampNeg x))) → (∀ r, r ≠ q → S'.1 r = S.1 r) → S'.2 = S.2 → X_T sc j (pc', ls, r, S') Q) : X_T sc j (pc, ls, .long x :: .int i :: .ref q :: r, S) Q := by
  subst hp
  refine T_h hr rfl (S1 := (X_upd S.1 q (.inl (.long, k0, .inr (.inl (vp_updL f i.toNatClampNeg x)))), S.2)) ?_ (kk _ (by simp [X_upd]) (fun r hr => by simp [X_upd, hr]) rfl)
  simp only [X_hstep, h]
  rw [if_neg h0]
theorem T_bast {n q k0 : Nat} {ax : Nat × Nat × Nat} {i x : Int32} {f : Nat → Int32} {r : List Value} (hr : X_row j pc = some (pc, (.bastore, n), ax)) (h : S.1 q = .inl (.byte, k0, .inl f)) (h0 : ¬ (i < 0 ∨ k0 ≤ i.toNatClampNeg)) (hp : pc + 1 = pc')
    (kk : ∀ S' : X_S, S'.1 q = .inl (.byte, k0, .inl (upd f i.toNatClampNeg (vp_nar .byte x))) → (∀ r, r ≠ q → S'.1 r = S.1 r) → S'.2 = S.2 → X_T sc j (pc', ls, r, S') Q) : X_T sc j (pc, ls, .int x :: .int i :: .ref q :: r, S) Q := by
  subst hp
  refine T_h hr rfl (S1 := (X_upd S.1 q (.inl (.byte, k0, .inl (upd f i.toNatClampNeg (vp_nar .byte x)))), S.2)) ?_ (kk _ (by simp [X_upd]) (fun r hr => by simp [X_upd, hr]) rfl)
  simp only [X_hstep, h]
  rw [if_neg h0]
theorem T_zast {n q k0 : Nat} {ax : Nat × Nat × Nat} {i x : Int32} {f : Nat → Int32} {r : List Value} (hr : X_row j pc = some (pc, (.bastore, n), ax)) (h : S.1 q = .inl (.boolean, k0, .inl f)) (h0 : ¬ (i < 0 ∨ k0 ≤ i.toNatClampNeg)) (hp : pc + 1 = pc')
    (kk : ∀ S' : X_S, S'.1 q = .inl (.boolean, k0, .inl (upd f i.toNatClampNeg (vp_nar .boolean x))) → (∀ r, r ≠ q → S'.1 r = S.1 r) → S'.2 = S.2 → X_T sc j (pc', ls, r, S') Q) : X_T sc j (pc, ls, .int x :: .int i :: .ref q :: r, S) Q := by
  subst hp
  refine T_h hr rfl (S1 := (X_upd S.1 q (.inl (.boolean, k0, .inl (upd f i.toNatClampNeg (vp_nar .boolean x)))), S.2)) ?_ (kk _ (by simp [X_upd]) (fun r hr => by simp [X_upd, hr]) rfl)
  simp only [X_hstep, h]
  rw [if_neg h0]
/-- calls: the facts of the method that is called are na, ci, nL -/
theorem T_cv {n idx k w na ci nL q : Nat} {as r fs : List Value} (hr : X_row j pc = some (pc, (.invokevirtual idx, n), (k, w, 0))) (hna : X_na k = na) (hci : X_ci k = ci) (hnL : X_nL k = nL) (hpop : X_pop na st = some (as, .ref q :: r)) (h : S.1 q = .inr (ci, fs)) (h8 : (r.map fun v => v.category).sum ≤ 8) (hn : 1 + (as.map fun v => v.category).sum ≤ nL) (hp : pc + 3 = pc') (ha : lv_args 0 (.ref q :: as) = ls')
    (kk : X_T sc k (0, ls', [], S) (fun v S' => X_T sc j (pc', ls, v.toList ++ r, S') Q)) : X_T sc j (pc, ls, st, S) Q := by
  subst hp; subst ha; subst hna; subst hci; subst hnL
  refine T_call (T_c hr rfl rfl ?_) kk
  simp only [X_cstep, hpop, h]
  rw [if_pos ⟨trivial, h8, hn⟩]
theorem T_cs {n idx k w na nL : Nat} {as r : List Value} (hr : X_row j pc = some (pc, (.invokestatic idx, n), (k, w, 0))) (hk : k ≠ 9998) (hna : X_na k = na) (hnL : X_nL k = nL) (hpop : X_pop na st = some (as, r)) (h8 : (r.map fun v => v.category).sum ≤ 8) (hn : (as.map fun v => v.category).sum ≤ nL) (hp : pc + 3 = pc') (ha : lv_args 0 as = ls')
    (kk : X_T sc k (0, ls', [], S) (fun v S' => X_T sc j (pc', ls, v.toList ++ r, S') Q)) : X_T sc j (pc, ls, st, S) Q := by
  subst hp; subst ha; subst hna; subst hnL
  refine T_call (T_c hr rfl ?_ ?_) kk
  · simp only [X_hstep]
    rw [if_neg hk]
  · simp only [X_cstep, hpop]
    rw [if_pos ⟨hk, h8, hn⟩]
theorem T_ci {n idx k w na nL q : Nat} {as r : List Value} (hr : X_row j pc = some (pc, (.invokespecial idx, n), (k, w, 0))) (hk : k ≠ 9999) (hna : X_na k = na) (hnL : X_nL k = nL) (hpop : X_pop na st = some (as, .ref q :: r)) (h8 : (r.map fun v => v.category).sum ≤ 8) (hn : 1 + (as.map fun v => v.category).sum ≤ nL) (hp : pc + 3 = pc') (ha : lv_args 0 (.ref q :: as) = ls')
    (kk : X_T sc k (0, ls', [], S) (fun v S' => X_T sc j (pc', ls, v.toList ++ r, S') Q)) : X_T sc j (pc, ls, st, S) Q := by
  subst hp; subst ha; subst hna; subst hnL
  refine T_call (T_c hr rfl ?_ ?_) kk
  · simp only [X_hstep]
    split
    · rw [if_neg (fun z => hk z.1)]
    · rfl
  · simp only [X_cstep, hpop]
    rw [if_pos ⟨hk, h8, hn⟩]
theorem T_iret {n : Nat} {ax : Nat × Nat × Nat} {x : Int32} {ty : FieldType} (hr : X_row j pc = some (pc, (.ireturn, n), ax)) (ht : X_rt j = some ty) (hf : X_fit ty (.int x) = true) (hq : Q (some (.int x)) S) : X_T sc j (pc, ls, [.int x], S) Q := by
  refine T_ret (T_c hr rfl rfl ?_) hq
  simp only [X_cstep, ht, hf, if_true]
theorem T_lret {n : Nat} {ax : Nat × Nat × Nat} {x : Int64} {ty : FieldType} (hr : X_row j pc = some (pc, (.lreturn, n), ax)) (ht : X_rt j = some ty) (hf : X_fit ty (.long x) = true) (hq : Q (some (.long x)) S) : X_T sc j (pc, ls, [.long x], S) Q := by
  refine T_ret (T_c hr rfl rfl ?_) hq
  simp only [X_cstep, ht, hf, if_true]
theorem T_vret {n : Nat} {ax : Nat × Nat × Nat} (hr : X_row j pc = some (pc, (.return_, n), ax)) (ht : X_rt j = none) (hq : Q none S) : X_T sc j (pc, ls, [], S) Q := by
  refine T_ret (T_c hr rfl rfl ?_) hq
  simp only [X_cstep, ht]
theorem T_obj {n idx q w : Nat} {r : List Value} (hr : X_row j pc = some (pc, (.invokespecial idx, n), (9999, w, 0))) (h8 : (r.map fun v => v.category).sum ≤ 8) (hp : pc + 3 = pc') (k : X_T sc j (pc', ls, r, S) Q) : X_T sc j (pc, ls, .ref q :: r, S) Q := by
  subst hp
  refine T_h hr rfl ?_ k
  simp only [X_hstep]
  rw [if_pos ⟨trivial, h8⟩]
/-- an int on the stack by a name -/
theorem T_nm {x : Int32} {r : List Value} (k : ∀ y : Int32, y = x → X_T sc j (pc, ls, .int y :: r, S) Q) : X_T sc j (pc, ls, .int x :: r, S) Q := k x rfl
theorem T_nml {x : Int64} {r : List Value} (k : ∀ y : Int64, y = x → X_T sc j (pc, ls, .long y :: r, S) Q) : X_T sc j (pc, ls, .long x :: r, S) Q := k x rfl
end X_TR
/-- only the law reads the script -/
theorem X_step_sc {sc sc' : X_Sc} {j : Nat} (hj : j ≠ X_lawj) (F : X_F) : X_step sc j F = X_step sc' j F := by
  unfold X_step
  cases hr : X_row j F.1 with
  | none => rfl
  | some row =>
    obtain ⟨-, hc⟩ := X_row_chk hr
    have : X_hstep sc row F.2.2.1 F.2.2.2 = X_hstep sc' row F.2.2.1 F.2.2.2 := by
      obtain ⟨pc, ⟨i, n⟩, ax⟩ := row
      cases i with
      | iaload =>
        have h0 : ax.1 = 0 := by
          unfold X_chk at hc
          simp only [Bool.and_eq_true, Bool.or_eq_true, decide_eq_true_eq] at hc
          exact hc.2.resolve_right hj
        simp only [X_hstep, h0, if_true]
      | arraylength =>
        have h0 : ax.1 = 0 := by
          unfold X_chk at hc
          simp only [Bool.and_eq_true, Bool.or_eq_true, decide_eq_true_eq] at hc
          exact hc.2.resolve_right hj
        simp only [X_hstep, h0, ne_eq, not_true_eq_false, and_false, if_false]
      | _ => rfl
    simp only [this]
theorem X_step_to {sc : X_Sc} {j k pc : Nat} {F : X_F} {as : List Value} {ls : X_L} {st : List Value} {S : X_S} (h : X_step sc j F = some (.inr (.inl (k, as, (pc, ls, st, S))))) : k < X_lawj := by
  unfold X_step at h
  cases hr : X_row j F.1 with
  | none => rw [hr] at h; cases h
  | some row =>
    rw [hr] at h
    obtain ⟨-, hc⟩ := X_row_chk hr
    simp only at h
    split at h
    · cases h
    · split at h
      · cases h
      · obtain ⟨pc, ⟨i, n⟩, ax⟩ := row
        have key : ∀ idx, X_cw j (X_o j) idx ax = true → ax.1 < X_lawj := fun idx h => (X_cw_spec h).2.2.2.1
        cases i with
        | invokevirtual idx =>
          have hw : X_cw j (X_o j) idx ax = true := by
            unfold X_chk at hc
            simp only [Bool.and_eq_true] at hc
            exact hc.2.1
          simp only [X_cstep] at h
          repeat' split at h
          all_goals first
            | (cases h; done)
            | (cases h; exact key _ hw)
        | invokespecial idx =>
          simp only [X_cstep] at h
          split at h
          · split at h
            · rename_i h99
              have hw : X_cw j (X_o j) idx ax = true := by
                unfold X_chk at hc
                simp only [Bool.and_eq_true, h99.1, if_false] at hc
                exact hc.2.1
              cases h
              exact key _ hw
            · cases h
          · cases h
        | invokestatic idx =>
          simp only [X_cstep] at h
          split at h
          · split at h
            · rename_i h99
              have hw : X_cw j (X_o j) idx ax = true := by
                unfold X_chk at hc
                simp only [Bool.and_eq_true, h99.1, if_false] at hc
                exact hc.2.1
              cases h
              exact key _ hw
            · cases h
          · cases h
        | _ =>
          simp only [X_cstep] at h
          repeat' split at h
          all_goals cases h
theorem X_run_sc {sc sc' : X_Sc} : ∀ (n j : Nat), j ≠ X_lawj → ∀ F : X_F, X_run sc n j F = X_run sc' n j F := by
  intro n
  induction n with
  | zero => intro j _ F; rfl
  | succ n ih =>
    intro j hj F
    unfold X_run
    rw [X_step_sc (sc := sc) (sc' := sc') hj F]
    cases hs : X_step sc' j F with
    | none => rfl
    | some O =>
      rcases O with F' | ⟨k, as, pc, ls, st, S⟩ | q
      · exact ih j hj F'
      · have hk := X_step_to hs
        simp only
        rw [ih k (Nat.ne_of_lt hk)]
        cases X_run sc' n k (0, lv_args 0 as, [], S) with
        | none => rfl
        | some v => exact ih j hj _
      · rfl
theorem T_sc {sc sc' : X_Sc} {j : Nat} {F : X_F} {Q : Option Value → X_S → Prop} (hj : j ≠ X_lawj) (h : X_T sc j F Q) : X_T sc' j F Q := by
  obtain ⟨n, v, S', h1, h2⟩ := h
  exact ⟨n, v, S', by rw [X_run_sc (sc := sc') (sc' := sc) n j hj F]; exact h1, h2⟩
theorem X_cd_ne (x y : Int32) : X_cd .ne x y = !X_cd .eq x y := by simp [X_cd]
theorem X_cd_ge (x y : Int32) : X_cd .ge x y = !X_cd .lt x y := by
  unfold X_cd
  rw [← decide_not]
  exact decide_eq_decide.mpr Int32.not_lt.symm
theorem X_cd_gt (x y : Int32) : X_cd .gt x y = X_cd .lt y x := rfl
theorem X_cd_le (x y : Int32) : X_cd .le x y = !X_cd .lt y x := by
  unfold X_cd
  rw [← decide_not]
  exact decide_eq_decide.mpr Int32.not_lt.symm
section X_TB
variable {sc : X_Sc} {j : Nat} {Q : Option Value → X_S → Prop} {pc pc' t : Nat} {ls : X_L} {r : List Value} {S : X_S}
theorem T_b1t {cd : Jvm.ClassFile.Cond} {off : Int} {n : Nat} {ax : Nat × Nat × Nat} {x : Int32} (hr : X_row j pc = some (pc, (.ifCond cd off, n), ax)) (hc : X_cd cd x 0 = true) (ht : X_tg pc off = some t) (k : X_T sc j (t, ls, r, S) Q) : X_T sc j (pc, ls, .int x :: r, S) Q := by
  refine T_p hr rfl ?_ k
  simp only [X_pstep, X_br, ht, hc, if_true]
theorem T_b1f {cd : Jvm.ClassFile.Cond} {off : Int} {n : Nat} {ax : Nat × Nat × Nat} {x : Int32} (hr : X_row j pc = some (pc, (.ifCond cd off, n), ax)) (hc : X_cd cd x 0 = false) (ht : X_tg pc off = some t) (hp : pc + 3 = pc') (k : X_T sc j (pc', ls, r, S) Q) : X_T sc j (pc, ls, .int x :: r, S) Q := by
  subst hp
  refine T_p hr rfl ?_ k
  simp only [X_pstep, X_br, ht, hc, Bool.false_eq_true, if_false]
theorem T_b2t {cd : Jvm.ClassFile.Cond} {off : Int} {n : Nat} {ax : Nat × Nat × Nat} {x y : Int32} (hr : X_row j pc = some (pc, (.if_icmp cd off, n), ax)) (hc : X_cd cd x y = true) (ht : X_tg pc off = some t) (k : X_T sc j (t, ls, r, S) Q) : X_T sc j (pc, ls, .int y :: .int x :: r, S) Q := by
  refine T_p hr rfl ?_ k
  simp only [X_pstep, X_br, ht, hc, if_true]
theorem T_b2f {cd : Jvm.ClassFile.Cond} {off : Int} {n : Nat} {ax : Nat × Nat × Nat} {x y : Int32} (hr : X_row j pc = some (pc, (.if_icmp cd off, n), ax)) (hc : X_cd cd x y = false) (ht : X_tg pc off = some t) (hp : pc + 3 = pc') (k : X_T sc j (pc', ls, r, S) Q) : X_T sc j (pc, ls, .int y :: .int x :: r, S) Q := by
  subst hp
  refine T_p hr rfl ?_ k
  simp only [X_pstep, X_br, ht, hc, Bool.false_eq_true, if_false]
theorem T_b1 {cd : Jvm.ClassFile.Cond} {off : Int} {n : Nat} {ax : Nat × Nat × Nat} {x : Int32} (hr : X_row j pc = some (pc, (.ifCond cd off, n), ax)) (ht : X_tg pc off = some t) (hp : pc + 3 = pc') (kt : X_cd cd x 0 = true → X_T sc j (t, ls, r, S) Q) (kf : X_cd cd x 0 = false → X_T sc j (pc', ls, r, S) Q) : X_T sc j (pc, ls, .int x :: r, S) Q := by
  cases h : X_cd cd x 0 with
  | true => exact T_b1t hr h ht (kt h)
  | false => exact T_b1f hr h ht hp (kf h)
theorem T_b2 {cd : Jvm.ClassFile.Cond} {off : Int} {n : Nat} {ax : Nat × Nat × Nat} {x y : Int32} (hr : X_row j pc = some (pc, (.if_icmp cd off, n), ax)) (ht : X_tg pc off = some t) (hp : pc + 3 = pc') (kt : X_cd cd x y = true → X_T sc j (t, ls, r, S) Q) (kf : X_cd cd x y = false → X_T sc j (pc', ls, r, S) Q) : X_T sc j (pc, ls, .int y :: .int x :: r, S) Q := by
  cases h : X_cd cd x y with
  | true => exact T_b2t hr h ht (kt h)
  | false => exact T_b2f hr h ht hp (kf h)
end X_TB
/-! a closed run, by the kernel -/
def X_ob (c : X_Cell) : Option (Nat × List Value) := match c with
  | .inr o => some o
  | .inl _ => none
theorem X_ob_eq {c : X_Cell} {o : Nat × List Value} (h : X_ob c = some o) : c = .inr o := by
  unfold X_ob at h
  split at h <;> cases h
  rfl
/-- a row's sign and length, and its first components -/
def X_sh (c : X_Cell) : Option (FieldType × Nat × Nat) := match c with
  | .inl (t, n, .inl _) => some (t, n, 0)
  | .inl (t, n, .inr (.inl _)) => some (t, n, 1)
  | .inl (t, n, .inr (.inr (.inr (.inr _)))) => some (t, n, 4)
  | _ => none
theorem X_sh_i {c : X_Cell} {t : FieldType} {n : Nat} (h : X_sh c = some (t, n, 0)) : ∃ f, c = .inl (t, n, .inl f) := by
  unfold X_sh at h
  split at h <;> cases h
  exact ⟨_, rfl⟩
theorem X_sh_l {c : X_Cell} {t : FieldType} {n : Nat} (h : X_sh c = some (t, n, 1)) : ∃ f, c = .inl (t, n, .inr (.inl f)) := by
  unfold X_sh at h
  split at h <;> cases h
  exact ⟨_, rfl⟩
theorem X_sh_q {c : X_Cell} {t : FieldType} {n : Nat} (h : X_sh c = some (t, n, 4)) : ∃ f, c = .inl (t, n, .inr (.inr (.inr (.inr f)))) := by
  unfold X_sh at h
  split at h <;> cases h
  exact ⟨_, rfl⟩
/-- an int row's component -/
def X_a0i (c : X_Cell) (i : Nat) : Option Int32 := match c with
  | .inl (_, _, .inl f) => some (f i)
  | _ => none
abbrev X_sc0 : X_Sc := (0, fun _ => 0)
def X_out (o : Option (Option Value × X_S)) : X_S := match o with
  | some r => r.2
  | none => X_S0
theorem X_out_eq {o : Option (Option Value × X_S)} {v : Option Value} {p : Nat × Nat} (h : o.map (fun r => (r.1, r.2.2)) = some (v, p)) : o = some (v, X_out o) ∧ (X_out o).2 = p := by
  cases o with
  | none => cases h
  | some r =>
    obtain ⟨v', S⟩ := r
    cases h
    exact ⟨rfl, rfl⟩
theorem X_lt_tr {a b c : Int32} (h1 : X_cd .lt a c = false) (h2 : X_cd .lt c b = false) : X_cd .lt a b = false := by
  have h1 := of_decide_eq_false h1
  have h2 := of_decide_eq_false h2
  refine decide_eq_false ?_
  rw [Int32.lt_iff_toInt_lt] at *
  omega
end
section
/-! walks in whole numbers: an int is iI z -/
abbrev iI (z : Int) : Int32 := Int32.ofInt z
abbrev iL (z : Int) : Int64 := Int64.ofInt z
theorem iI_t {a : Int} (h1 : -2147483648 ≤ a) (h2 : a ≤ 2147483647) : (iI a).toInt = a := Int32.toInt_ofInt_of_le (by omega) (by omega)
theorem iL_t {a : Int} (h1 : -9223372036854775808 ≤ a) (h2 : a ≤ 9223372036854775807) : (iL a).toInt = a := Int64.toInt_ofInt_of_le (by omega) (by omega)
theorem iI_lt {a b : Int} (h1 : -2147483648 ≤ a) (h2 : a ≤ 2147483647) (h3 : -2147483648 ≤ b) (h4 : b ≤ 2147483647) : iI a < iI b ↔ a < b := by
  rw [Int32.lt_iff_toInt_lt, iI_t h1 h2, iI_t h3 h4]
theorem iI_le {a b : Int} (h1 : -2147483648 ≤ a) (h2 : a ≤ 2147483647) (h3 : -2147483648 ≤ b) (h4 : b ≤ 2147483647) : iI a ≤ iI b ↔ a ≤ b := by
  rw [Int32.le_iff_toInt_le, iI_t h1 h2, iI_t h3 h4]
theorem iI_eq {a b : Int} (h1 : -2147483648 ≤ a) (h2 : a ≤ 2147483647) (h3 : -2147483648 ≤ b) (h4 : b ≤ 2147483647) : iI a = iI b ↔ a = b := by
  rw [← Int32.toInt_inj, iI_t h1 h2, iI_t h3 h4]
theorem iI_of (x : Int32) : x = iI x.toInt := (Int32.ofInt_toInt x).symm
theorem iI_rng (x : Int32) : -2147483648 ≤ x.toInt ∧ x.toInt ≤ 2147483647 := by
  have h1 := Int32.le_toInt x
  have h2 := Int32.toInt_lt x
  omega
theorem iI_nat {z : Int} (h1 : 0 ≤ z) (h2 : z ≤ 2147483647) : (iI z).toNatClampNeg = z.toNat := by
  show (iI z).toInt.toNat = z.toNat
  rw [iI_t (by omega) h2]
theorem iI_in {z : Int} {n : Nat} (h1 : 0 ≤ z) (h2 : z < (n : Int)) (h3 : n ≤ 2147483647) : ¬ (iI z < 0 ∨ n ≤ (iI z).toNatClampNeg) := by
  rw [iI_nat h1 (by omega)]
  have e : (0 : Int32) = iI 0 := rfl
  rw [e, iI_lt (by omega) (by omega) (by omega) (by omega)]
  omega
/-- a row's contents, told by whole numbers -/
def X_ug {α : Type} (g : Int → α) (z : Int) (x : α) : Int → α := fun k => if k = z then x else g k
theorem X_ug_s {α : Type} (g : Int → α) (z : Int) (x : α) : X_ug g z x z = x := by simp [X_ug]
theorem X_ug_n {α : Type} (g : Int → α) {z k : Int} (x : α) (h : k ≠ z) : X_ug g z x k = g k := by simp [X_ug, h]
theorem X_ug_i {g : Int → Int} {z x : Int} (h1 : 0 ≤ z) (h2 : z ≤ 2147483647) : upd (fun k : Nat => iI (g (k : Int))) (iI z).toNatClampNeg (iI x) = fun k : Nat => iI (X_ug g z x (k : Int)) := by
  rw [iI_nat h1 h2]
  funext k
  unfold upd X_ug
  by_cases h : k = z.toNat
  · rw [if_pos h, if_pos (by omega)]
  · rw [if_neg h, if_neg (by omega)]
theorem X_ug_l {g : Int → Int64} {z : Int} {x : Int64} (h1 : 0 ≤ z) (h2 : z ≤ 2147483647) : vp_updL (fun k : Nat => g (k : Int)) (iI z).toNatClampNeg x = fun k : Nat => X_ug g z x (k : Int) := by
  rw [iI_nat h1 h2]
  funext k
  unfold vp_updL X_ug
  by_cases h : k = z.toNat
  · rw [if_pos h, if_pos (by omega)]
  · rw [if_neg h, if_neg (by omega)]
/-- any row's contents are so told -/
theorem X_ri (f : Nat → Int32) : f = fun k : Nat => iI ((fun z : Int => (f z.toNat).toInt) (k : Int)) := by
  funext k
  show f k = iI (f (k : Int).toNat).toInt
  rw [Int.toNat_natCast]
  exact iI_of _
theorem X_rl (f : Nat → Int64) : f = fun k : Nat => (fun z : Int => f z.toNat) (k : Int) := by
  funext k
  show f k = f (k : Int).toNat
  rw [Int.toNat_natCast]
section X_T2
variable {sc : X_Sc} {j : Nat} {Q : Option Value → X_S → Prop} {pc pc' t : Nat} {ls ls' : X_L} {r st : List Value} {S : X_S}
theorem T_ie {x y : Int32} (h : x = y) (k : X_T sc j (pc, ls, .int y :: r, S) Q) : X_T sc j (pc, ls, .int x :: r, S) Q := by subst h; exact k
theorem T_le {x y : Int64} (h : x = y) (k : X_T sc j (pc, ls, .long y :: r, S) Q) : X_T sc j (pc, ls, .long x :: r, S) Q := by subst h; exact k
theorem T_zc {row : X_Row} {z : Int} (hr : X_row j pc = some row) (h : X_pstep 0 row ls st = some (pc', ls, .int (iI z) :: st)) (k : X_T sc j (pc', ls, .int (iI z) :: st, S) Q) : X_T sc j (pc, ls, st, S) Q := by
  obtain ⟨pp, ⟨i, n⟩, ax⟩ := row
  refine T_p hr rfl (ls' := ls) (st' := .int (iI z) :: st) ?_ k
  cases i <;> first
    | exact h
    | (simp only [X_pstep, X_si_, X_sl_, X_sa_, Nat.not_lt_zero, if_false] at h; repeat' split at h; all_goals (first | cases h | skip))

theorem T_ziadd {n : Nat} {ax : Nat × Nat × Nat} {a b z : Int} (hr : X_row j pc = some (pc, (.iadd, n), ax)) (hz : a + b = z) (hp : pc + 1 = pc') (k : X_T sc j (pc', ls, .int (iI z) :: r, S) Q) : X_T sc j (pc, ls, .int (iI b) :: .int (iI a) :: r, S) Q := by
  subst hz; subst hp
  refine T_p hr rfl rfl ?_
  rw [← Int32.ofInt_add]
  exact k
theorem T_zisub {n : Nat} {ax : Nat × Nat × Nat} {a b z : Int} (hr : X_row j pc = some (pc, (.isub, n), ax)) (hz : a - b = z) (hp : pc + 1 = pc') (k : X_T sc j (pc', ls, .int (iI z) :: r, S) Q) : X_T sc j (pc, ls, .int (iI b) :: .int (iI a) :: r, S) Q := by
  subst hz; subst hp
  refine T_p hr rfl rfl ?_
  rw [← Int32.ofInt_sub]
  exact k
theorem T_zimul {n : Nat} {ax : Nat × Nat × Nat} {a b z : Int} (hr : X_row j pc = some (pc, (.imul, n), ax)) (hz : a * b = z) (hp : pc + 1 = pc') (k : X_T sc j (pc', ls, .int (iI z) :: r, S) Q) : X_T sc j (pc, ls, .int (iI b) :: .int (iI a) :: r, S) Q := by
  subst hz; subst hp
  refine T_p hr rfl rfl ?_
  rw [← Int32.ofInt_mul]
  exact k
theorem T_ziinc {n i : Nat} {c : Int} {ax : Nat × Nat × Nat} {a z : Int} {nL : Nat} (hr : X_row j pc = some (pc, (.iinc i c, n), ax)) (hn : X_nL j = nL) (hl : X_ld ls i = some (.int (iI a))) (hi : i < nL) (hz : a + c = z) (hs : X_s1 ls i (.int (iI z)) = ls') (hp : pc + 3 = pc') (k : X_T sc j (pc', ls', st, S) Q) : X_T sc j (pc, ls, st, S) Q := by
  subst hz; subst hp; subst hs; subst hn
  refine T_p hr rfl ?_ k
  have e : iI (a + c) = iI a + Int32.ofInt c := Int32.ofInt_add a c
  simp only [X_pstep, hl]
  rw [if_pos hi, e]
theorem T_zineg {n : Nat} {ax : Nat × Nat × Nat} {a z : Int} (hr : X_row j pc = some (pc, (.ineg, n), ax)) (hz : -a = z) (hp : pc + 1 = pc') (k : X_T sc j (pc', ls, .int (iI z) :: r, S) Q) : X_T sc j (pc, ls, .int (iI a) :: r, S) Q := by
  subst hz; subst hp
  have e : iI (-a) = -(iI a) := Int32.ofInt_neg a
  rw [e] at k
  exact T_p hr rfl rfl k
theorem X_cz_eq {a b : Int} (h1 : -2147483648 ≤ a) (h2 : a ≤ 2147483647) (h3 : -2147483648 ≤ b) (h4 : b ≤ 2147483647) : X_cd .eq (iI a) (iI b) = decide (a = b) := by simp only [X_cd, iI_eq h1 h2 h3 h4]
theorem T_zif_eq {off : Int} {n : Nat} {ax : Nat × Nat × Nat} {a : Int} (hr : X_row j pc = some (pc, (.ifCond .eq off, n), ax)) (ht : X_tg pc off = some t) (hp : pc + 3 = pc') (kt : a = 0 → X_T sc j (t, ls, r, S) Q) (kf : ¬ (a = 0) → X_T sc j (pc', ls, r, S) Q) (h1 : -2147483648 ≤ a := by omega) (h2 : a ≤ 2147483647 := by omega) : X_T sc j (pc, ls, .int (iI a) :: r, S) Q := by
  have e := (show X_cd .eq (iI a) 0 = _ from X_cz_eq (b := 0) h1 h2 (by omega) (by omega))
  exact T_b1 hr ht hp (fun h => kt (by rw [e] at h; exact of_decide_eq_true h)) (fun h => kf (by rw [e] at h; exact of_decide_eq_false h))
theorem T_zif_eqt {off : Int} {n : Nat} {ax : Nat × Nat × Nat} {a : Int} (hr : X_row j pc = some (pc, (.ifCond .eq off, n), ax)) (ht : X_tg pc off = some t) (hc : a = 0) (k : X_T sc j (t, ls, r, S) Q) (h1 : -2147483648 ≤ a := by omega) (h2 : a ≤ 2147483647 := by omega) : X_T sc j (pc, ls, .int (iI a) :: r, S) Q :=
  T_zif_eq hr ht rfl (fun _ => k) (fun h => absurd hc h) h1 h2
theorem T_zif_eqf {off : Int} {n : Nat} {ax : Nat × Nat × Nat} {a : Int} (hr : X_row j pc = some (pc, (.ifCond .eq off, n), ax)) (ht : X_tg pc off = some t) (hp : pc + 3 = pc') (hc : ¬ (a = 0)) (k : X_T sc j (pc', ls, r, S) Q) (h1 : -2147483648 ≤ a := by omega) (h2 : a ≤ 2147483647 := by omega) : X_T sc j (pc, ls, .int (iI a) :: r, S) Q :=
  T_zif_eq hr ht hp (fun h => absurd h hc) (fun _ => k) h1 h2
theorem T_zicmp_eq {off : Int} {n : Nat} {ax : Nat × Nat × Nat} {a b : Int} (hr : X_row j pc = some (pc, (.if_icmp .eq off, n), ax)) (ht : X_tg pc off = some t) (hp : pc + 3 = pc') (kt : a = b → X_T sc j (t, ls, r, S) Q) (kf : ¬ (a = b) → X_T sc j (pc', ls, r, S) Q) (h1 : -2147483648 ≤ a := by omega) (h2 : a ≤ 2147483647 := by omega) (h3 : -2147483648 ≤ b := by omega) (h4 : b ≤ 2147483647 := by omega) : X_T sc j (pc, ls, .int (iI b) :: .int (iI a) :: r, S) Q := by
  have e := X_cz_eq h1 h2 h3 h4
  exact T_b2 hr ht hp (fun h => kt (by rw [e] at h; exact of_decide_eq_true h)) (fun h => kf (by rw [e] at h; exact of_decide_eq_false h))
theorem T_zicmp_eqt {off : Int} {n : Nat} {ax : Nat × Nat × Nat} {a b : Int} (hr : X_row j pc = some (pc, (.if_icmp .eq off, n), ax)) (ht : X_tg pc off = some t) (hc : a = b) (k : X_T sc j (t, ls, r, S) Q) (h1 : -2147483648 ≤ a := by omega) (h2 : a ≤ 2147483647 := by omega) (h3 : -2147483648 ≤ b := by omega) (h4 : b ≤ 2147483647 := by omega) : X_T sc j (pc, ls, .int (iI b) :: .int (iI a) :: r, S) Q :=
  T_zicmp_eq hr ht rfl (fun _ => k) (fun h => absurd hc h) h1 h2 h3 h4
theorem T_zicmp_eqf {off : Int} {n : Nat} {ax : Nat × Nat × Nat} {a b : Int} (hr : X_row j pc = some (pc, (.if_icmp .eq off, n), ax)) (ht : X_tg pc off = some t) (hp : pc + 3 = pc') (hc : ¬ (a = b)) (k : X_T sc j (pc', ls, r, S) Q) (h1 : -2147483648 ≤ a := by omega) (h2 : a ≤ 2147483647 := by omega) (h3 : -2147483648 ≤ b := by omega) (h4 : b ≤ 2147483647 := by omega) : X_T sc j (pc, ls, .int (iI b) :: .int (iI a) :: r, S) Q :=
  T_zicmp_eq hr ht hp (fun h => absurd h hc) (fun _ => k) h1 h2 h3 h4
theorem X_cz_ne {a b : Int} (h1 : -2147483648 ≤ a) (h2 : a ≤ 2147483647) (h3 : -2147483648 ≤ b) (h4 : b ≤ 2147483647) : X_cd .ne (iI a) (iI b) = decide (¬ a = b) := by simp only [X_cd, iI_eq h1 h2 h3 h4]
theorem T_zif_ne {off : Int} {n : Nat} {ax : Nat × Nat × Nat} {a : Int} (hr : X_row j pc = some (pc, (.ifCond .ne off, n), ax)) (ht : X_tg pc off = some t) (hp : pc + 3 = pc') (kt : ¬ a = 0 → X_T sc j (t, ls, r, S) Q) (kf : ¬ (¬ a = 0) → X_T sc j (pc', ls, r, S) Q) (h1 : -2147483648 ≤ a := by omega) (h2 : a ≤ 2147483647 := by omega) : X_T sc j (pc, ls, .int (iI a) :: r, S) Q := by
  have e := (show X_cd .ne (iI a) 0 = _ from X_cz_ne (b := 0) h1 h2 (by omega) (by omega))
  exact T_b1 hr ht hp (fun h => kt (by rw [e] at h; exact of_decide_eq_true h)) (fun h => kf (by rw [e] at h; exact of_decide_eq_false h))
theorem T_zif_net {off : Int} {n : Nat} {ax : Nat × Nat × Nat} {a : Int} (hr : X_row j pc = some (pc, (.ifCond .ne off, n), ax)) (ht : X_tg pc off = some t) (hc : ¬ a = 0) (k : X_T sc j (t, ls, r, S) Q) (h1 : -2147483648 ≤ a := by omega) (h2 : a ≤ 2147483647 := by omega) : X_T sc j (pc, ls, .int (iI a) :: r, S) Q :=
  T_zif_ne hr ht rfl (fun _ => k) (fun h => absurd hc h) h1 h2
theorem T_zif_nef {off : Int} {n : Nat} {ax : Nat × Nat × Nat} {a : Int} (hr : X_row j pc = some (pc, (.ifCond .ne off, n), ax)) (ht : X_tg pc off = some t) (hp : pc + 3 = pc') (hc : ¬ (¬ a = 0)) (k : X_T sc j (pc', ls, r, S) Q) (h1 : -2147483648 ≤ a := by omega) (h2 : a ≤ 2147483647 := by omega) : X_T sc j (pc, ls, .int (iI a) :: r, S) Q :=
  T_zif_ne hr ht hp (fun h => absurd h hc) (fun _ => k) h1 h2
theorem T_zicmp_ne {off : Int} {n : Nat} {ax : Nat × Nat × Nat} {a b : Int} (hr : X_row j pc = some (pc, (.if_icmp .ne off, n), ax)) (ht : X_tg pc off = some t) (hp : pc + 3 = pc') (kt : ¬ a = b → X_T sc j (t, ls, r, S) Q) (kf : ¬ (¬ a = b) → X_T sc j (pc', ls, r, S) Q) (h1 : -2147483648 ≤ a := by omega) (h2 : a ≤ 2147483647 := by omega) (h3 : -2147483648 ≤ b := by omega) (h4 : b ≤ 2147483647 := by omega) : X_T sc j (pc, ls, .int (iI b) :: .int (iI a) :: r, S) Q := by
  have e := X_cz_ne h1 h2 h3 h4
  exact T_b2 hr ht hp (fun h => kt (by rw [e] at h; exact of_decide_eq_true h)) (fun h => kf (by rw [e] at h; exact of_decide_eq_false h))
theorem T_zicmp_net {off : Int} {n : Nat} {ax : Nat × Nat × Nat} {a b : Int} (hr : X_row j pc = some (pc, (.if_icmp .ne off, n), ax)) (ht : X_tg pc off = some t) (hc : ¬ a = b) (k : X_T sc j (t, ls, r, S) Q) (h1 : -2147483648 ≤ a := by omega) (h2 : a ≤ 2147483647 := by omega) (h3 : -2147483648 ≤ b := by omega) (h4 : b ≤ 2147483647 := by omega) : X_T sc j (pc, ls, .int (iI b) :: .int (iI a) :: r, S) Q :=
  T_zicmp_ne hr ht rfl (fun _ => k) (fun h => absurd hc h) h1 h2 h3 h4
theorem T_zicmp_nef {off : Int} {n : Nat} {ax : Nat × Nat × Nat} {a b : Int} (hr : X_row j pc = some (pc, (.if_icmp .ne off, n), ax)) (ht : X_tg pc off = some t) (hp : pc + 3 = pc') (hc : ¬ (¬ a = b)) (k : X_T sc j (pc', ls, r, S) Q) (h1 : -2147483648 ≤ a := by omega) (h2 : a ≤ 2147483647 := by omega) (h3 : -2147483648 ≤ b := by omega) (h4 : b ≤ 2147483647 := by omega) : X_T sc j (pc, ls, .int (iI b) :: .int (iI a) :: r, S) Q :=
  T_zicmp_ne hr ht hp (fun h => absurd h hc) (fun _ => k) h1 h2 h3 h4
theorem X_cz_lt {a b : Int} (h1 : -2147483648 ≤ a) (h2 : a ≤ 2147483647) (h3 : -2147483648 ≤ b) (h4 : b ≤ 2147483647) : X_cd .lt (iI a) (iI b) = decide (a < b) := by simp only [X_cd, iI_lt h1 h2 h3 h4]
theorem T_zif_lt {off : Int} {n : Nat} {ax : Nat × Nat × Nat} {a : Int} (hr : X_row j pc = some (pc, (.ifCond .lt off, n), ax)) (ht : X_tg pc off = some t) (hp : pc + 3 = pc') (kt : a < 0 → X_T sc j (t, ls, r, S) Q) (kf : ¬ (a < 0) → X_T sc j (pc', ls, r, S) Q) (h1 : -2147483648 ≤ a := by omega) (h2 : a ≤ 2147483647 := by omega) : X_T sc j (pc, ls, .int (iI a) :: r, S) Q := by
  have e := (show X_cd .lt (iI a) 0 = _ from X_cz_lt (b := 0) h1 h2 (by omega) (by omega))
  exact T_b1 hr ht hp (fun h => kt (by rw [e] at h; exact of_decide_eq_true h)) (fun h => kf (by rw [e] at h; exact of_decide_eq_false h))
theorem T_zif_ltt {off : Int} {n : Nat} {ax : Nat × Nat × Nat} {a : Int} (hr : X_row j pc = some (pc, (.ifCond .lt off, n), ax)) (ht : X_tg pc off = some t) (hc : a < 0) (k : X_T sc j (t, ls, r, S) Q) (h1 : -2147483648 ≤ a := by omega) (h2 : a ≤ 2147483647 := by omega) : X_T sc j (pc, ls, .int (iI a) :: r, S) Q :=
  T_zif_lt hr ht rfl (fun _ => k) (fun h => absurd hc h) h1 h2
theorem T_zif_ltf {off : Int} {n : Nat} {ax : Nat × Nat × Nat} {a : Int} (hr : X_row j pc = some (pc, (.ifCond .lt off, n), ax)) (ht : X_tg pc off = some t) (hp : pc + 3 = pc') (hc : ¬ (a < 0)) (k : X_T sc j (pc', ls, r, S) Q) (h1 : -2147483648 ≤ a := by omega) (h2 : a ≤ 2147483647 := by omega) : X_T sc j (pc, ls, .int (iI a) :: r, S) Q :=
  T_zif_lt hr ht hp (fun h => absurd h hc) (fun _ => k) h1 h2
theorem T_zicmp_lt {off : Int} {n : Nat} {ax : Nat × Nat × Nat} {a b : Int} (hr : X_row j pc = some (pc, (.if_icmp .lt off, n), ax)) (ht : X_tg pc off = some t) (hp : pc + 3 = pc') (kt : a < b → X_T sc j (t, ls, r, S) Q) (kf : ¬ (a < b) → X_T sc j (pc', ls, r, S) Q) (h1 : -2147483648 ≤ a := by omega) (h2 : a ≤ 2147483647 := by omega) (h3 : -2147483648 ≤ b := by omega) (h4 : b ≤ 2147483647 := by omega) : X_T sc j (pc, ls, .int (iI b) :: .int (iI a) :: r, S) Q := by
  have e := X_cz_lt h1 h2 h3 h4
  exact T_b2 hr ht hp (fun h => kt (by rw [e] at h; exact of_decide_eq_true h)) (fun h => kf (by rw [e] at h; exact of_decide_eq_false h))
theorem T_zicmp_ltt {off : Int} {n : Nat} {ax : Nat × Nat × Nat} {a b : Int} (hr : X_row j pc = some (pc, (.if_icmp .lt off, n), ax)) (ht : X_tg pc off = some t) (hc : a < b) (k : X_T sc j (t, ls, r, S) Q) (h1 : -2147483648 ≤ a := by omega) (h2 : a ≤ 2147483647 := by omega) (h3 : -2147483648 ≤ b := by omega) (h4 : b ≤ 2147483647 := by omega) : X_T sc j (pc, ls, .int (iI b) :: .int (iI a) :: r, S) Q :=
  T_zicmp_lt hr ht rfl (fun _ => k) (fun h => absurd hc h) h1 h2 h3 h4
theorem T_zicmp_ltf {off : Int} {n : Nat} {ax : Nat × Nat × Nat} {a b : Int} (hr : X_row j pc = some (pc, (.if_icmp .lt off, n), ax)) (ht : X_tg pc off = some t) (hp : pc + 3 = pc') (hc : ¬ (a < b)) (k : X_T sc j (pc', ls, r, S) Q) (h1 : -2147483648 ≤ a := by omega) (h2 : a ≤ 2147483647 := by omega) (h3 : -2147483648 ≤ b := by omega) (h4 : b ≤ 2147483647 := by omega) : X_T sc j (pc, ls, .int (iI b) :: .int (iI a) :: r, S) Q :=
  T_zicmp_lt hr ht hp (fun h => absurd h hc) (fun _ => k) h1 h2 h3 h4
theorem X_cz_ge {a b : Int} (h1 : -2147483648 ≤ a) (h2 : a ≤ 2147483647) (h3 : -2147483648 ≤ b) (h4 : b ≤ 2147483647) : X_cd .ge (iI a) (iI b) = decide (b ≤ a) := by simp only [X_cd, iI_le h3 h4 h1 h2]
theorem T_zif_ge {off : Int} {n : Nat} {ax : Nat × Nat × Nat} {a : Int} (hr : X_row j pc = some (pc, (.ifCond .ge off, n), ax)) (ht : X_tg pc off = some t) (hp : pc + 3 = pc') (kt : 0 ≤ a → X_T sc j (t, ls, r, S) Q) (kf : ¬ (0 ≤ a) → X_T sc j (pc', ls, r, S) Q) (h1 : -2147483648 ≤ a := by omega) (h2 : a ≤ 2147483647 := by omega) : X_T sc j (pc, ls, .int (iI a) :: r, S) Q := by
  have e := (show X_cd .ge (iI a) 0 = _ from X_cz_ge (b := 0) h1 h2 (by omega) (by omega))
  exact T_b1 hr ht hp (fun h => kt (by rw [e] at h; exact of_decide_eq_true h)) (fun h => kf (by rw [e] at h; exact of_decide_eq_false h))
theorem T_zif_get {off : Int} {n : Nat} {ax : Nat × Nat × Nat} {a : Int} (hr : X_row j pc = some (pc, (.ifCond .ge off, n), ax)) (ht : X_tg pc off = some t) (hc : 0 ≤ a) (k : X_T sc j (t, ls, r, S) Q) (h1 : -2147483648 ≤ a := by omega) (h2 : a ≤ 2147483647 := by omega) : X_T sc j (pc, ls, .int (iI a) :: r, S) Q :=
  T_zif_ge hr ht rfl (fun _ => k) (fun h => absurd hc h) h1 h2
theorem T_zif_gef {off : Int} {n : Nat} {ax : Nat × Nat × Nat} {a : Int} (hr : X_row j pc = some (pc, (.ifCond .ge off, n), ax)) (ht : X_tg pc off = some t) (hp : pc + 3 = pc') (hc : ¬ (0 ≤ a)) (k : X_T sc j (pc', ls, r, S) Q) (h1 : -2147483648 ≤ a := by omega) (h2 : a ≤ 2147483647 := by omega) : X_T sc j (pc, ls, .int (iI a) :: r, S) Q :=
  T_zif_ge hr ht hp (fun h => absurd h hc) (fun _ => k) h1 h2
theorem T_zicmp_ge {off : Int} {n : Nat} {ax : Nat × Nat × Nat} {a b : Int} (hr : X_row j pc = some (pc, (.if_icmp .ge off, n), ax)) (ht : X_tg pc off = some t) (hp : pc + 3 = pc') (kt : b ≤ a → X_T sc j (t, ls, r, S) Q) (kf : ¬ (b ≤ a) → X_T sc j (pc', ls, r, S) Q) (h1 : -2147483648 ≤ a := by omega) (h2 : a ≤ 2147483647 := by omega) (h3 : -2147483648 ≤ b := by omega) (h4 : b ≤ 2147483647 := by omega) : X_T sc j (pc, ls, .int (iI b) :: .int (iI a) :: r, S) Q := by
  have e := X_cz_ge h1 h2 h3 h4
  exact T_b2 hr ht hp (fun h => kt (by rw [e] at h; exact of_decide_eq_true h)) (fun h => kf (by rw [e] at h; exact of_decide_eq_false h))
theorem T_zicmp_get {off : Int} {n : Nat} {ax : Nat × Nat × Nat} {a b : Int} (hr : X_row j pc = some (pc, (.if_icmp .ge off, n), ax)) (ht : X_tg pc off = some t) (hc : b ≤ a) (k : X_T sc j (t, ls, r, S) Q) (h1 : -2147483648 ≤ a := by omega) (h2 : a ≤ 2147483647 := by omega) (h3 : -2147483648 ≤ b := by omega) (h4 : b ≤ 2147483647 := by omega) : X_T sc j (pc, ls, .int (iI b) :: .int (iI a) :: r, S) Q :=
  T_zicmp_ge hr ht rfl (fun _ => k) (fun h => absurd hc h) h1 h2 h3 h4
theorem T_zicmp_gef {off : Int} {n : Nat} {ax : Nat × Nat × Nat} {a b : Int} (hr : X_row j pc = some (pc, (.if_icmp .ge off, n), ax)) (ht : X_tg pc off = some t) (hp : pc + 3 = pc') (hc : ¬ (b ≤ a)) (k : X_T sc j (pc', ls, r, S) Q) (h1 : -2147483648 ≤ a := by omega) (h2 : a ≤ 2147483647 := by omega) (h3 : -2147483648 ≤ b := by omega) (h4 : b ≤ 2147483647 := by omega) : X_T sc j (pc, ls, .int (iI b) :: .int (iI a) :: r, S) Q :=
  T_zicmp_ge hr ht hp (fun h => absurd h hc) (fun _ => k) h1 h2 h3 h4
theorem X_cz_gt {a b : Int} (h1 : -2147483648 ≤ a) (h2 : a ≤ 2147483647) (h3 : -2147483648 ≤ b) (h4 : b ≤ 2147483647) : X_cd .gt (iI a) (iI b) = decide (b < a) := by simp only [X_cd, iI_lt h3 h4 h1 h2]
theorem T_zif_gt {off : Int} {n : Nat} {ax : Nat × Nat × Nat} {a : Int} (hr : X_row j pc = some (pc, (.ifCond .gt off, n), ax)) (ht : X_tg pc off = some t) (hp : pc + 3 = pc') (kt : 0 < a → X_T sc j (t, ls, r, S) Q) (kf : ¬ (0 < a) → X_T sc j (pc', ls, r, S) Q) (h1 : -2147483648 ≤ a := by omega) (h2 : a ≤ 2147483647 := by omega) : X_T sc j (pc, ls, .int (iI a) :: r, S) Q := by
  have e := (show X_cd .gt (iI a) 0 = _ from X_cz_gt (b := 0) h1 h2 (by omega) (by omega))
  exact T_b1 hr ht hp (fun h => kt (by rw [e] at h; exact of_decide_eq_true h)) (fun h => kf (by rw [e] at h; exact of_decide_eq_false h))
theorem T_zif_gtt {off : Int} {n : Nat} {ax : Nat × Nat × Nat} {a : Int} (hr : X_row j pc = some (pc, (.ifCond .gt off, n), ax)) (ht : X_tg pc off = some t) (hc : 0 < a) (k : X_T sc j (t, ls, r, S) Q) (h1 : -2147483648 ≤ a := by omega) (h2 : a ≤ 2147483647 := by omega) : X_T sc j (pc, ls, .int (iI a) :: r, S) Q :=
  T_zif_gt hr ht rfl (fun _ => k) (fun h => absurd hc h) h1 h2
theorem T_zif_gtf {off : Int} {n : Nat} {ax : Nat × Nat × Nat} {a : Int} (hr : X_row j pc = some (pc, (.ifCond .gt off, n), ax)) (ht : X_tg pc off = some t) (hp : pc + 3 = pc') (hc : ¬ (0 < a)) (k : X_T sc j (pc', ls, r, S) Q) (h1 : -2147483648 ≤ a := by omega) (h2 : a ≤ 2147483647 := by omega) : X_T sc j (pc, ls, .int (iI a) :: r, S) Q :=
  T_zif_gt hr ht hp (fun h => absurd h hc) (fun _ => k) h1 h2
theorem T_zicmp_gt {off : Int} {n : Nat} {ax : Nat × Nat × Nat} {a b : Int} (hr : X_row j pc = some (pc, (.if_icmp .gt off, n), ax)) (ht : X_tg pc off = some t) (hp : pc + 3 = pc') (kt : b < a → X_T sc j (t, ls, r, S) Q) (kf : ¬ (b < a) → X_T sc j (pc', ls, r, S) Q) (h1 : -2147483648 ≤ a := by omega) (h2 : a ≤ 2147483647 := by omega) (h3 : -2147483648 ≤ b := by omega) (h4 : b ≤ 2147483647 := by omega) : X_T sc j (pc, ls, .int (iI b) :: .int (iI a) :: r, S) Q := by
  have e := X_cz_gt h1 h2 h3 h4
  exact T_b2 hr ht hp (fun h => kt (by rw [e] at h; exact of_decide_eq_true h)) (fun h => kf (by rw [e] at h; exact of_decide_eq_false h))
theorem T_zicmp_gtt {off : Int} {n : Nat} {ax : Nat × Nat × Nat} {a b : Int} (hr : X_row j pc = some (pc, (.if_icmp .gt off, n), ax)) (ht : X_tg pc off = some t) (hc : b < a) (k : X_T sc j (t, ls, r, S) Q) (h1 : -2147483648 ≤ a := by omega) (h2 : a ≤ 2147483647 := by omega) (h3 : -2147483648 ≤ b := by omega) (h4 : b ≤ 2147483647 := by omega) : X_T sc j (pc, ls, .int (iI b) :: .int (iI a) :: r, S) Q :=
  T_zicmp_gt hr ht rfl (fun _ => k) (fun h => absurd hc h) h1 h2 h3 h4
theorem T_zicmp_gtf {off : Int} {n : Nat} {ax : Nat × Nat × Nat} {a b : Int} (hr : X_row j pc = some (pc, (.if_icmp .gt off, n), ax)) (ht : X_tg pc off = some t) (hp : pc + 3 = pc') (hc : ¬ (b < a)) (k : X_T sc j (pc', ls, r, S) Q) (h1 : -2147483648 ≤ a := by omega) (h2 : a ≤ 2147483647 := by omega) (h3 : -2147483648 ≤ b := by omega) (h4 : b ≤ 2147483647 := by omega) : X_T sc j (pc, ls, .int (iI b) :: .int (iI a) :: r, S) Q :=
  T_zicmp_gt hr ht hp (fun h => absurd h hc) (fun _ => k) h1 h2 h3 h4
theorem X_cz_le {a b : Int} (h1 : -2147483648 ≤ a) (h2 : a ≤ 2147483647) (h3 : -2147483648 ≤ b) (h4 : b ≤ 2147483647) : X_cd .le (iI a) (iI b) = decide (a ≤ b) := by simp only [X_cd, iI_le h1 h2 h3 h4]
theorem T_zif_le {off : Int} {n : Nat} {ax : Nat × Nat × Nat} {a : Int} (hr : X_row j pc = some (pc, (.ifCond .le off, n), ax)) (ht : X_tg pc off = some t) (hp : pc + 3 = pc') (kt : a ≤ 0 → X_T sc j (t, ls, r, S) Q) (kf : ¬ (a ≤ 0) → X_T sc j (pc', ls, r, S) Q) (h1 : -2147483648 ≤ a := by omega) (h2 : a ≤ 2147483647 := by omega) : X_T sc j (pc, ls, .int (iI a) :: r, S) Q := by
  have e := (show X_cd .le (iI a) 0 = _ from X_cz_le (b := 0) h1 h2 (by omega) (by omega))
  exact T_b1 hr ht hp (fun h => kt (by rw [e] at h; exact of_decide_eq_true h)) (fun h => kf (by rw [e] at h; exact of_decide_eq_false h))
theorem T_zif_let {off : Int} {n : Nat} {ax : Nat × Nat × Nat} {a : Int} (hr : X_row j pc = some (pc, (.ifCond .le off, n), ax)) (ht : X_tg pc off = some t) (hc : a ≤ 0) (k : X_T sc j (t, ls, r, S) Q) (h1 : -2147483648 ≤ a := by omega) (h2 : a ≤ 2147483647 := by omega) : X_T sc j (pc, ls, .int (iI a) :: r, S) Q :=
  T_zif_le hr ht rfl (fun _ => k) (fun h => absurd hc h) h1 h2
theorem T_zif_lef {off : Int} {n : Nat} {ax : Nat × Nat × Nat} {a : Int} (hr : X_row j pc = some (pc, (.ifCond .le off, n), ax)) (ht : X_tg pc off = some t) (hp : pc + 3 = pc') (hc : ¬ (a ≤ 0)) (k : X_T sc j (pc', ls, r, S) Q) (h1 : -2147483648 ≤ a := by omega) (h2 : a ≤ 2147483647 := by omega) : X_T sc j (pc, ls, .int (iI a) :: r, S) Q :=
  T_zif_le hr ht hp (fun h => absurd h hc) (fun _ => k) h1 h2
theorem T_zicmp_le {off : Int} {n : Nat} {ax : Nat × Nat × Nat} {a b : Int} (hr : X_row j pc = some (pc, (.if_icmp .le off, n), ax)) (ht : X_tg pc off = some t) (hp : pc + 3 = pc') (kt : a ≤ b → X_T sc j (t, ls, r, S) Q) (kf : ¬ (a ≤ b) → X_T sc j (pc', ls, r, S) Q) (h1 : -2147483648 ≤ a := by omega) (h2 : a ≤ 2147483647 := by omega) (h3 : -2147483648 ≤ b := by omega) (h4 : b ≤ 2147483647 := by omega) : X_T sc j (pc, ls, .int (iI b) :: .int (iI a) :: r, S) Q := by
  have e := X_cz_le h1 h2 h3 h4
  exact T_b2 hr ht hp (fun h => kt (by rw [e] at h; exact of_decide_eq_true h)) (fun h => kf (by rw [e] at h; exact of_decide_eq_false h))
theorem T_zicmp_let {off : Int} {n : Nat} {ax : Nat × Nat × Nat} {a b : Int} (hr : X_row j pc = some (pc, (.if_icmp .le off, n), ax)) (ht : X_tg pc off = some t) (hc : a ≤ b) (k : X_T sc j (t, ls, r, S) Q) (h1 : -2147483648 ≤ a := by omega) (h2 : a ≤ 2147483647 := by omega) (h3 : -2147483648 ≤ b := by omega) (h4 : b ≤ 2147483647 := by omega) : X_T sc j (pc, ls, .int (iI b) :: .int (iI a) :: r, S) Q :=
  T_zicmp_le hr ht rfl (fun _ => k) (fun h => absurd hc h) h1 h2 h3 h4
theorem T_zicmp_lef {off : Int} {n : Nat} {ax : Nat × Nat × Nat} {a b : Int} (hr : X_row j pc = some (pc, (.if_icmp .le off, n), ax)) (ht : X_tg pc off = some t) (hp : pc + 3 = pc') (hc : ¬ (a ≤ b)) (k : X_T sc j (pc', ls, r, S) Q) (h1 : -2147483648 ≤ a := by omega) (h2 : a ≤ 2147483647 := by omega) (h3 : -2147483648 ≤ b := by omega) (h4 : b ≤ 2147483647 := by omega) : X_T sc j (pc, ls, .int (iI b) :: .int (iI a) :: r, S) Q :=
  T_zicmp_le hr ht hp (fun h => absurd h hc) (fun _ => k) h1 h2 h3 h4
theorem X_lg (x y : Int64) : (lg_cmp x y = iI (-1) ∧ x < y) ∨ (lg_cmp x y = iI 0 ∧ x = y) ∨ (lg_cmp x y = iI 1 ∧ y < x) := by
  have key : x < y ∨ x = y ∨ y < x := by
    by_cases h2 : x = y
    · exact Or.inr (Or.inl h2)
    · have h3 : ¬ x.toInt = y.toInt := fun e => h2 (Int64.toInt_inj.mp e)
      rw [Int64.lt_iff_toInt_lt, Int64.lt_iff_toInt_lt]
      omega
  rcases key with h | h | h
  · left
    have h1 : ¬ x > y := by
      show ¬ y < x
      rw [Int64.lt_iff_toInt_lt] at *
      omega
    have h2 : ¬ x = y := by
      intro e
      subst e
      exact h1 h
    refine ⟨?_, h⟩
    unfold lg_cmp
    rw [if_neg h1, if_neg h2]
    rfl
  · right; left
    have h1 : ¬ x > y := by
      subst h
      show ¬ x < x
      rw [Int64.lt_iff_toInt_lt]
      omega
    refine ⟨?_, h⟩
    unfold lg_cmp
    rw [if_neg h1, if_pos h]
    rfl
  · right; right
    refine ⟨?_, h⟩
    unfold lg_cmp
    rw [if_pos h]
    rfl
theorem X_lg_lt {x y : Int64} (h : x < y) : ¬ y ≤ x ∧ ¬ x = y ∧ ¬ y < x ∧ x ≤ y := by
  rw [Int64.lt_iff_toInt_lt] at *
  refine ⟨?_, ?_, ?_, ?_⟩
  · rw [Int64.le_iff_toInt_le]; omega
  · intro e; subst e; omega
  · omega
  · rw [Int64.le_iff_toInt_le]; omega
theorem X_lg_eq {x y : Int64} (h : x = y) : ¬ x < y ∧ ¬ y < x ∧ x ≤ y ∧ y ≤ x := by
  subst h
  refine ⟨?_, ?_, ?_, ?_⟩ <;> first | (rw [Int64.lt_iff_toInt_lt]; omega) | (rw [Int64.le_iff_toInt_le]; omega)
theorem T_lc_eq {off : Int} {n n2 : Nat} {ax ax2 : Nat × Nat × Nat} {x y : Int64} (hr : X_row j pc = some (pc, (.lcmp, n), ax)) (hr2 : X_row j (pc + 1) = some (pc + 1, (.ifCond .eq off, n2), ax2)) (ht : X_tg (pc + 1) off = some t) (hp : pc + 4 = pc') (kt : x = y → X_T sc j (t, ls, r, S) Q) (kf : ¬ (x = y) → X_T sc j (pc', ls, r, S) Q) : X_T sc j (pc, ls, .long y :: .long x :: r, S) Q := by
  refine T_p hr rfl (pc' := pc + 1) (ls' := ls) (st' := .int (lg_cmp x y) :: r) rfl ?_
  rcases X_lg x y with ⟨e, h⟩ | ⟨e, h⟩ | ⟨e, h⟩
  · rw [e]
    have g := X_lg_lt h
    refine T_zif_eq hr2 ht (by omega) (fun c => ?_) (fun c => ?_)
    · first | exact kt h | exact kt g.2.1 | exact kt g.2.2.2 | exact absurd c (by omega)
    · first | exact absurd c (by omega) | exact kf g.1 | exact kf g.2.1 | exact kf g.2.2.1
  · rw [e]
    have g := X_lg_eq h
    refine T_zif_eq hr2 ht (by omega) (fun c => ?_) (fun c => ?_)
    · first | exact kt h | exact kt g.2.2.1 | exact kt g.2.2.2 | exact absurd c (by omega)
    · first | exact absurd c (by omega) | exact kf (fun q => q h) | exact kf g.1 | exact kf g.2.1
  · rw [e]
    have g := X_lg_lt h
    refine T_zif_eq hr2 ht (by omega) (fun c => ?_) (fun c => ?_)
    · first | exact kt h | exact kt (fun q => g.2.1 q.symm) | exact kt g.2.2.2 | exact absurd c (by omega)
    · first | exact absurd c (by omega) | exact kf g.1 | exact kf (fun q => g.2.1 q.symm) | exact kf g.2.2.1
theorem T_lc_ne {off : Int} {n n2 : Nat} {ax ax2 : Nat × Nat × Nat} {x y : Int64} (hr : X_row j pc = some (pc, (.lcmp, n), ax)) (hr2 : X_row j (pc + 1) = some (pc + 1, (.ifCond .ne off, n2), ax2)) (ht : X_tg (pc + 1) off = some t) (hp : pc + 4 = pc') (kt : ¬ x = y → X_T sc j (t, ls, r, S) Q) (kf : ¬ (¬ x = y) → X_T sc j (pc', ls, r, S) Q) : X_T sc j (pc, ls, .long y :: .long x :: r, S) Q := by
  refine T_p hr rfl (pc' := pc + 1) (ls' := ls) (st' := .int (lg_cmp x y) :: r) rfl ?_
  rcases X_lg x y with ⟨e, h⟩ | ⟨e, h⟩ | ⟨e, h⟩
  · rw [e]
    have g := X_lg_lt h
    refine T_zif_ne hr2 ht (by omega) (fun c => ?_) (fun c => ?_)
    · first | exact kt h | exact kt g.2.1 | exact kt g.2.2.2 | exact absurd c (by omega)
    · first | exact absurd c (by omega) | exact kf g.1 | exact kf g.2.1 | exact kf g.2.2.1
  · rw [e]
    have g := X_lg_eq h
    refine T_zif_ne hr2 ht (by omega) (fun c => ?_) (fun c => ?_)
    · first | exact kt h | exact kt g.2.2.1 | exact kt g.2.2.2 | exact absurd c (by omega)
    · first | exact absurd c (by omega) | exact kf (fun q => q h) | exact kf g.1 | exact kf g.2.1
  · rw [e]
    have g := X_lg_lt h
    refine T_zif_ne hr2 ht (by omega) (fun c => ?_) (fun c => ?_)
    · first | exact kt h | exact kt (fun q => g.2.1 q.symm) | exact kt g.2.2.2 | exact absurd c (by omega)
    · first | exact absurd c (by omega) | exact kf g.1 | exact kf (fun q => g.2.1 q.symm) | exact kf g.2.2.1
theorem T_lc_lt {off : Int} {n n2 : Nat} {ax ax2 : Nat × Nat × Nat} {x y : Int64} (hr : X_row j pc = some (pc, (.lcmp, n), ax)) (hr2 : X_row j (pc + 1) = some (pc + 1, (.ifCond .lt off, n2), ax2)) (ht : X_tg (pc + 1) off = some t) (hp : pc + 4 = pc') (kt : x < y → X_T sc j (t, ls, r, S) Q) (kf : ¬ (x < y) → X_T sc j (pc', ls, r, S) Q) : X_T sc j (pc, ls, .long y :: .long x :: r, S) Q := by
  refine T_p hr rfl (pc' := pc + 1) (ls' := ls) (st' := .int (lg_cmp x y) :: r) rfl ?_
  rcases X_lg x y with ⟨e, h⟩ | ⟨e, h⟩ | ⟨e, h⟩
  · rw [e]
    have g := X_lg_lt h
    refine T_zif_lt hr2 ht (by omega) (fun c => ?_) (fun c => ?_)
    · first | exact kt h | exact kt g.2.1 | exact kt g.2.2.2 | exact absurd c (by omega)
    · first | exact absurd c (by omega) | exact kf g.1 | exact kf g.2.1 | exact kf g.2.2.1
  · rw [e]
    have g := X_lg_eq h
    refine T_zif_lt hr2 ht (by omega) (fun c => ?_) (fun c => ?_)
    · first | exact kt h | exact kt g.2.2.1 | exact kt g.2.2.2 | exact absurd c (by omega)
    · first | exact absurd c (by omega) | exact kf (fun q => q h) | exact kf g.1 | exact kf g.2.1
  · rw [e]
    have g := X_lg_lt h
    refine T_zif_lt hr2 ht (by omega) (fun c => ?_) (fun c => ?_)
    · first | exact kt h | exact kt (fun q => g.2.1 q.symm) | exact kt g.2.2.2 | exact absurd c (by omega)
    · first | exact absurd c (by omega) | exact kf g.1 | exact kf (fun q => g.2.1 q.symm) | exact kf g.2.2.1
theorem T_lc_ge {off : Int} {n n2 : Nat} {ax ax2 : Nat × Nat × Nat} {x y : Int64} (hr : X_row j pc = some (pc, (.lcmp, n), ax)) (hr2 : X_row j (pc + 1) = some (pc + 1, (.ifCond .ge off, n2), ax2)) (ht : X_tg (pc + 1) off = some t) (hp : pc + 4 = pc') (kt : y ≤ x → X_T sc j (t, ls, r, S) Q) (kf : ¬ (y ≤ x) → X_T sc j (pc', ls, r, S) Q) : X_T sc j (pc, ls, .long y :: .long x :: r, S) Q := by
  refine T_p hr rfl (pc' := pc + 1) (ls' := ls) (st' := .int (lg_cmp x y) :: r) rfl ?_
  rcases X_lg x y with ⟨e, h⟩ | ⟨e, h⟩ | ⟨e, h⟩
  · rw [e]
    have g := X_lg_lt h
    refine T_zif_ge hr2 ht (by omega) (fun c => ?_) (fun c => ?_)
    · first | exact kt h | exact kt g.2.1 | exact kt g.2.2.2 | exact absurd c (by omega)
    · first | exact absurd c (by omega) | exact kf g.1 | exact kf g.2.1 | exact kf g.2.2.1
  · rw [e]
    have g := X_lg_eq h
    refine T_zif_ge hr2 ht (by omega) (fun c => ?_) (fun c => ?_)
    · first | exact kt h | exact kt g.2.2.1 | exact kt g.2.2.2 | exact absurd c (by omega)
    · first | exact absurd c (by omega) | exact kf (fun q => q h) | exact kf g.1 | exact kf g.2.1
  · rw [e]
    have g := X_lg_lt h
    refine T_zif_ge hr2 ht (by omega) (fun c => ?_) (fun c => ?_)
    · first | exact kt h | exact kt (fun q => g.2.1 q.symm) | exact kt g.2.2.2 | exact absurd c (by omega)
    · first | exact absurd c (by omega) | exact kf g.1 | exact kf (fun q => g.2.1 q.symm) | exact kf g.2.2.1
theorem T_lc_gt {off : Int} {n n2 : Nat} {ax ax2 : Nat × Nat × Nat} {x y : Int64} (hr : X_row j pc = some (pc, (.lcmp, n), ax)) (hr2 : X_row j (pc + 1) = some (pc + 1, (.ifCond .gt off, n2), ax2)) (ht : X_tg (pc + 1) off = some t) (hp : pc + 4 = pc') (kt : y < x → X_T sc j (t, ls, r, S) Q) (kf : ¬ (y < x) → X_T sc j (pc', ls, r, S) Q) : X_T sc j (pc, ls, .long y :: .long x :: r, S) Q := by
  refine T_p hr rfl (pc' := pc + 1) (ls' := ls) (st' := .int (lg_cmp x y) :: r) rfl ?_
  rcases X_lg x y with ⟨e, h⟩ | ⟨e, h⟩ | ⟨e, h⟩
  · rw [e]
    have g := X_lg_lt h
    refine T_zif_gt hr2 ht (by omega) (fun c => ?_) (fun c => ?_)
    · first | exact kt h | exact kt g.2.1 | exact kt g.2.2.2 | exact absurd c (by omega)
    · first | exact absurd c (by omega) | exact kf g.1 | exact kf g.2.1 | exact kf g.2.2.1
  · rw [e]
    have g := X_lg_eq h
    refine T_zif_gt hr2 ht (by omega) (fun c => ?_) (fun c => ?_)
    · first | exact kt h | exact kt g.2.2.1 | exact kt g.2.2.2 | exact absurd c (by omega)
    · first | exact absurd c (by omega) | exact kf (fun q => q h) | exact kf g.1 | exact kf g.2.1
  · rw [e]
    have g := X_lg_lt h
    refine T_zif_gt hr2 ht (by omega) (fun c => ?_) (fun c => ?_)
    · first | exact kt h | exact kt (fun q => g.2.1 q.symm) | exact kt g.2.2.2 | exact absurd c (by omega)
    · first | exact absurd c (by omega) | exact kf g.1 | exact kf (fun q => g.2.1 q.symm) | exact kf g.2.2.1
theorem T_lc_le {off : Int} {n n2 : Nat} {ax ax2 : Nat × Nat × Nat} {x y : Int64} (hr : X_row j pc = some (pc, (.lcmp, n), ax)) (hr2 : X_row j (pc + 1) = some (pc + 1, (.ifCond .le off, n2), ax2)) (ht : X_tg (pc + 1) off = some t) (hp : pc + 4 = pc') (kt : x ≤ y → X_T sc j (t, ls, r, S) Q) (kf : ¬ (x ≤ y) → X_T sc j (pc', ls, r, S) Q) : X_T sc j (pc, ls, .long y :: .long x :: r, S) Q := by
  refine T_p hr rfl (pc' := pc + 1) (ls' := ls) (st' := .int (lg_cmp x y) :: r) rfl ?_
  rcases X_lg x y with ⟨e, h⟩ | ⟨e, h⟩ | ⟨e, h⟩
  · rw [e]
    have g := X_lg_lt h
    refine T_zif_le hr2 ht (by omega) (fun c => ?_) (fun c => ?_)
    · first | exact kt h | exact kt g.2.1 | exact kt g.2.2.2 | exact absurd c (by omega)
    · first | exact absurd c (by omega) | exact kf g.1 | exact kf g.2.1 | exact kf g.2.2.1
  · rw [e]
    have g := X_lg_eq h
    refine T_zif_le hr2 ht (by omega) (fun c => ?_) (fun c => ?_)
    · first | exact kt h | exact kt g.2.2.1 | exact kt g.2.2.2 | exact absurd c (by omega)
    · first | exact absurd c (by omega) | exact kf (fun q => q h) | exact kf g.1 | exact kf g.2.1
  · rw [e]
    have g := X_lg_lt h
    refine T_zif_le hr2 ht (by omega) (fun c => ?_) (fun c => ?_)
    · first | exact kt h | exact kt (fun q => g.2.1 q.symm) | exact kt g.2.2.2 | exact absurd c (by omega)
    · first | exact absurd c (by omega) | exact kf g.1 | exact kf (fun q => g.2.1 q.symm) | exact kf g.2.2.1
theorem T_ziald {n q k0 : Nat} {ax : Nat × Nat} {z : Int} {g : Int → Int} (hr : X_row j pc = some (pc, (.iaload, n), (0, ax))) (h : S.1 q = .inl (.int, k0, .inl fun k : Nat => iI (g (k : Int)))) (hp : pc + 1 = pc') (k : X_T sc j (pc', ls, .int (iI (g z)) :: r, S) Q) (i1 : 0 ≤ z := by omega) (i2 : z < (k0 : Int) := by omega) (i3 : k0 ≤ 2147483647 := by omega) : X_T sc j (pc, ls, .int (iI z) :: .ref q :: r, S) Q :=
  T_iald hr h (iI_in i1 i2 i3) (by rw [iI_nat i1 (by omega), Int.toNat_of_nonneg i1]) hp k
theorem T_zbald {n q k0 : Nat} {ax : Nat × Nat × Nat} {z : Int} {g : Int → Int} (hr : X_row j pc = some (pc, (.baload, n), ax)) (h : S.1 q = .inl (.byte, k0, .inl fun k : Nat => iI (g (k : Int)))) (hp : pc + 1 = pc') (k : X_T sc j (pc', ls, .int (iI (g z)) :: r, S) Q) (i1 : 0 ≤ z := by omega) (i2 : z < (k0 : Int) := by omega) (i3 : k0 ≤ 2147483647 := by omega) : X_T sc j (pc, ls, .int (iI z) :: .ref q :: r, S) Q :=
  T_bald hr h (iI_in i1 i2 i3) (by rw [iI_nat i1 (by omega), Int.toNat_of_nonneg i1]) hp k
theorem T_zzald {n q k0 : Nat} {ax : Nat × Nat × Nat} {z : Int} {g : Int → Int} (hr : X_row j pc = some (pc, (.baload, n), ax)) (h : S.1 q = .inl (.boolean, k0, .inl fun k : Nat => iI (g (k : Int)))) (hp : pc + 1 = pc') (k : X_T sc j (pc', ls, .int (iI (g z)) :: r, S) Q) (i1 : 0 ≤ z := by omega) (i2 : z < (k0 : Int) := by omega) (i3 : k0 ≤ 2147483647 := by omega) : X_T sc j (pc, ls, .int (iI z) :: .ref q :: r, S) Q :=
  T_zald hr h (iI_in i1 i2 i3) (by rw [iI_nat i1 (by omega), Int.toNat_of_nonneg i1]) hp k
theorem T_zlald {n q k0 : Nat} {ax : Nat × Nat × Nat} {z : Int} {g : Int → Int64} (hr : X_row j pc = some (pc, (.laload, n), ax)) (h : S.1 q = .inl (.long, k0, .inr (.inl fun k : Nat => g (k : Int)))) (hp : pc + 1 = pc') (k : X_T sc j (pc', ls, .long (g z) :: r, S) Q) (i1 : 0 ≤ z := by omega) (i2 : z < (k0 : Int) := by omega) (i3 : k0 ≤ 2147483647 := by omega) : X_T sc j (pc, ls, .int (iI z) :: .ref q :: r, S) Q :=
  T_lald hr h (iI_in i1 i2 i3) (by rw [iI_nat i1 (by omega), Int.toNat_of_nonneg i1]) hp k
theorem T_zaald {n q k0 w : Nat} {ax : Nat × Nat × Nat} {z : Int} {f : Nat → Option Nat} (hr : X_row j pc = some (pc, (.aaload, n), ax)) (h : S.1 q = .inl (.short, k0, .inr (.inr (.inr (.inr f))))) (hw : f z.toNat = some w) (hp : pc + 1 = pc') (k : X_T sc j (pc', ls, .ref w :: r, S) Q) (i1 : 0 ≤ z := by omega) (i2 : z < (k0 : Int) := by omega) (i3 : k0 ≤ 2147483647 := by omega) : X_T sc j (pc, ls, .int (iI z) :: .ref q :: r, S) Q :=
  T_aald hr h (iI_in i1 i2 i3) (by rw [iI_nat i1 (by omega)]; exact hw) hp k
theorem T_ziast {n q k0 : Nat} {ax : Nat × Nat × Nat} {z x : Int} {g : Int → Int} (hr : X_row j pc = some (pc, (.iastore, n), ax)) (h : S.1 q = .inl (.int, k0, .inl fun k : Nat => iI (g (k : Int)))) (hp : pc + 1 = pc')
    (k : ∀ S' : X_S, S'.1 q = .inl (.int, k0, .inl fun k : Nat => iI (X_ug g z x (k : Int))) → (∀ r, r ≠ q → S'.1 r = S.1 r) → S'.2 = S.2 → X_T sc j (pc', ls, r, S') Q) (i1 : 0 ≤ z := by omega) (i2 : z < (k0 : Int) := by omega) (i3 : k0 ≤ 2147483647 := by omega) : X_T sc j (pc, ls, .int (iI x) :: .int (iI z) :: .ref q :: r, S) Q :=
  T_iast hr h (iI_in i1 i2 i3) hp (fun S' e1 e2 e3 => k S' (by rw [e1, X_ug_i i1 (by omega)]) e2 e3)
theorem T_zlast {n q k0 : Nat} {ax : Nat × Nat × Nat} {z : Int} {x : Int64} {g : Int → Int64} (hr : X_row j pc = some (pc, (.lastore, n), ax)) (h : S.1 q = .inl (.long, k0, .inr (.inl fun k : Nat => g (k : Int)))) (hp : pc + 1 = pc')
    (k : ∀ S' : X_S, S'.1 q = .inl (.long, k0, .inr (.inl fun k : Nat => X_ug g z x (k : Int))) → (∀ r, r ≠ q → S'.1 r = S.1 r) → S'.2 = S.2 → X_T sc j (pc', ls, r, S') Q) (i1 : 0 ≤ z := by omega) (i2 : z < (k0 : Int) := by omega) (i3 : k0 ≤ 2147483647 := by omega) : X_T sc j (pc, ls, .long x :: .int (iI z) :: .ref q :: r, S) Q :=
  T_last hr h (iI_in i1 i2 i3) hp (fun S' e1 e2 e3 => k S' (by rw [e1, X_ug_l i1 (by omega)]) e2 e3)
/-- what a byte keeps of an int -/
def X_by (x : Int) : Int := (vp_nar .byte (iI x)).toInt
def X_bo (x : Int) : Int := (vp_nar .boolean (iI x)).toInt
theorem T_zbast {n q k0 : Nat} {ax : Nat × Nat × Nat} {z x : Int} {g : Int → Int} (hr : X_row j pc = some (pc, (.bastore, n), ax)) (h : S.1 q = .inl (.byte, k0, .inl fun k : Nat => iI (g (k : Int)))) (hp : pc + 1 = pc')
    (k : ∀ S' : X_S, S'.1 q = .inl (.byte, k0, .inl fun k : Nat => iI (X_ug g z (X_by x) (k : Int))) → (∀ r, r ≠ q → S'.1 r = S.1 r) → S'.2 = S.2 → X_T sc j (pc', ls, r, S') Q) (i1 : 0 ≤ z := by omega) (i2 : z < (k0 : Int) := by omega) (i3 : k0 ≤ 2147483647 := by omega) : X_T sc j (pc, ls, .int (iI x) :: .int (iI z) :: .ref q :: r, S) Q :=
  T_bast hr h (iI_in i1 i2 i3) hp (fun S' e1 e2 e3 => k S' (by rw [e1, iI_of (vp_nar .byte (iI x)), X_ug_i i1 (by omega)]; rfl) e2 e3)
theorem T_zzast {n q k0 : Nat} {ax : Nat × Nat × Nat} {z x : Int} {g : Int → Int} (hr : X_row j pc = some (pc, (.bastore, n), ax)) (h : S.1 q = .inl (.boolean, k0, .inl fun k : Nat => iI (g (k : Int)))) (hp : pc + 1 = pc')
    (k : ∀ S' : X_S, S'.1 q = .inl (.boolean, k0, .inl fun k : Nat => iI (X_ug g z (X_bo x) (k : Int))) → (∀ r, r ≠ q → S'.1 r = S.1 r) → S'.2 = S.2 → X_T sc j (pc', ls, r, S') Q) (i1 : 0 ≤ z := by omega) (i2 : z < (k0 : Int) := by omega) (i3 : k0 ≤ 2147483647 := by omega) : X_T sc j (pc, ls, .int (iI x) :: .int (iI z) :: .ref q :: r, S) Q :=
  T_zast hr h (iI_in i1 i2 i3) hp (fun S' e1 e2 e3 => k S' (by rw [e1, iI_of (vp_nar .boolean (iI x)), X_ug_i i1 (by omega)]; rfl) e2 e3)
end X_T2
/-- what a walk leaves alone: all cells but these -/
def X_Fr (P : Nat → Prop) (S S' : X_S) : Prop := (∀ r, ¬ P r → S'.1 r = S.1 r) ∧ S'.2 = S.2
theorem X_Fr.rf {P : Nat → Prop} {S : X_S} : X_Fr P S S := ⟨fun _ _ => rfl, rfl⟩
theorem X_Fr.tr {P : Nat → Prop} {S S1 S2 : X_S} (h1 : X_Fr P S S1) (h2 : X_Fr P S1 S2) : X_Fr P S S2 := ⟨fun r hr => (h2.1 r hr).trans (h1.1 r hr), h2.2.trans h1.2⟩
theorem X_Fr.mono {P P' : Nat → Prop} {S S1 : X_S} (h1 : X_Fr P S S1) (h : ∀ q, P q → P' q) : X_Fr P' S S1 := ⟨fun r hr => h1.1 r (fun z => hr (h r z)), h1.2⟩
theorem X_Fr.of {q : Nat} {P : Nat → Prop} {S S1 : X_S} (h1 : ∀ r, r ≠ q → S1.1 r = S.1 r) (h2 : S1.2 = S.2) (hq : P q) : X_Fr P S S1 := ⟨fun r hr => h1 r (fun e => hr (e ▸ hq)), h2⟩
/-- a truth as a number -/
noncomputable def bI (p : Prop) : Int := @ite Int p (Classical.propDecidable p) 1 0
theorem bI_t {p : Prop} (h : p) : bI p = 1 := by unfold bI; rw [if_pos h]
theorem bI_f {p : Prop} (h : ¬ p) : bI p = 0 := by unfold bI; rw [if_neg h]
theorem bI_r (p : Prop) : 0 ≤ bI p ∧ bI p ≤ 1 := by
  by_cases h : p
  · rw [bI_t h]; omega
  · rw [bI_f h]; omega
theorem iI_bv (a : Int) : (iI a).toBitVec.toNat = (a % 4294967296).toNat := by
  show (BitVec.ofInt 32 a).toNat = _
  rw [BitVec.toNat_ofInt]
  rfl
theorem iI_m255 (a : Int) : iI a &&& iI 255 = iI (a % 256) := by
  rw [pk_and (iI a) (m := iI 255) 8 (by decide), iI_bv]
  show Int32.ofNat _ = _
  rw [← Int32.ofInt_eq_ofNat]
  congr 1
  omega
theorem iI_m1 (a : Int) : iI a &&& iI 1 = iI (a % 2) := by
  rw [pk_and (iI a) (m := iI 1) 1 (by decide), iI_bv]
  show Int32.ofNat _ = _
  rw [← Int32.ofInt_eq_ofNat]
  congr 1
  omega
theorem X_fit_b (p : Prop) : X_fit .boolean (.int (iI (bI p))) = true := by
  by_cases h : p
  · rw [bI_t h]; decide
  · rw [bI_f h]; decide
section X_T3
variable {sc : X_Sc} {j : Nat} {Q : Option Value → X_S → Prop} {pc pc' t : Nat} {ls : X_L} {r : List Value} {S : X_S}
theorem T_zop {row : X_Row} {st st2 : List Value} {w : Int32} {z : Int} (hr : X_row j pc = some row) (h : X_pstep (X_nL j) row ls st = some (pc', ls, .int w :: st2)) (hz : w = iI z) (k : X_T sc j (pc', ls, .int (iI z) :: st2, S) Q) : X_T sc j (pc, ls, st, S) Q := by
  subst hz
  exact T_p hr rfl h k
theorem T_bif_eq {off : Int} {n : Nat} {ax : Nat × Nat × Nat} {b : Prop} (hr : X_row j pc = some (pc, (.ifCond .eq off, n), ax)) (ht : X_tg pc off = some t) (hp : pc + 3 = pc') (kt : ¬ b → X_T sc j (t, ls, r, S) Q) (kf : b → X_T sc j (pc', ls, r, S) Q) : X_T sc j (pc, ls, .int (iI (bI b)) :: r, S) Q := by
  have hb := bI_r b
  refine T_zif_eq hr ht hp (fun c => kt (fun h => ?_)) (fun c => kf (Classical.byContradiction fun h => c (bI_f h)))
  rw [bI_t h] at c
  omega
theorem T_bif_ne {off : Int} {n : Nat} {ax : Nat × Nat × Nat} {b : Prop} (hr : X_row j pc = some (pc, (.ifCond .ne off, n), ax)) (ht : X_tg pc off = some t) (hp : pc + 3 = pc') (kt : b → X_T sc j (t, ls, r, S) Q) (kf : ¬ b → X_T sc j (pc', ls, r, S) Q) : X_T sc j (pc, ls, .int (iI (bI b)) :: r, S) Q := by
  have hb := bI_r b
  refine T_zif_ne hr ht hp (fun c => kt (Classical.byContradiction fun h => c (bI_f h))) (fun c => kf (fun h => ?_))
  rw [bI_t h] at c
  omega
end X_T3
end
section
/-! more locals than told do no harm -/
def X_sub (ls ls' : X_L) : Prop := (ls.map Prod.fst).Nodup ∧ (ls'.map Prod.fst).Nodup ∧ ∀ i v, X_ld ls i = some v → X_ld ls' i = some v
theorem X_ld_m {ls : X_L} {i : Nat} {v : Value} (h : X_ld ls i = some v) : i ∈ ls.map Prod.fst := by
  induction ls with
  | nil => cases h
  | cons q r ih =>
    unfold X_ld at h
    by_cases hq : q.1 = i
    · rw [← hq]; exact List.mem_cons_self
    · rw [if_neg hq] at h
      exact List.mem_cons_of_mem _ (ih h)
theorem X_ld_f {p : Nat × Value → Bool} {ls : X_L} {i : Nat} {v : Value} (hn : (ls.map Prod.fst).Nodup) : X_ld (ls.filter p) i = some v ↔ X_ld ls i = some v ∧ p (i, v) = true := by
  induction ls with
  | nil => exact ⟨fun h => (by cases h), fun h => (by cases h.1)⟩
  | cons q r ih =>
    rw [List.map_cons, List.nodup_cons] at hn
    have ih := ih hn.2
    by_cases hq : q.1 = i
    · have e : X_ld (q :: r) i = some q.2 := by
        show (if q.1 = i then some q.2 else X_ld r i) = _
        rw [if_pos hq]
      rw [e]
      by_cases hp : p q = true
      · rw [List.filter_cons_of_pos hp]
        have e2 : X_ld (q :: r.filter p) i = some q.2 := by
          show (if q.1 = i then some q.2 else X_ld (r.filter p) i) = _
          rw [if_pos hq]
        rw [e2]
        constructor
        · intro h
          refine ⟨h, ?_⟩
          cases h
          rw [← hq]
          exact hp
        · exact fun h => h.1
      · rw [List.filter_cons_of_neg hp]
        constructor
        · intro h
          have := (ih.mp h).1
          exact absurd (hq ▸ X_ld_m this) hn.1
        · rintro ⟨h, h2⟩
          cases h
          rw [← hq] at h2
          exact absurd h2 hp
    · have e : X_ld (q :: r) i = X_ld r i := by
        show (if q.1 = i then some q.2 else X_ld r i) = _
        rw [if_neg hq]
      rw [e]
      by_cases hp : p q = true
      · rw [List.filter_cons_of_pos hp]
        have e2 : X_ld (q :: r.filter p) i = X_ld (r.filter p) i := by
          show (if q.1 = i then some q.2 else X_ld (r.filter p) i) = _
          rw [if_neg hq]
        rw [e2]
        exact ih
      · rw [List.filter_cons_of_neg hp]
        exact ih
theorem X_sub_c {ls ls' : X_L} {p : Nat × Value → Bool} {i : Nat} {v : Value} (h : X_sub ls ls') (hp : ∀ w, p (i, w) = false) : X_sub ((i, v) :: ls.filter p) ((i, v) :: ls'.filter p) := by
  obtain ⟨h1, h2, h3⟩ := h
  have key : ∀ l : X_L, (l.map Prod.fst).Nodup → (((i, v) :: l.filter p).map Prod.fst).Nodup := by
    intro l hl
    rw [List.map_cons, List.nodup_cons]
    refine ⟨?_, (List.filter_sublist.map Prod.fst).nodup hl⟩
    intro hm
    obtain ⟨⟨a, b⟩, hb, rfl⟩ := List.mem_map.mp hm
    have := (List.mem_filter.mp hb).2
    rw [hp b] at this
    cases this
  refine ⟨key _ h1, key _ h2, ?_⟩
  intro k w hk
  by_cases hik : i = k
  · subst hik
    have e : ∀ l : X_L, X_ld ((i, v) :: l) i = some v := fun l => by
      show (if i = i then some v else X_ld l i) = _
      rw [if_pos rfl]
    rw [e] at hk ⊢
    exact hk
  · have e : ∀ l : X_L, X_ld ((i, v) :: l) k = X_ld l k := fun l => by
      show (if i = k then some v else X_ld l k) = _
      rw [if_neg hik]
    rw [e] at hk ⊢
    rw [X_ld_f h1] at hk
    rw [X_ld_f h2]
    exact ⟨h3 _ _ hk.1, hk.2⟩
theorem X_sub_1 {ls ls' : X_L} {i : Nat} {v : Value} (h : X_sub ls ls') : X_sub (X_s1 ls i v) (X_s1 ls' i v) := X_sub_c h (fun w => by simp)
theorem X_sub_2 {ls ls' : X_L} {i : Nat} {v : Value} (h : X_sub ls ls') : X_sub (X_s2 ls i v) (X_s2 ls' i v) := X_sub_c h (fun w => by simp)
/-- an outcome, the locals aside -/
def X_pk3 (ls' : X_L) (o : Option X_P) : Option X_P := o.map fun r => (r.1, ls', r.2.2)
theorem X_ps_sub {nL : Nat} {row : X_Row} {ls ls' : X_L} {st : List Value} {pc : Nat} {l1 : X_L} {st1 : List Value} (hR : X_sub ls ls') (h : X_pstep nL row ls st = some (pc, l1, st1)) : ∃ l1', X_pstep nL row ls' st = some (pc, l1', st1) ∧ X_sub l1 l1' := by
  obtain ⟨pp, ⟨i, n⟩, ax⟩ := row
  have hl := hR.2.2
  have fin : ∀ {o o' : Option X_P}, o = some (pc, l1, st1) → (∀ r, o = some r → r.2.1 = ls ∧ o' = some (r.1, ls', r.2.2)) → ∃ l1', o' = some (pc, l1', st1) ∧ X_sub l1 l1' := fun ho hk => by
    obtain ⟨e1, e2⟩ := hk _ ho
    simp only at e1 e2
    subst e1
    exact ⟨ls', e2, hR⟩
  cases i <;> first
    | (cases h; done)
    | (simp only [X_pstep, X_li_] at h ⊢
       split at h <;> first | (cases h; done) | (rename_i e; rw [hl _ _ e]; cases h; exact ⟨ls', rfl, hR⟩))
    | (simp only [X_pstep, X_ll_] at h ⊢
       split at h <;> first | (cases h; done) | (rename_i e; rw [hl _ _ e]; cases h; exact ⟨ls', rfl, hR⟩))
    | (simp only [X_pstep, X_la_] at h ⊢
       split at h <;> first | (cases h; done) | (rename_i e; rw [hl _ _ e]; cases h; exact ⟨ls', rfl, hR⟩))
    | (simp only [X_pstep, X_si_] at h ⊢
       split at h <;> first | (cases h; done) | skip
       split at h <;> first | (cases h; done) | skip
       rename_i e; simp only [if_pos e]; cases h; exact ⟨_, rfl, X_sub_1 hR⟩)
    | (simp only [X_pstep, X_sa_] at h ⊢
       split at h <;> first | (cases h; done) | skip
       split at h <;> first | (cases h; done) | skip
       rename_i e; simp only [if_pos e]; cases h; exact ⟨_, rfl, X_sub_1 hR⟩)
    | (simp only [X_pstep, X_sl_] at h ⊢
       split at h <;> first | (cases h; done) | skip
       split at h <;> first | (cases h; done) | skip
       rename_i e; simp only [if_pos e]; cases h; exact ⟨_, rfl, X_sub_2 hR⟩)
    | (simp only [X_pstep] at h ⊢
       split at h <;> first | (cases h; done) | skip
       rename_i x e0
       split at h <;> first | (cases h; done) | skip
       rename_i e; rw [hl _ _ e0]; simp only [if_pos e]; cases h; exact ⟨_, rfl, X_sub_1 hR⟩)
    | (refine fin h ?_
       clear h fin
       intro r hr
       simp only [X_pstep, X_i2, X_l2, X_li, X_i1, X_l1, X_br] at hr ⊢
       repeat' split at hr
       all_goals first
         | (cases hr; done)
         | (cases hr; exact ⟨rfl, rfl⟩)
         | (cases hr; simp_all; done)
         | (cases hr; simp_all; intro h; exact (show False by omega).elim))
theorem X_ps_no {sc : X_Sc} {nL j : Nat} {row : X_Row} {ls ls' : X_L} {st : List Value} {S : X_S} (h : X_hstep sc row st S ≠ none ∨ X_cstep j row ls st S ≠ none) : X_pstep nL row ls' st = none := by
  obtain ⟨pp, ⟨i, n⟩, ax⟩ := row
  cases i <;> first
    | rfl
    | exact (h.elim (fun h => h rfl) (fun h => h rfl)).elim
theorem X_cs_sub {j : Nat} {row : X_Row} {ls ls' : X_L} {st : List Value} {S : X_S} {o : X_O} (h : X_cstep j row ls st S = some o) :
    (∃ k as pc r S1, o = .inr (.inl (k, as, (pc, ls, r, S1))) ∧ X_cstep j row ls' st S = some (.inr (.inl (k, as, (pc, ls', r, S1))))) ∨ (∃ r, o = .inr (.inr r) ∧ X_cstep j row ls' st S = some (.inr (.inr r))) := by
  obtain ⟨pp, ⟨i, n⟩, ax⟩ := row
  cases i <;> first
    | (cases h; done)
    | (simp only [X_cstep] at h ⊢
       repeat' split at h
       all_goals first
         | (cases h; done)
         | (cases h; exact Or.inr ⟨_, rfl, rfl⟩)
         | (cases h; exact Or.inr ⟨_, rfl, by simp_all⟩)
         | (cases h; exact Or.inl ⟨_, _, _, _, _, rfl, rfl⟩)
         | (cases h; exact Or.inl ⟨_, _, _, _, _, rfl, by simp_all⟩))
theorem X_run_sub (sc : X_Sc) : ∀ (n j pc : Nat) (ls ls' : X_L) (st : List Value) (S : X_S) (r : Option Value × X_S), X_sub ls ls' → X_run sc n j (pc, ls, st, S) = some r → X_run sc n j (pc, ls', st, S) = some r := by
  intro n
  induction n with
  | zero => intro j pc ls ls' st S r hR h; cases h
  | succ n ih =>
    intro j pc ls ls' st S r hR h
    unfold X_run at h ⊢
    cases hrow : X_row j pc with
    | none =>
      have e : X_step sc j (pc, ls, st, S) = none := by simp only [X_step, hrow]
      rw [e] at h
      cases h
    | some row =>
      cases hp : X_pstep (X_nL j) row ls st with
      | some o =>
        obtain ⟨pc1, l1, st1⟩ := o
        obtain ⟨l1', hp', hR'⟩ := X_ps_sub hR hp
        have e : X_step sc j (pc, ls, st, S) = some (.inl (pc1, l1, st1, S)) := by simp only [X_step, hrow, hp]
        have e' : X_step sc j (pc, ls', st, S) = some (.inl (pc1, l1', st1, S)) := by simp only [X_step, hrow, hp']
        rw [e] at h
        rw [e']
        exact ih _ _ _ _ _ _ _ hR' h
      | none =>
        cases hh : X_hstep sc row st S with
        | some o =>
          obtain ⟨pc1, st1, S1⟩ := o
          have hp' : X_pstep (X_nL j) row ls' st = none := X_ps_no (sc := sc) (j := j) (ls := ls) (S := S) (Or.inl (by rw [hh]; simp))
          have e : X_step sc j (pc, ls, st, S) = some (.inl (pc1, ls, st1, S1)) := by simp only [X_step, hrow, hp, hh]
          have e' : X_step sc j (pc, ls', st, S) = some (.inl (pc1, ls', st1, S1)) := by simp only [X_step, hrow, hp', hh]
          rw [e] at h
          rw [e']
          exact ih _ _ _ _ _ _ _ hR h
        | none =>
          cases hc : X_cstep j row ls st S with
          | none =>
            have e : X_step sc j (pc, ls, st, S) = none := by simp only [X_step, hrow, hp, hh, hc]
            rw [e] at h
            cases h
          | some o =>
            have hp' : X_pstep (X_nL j) row ls' st = none := X_ps_no (sc := sc) (j := j) (ls := ls) (S := S) (Or.inr (by rw [hc]; simp))
            have e : X_step sc j (pc, ls, st, S) = some o := by simp only [X_step, hrow, hp, hh, hc]
            rw [e] at h
            rcases X_cs_sub (ls' := ls') hc with ⟨k, as, pc1, st1, S1, rfl, hc'⟩ | ⟨r1, rfl, hc'⟩
            · have e' : X_step sc j (pc, ls', st, S) = some (.inr (.inl (k, as, (pc1, ls', st1, S1)))) := by simp only [X_step, hrow, hp', hh, hc']
              rw [e']
              simp only at h ⊢
              split at h
              · exact ih _ _ _ _ _ _ _ hR h
              · cases h
            · have e' : X_step sc j (pc, ls', st, S) = some (.inr (.inr r1)) := by simp only [X_step, hrow, hp', hh, hc']
              rw [e']
              exact h
/-- a walk over fewer locals serves -/
def X_lsub : X_L → X_L → Prop
  | [], _ => True
  | (i, v) :: t, l => X_ld l i = some v ∧ X_lsub t l
theorem X_lsub_ld {ls ls' : X_L} (h : X_lsub ls ls') {i : Nat} {v : Value} (hv : X_ld ls i = some v) : X_ld ls' i = some v := by
  induction ls with
  | nil => cases hv
  | cons q r ih =>
    obtain ⟨k, w⟩ := q
    unfold X_ld at hv
    by_cases hk : k = i
    · simp only [hk, if_true] at hv
      cases hv
      rw [← hk]
      exact h.1
    · simp only [hk, if_false] at hv
      exact ih h.2 hv
def X_ndb : X_L → Bool
  | [] => true
  | q :: r => (r.all fun z => !(z.1 == q.1)) && X_ndb r
theorem X_ndb_n {ls : X_L} (h : X_ndb ls = true) : (ls.map Prod.fst).Nodup := by
  induction ls with
  | nil => exact List.nodup_nil
  | cons q r ih =>
    unfold X_ndb at h
    rw [Bool.and_eq_true] at h
    rw [List.map_cons, List.nodup_cons]
    refine ⟨?_, ih h.2⟩
    intro hm
    obtain ⟨z, hz, hz2⟩ := List.mem_map.mp hm
    have := List.all_eq_true.mp h.1 z hz
    rw [hz2] at this
    simp at this
theorem T_sub {sc : X_Sc} {j pc : Nat} {ls ls' : X_L} {st : List Value} {S : X_S} {Q : Option Value → X_S → Prop} (h1 : X_lsub ls ls') (h2 : X_ndb ls = true) (h3 : X_ndb ls' = true) (h : X_T sc j (pc, ls, st, S) Q) : X_T sc j (pc, ls', st, S) Q := by
  obtain ⟨n, v, S', hr, hq⟩ := h
  exact ⟨n, v, S', X_run_sub sc n j pc ls ls' st S _ ⟨X_ndb_n h2, X_ndb_n h3, fun i v hv => X_lsub_ld h1 hv⟩ hr, hq⟩
end
section
/-! a method without an answer has none -/
theorem X_step_void {sc : X_Sc} {j : Nat} (hj : X_rt j = none) {F : X_F} {v : Option Value} {S' : X_S} (h : X_step sc j F = some (.inr (.inr (v, S')))) : v = none := by
  unfold X_step at h
  cases hr : X_row j F.1 with
  | none => rw [hr] at h; cases h
  | some row =>
    rw [hr] at h
    simp only at h
    split at h
    · cases h
    · split at h
      · cases h
      · obtain ⟨pc, ⟨i, n⟩, ax⟩ := row
        cases i <;> first
          | (cases h; done)
          | (simp only [X_cstep, hj] at h
             repeat' split at h
             all_goals first
               | (cases h; done)
               | (cases h; rfl)
               | (simp at h; done)
               | (simp at h; exact h.1.symm))
theorem X_run_void {sc : X_Sc} {j : Nat} (hj : X_rt j = none) : ∀ (n : Nat) (F : X_F) (v : Option Value) (S' : X_S), X_run sc n j F = some (v, S') → v = none := by
  intro n
  induction n with
  | zero => intro F v S' h; cases h
  | succ n ih =>
    intro F v S' h
    unfold X_run at h
    cases hs : X_step sc j F with
    | none => rw [hs] at h; cases h
    | some O =>
      rw [hs] at h
      rcases O with F' | ⟨k, as, pc, ls, st, S⟩ | q
      · exact ih _ _ _ h
      · simp only at h
        split at h
        · exact ih _ _ _ h
        · cases h
      · cases h
        exact X_step_void hj hs
theorem T_void {sc : X_Sc} {j : Nat} {F : X_F} {Q : Option Value → X_S → Prop} (hj : X_rt j = none) (h : X_T sc j F Q) : X_T sc j F (fun v S' => v = none ∧ Q v S') := by
  obtain ⟨n, v, S', h1, h2⟩ := h
  exact ⟨n, v, S', h1, X_run_void hj n F v S' h1, h2⟩
end
