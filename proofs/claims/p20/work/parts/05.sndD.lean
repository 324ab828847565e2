/-! one step of the heap's instructions; calls; the whole walk -/
theorem X_S_up {sc : X_Sc} {row : X_Row} {st st' : List Value} {S S' : X_S} {pc' : Nat} (h : X_hstep sc row st S = some (pc', st', S')) : S.2.1 ≤ S'.2.1 ∧ S.2.2 ≤ S'.2.2 := by
  obtain ⟨pc, ⟨i, n⟩, ax⟩ := row
  unfold X_hstep at h
  repeat' split at h
  all_goals first
    | (cases h; done)
    | (cases h; exact ⟨Nat.le_refl _, Nat.le_refl _⟩)
    | (cases h; exact ⟨Nat.le_add_right _ _, Nat.le_add_right _ _⟩)
section X_HS
variable {p : Program} {l : Launch} {e : Env} {R : Room} {s : State} {m : MethodId} {args : Array Value} {below : List Frame} {meth : Method} {c : Code} {H : Heap} {locs : List Loc} {cells slots : Nat} {Q : State → Prop}
variable {sc : X_Sc} {scr : Cell} {D : va_G} {cA : FieldType → ClassId} {b B : Nat} {j : Nat} {lsA : Array Slot} {S : X_S}
set_option maxHeartbeats 4000000 in
theorem X_heap (hsc : scr.slots.size = sc.1 ∧ ∀ j, j < sc.1 → scr.slots[j]? = some (.int (sc.2 j))) (C : X_Cx scr D cA p R s m args meth c j) {row : X_Row} {st st' : List Value} {S' : X_S} {pc' z0 l0 : Nat} (hc : X_chk j row = true) (hR : X_Rl b B scr D cA S H) (hq : ∀ q ∈ locs, B ≤ q.base) (hsz : lsA.size = X_nL j)
    (hs : X_hstep sc row st S = some (pc', st', S')) (hz : z0 ≤ S.2.1) (hl0 : l0 ≤ S.2.2) (hfit : S'.2.1 - z0 ≤ R.cells ∧ S'.2.2 - l0 ≤ R.slots)
    (k : ∀ H' locs', X_Rl b B scr D cA S' H' → (∀ q ∈ locs', B ≤ q.base) → W p l e R s m args below meth c H' locs' (S'.2.1 - z0) (S'.2.2 - l0) Q (F0 m pc' lsA (X_cvs (X_ad b B) st'))) :
    W p l e R s m args below meth c H locs (S.2.1 - z0) (S.2.2 - l0) Q (F0 m row.1 lsA (X_cvs (X_ad b B) st)) := by
  obtain ⟨pc, ⟨i, n⟩, ax⟩ := row
  cases i with
  | getfield idx =>
    simp only [X_hstep] at hs
    split at hs
    · rename_i q r
      split at hs
      · rename_i ci fs h1
        split at hs
        · rename_i h2
          split at hs
          · rename_i v h3
            cases hs
            exact X_getfield C hc hR h1 h2 h3 (k H locs hR hq)
          · cases hs
        · cases hs
      · cases hs
    · cases hs
  | putfield idx =>
    simp only [X_hstep] at hs
    split at hs
    · rename_i v q r
      split at hs
      · rename_i ci fs h1
        split at hs
        · rename_i h2
          cases hs
          exact X_putfield C hc hR hq h1 h2.1 h2.2.1 h2.2.2 k
        · cases hs
      · cases hs
    · cases hs
  | new idx =>
    simp only [X_hstep] at hs
    split at hs
    · rename_i fs h1
      cases hs
      have f1 : S.2.1 + 1 - z0 ≤ R.cells := hfit.1
      have f2 : S.2.2 + fs.length - l0 ≤ R.slots := hfit.2
      refine X_new C hc hR h1 (by omega) (by omega) (fun H' hR' => ?_)
      have hk := k H' locs hR' hq
      rw [show S.2.1 - z0 + 1 = S.2.1 + 1 - z0 by omega, show S.2.2 - l0 + fs.length = S.2.2 + fs.length - l0 by omega]
      exact hk
    · cases hs
  | newarray at_ =>
    simp only [X_hstep] at hs
    split at hs
    · rename_i z r
      split at hs
      · cases hs
      · rename_i h0
        split at hs
        · rename_i cc h1
          cases hs
          have f1 : S.2.1 + 1 - z0 ≤ R.cells := hfit.1
          have f2 : S.2.2 + z.toNatClampNeg - l0 ≤ R.slots := hfit.2
          refine X_newarr C hc hR h0 h1 (by omega) (by omega) (fun H' hR' => ?_)
          have hk := k H' locs hR' hq
          rw [show S.2.1 - z0 + 1 = S.2.1 + 1 - z0 by omega, show S.2.2 - l0 + z.toNatClampNeg = S.2.2 + z.toNatClampNeg - l0 by omega]
          exact hk
        · cases hs
    · cases hs
  | anewarray idx =>
    simp only [X_hstep] at hs
    split at hs
    · rename_i z r
      split at hs
      · cases hs
      · rename_i h0
        cases hs
        have f1 : S.2.1 + 1 - z0 ≤ R.cells := hfit.1
        have f2 : S.2.2 + z.toNatClampNeg - l0 ≤ R.slots := hfit.2
        refine X_anewarr C hc hR h0 (by omega) (by omega) (fun H' hR' => ?_)
        have hk := k H' locs hR' hq
        rw [show S.2.1 - z0 + 1 = S.2.1 + 1 - z0 by omega, show S.2.2 - l0 + z.toNatClampNeg = S.2.2 + z.toNatClampNeg - l0 by omega]
        exact hk
    · cases hs
  | iaload =>
    simp only [X_hstep] at hs
    split at hs
    · rename_i i q r
      split at hs
      · split at hs
        · rename_i k0 f h1
          split at hs
          · cases hs
          · rename_i h0
            cases hs
            exact X_iald C hc hR h1 h0 (k H locs hR hq)
        · cases hs
      · rename_i hax
        split at hs
        · rename_i hq0
          split at hs
          · cases hs
          · rename_i h0
            cases hs
            subst hq0
            exact X_sald C hsc hc hax hR h0 (k H locs hR hq)
        · cases hs
    · cases hs
  | laload =>
    simp only [X_hstep] at hs
    split at hs
    · rename_i i q r
      split at hs
      · rename_i k0 f h1
        split at hs
        · cases hs
        · rename_i h0
          cases hs
          exact X_lald C hc hR h1 h0 (k H locs hR hq)
      · cases hs
    · cases hs
  | baload =>
    simp only [X_hstep] at hs
    split at hs
    · rename_i i q r
      split at hs
      · rename_i k0 f h1
        split at hs
        · cases hs
        · rename_i h0
          cases hs
          exact X_bald C hc hR h1 h0 (k H locs hR hq)
      · cases hs
    · cases hs
  | aaload =>
    simp only [X_hstep] at hs
    split at hs
    · rename_i i q r
      split at hs
      · rename_i k0 f h1
        split at hs
        · cases hs
        · rename_i h0
          cases hs
          exact X_aald C hc hR h1 h0 (k H locs hR hq)
      · cases hs
    · cases hs
  | iastore =>
    simp only [X_hstep] at hs
    split at hs
    · rename_i x i q r
      split at hs
      · rename_i k0 f h1
        split at hs
        · cases hs
        · rename_i h0
          cases hs
          exact X_iast C hc hR hq h1 h0 k
      · cases hs
    · cases hs
  | lastore =>
    simp only [X_hstep] at hs
    split at hs
    · rename_i x i q r
      split at hs
      · rename_i k0 f h1
        split at hs
        · cases hs
        · rename_i h0
          cases hs
          exact X_last C hc hR hq h1 h0 k
      · cases hs
    · cases hs
  | bastore =>
    simp only [X_hstep] at hs
    split at hs
    · rename_i x i q r
      split at hs
      · rename_i k0 f h1
        split at hs
        · cases hs
        · rename_i h0
          cases hs
          exact X_bast C hc hR hq h1 h0 k
      · cases hs
    · cases hs
  | aastore =>
    simp only [X_hstep] at hs
    split at hs
    · rename_i v i q r
      split at hs
      · rename_i k0 f h1
        split at hs
        · rename_i ci fs h3
          split at hs
          · cases hs
          · rename_i h0
            cases hs
            exact X_aast C hc hR hq h1 h3 h0 k
        · cases hs
      · cases hs
    · cases hs
  | arraylength =>
    simp only [X_hstep] at hs
    split at hs
    · rename_i q r
      split at hs
      · rename_i h0
        cases hs
        obtain ⟨rfl, hax⟩ := h0
        exact X_slen C hsc hc hax hR (k H locs hR hq)
      · cases hs
    · cases hs
  | invokespecial idx =>
    simp only [X_hstep] at hs
    split at hs
    · rename_i q r
      split at hs
      · rename_i h0
        have h8 := h0.2
        rw [← X_cvs_cat (X_ad b B)] at h8
        cases hs
        have hd := X_chk_dec hc
        obtain ⟨hx, hb, hr, hml, hown, hts, hlocks, hin, hK, hfr, hlo, hlaw⟩ := C
        have hw : X_wd ax.2.1 (.methodLink (X_R (X_o j)) idx objectInit) = true ∧ 1 ≤ X_fr j ∧ 20 ≤ X_lo j := by
          unfold X_chk at hc
          simp only [Bool.and_eq_true, h0.1, if_true, decide_eq_true_eq] at hc
          obtain ⟨-, ⟨w1, w4⟩, w5⟩ := hc
          exact ⟨w1, w4, w5⟩
        obtain ⟨w1, w4, w5⟩ := hw
        have w2 := X_w_oi
        have w3 := X_w_oc
        exact W.objInit hx hb hown (hts _ (X_wd_in w1)) (hts _ (X_wd_in w2)) (hts _ (X_wd_in w3)) rfl (by rw [hml]; exact hsz) rfl hd (Nat.le_trans w4 hfr) (by show 2 * 0 + _ + 12 ≤ _; unfold X_cvs at h8; omega) (k H locs hR hq)
      · cases hs
    · cases hs
  | invokestatic idx =>
    simp only [X_hstep] at hs
    split at hs
    · rename_i hax
      split at hs
      · rename_i z dp a sp a0 r
        split at hs
        · rename_i n0 f n1 g h1 h2
          split at hs
          · cases hs
          · rename_i h0
            cases hs
            simp only [not_or, Decidable.not_not] at h0
            obtain ⟨g3, g4, g5, g6, g7, g8⟩ := h0
            exact X_acopy C hc hax hR hq hsz h1 h2 g3 g4 g5 g6 g7 (by rw [← X_cvs_cat (X_ad b B)] at g8; exact g8) k
        · cases hs
      · cases hs
    · cases hs
  | _ => cases hs
end X_HS
theorem X_pop_spec : ∀ (n : Nat) (st as r : List Value), X_pop n st = some (as, r) → st = as.reverse ++ r ∧ as.length = n := by
  intro n
  induction n with
  | zero =>
    intro st as r h
    cases h
    exact ⟨rfl, rfl⟩
  | succ n ih =>
    intro st as r h
    cases st with
    | nil => cases h
    | cons v t =>
      simp only [X_pop] at h
      split at h
      · rename_i as' r' h1
        cases h
        obtain ⟨rfl, hl⟩ := ih _ _ _ h1
        exact ⟨by simp, by simp [hl]⟩
      · cases h
theorem X_run_up {sc : X_Sc} : ∀ (n j : Nat) (F : X_F) (v : Option Value) (S' : X_S), X_run sc n j F = some (v, S') → F.2.2.2.2.1 ≤ S'.2.1 ∧ F.2.2.2.2.2 ≤ S'.2.2 := by
  intro n
  induction n with
  | zero => intro j F v S' h; cases h
  | succ n ih =>
    intro j F v S' h
    unfold X_run at h
    split at h
    · rename_i F' hF
      have h1 := ih j F' v S' h
      have h2 : F.2.2.2.2.1 ≤ F'.2.2.2.2.1 ∧ F.2.2.2.2.2 ≤ F'.2.2.2.2.2 := by
        unfold X_step at hF
        split at hF
        · split at hF
          · cases hF
            exact ⟨Nat.le_refl _, Nat.le_refl _⟩
          · split at hF
            · rename_i hh
              cases hF
              exact X_S_up hh
            · unfold X_cstep at hF
              repeat' split at hF
              all_goals cases hF
        · cases hF
      exact ⟨Nat.le_trans h2.1 h1.1, Nat.le_trans h2.2 h1.2⟩
    · rename_i k as pc ls st S hF
      have h2 : S = F.2.2.2 := by
        unfold X_step at hF
        split at hF
        · split at hF
          · cases hF
          · split at hF
            · cases hF
            · unfold X_cstep at hF
              repeat' split at hF
              all_goals first
                | (cases hF; done)
                | (cases hF; rfl)
        · cases hF
      subst h2
      split at h
      · rename_i v1 S1 h3
        have e1 := ih _ _ _ _ h3
        have e2 := ih _ _ _ _ h
        exact ⟨Nat.le_trans e1.1 e2.1, Nat.le_trans e1.2 e2.2⟩
      · cases h
    · rename_i r hF
      cases h
      have h2 : S' = F.2.2.2 := by
        unfold X_step at hF
        split at hF
        · split at hF
          · cases hF
          · split at hF
            · cases hF
            · unfold X_cstep at hF
              repeat' split at hF
              all_goals first
                | (cases hF; done)
                | (cases hF; rfl)
        · cases hF
      subst h2
      exact ⟨Nat.le_refl _, Nat.le_refl _⟩
    · cases h
def X_ws (k : Nat) : List Cond := .code (X_y k) (X_b k) (X_nL k) (X_rt k) :: lw_g
/-- a method's start and end -/
def X_Pc (b B : Nat) (scr : Cell) (D : va_G) (cA : FieldType → ClassId) (as : List Value) (S : X_S) : Array Value → State → Prop := fun a U => a = (X_cvs (X_ad b B) as).toArray ∧ X_Rl b B scr D cA S U.heap ∧ X_K D cA U ∧ U.isArrayOf scr .int ∧ scr.vm ≠ .unknown
def X_Qc (b B : Nat) (scr : Cell) (D : va_G) (cA : FieldType → ClassId) (v : Option Value) (S' : X_S) : Array Value → State → Outcome → State → Prop := fun _ _ o t => o = .returned (v.map (X_cv (X_ad b B))) ∧ X_Rl b B scr D cA S' t.heap
theorem X_blind {b B : Nat} {scr : Cell} {D : va_G} {cA : FieldType → ClassId} {as : List Value} {S : X_S} : FrameBlind (X_Pc b B scr D cA as S) := fun a U g mk h => ⟨h.1, h.2.1, X_K.same (s := U) (U := U.calling g mk a) rfl h.2.2.1, State.isArrayOf_alike (show U.vm.Alike (U.calling g mk a).vm from Vm.Alike.refl _) h.2.2.2.1, h.2.2.2.2⟩
section X_CALL
variable {p : Program} {l : Launch} {e : Env} {R : Room} {s : State} {m : MethodId} {args : Array Value} {below : List Frame} {meth : Method} {c : Code} {H : Heap} {locs : List Loc} {cells slots mc ms : Nat} {Q : State → Prop}
variable {sc : X_Sc} {scr : Cell} {D : va_G} {cA : FieldType → ClassId} {b B : Nat} {j : Nat} {lsA : Array Slot} {S' : X_S}
theorem X_callW {a : Array Value} {v : Option Value} {pc : Nat} {st0 rest : List Value} (hr : va_Run p l e R s m args below meth c H locs cells slots mc ms (F0 m pc lsA st0) rest (X_Qc b B scr D cA v S' a) (fun q => B ≤ q)) (hq : ∀ q ∈ locs, B ≤ q.base)
    (k : ∀ H' locs', X_Rl b B scr D cA S' H' → (∀ q ∈ locs', B ≤ q.base) → W p l e R s m args below meth c H' locs' (cells + mc) (slots + ms) Q (F0 m (pc + 3) lsA ((v.map (X_cv (X_ad b B))).toList ++ rest))) : W p l e R s m args below meth c H locs cells slots Q (F0 m pc lsA st0) := by
  intro T hT X
  obtain ⟨v', st₀, t, T', L, h0, X', hL, e1, e2, ⟨hv, hR'⟩, st⟩ := hr T hT X
  have hv' : v' = v.map (X_cv (X_ad b B)) := Outcome.returned.inj hv
  subst hv'
  obtain ⟨t2, a1, b1⟩ := k T'.heap (locs ++ L) (by rw [e1]; exact hR') (fun q hq2 => by
    rcases List.mem_append.mp hq2 with h | h
    · exact hq q h
    · exact hL q h) T' rfl X'
  exact ⟨t2, st t2 a1, b1⟩
end X_CALL
theorem X_goodin {k : Nat} (h : Cond.code (X_y k) (X_b k) (X_nL k) (X_rt k) ∈ lw_g) : GoodIn lw_g (X_ws k) := by
  have hg : ∀ w ∈ lw_g, w ∈ lw_g ∧ ((w.onTables && w.keeps) = true ∨ ∃ ty, w = .arrayClass ty) := fun w hw => ⟨hw, good_of_word (List.mem_filter.mp hw).2⟩
  intro w hw
  rcases List.mem_cons.mp hw with h1 | h1
  · subst h1
    exact hg _ h
  · exact hg _ h1
theorem X_slen_cat (as : List Value) : (lg_sl as).length = (as.map fun v => v.category).sum := by
  unfold lg_sl
  induction as with
  | nil => rfl
  | cons v r ih =>
    rw [List.flatMap_cons, List.length_append, ih, List.map_cons, List.sum_cons]
    congr 1
    rcases lv_cat v with h | h
    · rw [if_neg (by omega), h]; rfl
    · rw [if_pos h, h]; rfl
theorem X_init_eq {k : Nat} (h : X_init k = true) : (X_y k).name = "<init>" := of_decide_eq_true h
/-- what is told ahead of a call -/
theorem X_mok_spec {k : Nat} (h : X_mok k = true) :
    Cond.code (X_y k) (X_b k) (X_nL k) (X_rt k) ∈ lw_g ∧ Cond.initialized (X_y k).cls ∈ lw_g ∧ (X_y k).cls ≠ "java/lang/invoke/MethodHandle" ∧ (X_y k).cls ≠ "java/lang/invoke/VarHandle"
    ∧ (parseMethodDescriptor (X_y k).desc).map (fun d => d.parameters.length) = some (X_na k) ∧ plainName (X_y k).cls = true ∧ X_R (X_o k) = (X_y k).cls
    ∧ (X_kd k = 0 → X_wd (X_pl k).2.1 (.instanceMethod (X_y k)) = true ∧ X_wd (X_pl k).2.2 (.selects (X_y k).cls (X_y k) (X_y k)) = true ∧ ∃ q, X_cl[X_ci k]? = some q ∧ (X_y k).cls = q.1)
    ∧ (X_kd k = 1 → X_wd (X_pl k).2.1 (.static (X_y k)) = true)
    ∧ (X_kd k = 2 → X_wd (X_pl k).2.1 (.instanceMethod (X_y k)) = true ∧ X_init k = true ∧ X_rt k = none) := by
  unfold X_mok at h
  simp only [Bool.and_eq_true, decide_eq_true_eq] at h
  obtain ⟨⟨⟨⟨⟨⟨⟨h1, h2⟩, h3⟩, h4⟩, h5⟩, h9⟩, h10⟩, h11⟩ := h
  have hcode : Cond.code (X_y k) (X_b k) (X_nL k) (X_rt k) ∈ lw_g := by
    split at h1
    · rename_i y bb n r hw
      simp only [Bool.and_eq_true, decide_eq_true_eq] at h1
      obtain ⟨⟨⟨e1, e2⟩, e3⟩, e4⟩ := h1
      have hbb : X_b k = bb := by
        unfold X_b
        rw [if_neg e4, hw]
      rw [hbb, ← e1, ← e2, ← e3]
      exact List.mem_filter.mpr ⟨List.mem_of_getElem? hw, rfl⟩
    · cases h1
  refine ⟨hcode, X_wd_in h2, h3, h4, h5, h9, h10, fun z => ?_, fun z => ?_, fun z => ?_⟩
  · rw [z] at h11
    simp only [Bool.and_eq_true] at h11
    refine ⟨h11.1.1, h11.1.2, ?_⟩
    have w4 := h11.2
    split at w4
    · rename_i q hq
      exact ⟨q, hq, of_decide_eq_true w4⟩
    · cases w4
  · rw [z] at h11
    exact h11
  · rw [z] at h11
    simp only [Bool.and_eq_true, decide_eq_true_eq] at h11
    exact ⟨h11.1.1, h11.1.2, h11.2⟩
theorem X_cw_lo {j o idx : Nat} {ax : Nat × Nat × Nat} (h : X_cw j o idx ax = true) : X_lawlo ≤ j ∨ ax.1 < X_lawlo := by
  unfold X_cw at h
  simp only [Bool.and_eq_true, Bool.or_eq_true, decide_eq_true_eq] at h
  exact h.1.2
theorem X_cw_spec {j o idx : Nat} {ax : Nat × Nat × Nat} (h : X_cw j o idx ax = true) :
    X_mok ax.1 = true ∧ X_fr ax.1 + 1 ≤ X_fr j ∧ 8 + (X_nL ax.1 + 11) + X_lo ax.1 ≤ X_lo j ∧ ax.1 < X_lawj
    ∧ (Cond.methodLink (X_R o) idx (X_y ax.1) ∈ lw_g ∨ Cond.methodLinkNest (X_R o) idx (X_y ax.1) "MixfixBench" ∈ X_nest) := by
  unfold X_cw at h
  simp only [Bool.and_eq_true, decide_eq_true_eq] at h
  obtain ⟨⟨⟨⟨h6, h7⟩, h8⟩, -⟩, h11⟩ := h
  refine ⟨X_mokA _ h8, h6, h7, h8, ?_⟩
  obtain ⟨g1, g2, g3⟩ := X_PM_ok o _ (List.mem_of_getElem? h11)
  by_cases e : ax.2.1 % 2 = 0
  · refine Or.inl ?_
    have h4 := List.mem_filter.mpr ⟨g1, g2 e⟩
    simp only [X_pmw, e, if_true] at h4
    exact h4
  · refine Or.inr ?_
    have h4 := List.mem_filter.mpr ⟨g1, g3 e⟩
    simp only [X_pmw, e, if_false] at h4
    exact h4
/-- the whole walk, for runs of at most n steps -/
def X_Walk (sc : X_Sc) (l : Launch) (b B : Nat) (scr : Cell) (D : va_G) (cA : FieldType → ClassId) (n : Nat) : Prop :=
  ∀ (j : Nat) (F : X_F) (v : Option Value) (S' : X_S), X_run sc n j F = some (v, S') →
  ∀ (p : Program) (e : Env) (R : Room) (s : State) (m : MethodId) (args : Array Value) (below : List Frame) (meth : Method) (c : Code) (H : Heap) (locs : List Loc) (lsA : Array Slot) (z0 l0 : Nat) (Q : State → Prop),
    X_Cx scr D cA p R s m args meth c j → lv_has lsA (X_nL j) (X_cvl (X_ad b B) F.2.1) → X_Rl b B scr D cA F.2.2.2 H → (∀ q ∈ locs, B ≤ q.base) → z0 ≤ F.2.2.2.2.1 → l0 ≤ F.2.2.2.2.2 → S'.2.1 - z0 ≤ R.cells → S'.2.2 - l0 ≤ R.slots →
    (∀ (row : X_Row) (ls : X_L) (st : List Value) (lsA' : Array Slot) (H' : Heap) (locs' : List Loc), X_chk j row = true → X_cstep j row ls st S' = some (.inr (.inr (v, S'))) → X_Rl b B scr D cA S' H' → (∀ q ∈ locs', B ≤ q.base) →
      W p l e R s m args below meth c H' locs' (S'.2.1 - z0) (S'.2.2 - l0) Q (F0 m row.1 lsA' (X_cvs (X_ad b B) st))) →
    W p l e R s m args below meth c H locs (F.2.2.2.2.1 - z0) (F.2.2.2.2.2 - l0) Q (F0 m F.1 lsA (X_cvs (X_ad b B) F.2.2.1))
set_option maxHeartbeats 2000000 in
theorem X_met {sc : X_Sc} {l : Launch} {b B : Nat} {scr : Cell} {D : va_G} {cA : FieldType → ClassId} {n : Nat} (hW : X_Walk sc l b B scr D cA n) {k : Nat} {as : List Value} {S : X_S} {v : Option Value} {S' : X_S} (h : X_run sc n k (0, lv_args 0 as, [], S) = some (v, S'))
    (hpl : plainName (X_y k).cls = true) (hR : X_R (X_o k) = (X_y k).cls) (hlaw : k < X_lawj) (hn : (as.map fun v => v.category).sum ≤ X_nL k) :
    Met l (X_y k) (X_ws k) ({ frames := X_fr k, cells := S'.2.1 - S.2.1, slots := S'.2.2 - S.2.2, locals := X_lo k }) (X_Pc b B scr D cA as S) (X_Qc b B scr D cA v S') (S'.2.1 - S.2.1) (S'.2.2 - S.2.2) (fun q => B ≤ q) := by
  refine Met.ofW (cc := X_b k) (maxL := X_nL k) (ret := X_rt k) hpl rfl ?_
  intro p e s m args below meth c s₁ BB hml hv
  obtain ⟨rfl, hRl, hK, hsv⟩ := hv
  have hts := atoms_spec (ws := X_ws k) BB.pre
  have hown : s.vm.findClass (X_R (X_o k)) = some m.cls := by rw [hR]; exact findClass_of_methodNamed BB.named
  have hlocks := BB.notSynchronized
  have hin : X_init k = true → meth.name = "<init>" := fun q => (name_of_methodNamed BB.named BB.method).1.trans (X_init_eq q)
  have hl := lv_entry (X_cvs (X_ad b B) as) (n := X_nL k) (by rw [X_slen_cat, X_cvs_cat]; exact hn)
  rw [lg_entry_eq]
  generalize (lg_sl (X_cvs (X_ad b B) as) ++ List.replicate (X_nL k - (lg_sl (X_cvs (X_ad b B) as)).length) Slot.unset).toArray = ls at hl ⊢
  rw [X_args] at hl
  have C : X_Cx scr D cA p ((headSpec (X_ws k) { frames := X_fr k, cells := S'.2.1 - S.2.1, slots := S'.2.2 - S.2.2, locals := X_lo k }).room) s m (X_cvs (X_ad b B) as).toArray meth c k :=
    ⟨BB.exec, BB.bytes, BB.returns, hml, hown, fun w hw => hts w (List.mem_cons_of_mem _ hw), hlocks, hin, hK, Nat.le_refl _, Nat.le_refl _, hsv⟩
  have key := hW k (0, lv_args 0 as, [], S) v S' h p e _ s m _ below meth c s.heap [] ls S.2.1 S.2.2 (MQ below (X_Qc b B scr D cA v S') (X_cvs (X_ad b B) as).toArray s (S'.2.1 - S.2.1) (S'.2.2 - S.2.2) (fun q => B ≤ q)) C hl hRl (fun q hq => by cases hq) (Nat.le_refl _) (Nat.le_refl _) (Nat.le_refl _) (Nat.le_refl _) ?_
  · simp only [Nat.sub_self] at key
    exact key
  · intro row ls2 st lsA' H' locs' hc hs hR' hq'
    have hx := BB.exec
    have hb := BB.bytes
    have hr := BB.returns
    obtain ⟨pc, ⟨i, nn⟩, ax⟩ := row
    have hd := X_chk_dec hc
    cases i with
    | ireturn =>
      simp only [X_cstep] at hs
      split at hs
      · rename_i x
        split at hs
        · rename_i ty hty
          split at hs
          · rename_i hfit
            cases hs
            exact W.zret (ty := ty) hx hb (hr.trans hty) (X_fit_ok id hfit).1 (fun t ht _ => ⟨rfl, by rw [ht]; exact hR'⟩) hq' hd
          · cases hs
        · cases hs
      · cases hs
    | lreturn =>
      simp only [X_cstep] at hs
      split at hs
      · rename_i x
        split at hs
        · rename_i ty hty
          split at hs
          · rename_i hfit
            cases hs
            have hty2 : ty = .long := by
              unfold X_fit at hfit
              split at hfit <;> first | rfl | (rename_i q; cases q) | cases hfit
            subst hty2
            exact W.lret hx hb (hr.trans hty) (fun t ht _ => ⟨rfl, by rw [ht]; exact hR'⟩) hq' hd
          · cases hs
        · cases hs
      · cases hs
    | return_ =>
      simp only [X_cstep] at hs
      split at hs
      · split at hs
        · rename_i hty
          cases hs
          exact W.vret hx hb (hr.trans hty) (fun t ht _ => ⟨rfl, by rw [ht]; exact hR'⟩) hq' hd
        · cases hs
      · cases hs
    | invokevirtual idx =>
      simp only [X_cstep] at hs
      repeat' split at hs
      all_goals cases hs
    | invokespecial idx =>
      simp only [X_cstep] at hs
      repeat' split at hs
      all_goals cases hs
    | invokestatic idx =>
      simp only [X_cstep] at hs
      repeat' split at hs
      all_goals cases hs
    | _ => cases hs
set_option maxHeartbeats 4000000 in
theorem X_walk (sc : X_Sc) (l : Launch) (b B : Nat) (scr : Cell) (D : va_G) (cA : FieldType → ClassId) (hsc : scr.slots.size = sc.1 ∧ ∀ j, j < sc.1 → scr.slots[j]? = some (.int (sc.2 j))) : ∀ n, X_Walk sc l b B scr D cA n := by
  intro n
  induction n with
  | zero => intro j F v S' h; cases h
  | succ n ih =>
    intro j F v S' h p e R s m args below meth c H locs lsA z0 l0 Q C hl hR hq hz0 hl0 hfc hfs hend
    obtain ⟨pc, ls, st, S⟩ := F
    unfold X_run at h
    cases hst : X_step sc j (pc, ls, st, S) with
    | none => rw [hst] at h; cases h
    | some O =>
      rw [hst] at h
      unfold X_step at hst
      cases hrow : X_row j pc with
      | none => rw [hrow] at hst; cases hst
      | some row =>
        rw [hrow] at hst
        obtain ⟨hpc, hc⟩ := X_row_chk hrow
        subst hpc
        cases hp : X_pstep (X_nL j) row ls st with
        | some P =>
          obtain ⟨pc', ls', st'⟩ := P
          simp only [hp] at hst
          cases hst
          exact X_pure C hc hl hp (fun lsA' hl' => ih j (pc', ls', st', S) v S' h p e R s m args below meth c H locs lsA' z0 l0 Q C hl' hR hq hz0 hl0 hfc hfs hend)
        | none =>
          simp only [hp] at hst
          cases hh : X_hstep sc row st S with
          | some P =>
            obtain ⟨pc', st', S1⟩ := P
            simp only [hh] at hst
            cases hst
            have hup := X_S_up hh
            have hup2 := X_run_up _ _ _ _ _ h
            refine X_heap hsc C hc hR hq hl.1 hh hz0 hl0 ⟨Nat.le_trans (Nat.sub_le_sub_right hup2.1 _) hfc, Nat.le_trans (Nat.sub_le_sub_right hup2.2 _) hfs⟩ (fun H' locs' hR' hq' => ?_)
            exact ih j (pc', ls, st', S1) v S' h p e R s m args below meth c H' locs' lsA z0 l0 Q C hl hR' hq' (Nat.le_trans hz0 hup.1) (Nat.le_trans hl0 hup.2) hfc hfs hend
          | none =>
            simp only [hh] at hst
            have hrt : ∀ r, O = .inr (.inr r) → W p l e R s m args below meth c H locs (S.2.1 - z0) (S.2.2 - l0) Q (F0 m row.1 lsA (X_cvs (X_ad b B) st)) := by
              intro r hr
              subst hr
              simp only [Option.some.injEq] at h
              subst h
              have hS : S' = S := by
                unfold X_cstep at hst
                repeat' split at hst
                all_goals first
                  | (cases hst; done)
                  | (cases hst; rfl)
              subst hS
              exact hend row ls st lsA H locs hc hst hR hq
            have hx := C.1
            have hb := C.2.1
            have hml := C.2.2.2.1
            have hown := C.2.2.2.2.1
            have hts := C.2.2.2.2.2.1
            have hK := C.2.2.2.2.2.2.2.2.1
            have hfr := C.2.2.2.2.2.2.2.2.2.1
            have hlo := C.2.2.2.2.2.2.2.2.2.2.1
            have hsv := C.2.2.2.2.2.2.2.2.2.2.2
            have go : ∀ (k : Nat) (as : List Value) (rest : List Value) (v1 : Option Value) (S1 : X_S), X_run sc n k (0, lv_args 0 as, [], S) = some (v1, S1) → X_run sc n j (row.1 + 3, ls, v1.toList ++ rest, S1) = some (v, S') →
                (Met l (X_y k) (X_ws k) ({ frames := X_fr k, cells := S1.2.1 - S.2.1, slots := S1.2.2 - S.2.2, locals := X_lo k }) (X_Pc b B scr D cA as S) (X_Qc b B scr D cA v1 S1) (S1.2.1 - S.2.1) (S1.2.2 - S.2.2) (fun q => B ≤ q) →
                  (S.2.1 - z0 + (S1.2.1 - S.2.1) ≤ R.cells ∧ S.2.2 - l0 + (S1.2.2 - S.2.2) ≤ R.slots) →
                  va_Run p l e R s m args below meth c H locs (S.2.1 - z0) (S.2.2 - l0) (S1.2.1 - S.2.1) (S1.2.2 - S.2.2) (F0 m row.1 lsA (X_cvs (X_ad b B) st)) (X_cvs (X_ad b B) rest) (X_Qc b B scr D cA v1 S1 (X_cvs (X_ad b B) as).toArray) (fun q => B ≤ q)) →
                plainName (X_y k).cls = true → X_R (X_o k) = (X_y k).cls → k < X_lawj → (as.map fun v => v.category).sum ≤ X_nL k →
                W p l e R s m args below meth c H locs (S.2.1 - z0) (S.2.2 - l0) Q (F0 m row.1 lsA (X_cvs (X_ad b B) st)) := by
              intro k as rest v1 S1 h1 h2 hrun hpl hRn hlw hnn
              have u1 := X_run_up _ _ _ _ _ h1
              have u2 := X_run_up _ _ _ _ _ h2
              have u1a : S.2.1 ≤ S1.2.1 := u1.1
              have u1b : S.2.2 ≤ S1.2.2 := u1.2
              have u2a : S1.2.1 ≤ S'.2.1 := u2.1
              have u2b : S1.2.2 ≤ S'.2.2 := u2.2
              have hz0' : z0 ≤ S.2.1 := hz0
              have hl0' : l0 ≤ S.2.2 := hl0
              refine X_callW (hrun (X_met ih h1 hpl hRn hlw hnn) ⟨by omega, by omega⟩) hq (fun H' locs' hR' hq' => ?_)
              have hk := ih j (row.1 + 3, ls, v1.toList ++ rest, S1) v S' h2 p e R s m args below meth c H' locs' lsA z0 l0 Q C hl hR' hq' (Nat.le_trans hz0 u1.1) (Nat.le_trans hl0 u1.2) hfc hfs hend
              rw [show S.2.1 - z0 + (S1.2.1 - S.2.1) = S1.2.1 - z0 by omega, show S.2.2 - l0 + (S1.2.2 - S.2.2) = S1.2.2 - l0 by omega]
              have hstk : (v1.map (X_cv (X_ad b B))).toList ++ X_cvs (X_ad b B) rest = X_cvs (X_ad b B) (v1.toList ++ rest) := by cases v1 <;> rfl
              rw [hstk]
              exact hk
            obtain ⟨pc, ⟨i, nn⟩, ax⟩ := row
            have hd := X_chk_dec hc
            cases i with
            | ireturn =>
              simp only [X_cstep] at hst
              repeat' split at hst
              all_goals first
                | (cases hst; done)
                | (cases hst; exact hrt _ rfl)
            | lreturn =>
              simp only [X_cstep] at hst
              repeat' split at hst
              all_goals first
                | (cases hst; done)
                | (cases hst; exact hrt _ rfl)
            | return_ =>
              simp only [X_cstep] at hst
              repeat' split at hst
              all_goals first
                | (cases hst; done)
                | (cases hst; exact hrt _ rfl)
            | invokevirtual idx =>
              have hw : X_cw j (X_o j) idx ax = true ∧ X_kd ax.1 = 0 := by
                unfold X_chk at hc
                simp only [Bool.and_eq_true, decide_eq_true_eq] at hc
                exact hc.2
              obtain ⟨hcw, hkd⟩ := hw
              obtain ⟨cm, c6, c7, c8, c11⟩ := X_cw_spec hcw
              obtain ⟨c1, c2, c3, c4, c5, c9, c10, cv, -, -⟩ := X_mok_spec cm
              obtain ⟨w2, w3, qq, hqq, hcls⟩ := cv hkd
              simp only [X_cstep] at hst
              split at hst
              · rename_i as q r hpop
                split at hst
                · rename_i ci fs hobj
                  split at hst
                  · rename_i hcond
                    cases hst
                    obtain ⟨hci, h8, hnn⟩ := hcond
                    obtain ⟨hstk, hlen⟩ := X_pop_spec _ _ _ _ hpop
                    simp only at h
                    split at h
                    · rename_i v1 S1 h1
                      refine go ax.1 (.ref q :: as) r v1 S1 h1 h (fun hM hf => ?_) c9 c10 c8 (by simpa [Value.category] using hnn)
                      subst hci
                      obtain ⟨cellB, k1, k2, k3⟩ := va_recv (s := s) (cl := X_cl) (tys := []) (D := D) (ws := [(X_ad b B q, X_ce (X_ad b B) cA (.inr (X_ci ax.1, fs)))]) (H := H) (q := qq) ⟨hK.1, fun k q h => by simp at h⟩ (fun k' q' hq' => by
                        cases k' with
                        | zero => cases hq'; exact hR.at hobj (X_ne99 (X_clt hqq))
                        | succ k' => simp at hq') hqq (q0 := 0) rfl
                      have hpre : PreV s H (X_y ax.1).cls (X_ad b B q) (X_Pc b B scr D cA (.ref q :: as) S) (X_cvs (X_ad b B) as) := ⟨X_blind, ⟨cellB, k1, k2, by rw [hcls]; exact k3⟩, fun U hU hWU => ⟨rfl, by rw [hU]; exact hR, hK.warm hWU, State.isArrayOf_alike hWU.alike hsv.1, hsv.2⟩⟩
                      have hstack : X_cvs (X_ad b B) st = (X_cvs (X_ad b B) as).reverse ++ .ref (X_ad b B q) :: X_cvs (X_ad b B) r := by
                        rw [hstk]
                        simp [X_cvs, X_cv]
                      have hW8 : 2 * (F0 m pc lsA (X_cvs (X_ad b B) st)).monitorRoom + ((X_cvs (X_ad b B) r).map fun v => v.category).sum ≤ 8 := by rw [X_cvs_cat]; show 2 * 0 + _ ≤ 8; omega
                      rcases c11 with hlk | hlk
                      · exact va_runV (C := (X_y ax.1).cls) (bytes := X_b ax.1) (maxL := X_nL ax.1) (ret := X_rt ax.1) (n := X_na ax.1) ⟨hx, hb, hml, hown, hts⟩ hM ⟨callB_of (ws' := lw_g) (X_na ax.1) hts (X_goodin c1) rfl rfl rfl (hts _ c2) (hts _ hlk) ⟨c3, c4, c5⟩ ⟨Nat.le_trans c6 hfr, Nat.le_trans c7 hlo⟩, hts _ (X_wd_in w2), hts _ (X_wd_in w3)⟩ hpre rfl (by first | (rw [List.length_map]; exact hlen) | (unfold X_cvs; rw [List.length_map]; exact hlen)) hl.1 hstack hW8 hd hf
                      · exact va_runVN (C := (X_y ax.1).cls) (host := "MixfixBench") (bytes := X_b ax.1) (maxL := X_nL ax.1) (ret := X_rt ax.1) (n := X_na ax.1) ⟨hx, hb, hml, hown, hts⟩ hM ⟨va_cnB (ws' := lw_g) (X_na ax.1) hts (X_goodin c1) rfl rfl rfl (hK.2.2.1 _ hlk) (hts _ c2) ⟨c3, c4, c5⟩ ⟨Nat.le_trans c6 hfr, Nat.le_trans c7 hlo⟩, hts _ (X_wd_in w2), hts _ (X_wd_in w3)⟩ hpre rfl (by first | (rw [List.length_map]; exact hlen) | (unfold X_cvs; rw [List.length_map]; exact hlen)) hl.1 hstack hW8 hd hf
                    · cases h
                  · cases hst
                · cases hst
              · cases hst
            | invokespecial idx =>
              simp only [X_cstep] at hst
              split at hst
              · rename_i as q r hpop
                split at hst
                · rename_i hcond
                  cases hst
                  obtain ⟨h99, h8, hnn⟩ := hcond
                  have hw : X_cw j (X_o j) idx ax = true ∧ X_kd ax.1 = 2 := by
                    unfold X_chk at hc
                    simp only [Bool.and_eq_true, h99, if_false, decide_eq_true_eq] at hc
                    exact hc.2
                  obtain ⟨hcw, hkd⟩ := hw
                  obtain ⟨cm, c6, c7, c8, c11⟩ := X_cw_spec hcw
                  obtain ⟨c1, c2, c3, c4, c5, c9, c10, -, -, cv⟩ := X_mok_spec cm
                  obtain ⟨w2, w3, w4⟩ := cv hkd
                  obtain ⟨hstk, hlen⟩ := X_pop_spec _ _ _ _ hpop
                  simp only at h
                  split at h
                  · rename_i v1 S1 h1
                    refine go ax.1 (.ref q :: as) r v1 S1 h1 h (fun hM hf => ?_) c9 c10 c8 (by simpa [Value.category] using hnn)
                    have hpre : PreS s H (X_Pc b B scr D cA (.ref q :: as) S) (.ref (X_ad b B q) :: X_cvs (X_ad b B) as) := ⟨X_blind, fun U hU hWU => ⟨rfl, by rw [hU]; exact hR, hK.warm hWU, State.isArrayOf_alike hWU.alike hsv.1, hsv.2⟩⟩
                    have hstack : X_cvs (X_ad b B) st = (X_cvs (X_ad b B) as).reverse ++ .ref (X_ad b B q) :: X_cvs (X_ad b B) r := by
                      rw [hstk]
                      simp [X_cvs, X_cv]
                    have hW8 : 2 * (F0 m pc lsA (X_cvs (X_ad b B) st)).monitorRoom + ((X_cvs (X_ad b B) r).map fun v => v.category).sum ≤ 8 := by rw [X_cvs_cat]; show 2 * 0 + _ ≤ 8; omega
                    have hgi := X_goodin c1
                    unfold X_ws at hM hgi
                    rw [w4] at hM hgi
                    rcases c11 with hlk | hlk
                    · exact va_runI (bytes := X_b ax.1) (maxL := X_nL ax.1) (n := X_na ax.1) ⟨hx, hb, hml, hown, hts⟩ hM ⟨callB_of (ws' := lw_g) (X_na ax.1) hts hgi rfl rfl rfl (hts _ c2) (hts _ hlk) ⟨c3, c4, c5⟩ ⟨Nat.le_trans c6 hfr, Nat.le_trans c7 hlo⟩, X_init_eq w3, hts _ (X_wd_in w2)⟩ hpre rfl (by first | (rw [List.length_map]; exact hlen) | (unfold X_cvs; rw [List.length_map]; exact hlen)) hl.1 hstack hW8 hd hf
                    · exact va_runIN (host := "MixfixBench") (bytes := X_b ax.1) (maxL := X_nL ax.1) (n := X_na ax.1) ⟨hx, hb, hml, hown, hts⟩ hM ⟨va_cnB (ws' := lw_g) (X_na ax.1) hts hgi rfl rfl rfl (hK.2.2.1 _ hlk) (hts _ c2) ⟨c3, c4, c5⟩ ⟨Nat.le_trans c6 hfr, Nat.le_trans c7 hlo⟩, X_init_eq w3, hts _ (X_wd_in w2)⟩ hpre rfl (by first | (rw [List.length_map]; exact hlen) | (unfold X_cvs; rw [List.length_map]; exact hlen)) hl.1 hstack hW8 hd hf
                  · cases h
                · cases hst
              · cases hst
            | invokestatic idx =>
              simp only [X_cstep] at hst
              split at hst
              · rename_i as r hpop
                split at hst
                · rename_i hcond
                  cases hst
                  obtain ⟨h99, h8, hnn⟩ := hcond
                  have hw : X_cw j (X_o j) idx ax = true ∧ X_kd ax.1 = 1 := by
                    unfold X_chk at hc
                    simp only [Bool.and_eq_true, h99, if_false, decide_eq_true_eq] at hc
                    exact hc.2
                  obtain ⟨hcw, hkd⟩ := hw
                  obtain ⟨cm, c6, c7, c8, c11⟩ := X_cw_spec hcw
                  obtain ⟨c1, c2, c3, c4, c5, c9, c10, -, cv, -⟩ := X_mok_spec cm
                  have w2 := cv hkd
                  obtain ⟨hstk, hlen⟩ := X_pop_spec _ _ _ _ hpop
                  simp only at h
                  split at h
                  · rename_i v1 S1 h1
                    refine go ax.1 as r v1 S1 h1 h (fun hM hf => ?_) c9 c10 c8 hnn
                    have hpre : PreS s H (X_Pc b B scr D cA as S) (X_cvs (X_ad b B) as) := ⟨X_blind, fun U hU hWU => ⟨rfl, by rw [hU]; exact hR, hK.warm hWU, State.isArrayOf_alike hWU.alike hsv.1, hsv.2⟩⟩
                    have hstack : X_cvs (X_ad b B) st = (X_cvs (X_ad b B) as).reverse ++ X_cvs (X_ad b B) r := by
                      rw [hstk]
                      simp [X_cvs]
                    have hW8 : 2 * (F0 m pc lsA (X_cvs (X_ad b B) st)).monitorRoom + ((X_cvs (X_ad b B) r).map fun v => v.category).sum ≤ 8 := by rw [X_cvs_cat]; show 2 * 0 + _ ≤ 8; omega
                    rcases c11 with hlk | hlk
                    · exact va_runS (bytes := X_b ax.1) (maxL := X_nL ax.1) (ret := X_rt ax.1) (n := X_na ax.1) ⟨hx, hb, hml, hown, hts⟩ hM ⟨callB_of (ws' := lw_g) (X_na ax.1) hts (X_goodin c1) rfl rfl rfl (hts _ c2) (hts _ hlk) ⟨c3, c4, c5⟩ ⟨Nat.le_trans c6 hfr, Nat.le_trans c7 hlo⟩, hts _ (X_wd_in w2)⟩ hpre rfl (by first | (rw [List.length_map]; exact hlen) | (unfold X_cvs; rw [List.length_map]; exact hlen)) hl.1 hstack hW8 hd hf
                    · exact va_runSN (host := "MixfixBench") (bytes := X_b ax.1) (maxL := X_nL ax.1) (ret := X_rt ax.1) (n := X_na ax.1) ⟨hx, hb, hml, hown, hts⟩ hM ⟨va_cnB (ws' := lw_g) (X_na ax.1) hts (X_goodin c1) rfl rfl rfl (hK.2.2.1 _ hlk) (hts _ c2) ⟨c3, c4, c5⟩ ⟨Nat.le_trans c6 hfr, Nat.le_trans c7 hlo⟩, hts _ (X_wd_in w2), trivial⟩ hpre rfl (by first | (rw [List.length_map]; exact hlen) | (unfold X_cvs; rw [List.length_map]; exact hlen)) hl.1 hstack hW8 hd hf
                  · cases h
                · cases hst
              · cases hst
            | _ => cases hst
