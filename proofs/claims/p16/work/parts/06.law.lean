/-! THE CLAIM OUT OF ONE WALK OF THE LAW'S BODY. Your part is whole_start (and what it stands on); all else here is the same for every law, but numbers. -/
def R_law : String := "MixfixBenchLaw"
def lw_P (b : Addr) (xs : List Int32) (args : Array Value) (s : State) : Prop := args = #[.ref b] ∧ s.IntsAt b xs ∧ xs.length ≤ 3072 ∧ (Jvm.Cond.and given_1 narrow_1).before args s = true
def lw_Q (_ : Array Value) (s : State) (o : Outcome) (t : State) : Prop := o = .returned (some (.int 1)) ∧ Framed s o t [] 600000 7302250
def lw_Z (below : List Frame) (a : Array Value) (s : State) : State → Prop := fun t => ∃ o, t.status = .running ∧ Ended t below o ∧ lw_Q a s o t
/-- the law's own end, with 1 on the stack, nothing written that was there before, its room as the claim has it -/
theorem lw_ret {p : Program} {l : Launch} {e : Env} {s : State} {m : MethodId} {below : List Frame} {meth : Method} {c : Code} {b : Nat} (hx : p.tables.exec = Jvm.exec) (hb : c.code = code) (hr : meth.sig.returnType = ret) (hlocks : meth.locks = false) {pc : Nat} {H : Heap} {ls : Array Slot} (hdg : decode code pc = .ok (.ireturn, 1)) : W p l e room_1 s m #[Value.ref b] below meth c H [] 600000 7302250 (lw_Z below #[Value.ref b] s) (F0 m pc ls [.int 1]) := by
  intro T hT X
  obtain ⟨fs, hret, hrun, hended, hW, hframe⟩ := X.leave (v := some (.int 1)) (hlocks := hlocks) (fun h => by rw [hr] at h; cases h)
  have hmeth' : T.vm.method? m = some meth := X.method'
  refine ⟨T.setFrames fs, ?_, .returned (some (.int 1)), hrun, hended, rfl, ⟨_, rfl⟩, hW, hframe⟩
  jvm_step X.here [X.here.top, hx, hb, hdg, hmeth', hr, ret, narrow_b1]
  (try refine ⟨rfl, ?_⟩); (try refine ⟨rfl, ?_⟩)
  first | (intro acts; rw [hret _ acts rfl rfl rfl]) | rw [hret _ _ rfl rfl rfl]
  exact Steps.refl _
/-- what holds at the law's entry: the machine, the code, the tables' words (any of lw_tbl by 'hts w (by decide +kernel)'), the script of L ints xs at the cell b, what the Statement gives of the start (any of its parts by flat_of_before) -/
def lw_At (p : Program) (s : State) (m : MethodId) (meth : Method) (c : Code) (b L : Nat) (xs : Nat → Int32) : Prop :=
  p.tables.exec = Jvm.exec ∧ c.code = code ∧ meth.sig.returnType = ret ∧ c.maxLocals = 4 ∧ s.vm.findClass R_law = some m.cls ∧ (∀ w ∈ lw_tbl, w.before #[Value.ref b] s = true) ∧ va_X b L xs s s.heap ∧ b < s.heap.size ∧ meth.locks = false ∧ (Jvm.Cond.and given_1 narrow_1).before #[Value.ref b] s = true
theorem X_inst : ∀ (ci : Nat) (q : vw_C), X_cl[ci]? = some q → Cond.instantiable q.1 q.2.2 ∈ lw_g := by
  have h : X_wd (X_K2.getD 0 (0, 0)).1 (.instantiable RX0 8) = true ∧ X_wd (X_K2.getD 1 (0, 0)).1 (.instantiable RX1 8) = true ∧ X_wd (X_K2.getD 2 (0, 0)).1 (.instantiable RX2 13) = true ∧ X_wd (X_K2.getD 3 (0, 0)).1 (.instantiable RX3 7) = true ∧ X_wd (X_K2.getD 4 (0, 0)).1 (.instantiable RX4 4) = true ∧ X_wd (X_K2.getD 5 (0, 0)).1 (.instantiable RX5 7) = true
      ∧ X_wd (X_K2.getD 6 (0, 0)).1 (.instantiable RX6 3) = true ∧ X_wd (X_K2.getD 7 (0, 0)).1 (.instantiable RX7 2) = true ∧ X_wd (X_K2.getD 8 (0, 0)).1 (.instantiable RX8 15) = true ∧ X_wd (X_K2.getD 9 (0, 0)).1 (.instantiable RX9 7) = true ∧ X_wd (X_K2.getD 10 (0, 0)).1 (.instantiable RX10 9) = true ∧ X_wd (X_K2.getD 11 (0, 0)).1 (.instantiable RX11 72) = true := by decide +kernel
  obtain ⟨h0, h1, h2, h3, h4, h5, h6, h7, h8, h9, h10, h11⟩ := h
  intro ci q hq
  match ci, hq with
  | 0, hq => cases hq; exact X_wd_in h0
  | 1, hq => cases hq; exact X_wd_in h1
  | 2, hq => cases hq; exact X_wd_in h2
  | 3, hq => cases hq; exact X_wd_in h3
  | 4, hq => cases hq; exact X_wd_in h4
  | 5, hq => cases hq; exact X_wd_in h5
  | 6, hq => cases hq; exact X_wd_in h6
  | 7, hq => cases hq; exact X_wd_in h7
  | 8, hq => cases hq; exact X_wd_in h8
  | 9, hq => cases hq; exact X_wd_in h9
  | 10, hq => cases hq; exact X_wd_in h10
  | 11, hq => cases hq; exact X_wd_in h11
  | ci + 12, hq => simp [X_cl] at hq
def X_S0 : X_S := (fun _ => X_no, 1, 0)
theorem X_arr_of {s : State} {ty : FieldType} {A : Array Value} (h : (Cond.arrayClass ty).before A s = true) (hp : ∀ C, ty ≠ .object C) : ∃ cA : ClassId, ArrOfT s cA ty ∧ va_RA s cA ty := by
  obtain ⟨c, k, comp, h1, h2, h3⟩ := Cond.arrayClass_spec h
  refine ⟨c, fun n z => ⟨fun k h => (by cases h), k, h2, comp, h3⟩, ?_⟩
  cases ty <;> first
    | exact h1
    | exact absurd rfl (hp _)
theorem X_tables {s : State} {A : Array Value} (hts : ∀ w ∈ lw_tbl, w.before A s = true) : ∃ (D : va_G) (cA : FieldType → ClassId), X_K D cA s := by
  have hg : ∀ w ∈ lw_g, w.before A s = true := fun w hw => hts w (List.mem_filter.mp hw).1
  have hK1 : ∀ ci : Nat, ∃ d : ClassId × (Nat → Nat), ∀ q, X_cl[ci]? = some q → u_Kn s q.1 q.2.1 q.2.2 d.1 d.2 := by
    intro ci
    cases h : X_cl[ci]? with
    | none => exact ⟨(0, fun _ => 0), fun q hq => by cases hq⟩
    | some q =>
      obtain ⟨cC, iS, hk⟩ := u_known (C := q.1) (T := q.2.1) (N := q.2.2) hg (X_clook ci q h).1 (hg _ (X_inst ci q h))
      exact ⟨(cC, iS), fun q' hq => by cases hq; exact hk⟩
  obtain ⟨w1, w2, w3, w4⟩ := X_w_ap
  obtain ⟨c1, a1⟩ := X_arr_of (hg _ (X_wd_in w1)) (fun C h => by cases h)
  obtain ⟨c2, a2⟩ := X_arr_of (hg _ (X_wd_in w2)) (fun C h => by cases h)
  obtain ⟨c3, a3⟩ := X_arr_of (hg _ (X_wd_in w3)) (fun C h => by cases h)
  obtain ⟨c4, a4⟩ := X_arr_of (hg _ (X_wd_in w4)) (fun C h => by cases h)
  have hao : (Cond.arrayOver (.object RX8)).before A s = true := hts _ (List.mem_of_getElem? X_w_ao)
  obtain ⟨comp, c5, k5, g1, g2, g3, g4, g5⟩ := Cond.arrayOver_spec hao
  refine ⟨(fun ci => (Classical.choose (hK1 ci)).1, fun ci => (Classical.choose (hK1 ci)).2), fun ty => if ty = .int then c1 else if ty = .long then c2 else if ty = .byte then c3 else if ty = .boolean then c4 else c5, fun ci q hq => Classical.choose_spec (hK1 ci) q hq, fun ty hty => ?_, fun w hw => ?_, va_AO.of hao⟩
  · simp only [X_tys, List.mem_cons, List.not_mem_nil, or_false] at hty
    rcases hty with rfl | rfl | rfl | rfl | rfl
    · exact a1
    · exact a2
    · exact a3
    · exact a4
    · exact ⟨fun N z => ⟨(fun k h => by cases h), k5, g3, comp, g4⟩, k5, comp, g3, g4, g1, g5⟩
  · have h1 := hts w (List.mem_filter.mp hw).1
    rcases X_nest_two w hw with ⟨a, i, b, n, d, hh, rfl⟩ | ⟨a, i, x, hh, rfl⟩
    · exact va_Nw.of rfl h1
    · exact va_Nw.of rfl h1
set_option maxHeartbeats 1000000 in
/-- the law's walk, out of a run of the small machine -/
theorem X_law_run {p : Program} {e : Env} {s : State} {m : MethodId} {below : List Frame} {meth : Method} {c : Code} (l : Launch) {b L : Nat} {xs : Nat → Int32} (C0 : lw_At p s m meth c b L xs) {n : Nat} {S' : X_S}
    (hrun : X_run (L, xs) n X_lawj (0, [(0, .ref 0)], [], X_S0) = some (some (.int 1), S')) (hn1 : S'.2.1 ≤ 600000) (hn2 : S'.2.2 ≤ 7302250) :
    W p l e room_1 s m #[Value.ref b] below meth c s.heap [] 0 0 (lw_Z below #[Value.ref b] s) (entryFrame m ([Value.ref b] : List Value).toArray (X_nL X_lawj)) := by
  obtain ⟨hx, hb, hr, hml, hown, hts, hX, hbl, hlocks, hgv⟩ := C0
  obtain ⟨scr, hs1, hs2, hs3, hs4, hs5⟩ := hX
  obtain ⟨D, cA, hK⟩ := X_tables hts
  have hR : X_Rl b s.heap.size scr D cA X_S0 s.heap := ⟨hbl, rfl, Nat.one_pos, hs1, rfl, fun k h1 h2 => absurd h2 (by show ¬ k < 1; omega), fun k _ => rfl⟩
  have C : X_Cx scr D cA p room_1 s m #[Value.ref b] meth c X_lawj := ⟨hx, hb, hr, hml, hown, fun w hw => hts w (List.mem_filter.mp hw).1, hlocks, fun q => absurd q (by decide), hK, Nat.le_of_ble_eq_true rfl, Nat.le_of_ble_eq_true rfl, fun _ => ⟨hs2, hs3⟩⟩
  have hl := lv_entry ([.ref b]) (n := X_nL X_lawj) (Nat.le_of_ble_eq_true rfl)
  rw [lg_entry_eq]
  generalize (lg_sl ([.ref b]) ++ List.replicate (X_nL X_lawj - (lg_sl ([.ref b])).length) Slot.unset).toArray = ls at hl ⊢
  have hl : lv_has ls (X_nL X_lawj) (X_cvl (X_ad b s.heap.size) [(0, .ref 0)]) := hl
  have key := X_walk (L, xs) l b s.heap.size scr D cA ⟨hs4, hs5⟩ n X_lawj (0, [(0, .ref 0)], [], X_S0) _ S' hrun p e room_1 s m #[Value.ref b] below meth c s.heap [] ls 1 0 (lw_Z below #[Value.ref b] s) C hl hR (fun q hq => by cases hq) (Nat.le_refl _) (Nat.le_refl _) (Nat.le_trans (Nat.sub_le _ _) hn1) hn2 ?_
  · exact key
  · intro row ls2 st lsA' H' locs' hc hs hR' hq'
    obtain ⟨pc, ⟨i, nn⟩, ax⟩ := row
    have hd := X_chk_dec hc
    cases i with
    | ireturn =>
      simp only [X_cstep] at hs
      split at hs
      · rename_i x
        split at hs
        · rename_i ty hty
          split at hs
          · cases hs
            refine va_forget hq' ?_
            refine W.widen (k := 600000) (n := 7302250) (Nat.le_trans (Nat.sub_le _ _) hn1) (Nat.le_trans (Nat.sub_le _ _) hn2) ?_
            exact lw_ret hx hb hr hlocks hd
          · cases hs
        · cases hs
      · cases hs
    | lreturn =>
      simp only [X_cstep] at hs
      repeat' split at hs
      all_goals cases hs
    | return_ =>
      simp only [X_cstep] at hs
      repeat' split at hs
      all_goals cases hs
    | invokevirtual idx =>
      simp only [X_cstep] at hs
      repeat' split at hs
      all_goals cases hs
    | invokespecial idx =>
      simp only [X_cstep] at hs
      repeat' split at hs
      all_goals cases hs
    | invokestatic idx =>
      simp only [X_cstep] at hs
      repeat' split at hs
      all_goals cases hs
    | _ => cases hs
