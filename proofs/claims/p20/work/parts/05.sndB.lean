theorem X_i2_inv {g : Int32 → Int32 → Option Value} {pc : Nat} {ls : X_L} {st : List Value} {r : X_P} (h : X_i2 g pc ls st = some r) : ∃ x y v t, st = .int y :: .int x :: t ∧ g x y = some v ∧ r = (pc, ls, v :: t) := by
  unfold X_i2 at h
  split at h
  · split at h
    · rename_i hg
      cases h
      exact ⟨_, _, _, _, rfl, hg, rfl⟩
    · cases h
  · cases h
theorem X_l2_inv {g : Int64 → Int64 → Option Value} {pc : Nat} {ls : X_L} {st : List Value} {r : X_P} (h : X_l2 g pc ls st = some r) : ∃ x y v t, st = .long y :: .long x :: t ∧ g x y = some v ∧ r = (pc, ls, v :: t) := by
  unfold X_l2 at h
  split at h
  · split at h
    · rename_i hg
      cases h
      exact ⟨_, _, _, _, rfl, hg, rfl⟩
    · cases h
  · cases h
theorem X_li_inv {g : Int64 → Int32 → Value} {pc : Nat} {ls : X_L} {st : List Value} {r : X_P} (h : X_li g pc ls st = some r) : ∃ x y t, st = .int y :: .long x :: t ∧ r = (pc, ls, g x y :: t) := by
  unfold X_li at h
  split at h
  · cases h
    exact ⟨_, _, _, rfl, rfl⟩
  · cases h
theorem X_i1_inv {g : Int32 → Value} {pc : Nat} {ls : X_L} {st : List Value} {r : X_P} (h : X_i1 g pc ls st = some r) : ∃ x t, st = .int x :: t ∧ r = (pc, ls, g x :: t) := by
  unfold X_i1 at h
  split at h
  · cases h
    exact ⟨_, _, rfl, rfl⟩
  · cases h
theorem X_l1_inv {g : Int64 → Value} {pc : Nat} {ls : X_L} {st : List Value} {r : X_P} (h : X_l1 g pc ls st = some r) : ∃ x t, st = .long x :: t ∧ r = (pc, ls, g x :: t) := by
  unfold X_l1 at h
  split at h
  · cases h
    exact ⟨_, _, rfl, rfl⟩
  · cases h
theorem X_br_inv {b : Bool} {t : Option Nat} {pc : Nat} {ls : X_L} {r : List Value} {q : X_P} (h : X_br b t pc ls r = some q) : ∃ tg, t = some tg ∧ ((b = true ∧ q = (tg, ls, r)) ∨ (b = false ∧ q = (pc, ls, r))) := by
  unfold X_br at h
  split at h
  · split at h
    · rename_i hb
      cases h
      exact ⟨_, rfl, Or.inl ⟨hb, rfl⟩⟩
    · rename_i hb
      cases h
      exact ⟨_, rfl, Or.inr ⟨by simpa using hb, rfl⟩⟩
  · cases h
theorem X_li__inv {n pc : Nat} {ls : X_L} {st : List Value} {r : X_P} (h : X_li_ n pc ls st = some r) : ∃ x, X_ld ls n = some (.int x) ∧ r = (pc, ls, .int x :: st) := by
  unfold X_li_ at h
  split at h
  · rename_i hx
    cases h
    exact ⟨_, hx, rfl⟩
  · cases h
theorem X_ll__inv {n pc : Nat} {ls : X_L} {st : List Value} {r : X_P} (h : X_ll_ n pc ls st = some r) : ∃ x, X_ld ls n = some (.long x) ∧ r = (pc, ls, .long x :: st) := by
  unfold X_ll_ at h
  split at h
  · rename_i hx
    cases h
    exact ⟨_, hx, rfl⟩
  · cases h
theorem X_la__inv {n pc : Nat} {ls : X_L} {st : List Value} {r : X_P} (h : X_la_ n pc ls st = some r) : ∃ x, X_ld ls n = some (.ref x) ∧ r = (pc, ls, .ref x :: st) := by
  unfold X_la_ at h
  split at h
  · rename_i hx
    cases h
    exact ⟨_, hx, rfl⟩
  · cases h
theorem X_si__inv {nL n pc : Nat} {ls : X_L} {st : List Value} {r : X_P} (h : X_si_ nL n pc ls st = some r) : ∃ x t, st = .int x :: t ∧ n < nL ∧ r = (pc, X_s1 ls n (.int x), t) := by
  unfold X_si_ at h
  split at h
  · split at h
    · rename_i hx
      cases h
      exact ⟨_, _, rfl, hx, rfl⟩
    · cases h
  · cases h
theorem X_sl__inv {nL n pc : Nat} {ls : X_L} {st : List Value} {r : X_P} (h : X_sl_ nL n pc ls st = some r) : ∃ x t, st = .long x :: t ∧ n + 1 < nL ∧ r = (pc, X_s2 ls n (.long x), t) := by
  unfold X_sl_ at h
  split at h
  · split at h
    · rename_i hx
      cases h
      exact ⟨_, _, rfl, hx, rfl⟩
    · cases h
  · cases h
theorem X_sa__inv {nL n pc : Nat} {ls : X_L} {st : List Value} {r : X_P} (h : X_sa_ nL n pc ls st = some r) : ∃ x t, st = .ref x :: t ∧ n < nL ∧ r = (pc, X_s1 ls n (.ref x), t) := by
  unfold X_sa_ at h
  split at h
  · split at h
    · rename_i hx
      cases h
      exact ⟨_, _, rfl, hx, rfl⟩
    · cases h
  · cases h
def lw_g : List Cond := lw_tbl.filter goodWord
theorem X_wd_in {p : Nat} {w : Cond} (h : X_wd p w = true) : w ∈ lw_g := by
  unfold X_wd at h
  simp only [Bool.and_eq_true, decide_eq_true_eq] at h
  exact List.mem_filter.mpr ⟨List.mem_of_getElem? h.1, h.2⟩
/-- what holds in a method's frame -/
def X_Cx (scr : Cell) (D : va_G) (cA : FieldType → ClassId) (p : Program) (R : Room) (s : State) (m : MethodId) (args : Array Value) (meth : Method) (c : Code) (j : Nat) : Prop :=
  p.tables.exec = Jvm.exec ∧ c.code = X_b j ∧ meth.sig.returnType = X_rt j ∧ c.maxLocals = X_nL j ∧ s.vm.findClass (X_R (X_o j)) = some m.cls ∧ (∀ w ∈ lw_g, w.before args s = true) ∧ meth.locks = false ∧ (X_init j = true → meth.name = "<init>")
  ∧ X_K D cA s ∧ X_fr j ≤ R.frames ∧ X_lo j ≤ R.locals ∧ s.isArrayOf scr .int ∧ scr.vm ≠ .unknown
theorem X_chk_dec {j pc n : Nat} {i : Jvm.ClassFile.Instr} {ax : Nat × Nat × Nat} (h : X_chk j (pc, (i, n), ax) = true) : decode (X_b j) pc = .ok (i, X_ln i n) := by
  unfold X_chk at h
  simp only [Bool.and_eq_true, decide_eq_true_eq] at h
  exact h.1
section X_PURE
variable {p : Program} {l : Launch} {e : Env} {R : Room} {s : State} {m : MethodId} {args : Array Value} {below : List Frame} {meth : Method} {c : Code} {H : Heap} {locs : List Loc} {cells slots : Nat} {Q : State → Prop}
variable {scr : Cell} {D : va_G} {cA : FieldType → ClassId} {ad : Nat → Nat} {j : Nat}
set_option maxHeartbeats 4000000 in
theorem X_pure (C : X_Cx scr D cA p R s m args meth c j) {row : X_Row} {ls ls' : X_L} {st st' : List Value} {pc' : Nat} {lsA : Array Slot} (hc : X_chk j row = true) (hl : lv_has lsA (X_nL j) (X_cvl ad ls))
    (hs : X_pstep (X_nL j) row ls st = some (pc', ls', st'))
    (k : ∀ lsA', lv_has lsA' (X_nL j) (X_cvl ad ls') → W p l e R s m args below meth c H locs cells slots Q (F0 m pc' lsA' (X_cvs ad st'))) : W p l e R s m args below meth c H locs cells slots Q (F0 m row.1 lsA (X_cvs ad st)) := by
  obtain ⟨hx, hb, hr, hml, hown, hts, hlocks, hin, hK, hfr, hlo, hlaw⟩ := C
  obtain ⟨pc, ⟨i, n⟩, ax⟩ := row
  have hd := X_chk_dec hc
  cases i with
  | iconst z => cases hs; exact lv_iconst hx hb hd rfl (k lsA hl)
  | bipush z => cases hs; exact lv_bipush hx hb hd rfl (k lsA hl)
  | sipush z => cases hs; exact lv_sipush hx hb hd rfl (k lsA hl)
  | lconst z => cases hs; exact lv_lconst hx hb hd rfl (k lsA hl)
  | ldc z =>
    cases hs
    have hw : X_wd ax.2.1 (.constant (X_R (X_o j)) z (Int32.ofNat ax.1)) = true := by
      unfold X_chk at hc
      simp only [Bool.and_eq_true] at hc
      exact hc.2
    exact lv_ldc hx hb hown (hts _ (X_wd_in hw)) hd (k lsA hl)
  | ldc2_w z =>
    cases hs
    have hw : X_wd ax.2.1 (.constantLong (X_R (X_o j)) z (Int64.ofNat ax.1)) = true := by
      unfold X_chk at hc
      simp only [Bool.and_eq_true] at hc
      exact hc.2
    exact lv_ldc2 hx hb hown (hts _ (X_wd_in hw)) hd (k lsA hl)
  | iload z =>
    obtain ⟨x, h1, h2⟩ := X_li__inv hs
    cases h2
    exact lv_iload hx hb hd (X_ld_at hl h1) (k lsA hl)
  | iload_n z =>
    obtain ⟨x, h1, h2⟩ := X_li__inv hs
    cases h2
    exact lv_iload_n hx hb hd rfl (X_ld_at hl h1) (k lsA hl)
  | lload z =>
    obtain ⟨x, h1, h2⟩ := X_ll__inv hs
    cases h2
    exact lv_lload hx hb hd (X_ld_at hl h1) (k lsA hl)
  | lload_n z =>
    obtain ⟨x, h1, h2⟩ := X_ll__inv hs
    cases h2
    exact lv_lload_n hx hb hd rfl (X_ld_at hl h1) (k lsA hl)
  | aload z =>
    obtain ⟨x, h1, h2⟩ := X_la__inv hs
    cases h2
    exact lv_aload hx hb hd (X_ld_at hl h1) (k lsA hl)
  | aload_n z =>
    obtain ⟨x, h1, h2⟩ := X_la__inv hs
    cases h2
    exact lv_aload_n hx hb hd rfl (X_ld_at hl h1) (k lsA hl)
  | istore z =>
    obtain ⟨x, t, rfl, h1, h2⟩ := X_si__inv hs
    cases h2
    exact lv_istore hx hb hd hl h1 (X_cvl_s1 ad ls z (.int x)) (fun lsA' hl' => k lsA' hl')
  | istore_n z =>
    obtain ⟨x, t, rfl, h1, h2⟩ := X_si__inv hs
    cases h2
    exact lv_istore_n hx hb hd rfl hl h1 (X_cvl_s1 ad ls z (.int x)) (fun lsA' hl' => k lsA' hl')
  | lstore z =>
    obtain ⟨x, t, rfl, h1, h2⟩ := X_sl__inv hs
    cases h2
    exact lv_lstore hx hb hd hl h1 (X_cvl_s2 ad ls z (.long x)) (fun lsA' hl' => k lsA' hl')
  | lstore_n z =>
    obtain ⟨x, t, rfl, h1, h2⟩ := X_sl__inv hs
    cases h2
    exact lv_lstore_n hx hb hd rfl hl h1 (X_cvl_s2 ad ls z (.long x)) (fun lsA' hl' => k lsA' hl')
  | astore z =>
    obtain ⟨x, t, rfl, h1, h2⟩ := X_sa__inv hs
    cases h2
    exact lv_astore hx hb hd hl h1 (X_cvl_s1 ad ls z (.ref x)) (fun lsA' hl' => k lsA' hl')
  | astore_n z =>
    obtain ⟨x, t, rfl, h1, h2⟩ := X_sa__inv hs
    cases h2
    exact lv_astore_n hx hb hd rfl hl h1 (X_cvl_s1 ad ls z (.ref x)) (fun lsA' hl' => k lsA' hl')
  | iinc z q =>
    simp only [X_pstep] at hs
    split at hs
    · rename_i x hx1
      split at hs
      · rename_i hn
        cases hs
        obtain ⟨kk, hkk⟩ := List.getElem?_of_mem (List.mem_map.mpr ⟨_, X_ld_mem hx1, rfl⟩ : ((z, X_cv ad (.int x)) : Nat × Value) ∈ X_cvl ad ls)
        exact lv_iinc hx hb hd hl hkk rfl hn (X_cvl_s1 ad ls z (.int (x + Int32.ofInt q))) (fun lsA' hl' => k lsA' hl')
      · cases hs
    · cases hs
  | iadd =>
    simp only [X_pstep] at hs
    obtain ⟨x, y, v, t, rfl, h1, h2⟩ := X_i2_inv hs
    cases h1
    cases h2
    exact lv_iadd hx hb hd (k lsA hl)
  | isub =>
    simp only [X_pstep] at hs
    obtain ⟨x, y, v, t, rfl, h1, h2⟩ := X_i2_inv hs
    cases h1
    cases h2
    exact lv_isub hx hb hd (k lsA hl)
  | imul =>
    simp only [X_pstep] at hs
    obtain ⟨x, y, v, t, rfl, h1, h2⟩ := X_i2_inv hs
    cases h1
    cases h2
    exact lv_imul hx hb hd (k lsA hl)
  | iand =>
    simp only [X_pstep] at hs
    obtain ⟨x, y, v, t, rfl, h1, h2⟩ := X_i2_inv hs
    cases h1
    cases h2
    exact lv_iand hx hb hd (k lsA hl)
  | ior =>
    simp only [X_pstep] at hs
    obtain ⟨x, y, v, t, rfl, h1, h2⟩ := X_i2_inv hs
    cases h1
    cases h2
    exact lv_ior hx hb hd (k lsA hl)
  | ishl =>
    simp only [X_pstep] at hs
    obtain ⟨x, y, v, t, rfl, h1, h2⟩ := X_i2_inv hs
    cases h1
    cases h2
    exact lv_ishl hx hb hd (k lsA hl)
  | ishr =>
    simp only [X_pstep] at hs
    obtain ⟨x, y, v, t, rfl, h1, h2⟩ := X_i2_inv hs
    cases h1
    cases h2
    exact lv_ishr hx hb hd (k lsA hl)
  | idiv =>
    simp only [X_pstep] at hs
    obtain ⟨x, y, v, t, rfl, h1, h2⟩ := X_i2_inv hs
    split at h1
    · cases h1
    · rename_i hne
      cases h1
      cases h2
      exact lv_idiv hx hb hd hne (k lsA hl)
  | irem =>
    simp only [X_pstep] at hs
    obtain ⟨x, y, v, t, rfl, h1, h2⟩ := X_i2_inv hs
    split at h1
    · cases h1
    · rename_i hne
      cases h1
      cases h2
      exact lv_irem hx hb hd hne (k lsA hl)
  | ladd =>
    simp only [X_pstep] at hs
    obtain ⟨x, y, v, t, rfl, h1, h2⟩ := X_l2_inv hs
    cases h1
    cases h2
    exact lv_ladd hx hb hd (k lsA hl)
  | lsub =>
    simp only [X_pstep] at hs
    obtain ⟨x, y, v, t, rfl, h1, h2⟩ := X_l2_inv hs
    cases h1
    cases h2
    exact lv_lsub hx hb hd (k lsA hl)
  | lmul =>
    simp only [X_pstep] at hs
    obtain ⟨x, y, v, t, rfl, h1, h2⟩ := X_l2_inv hs
    cases h1
    cases h2
    exact lv_lmul hx hb hd (k lsA hl)
  | land =>
    simp only [X_pstep] at hs
    obtain ⟨x, y, v, t, rfl, h1, h2⟩ := X_l2_inv hs
    cases h1
    cases h2
    exact lv_land hx hb hd (k lsA hl)
  | lor =>
    simp only [X_pstep] at hs
    obtain ⟨x, y, v, t, rfl, h1, h2⟩ := X_l2_inv hs
    cases h1
    cases h2
    exact lv_lor hx hb hd (k lsA hl)
  | lcmp =>
    simp only [X_pstep] at hs
    obtain ⟨x, y, v, t, rfl, h1, h2⟩ := X_l2_inv hs
    cases h1
    cases h2
    exact W.lcmp hx hb hd (k lsA hl)
  | ldiv =>
    simp only [X_pstep] at hs
    obtain ⟨x, y, v, t, rfl, h1, h2⟩ := X_l2_inv hs
    split at h1
    · cases h1
    · rename_i hne
      cases h1
      cases h2
      exact lv_ldiv hx hb hd hne (k lsA hl)
  | lrem =>
    simp only [X_pstep] at hs
    obtain ⟨x, y, v, t, rfl, h1, h2⟩ := X_l2_inv hs
    split at h1
    · cases h1
    · rename_i hne
      cases h1
      cases h2
      exact lv_lrem hx hb hd hne (k lsA hl)
  | lshl =>
    simp only [X_pstep] at hs
    obtain ⟨x, y, t, rfl, h2⟩ := X_li_inv hs
    cases h2
    exact lv_lshl hx hb hd rfl (k lsA hl)
  | lshr =>
    simp only [X_pstep] at hs
    obtain ⟨x, y, t, rfl, h2⟩ := X_li_inv hs
    cases h2
    exact lv_lshr hx hb hd rfl (k lsA hl)
  | lushr =>
    simp only [X_pstep] at hs
    obtain ⟨x, y, t, rfl, h2⟩ := X_li_inv hs
    cases h2
    exact lv_lushr hx hb hd rfl (k lsA hl)
  | ineg =>
    simp only [X_pstep] at hs
    obtain ⟨x, t, rfl, h2⟩ := X_i1_inv hs
    cases h2
    exact lv_ineg hx hb hd (k lsA hl)
  | i2l =>
    simp only [X_pstep] at hs
    obtain ⟨x, t, rfl, h2⟩ := X_i1_inv hs
    cases h2
    exact lv_i2l hx hb hd rfl (k lsA hl)
  | i2b =>
    simp only [X_pstep] at hs
    obtain ⟨x, t, rfl, h2⟩ := X_i1_inv hs
    cases h2
    exact lv_i2b hx hb hd rfl (k lsA hl)
  | l2i =>
    simp only [X_pstep] at hs
    obtain ⟨x, t, rfl, h2⟩ := X_l1_inv hs
    cases h2
    exact lv_l2i hx hb hd rfl (k lsA hl)
  | dup =>
    simp only [X_pstep] at hs
    split at hs
    · split at hs
      · rename_i hv
        cases hs
        exact lv_dup hx hb hd (by rw [X_cv_cat]; exact hv) (k lsA hl)
      · cases hs
    · cases hs
  | dup2 =>
    simp only [X_pstep] at hs
    split at hs
    · split at hs
      · rename_i hv
        cases hs
        exact lv_dup2_11 hx hb hd (by rw [X_cv_cat]; exact hv.1) (by rw [X_cv_cat]; exact hv.2) (k lsA hl)
      · cases hs
    · cases hs
  | pop =>
    simp only [X_pstep] at hs
    split at hs
    · split at hs
      · rename_i hv
        cases hs
        exact lv_pop hx hb hd (by rw [X_cv_cat]; exact hv) (k lsA hl)
      · cases hs
    · cases hs
  | pop2 =>
    simp only [X_pstep] at hs
    split at hs
    · split at hs
      · rename_i hv
        cases hs
        exact lv_pop2_2 hx hb hd (by rw [X_cv_cat]; exact hv) (k lsA hl)
      · cases hs
    · cases hs
  | goto off =>
    simp only [X_pstep] at hs
    split at hs
    · rename_i t ht
      cases hs
      exact lv_goto hx hb hd (X_tg_spec ht) (k lsA hl)
    · cases hs
  | tableswitch d lo hi offs =>
    simp only [X_pstep] at hs
    split at hs
    · rename_i x r
      split at hs
      · rename_i hout
        split at hs
        · rename_i t ht
          cases hs
          exact lv_tableOut hx hb hd hout (X_tg_spec ht) (k lsA hl)
        · cases hs
      · rename_i hin2
        split at hs
        · rename_i off ho
          split at hs
          · rename_i t ht
            cases hs
            exact lv_tableIn hx hb hd (fun q => hin2 (Or.inl q)) (fun q => hin2 (Or.inr q)) ho (X_tg_spec ht) (k lsA hl)
          · cases hs
        · cases hs
    · cases hs
  | lookupswitch d ps =>
    simp only [X_pstep] at hs
    split at hs
    · rename_i x r
      split at hs
      · rename_i t ht
        cases hs
        have hw : (ps.toList.zip (ps.toList.drop 1)).all (fun (a, next) => a.1 < next.1) = true := by
          unfold X_chk at hc
          simp only [Bool.and_eq_true] at hc
          exact hc.2
        exact lv_lookup hx hb hd hw rfl (X_tg_spec ht) (k lsA hl)
      · cases hs
    · cases hs
  | ifCond cd off =>
    simp only [X_pstep] at hs
    split at hs
    · rename_i x r
      obtain ⟨tg, ht, hq⟩ := X_br_inv hs
      have ht := X_tg_spec ht
      cases cd with
      | eq =>
        rcases hq with ⟨hb1, hq⟩ | ⟨hb1, hq⟩
        · cases hq
          exact lv_if_eq hx hb hd ht (fun _ => k lsA hl) (fun hn => absurd (of_decide_eq_true hb1) hn)
        · cases hq
          exact lv_if_eq hx hb hd ht (fun hp => absurd hp (of_decide_eq_false hb1)) (fun _ => k lsA hl)
      | ne =>
        rcases hq with ⟨hb1, hq⟩ | ⟨hb1, hq⟩
        · cases hq
          exact lv_if_ne hx hb hd ht (fun _ => k lsA hl) (fun hn => absurd hn (of_decide_eq_true hb1))
        · cases hq
          exact lv_if_ne hx hb hd ht (fun hp => absurd hp (of_decide_eq_false hb1)) (fun _ => k lsA hl)
      | lt =>
        rcases hq with ⟨hb1, hq⟩ | ⟨hb1, hq⟩
        · cases hq
          exact lv_if_lt hx hb hd ht (fun _ => k lsA hl) (fun hn => absurd (of_decide_eq_true hb1) hn)
        · cases hq
          exact lv_if_lt hx hb hd ht (fun hp => absurd hp (of_decide_eq_false hb1)) (fun _ => k lsA hl)
      | ge =>
        rcases hq with ⟨hb1, hq⟩ | ⟨hb1, hq⟩
        · cases hq
          exact lv_if_ge hx hb hd ht (fun _ => k lsA hl) (fun hn => absurd (of_decide_eq_true hb1) hn)
        · cases hq
          exact lv_if_ge hx hb hd ht (fun hp => absurd hp (of_decide_eq_false hb1)) (fun _ => k lsA hl)
      | gt =>
        rcases hq with ⟨hb1, hq⟩ | ⟨hb1, hq⟩
        · cases hq
          exact lv_if_gt hx hb hd ht (fun _ => k lsA hl) (fun hn => absurd (of_decide_eq_true hb1) hn)
        · cases hq
          exact lv_if_gt hx hb hd ht (fun hp => absurd hp (of_decide_eq_false hb1)) (fun _ => k lsA hl)
      | le =>
        rcases hq with ⟨hb1, hq⟩ | ⟨hb1, hq⟩
        · cases hq
          exact lv_if_le hx hb hd ht (fun _ => k lsA hl) (fun hn => absurd (of_decide_eq_true hb1) hn)
        · cases hq
          exact lv_if_le hx hb hd ht (fun hp => absurd hp (of_decide_eq_false hb1)) (fun _ => k lsA hl)
    · cases hs
  | if_icmp cd off =>
    simp only [X_pstep] at hs
    split at hs
    · rename_i y x r
      obtain ⟨tg, ht, hq⟩ := X_br_inv hs
      have ht := X_tg_spec ht
      cases cd with
      | eq =>
        rcases hq with ⟨hb1, hq⟩ | ⟨hb1, hq⟩
        · cases hq
          exact lv_icmp_eq hx hb hd ht (fun _ => k lsA hl) (fun hn => absurd (of_decide_eq_true hb1) hn)
        · cases hq
          exact lv_icmp_eq hx hb hd ht (fun hp => absurd hp (of_decide_eq_false hb1)) (fun _ => k lsA hl)
      | ne =>
        rcases hq with ⟨hb1, hq⟩ | ⟨hb1, hq⟩
        · cases hq
          exact lv_icmp_ne hx hb hd ht (fun _ => k lsA hl) (fun hn => absurd hn (of_decide_eq_true hb1))
        · cases hq
          exact lv_icmp_ne hx hb hd ht (fun hp => absurd hp (of_decide_eq_false hb1)) (fun _ => k lsA hl)
      | lt =>
        rcases hq with ⟨hb1, hq⟩ | ⟨hb1, hq⟩
        · cases hq
          exact lv_icmp_lt hx hb hd ht (fun _ => k lsA hl) (fun hn => absurd (of_decide_eq_true hb1) hn)
        · cases hq
          exact lv_icmp_lt hx hb hd ht (fun hp => absurd hp (of_decide_eq_false hb1)) (fun _ => k lsA hl)
      | ge =>
        rcases hq with ⟨hb1, hq⟩ | ⟨hb1, hq⟩
        · cases hq
          exact lv_icmp_ge hx hb hd ht (fun _ => k lsA hl) (fun hn => absurd (of_decide_eq_true hb1) hn)
        · cases hq
          exact lv_icmp_ge hx hb hd ht (fun hp => absurd hp (of_decide_eq_false hb1)) (fun _ => k lsA hl)
      | gt =>
        rcases hq with ⟨hb1, hq⟩ | ⟨hb1, hq⟩
        · cases hq
          exact lv_icmp_gt hx hb hd ht (fun _ => k lsA hl) (fun hn => absurd (of_decide_eq_true hb1) hn)
        · cases hq
          exact lv_icmp_gt hx hb hd ht (fun hp => absurd hp (of_decide_eq_false hb1)) (fun _ => k lsA hl)
      | le =>
        rcases hq with ⟨hb1, hq⟩ | ⟨hb1, hq⟩
        · cases hq
          exact lv_icmp_le hx hb hd ht (fun _ => k lsA hl) (fun hn => absurd (of_decide_eq_true hb1) hn)
        · cases hq
          exact lv_icmp_le hx hb hd ht (fun hp => absurd hp (of_decide_eq_false hb1)) (fun _ => k lsA hl)
    · cases hs
  | _ => cases hs
end X_PURE
