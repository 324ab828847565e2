section
/-! THE SMALL MACHINE AND THE TRUE ONE: cell k + 1 stands at B + k, cell 0 (the script) at b -/
def X_ad (b B : Nat) : Nat → Nat
  | 0 => b
  | k + 1 => B + k
theorem X_ad_inj {b B : Nat} (h : b < B) {i j : Nat} (e : X_ad b B i = X_ad b B j) : i = j := by
  cases i <;> cases j <;> simp only [X_ad] at e <;> omega
theorem X_ad_ge {b B : Nat} {k : Nat} (h : k ≠ 0) : B ≤ X_ad b B k := by
  cases k with
  | zero => exact absurd rfl h
  | succ k => exact Nat.le_add_right _ _
theorem X_ad_lt {b B i n : Nat} (h : b < B) (hi : i < n) (h0 : 0 < n) : X_ad b B i < X_ad b B n := by
  cases n with
  | zero => omega
  | succ n => cases i <;> simp only [X_ad] <;> omega
theorem X_ad_succ {b B n : Nat} (h0 : 0 < n) : X_ad b B (n + 1) = X_ad b B n + 1 := by
  cases n with
  | zero => omega
  | succ n => simp only [X_ad]; omega
def X_cv (ad : Nat → Nat) (v : Value) : Value := match v with
  | .ref k => .ref (ad k)
  | .int x => .int x
  | .long x => .long x
  | .float x => .float x
  | .double x => .double x
  | .null => .null
  | .retAddr x => .retAddr x
theorem X_cv_cat (ad : Nat → Nat) (v : Value) : (X_cv ad v).category = v.category := by cases v <;> rfl
def X_cvs (ad : Nat → Nat) (st : List Value) : List Value := st.map (X_cv ad)
def X_cvl (ad : Nat → Nat) (ls : X_L) : X_L := ls.map (fun q => (q.1, X_cv ad q.2))
theorem X_cvs_cat (ad : Nat → Nat) (st : List Value) : ((X_cvs ad st).map fun v => v.category).sum = (st.map fun v => v.category).sum := by
  unfold X_cvs
  rw [List.map_map]
  congr 1
  exact List.map_congr_left (fun v _ => X_cv_cat ad v)
theorem X_cvl_s1 (ad : Nat → Nat) (ls : X_L) (i : Nat) (v : Value) :
    (i, X_cv ad v) :: (X_cvl ad ls).filter (fun q => !(q.1 == i) && !(q.1 + 1 == i && q.2.category == 2)) = X_cvl ad (X_s1 ls i v) := by
  unfold X_s1 X_cvl
  rw [List.map_cons, List.filter_map]
  congr 2
  refine List.filter_congr (fun q _ => ?_)
  simp only [Function.comp, X_cv_cat]
theorem X_cvl_s2 (ad : Nat → Nat) (ls : X_L) (i : Nat) (v : Value) :
    (i, X_cv ad v) :: (X_cvl ad ls).filter (fun q => !(q.1 == i) && (!(q.1 == i + 1) && !(q.1 + 1 == i && q.2.category == 2))) = X_cvl ad (X_s2 ls i v) := by
  unfold X_s2 X_cvl
  rw [List.map_cons, List.filter_map]
  congr 2
  refine List.filter_congr (fun q _ => ?_)
  simp only [Function.comp, X_cv_cat]
theorem X_ld_mem {ls : X_L} {i : Nat} {v : Value} (h : X_ld ls i = some v) : (i, v) ∈ ls := by
  induction ls with
  | nil => simp [X_ld] at h
  | cons q r ih =>
    unfold X_ld at h
    split at h
    · rename_i hq
      cases h
      subst hq
      exact List.mem_cons_self
    · exact List.mem_cons_of_mem _ (ih h)
theorem X_ld_at {ad : Nat → Nat} {lsA : Array Slot} {nL : Nat} {ls : X_L} {i : Nat} {v : Value} (hl : lv_has lsA nL (X_cvl ad ls)) (h : X_ld ls i = some v) : lsA[i]? = some (.val (X_cv ad v)) :=
  hl.2.2 (i, X_cv ad v) (List.mem_map.mpr ⟨_, X_ld_mem h, rfl⟩)
theorem X_tg_spec {pc t : Nat} {off : Int} (h : X_tg pc off = some t) : (pc : Int) + off = (t : Int) := by
  unfold X_tg at h
  split at h
  · rename_i z hz
    cases h
    exact hz
  · cases h
theorem X_args (ad : Nat → Nat) (as : List Value) : ∀ n, lv_args n (X_cvs ad as) = X_cvl ad (lv_args n as) := by
  induction as with
  | nil => intro n; rfl
  | cons v r ih =>
    intro n
    show (n, X_cv ad v) :: lv_args (if (X_cv ad v).category = 2 then n + 2 else n + 1) (X_cvs ad r) = _
    rw [X_cv_cat, ih]
    rfl
/-! cells -/
def X_va (ad : Nat → Nat) (a : vp_A) : vp_A := match a.2 with
  | .inr (.inr (.inr (.inr f))) => (a.1, .inr (.inr (.inr (.inr fun j => (f j).map ad))))
  | .inl f => (a.1, .inl f)
  | .inr (.inl f) => (a.1, .inr (.inl f))
  | .inr (.inr (.inl f)) => (a.1, .inr (.inr (.inl f)))
  | .inr (.inr (.inr (.inl f))) => (a.1, .inr (.inr (.inr (.inl f))))
def X_ce (ad : Nat → Nat) (cA : FieldType → ClassId) (c : X_Cell) : va_E := match c with
  | .inl a => .inl (cA a.1, X_va ad a.2)
  | .inr o => .inr (o.1, X_cvs ad o.2)
/-- the type of a row's components by its sign -/
def X_rty (t : FieldType) : FieldType := match t with
  | .short => .object RX8
  | t => t
def X_tys : List FieldType := [.int, .long, .byte, .boolean, .short]
/-- the heap of the small machine in the true one's; the script's cell is none of it -/
def X_Rl (b B : Nat) (scr : Cell) (D : va_G) (cA : FieldType → ClassId) (S : X_S) (H : Heap) : Prop :=
  b < B ∧ H.size = X_ad b B S.2.1 ∧ 0 < S.2.1 ∧ H[b]? = some scr ∧ S.1 0 = X_no
  ∧ (∀ k, 0 < k → k < S.2.1 → va_at D X_cl (X_ad b B k, X_ce (X_ad b B) cA (S.1 k)) H) ∧ ∀ k, S.2.1 ≤ k → S.1 k = X_no
/-- what the tables say -/
def X_K (D : va_G) (cA : FieldType → ClassId) (s : State) : Prop :=
  (∀ (c : Nat) (q : vw_C), X_cl[c]? = some q → u_Kn s q.1 q.2.1 q.2.2 (D.1 c) (D.2 c)) ∧ (∀ ty ∈ X_tys, ArrOfT s (cA ty) (X_rty ty) ∧ va_RA s (cA ty) (X_rty ty)) ∧ (∀ w ∈ X_nest, va_Nw w s) ∧ va_AO RX8 s
theorem X_Rl.upd {b B : Nat} {scr : Cell} {D : va_G} {cA : FieldType → ClassId} {S : X_S} {H H1 : Heap} (h : X_Rl b B scr D cA S H) {q : Nat} {c : X_Cell} (h0 : 0 < q) (hq : q < S.2.1) (z : H1.size = H.size)
    (oq : ∀ r : Nat, r ≠ X_ad b B q → H1[r]? = H[r]?) (hc : va_at D X_cl (X_ad b B q, X_ce (X_ad b B) cA c) H1) : X_Rl b B scr D cA (X_upd S.1 q c, S.2) H1 := by
  obtain ⟨hb, h1, h2, h3, h4, h5, h6⟩ := h
  refine ⟨hb, by rw [z]; exact h1, h2, ?_, ?_, fun k hk hk2 => ?_, fun k hk => ?_⟩
  · rw [oq b (fun e => by have := X_ad_ge (b := b) (B := B) (k := q) (by omega); omega)]
    exact h3
  · show X_upd S.1 q c 0 = _
    unfold X_upd
    rw [if_neg (by omega)]
    exact h4
  · show va_at D X_cl (X_ad b B k, X_ce (X_ad b B) cA (X_upd S.1 q c k)) H1
    unfold X_upd
    by_cases e : k = q
    · subst e
      rw [if_pos rfl]
      exact hc
    · rw [if_neg e]
      exact (h5 k hk hk2).kept (oq _ (fun e2 => e (X_ad_inj hb e2)))
  · show X_upd S.1 q c k = _
    unfold X_upd
    rw [if_neg (by have : S.2.1 ≤ k := hk; omega)]
    exact h6 k hk
theorem X_Rl.push {b B : Nat} {scr : Cell} {D : va_G} {cA : FieldType → ClassId} {S : X_S} {H H1 : Heap} (h : X_Rl b B scr D cA S H) {c : X_Cell} {n : Nat} (z : H1.size = H.size + 1)
    (oq : ∀ r : Nat, r < H.size → H1[r]? = H[r]?) (hc : va_at D X_cl (H.size, X_ce (X_ad b B) cA c) H1) : X_Rl b B scr D cA (X_upd S.1 S.2.1 c, S.2.1 + 1, S.2.2 + n) H1 := by
  obtain ⟨hb, h1, h2, h3, h4, h5, h6⟩ := h
  have hbs : b < H.size := by rw [h1]; exact X_ad_lt (i := 0) hb h2 h2
  refine ⟨hb, by rw [z, h1]; exact (X_ad_succ h2).symm, Nat.succ_pos _, by rw [oq b hbs]; exact h3, ?_, fun k hk hk2 => ?_, fun k hk => ?_⟩
  · show X_upd S.1 S.2.1 c 0 = _
    unfold X_upd
    rw [if_neg (by omega)]
    exact h4
  · show va_at D X_cl (X_ad b B k, X_ce (X_ad b B) cA (X_upd S.1 S.2.1 c k)) H1
    unfold X_upd
    by_cases e : k = S.2.1
    · subst e
      rw [if_pos rfl, ← h1]
      exact hc
    · rw [if_neg e]
      have hk3 : k < S.2.1 := by have : k < S.2.1 + 1 := hk2; omega
      exact (h5 k hk hk3).kept (oq _ (by rw [h1]; exact X_ad_lt hb hk3 h2))
  · show X_upd S.1 S.2.1 c k = _
    have hk' : S.2.1 + 1 ≤ k := hk
    unfold X_upd
    rw [if_neg (by omega)]
    exact h6 k (by omega)
/-- a cell that is there -/
theorem X_Rl.lt {b B : Nat} {scr : Cell} {D : va_G} {cA : FieldType → ClassId} {S : X_S} {H : Heap} (h : X_Rl b B scr D cA S H) {q : Nat} (hq : S.1 q ≠ X_no) : q < S.2.1 := by
  rcases Nat.lt_or_ge q S.2.1 with h1 | h1
  · exact h1
  · exact absurd (h.2.2.2.2.2.2 q h1) hq
theorem X_Rl.pos {b B : Nat} {scr : Cell} {D : va_G} {cA : FieldType → ClassId} {S : X_S} {H : Heap} (h : X_Rl b B scr D cA S H) {q : Nat} {c : X_Cell} (hc : S.1 q = c) (hne : c ≠ X_no) : 0 < q := by
  rcases Nat.eq_zero_or_pos q with h1 | h1
  · subst h1
    exact absurd (hc.symm.trans h.2.2.2.2.1) hne
  · exact h1
theorem X_Rl.at {b B : Nat} {scr : Cell} {D : va_G} {cA : FieldType → ClassId} {S : X_S} {H : Heap} (h : X_Rl b B scr D cA S H) {q : Nat} {c : X_Cell} (hc : S.1 q = c) (hne : c ≠ X_no) : va_at D X_cl (X_ad b B q, X_ce (X_ad b B) cA c) H := by
  have h0 := h.pos hc hne
  subst hc
  exact h.2.2.2.2.2.1 q h0 (h.lt hne)
theorem X_inl_ne {a : FieldType × vp_A} : (Sum.inl a : X_Cell) ≠ X_no := fun e => by cases e
theorem X_fit_ok {ty : FieldType} {v : Value} (ad : Nat → Nat) (h : X_fit ty v = true) : narrow ty (X_cv ad v) = X_cv ad v ∧ fits ty (X_cv ad v) = true := by
  unfold X_fit at h
  split at h
  · exact ⟨rfl, rfl⟩
  · exact ⟨rfl, rfl⟩
  · rename_i x
    simp only [Bool.or_eq_true, decide_eq_true_eq] at h
    have e0 : narrow .boolean (.int 0) = .int 0 ∧ fits .boolean (.int 0) = true := by decide
    have e1 : narrow .boolean (.int 1) = .int 1 ∧ fits .boolean (.int 1) = true := by decide
    rcases h with h | h
    · subst h
      exact e0
    · subst h
      exact e1
  · exact ⟨rfl, rfl⟩
  · exact ⟨rfl, rfl⟩
  · cases h
end
section
theorem X_i2_inv {g : Int32 → Int32 → Option Value} {pc : Nat} {ls : X_L} {st : List Value} {r : X_P} (h : X_i2 g pc ls st = some r) : ∃ x y v t, st = .int y :: .int x :: t ∧ g x y = some v ∧ r = (pc, ls, v :: t) := by
  unfold X_i2 at h
  split at h
  · split at h
    · rename_i hg
      cases h
      exact ⟨_, _, _, _, rfl, hg, rfl⟩
    · cases h
  · cases h
theorem X_l2_inv {g : Int64 → Int64 → Option Value} {pc : Nat} {ls : X_L} {st : List Value} {r : X_P} (h : X_l2 g pc ls st = some r) : ∃ x y v t, st = .long y :: .long x :: t ∧ g x y = some v ∧ r = (pc, ls, v :: t) := by
  unfold X_l2 at h
  split at h
  · split at h
    · rename_i hg
      cases h
      exact ⟨_, _, _, _, rfl, hg, rfl⟩
    · cases h
  · cases h
theorem X_li_inv {g : Int64 → Int32 → Value} {pc : Nat} {ls : X_L} {st : List Value} {r : X_P} (h : X_li g pc ls st = some r) : ∃ x y t, st = .int y :: .long x :: t ∧ r = (pc, ls, g x y :: t) := by
  unfold X_li at h
  split at h
  · cases h
    exact ⟨_, _, _, rfl, rfl⟩
  · cases h
theorem X_i1_inv {g : Int32 → Value} {pc : Nat} {ls : X_L} {st : List Value} {r : X_P} (h : X_i1 g pc ls st = some r) : ∃ x t, st = .int x :: t ∧ r = (pc, ls, g x :: t) := by
  unfold X_i1 at h
  split at h
  · cases h
    exact ⟨_, _, rfl, rfl⟩
  · cases h
theorem X_l1_inv {g : Int64 → Value} {pc : Nat} {ls : X_L} {st : List Value} {r : X_P} (h : X_l1 g pc ls st = some r) : ∃ x t, st = .long x :: t ∧ r = (pc, ls, g x :: t) := by
  unfold X_l1 at h
  split at h
  · cases h
    exact ⟨_, _, rfl, rfl⟩
  · cases h
theorem X_br_inv {b : Bool} {t : Option Nat} {pc : Nat} {ls : X_L} {r : List Value} {q : X_P} (h : X_br b t pc ls r = some q) : ∃ tg, t = some tg ∧ ((b = true ∧ q = (tg, ls, r)) ∨ (b = false ∧ q = (pc, ls, r))) := by
  unfold X_br at h
  split at h
  · split at h
    · rename_i hb
      cases h
      exact ⟨_, rfl, Or.inl ⟨hb, rfl⟩⟩
    · rename_i hb
      cases h
      exact ⟨_, rfl, Or.inr ⟨by simpa using hb, rfl⟩⟩
  · cases h
theorem X_li__inv {n pc : Nat} {ls : X_L} {st : List Value} {r : X_P} (h : X_li_ n pc ls st = some r) : ∃ x, X_ld ls n = some (.int x) ∧ r = (pc, ls, .int x :: st) := by
  unfold X_li_ at h
  split at h
  · rename_i hx
    cases h
    exact ⟨_, hx, rfl⟩
  · cases h
theorem X_ll__inv {n pc : Nat} {ls : X_L} {st : List Value} {r : X_P} (h : X_ll_ n pc ls st = some r) : ∃ x, X_ld ls n = some (.long x) ∧ r = (pc, ls, .long x :: st) := by
  unfold X_ll_ at h
  split at h
  · rename_i hx
    cases h
    exact ⟨_, hx, rfl⟩
  · cases h
theorem X_la__inv {n pc : Nat} {ls : X_L} {st : List Value} {r : X_P} (h : X_la_ n pc ls st = some r) : ∃ x, X_ld ls n = some (.ref x) ∧ r = (pc, ls, .ref x :: st) := by
  unfold X_la_ at h
  split at h
  · rename_i hx
    cases h
    exact ⟨_, hx, rfl⟩
  · cases h
theorem X_si__inv {nL n pc : Nat} {ls : X_L} {st : List Value} {r : X_P} (h : X_si_ nL n pc ls st = some r) : ∃ x t, st = .int x :: t ∧ n < nL ∧ r = (pc, X_s1 ls n (.int x), t) := by
  unfold X_si_ at h
  split at h
  · split at h
    · rename_i hx
      cases h
      exact ⟨_, _, rfl, hx, rfl⟩
    · cases h
  · cases h
theorem X_sl__inv {nL n pc : Nat} {ls : X_L} {st : List Value} {r : X_P} (h : X_sl_ nL n pc ls st = some r) : ∃ x t, st = .long x :: t ∧ n + 1 < nL ∧ r = (pc, X_s2 ls n (.long x), t) := by
  unfold X_sl_ at h
  split at h
  · split at h
    · rename_i hx
      cases h
      exact ⟨_, _, rfl, hx, rfl⟩
    · cases h
  · cases h
theorem X_sa__inv {nL n pc : Nat} {ls : X_L} {st : List Value} {r : X_P} (h : X_sa_ nL n pc ls st = some r) : ∃ x t, st = .ref x :: t ∧ n < nL ∧ r = (pc, X_s1 ls n (.ref x), t) := by
  unfold X_sa_ at h
  split at h
  · split at h
    · rename_i hx
      cases h
      exact ⟨_, _, rfl, hx, rfl⟩
    · cases h
  · cases h
def lw_g : List Cond := lw_tbl.filter goodWord
theorem X_wd_in {p : Nat} {w : Cond} (h : X_wd p w = true) : w ∈ lw_g := by
  unfold X_wd at h
  simp only [Bool.and_eq_true, decide_eq_true_eq] at h
  exact List.mem_filter.mpr ⟨List.mem_of_getElem? h.1, h.2⟩
/-- what holds in a method's frame -/
def X_Cx (scr : Cell) (D : va_G) (cA : FieldType → ClassId) (p : Program) (R : Room) (s : State) (m : MethodId) (args : Array Value) (meth : Method) (c : Code) (j : Nat) : Prop :=
  p.tables.exec = Jvm.exec ∧ c.code = X_b j ∧ meth.sig.returnType = X_rt j ∧ c.maxLocals = X_nL j ∧ s.vm.findClass (X_R (X_o j)) = some m.cls ∧ (∀ w ∈ lw_g, w.before args s = true) ∧ meth.locks = false ∧ (X_init j = true → meth.name = "<init>")
  ∧ X_K D cA s ∧ X_fr j ≤ R.frames ∧ X_lo j ≤ R.locals ∧ (j = X_lawj → s.isArrayOf scr .int ∧ scr.vm ≠ .unknown)
theorem X_chk_dec {j pc n : Nat} {i : Jvm.ClassFile.Instr} {ax : Nat × Nat × Nat} (h : X_chk j (pc, (i, n), ax) = true) : decode (X_b j) pc = .ok (i, X_ln i n) := by
  unfold X_chk at h
  simp only [Bool.and_eq_true, decide_eq_true_eq] at h
  exact h.1
section X_PURE
variable {p : Program} {l : Launch} {e : Env} {R : Room} {s : State} {m : MethodId} {args : Array Value} {below : List Frame} {meth : Method} {c : Code} {H : Heap} {locs : List Loc} {cells slots : Nat} {Q : State → Prop}
variable {scr : Cell} {D : va_G} {cA : FieldType → ClassId} {ad : Nat → Nat} {j : Nat}
set_option maxHeartbeats 4000000 in
theorem X_pure (C : X_Cx scr D cA p R s m args meth c j) {row : X_Row} {ls ls' : X_L} {st st' : List Value} {pc' : Nat} {lsA : Array Slot} (hc : X_chk j row = true) (hl : lv_has lsA (X_nL j) (X_cvl ad ls))
    (hs : X_pstep (X_nL j) row ls st = some (pc', ls', st'))
    (k : ∀ lsA', lv_has lsA' (X_nL j) (X_cvl ad ls') → W p l e R s m args below meth c H locs cells slots Q (F0 m pc' lsA' (X_cvs ad st'))) : W p l e R s m args below meth c H locs cells slots Q (F0 m row.1 lsA (X_cvs ad st)) := by
  obtain ⟨hx, hb, hr, hml, hown, hts, hlocks, hin, hK, hfr, hlo, hlaw⟩ := C
  obtain ⟨pc, ⟨i, n⟩, ax⟩ := row
  have hd := X_chk_dec hc
  cases i with
  | iconst z => cases hs; exact lv_iconst hx hb hd rfl (k lsA hl)
  | bipush z => cases hs; exact lv_bipush hx hb hd rfl (k lsA hl)
  | sipush z => cases hs; exact lv_sipush hx hb hd rfl (k lsA hl)
  | lconst z => cases hs; exact lv_lconst hx hb hd rfl (k lsA hl)
  | ldc z =>
    cases hs
    have hw : X_wd ax.2.1 (.constant (X_R (X_o j)) z (Int32.ofNat ax.1)) = true := by
      unfold X_chk at hc
      simp only [Bool.and_eq_true] at hc
      exact hc.2
    exact lv_ldc hx hb hown (hts _ (X_wd_in hw)) hd (k lsA hl)
  | ldc2_w z =>
    cases hs
    have hw : X_wd ax.2.1 (.constantLong (X_R (X_o j)) z (Int64.ofNat ax.1)) = true := by
      unfold X_chk at hc
      simp only [Bool.and_eq_true] at hc
      exact hc.2
    exact lv_ldc2 hx hb hown (hts _ (X_wd_in hw)) hd (k lsA hl)
  | iload z =>
    obtain ⟨x, h1, h2⟩ := X_li__inv hs
    cases h2
    exact lv_iload hx hb hd (X_ld_at hl h1) (k lsA hl)
  | iload_n z =>
    obtain ⟨x, h1, h2⟩ := X_li__inv hs
    cases h2
    exact lv_iload_n hx hb hd rfl (X_ld_at hl h1) (k lsA hl)
  | lload z =>
    obtain ⟨x, h1, h2⟩ := X_ll__inv hs
    cases h2
    exact lv_lload hx hb hd (X_ld_at hl h1) (k lsA hl)
  | lload_n z =>
    obtain ⟨x, h1, h2⟩ := X_ll__inv hs
    cases h2
    exact lv_lload_n hx hb hd rfl (X_ld_at hl h1) (k lsA hl)
  | aload z =>
    obtain ⟨x, h1, h2⟩ := X_la__inv hs
    cases h2
    exact lv_aload hx hb hd (X_ld_at hl h1) (k lsA hl)
  | aload_n z =>
    obtain ⟨x, h1, h2⟩ := X_la__inv hs
    cases h2
    exact lv_aload_n hx hb hd rfl (X_ld_at hl h1) (k lsA hl)
  | istore z =>
    obtain ⟨x, t, rfl, h1, h2⟩ := X_si__inv hs
    cases h2
    exact lv_istore hx hb hd hl h1 (X_cvl_s1 ad ls z (.int x)) (fun lsA' hl' => k lsA' hl')
  | istore_n z =>
    obtain ⟨x, t, rfl, h1, h2⟩ := X_si__inv hs
    cases h2
    exact lv_istore_n hx hb hd rfl hl h1 (X_cvl_s1 ad ls z (.int x)) (fun lsA' hl' => k lsA' hl')
  | lstore z =>
    obtain ⟨x, t, rfl, h1, h2⟩ := X_sl__inv hs
    cases h2
    exact lv_lstore hx hb hd hl h1 (X_cvl_s2 ad ls z (.long x)) (fun lsA' hl' => k lsA' hl')
  | lstore_n z =>
    obtain ⟨x, t, rfl, h1, h2⟩ := X_sl__inv hs
    cases h2
    exact lv_lstore_n hx hb hd rfl hl h1 (X_cvl_s2 ad ls z (.long x)) (fun lsA' hl' => k lsA' hl')
  | astore z =>
    obtain ⟨x, t, rfl, h1, h2⟩ := X_sa__inv hs
    cases h2
    exact lv_astore hx hb hd hl h1 (X_cvl_s1 ad ls z (.ref x)) (fun lsA' hl' => k lsA' hl')
  | astore_n z =>
    obtain ⟨x, t, rfl, h1, h2⟩ := X_sa__inv hs
    cases h2
    exact lv_astore_n hx hb hd rfl hl h1 (X_cvl_s1 ad ls z (.ref x)) (fun lsA' hl' => k lsA' hl')
  | iinc z q =>
    simp only [X_pstep] at hs
    split at hs
    · rename_i x hx1
      split at hs
      · rename_i hn
        cases hs
        obtain ⟨kk, hkk⟩ := List.getElem?_of_mem (List.mem_map.mpr ⟨_, X_ld_mem hx1, rfl⟩ : ((z, X_cv ad (.int x)) : Nat × Value) ∈ X_cvl ad ls)
        exact lv_iinc hx hb hd hl hkk rfl hn (X_cvl_s1 ad ls z (.int (x + Int32.ofInt q))) (fun lsA' hl' => k lsA' hl')
      · cases hs
    · cases hs
  | iadd =>
    simp only [X_pstep] at hs
    obtain ⟨x, y, v, t, rfl, h1, h2⟩ := X_i2_inv hs
    cases h1
    cases h2
    exact lv_iadd hx hb hd (k lsA hl)
  | isub =>
    simp only [X_pstep] at hs
    obtain ⟨x, y, v, t, rfl, h1, h2⟩ := X_i2_inv hs
    cases h1
    cases h2
    exact lv_isub hx hb hd (k lsA hl)
  | imul =>
    simp only [X_pstep] at hs
    obtain ⟨x, y, v, t, rfl, h1, h2⟩ := X_i2_inv hs
    cases h1
    cases h2
    exact lv_imul hx hb hd (k lsA hl)
  | iand =>
    simp only [X_pstep] at hs
    obtain ⟨x, y, v, t, rfl, h1, h2⟩ := X_i2_inv hs
    cases h1
    cases h2
    exact lv_iand hx hb hd (k lsA hl)
  | ior =>
    simp only [X_pstep] at hs
    obtain ⟨x, y, v, t, rfl, h1, h2⟩ := X_i2_inv hs
    cases h1
    cases h2
    exact lv_ior hx hb hd (k lsA hl)
  | ishl =>
    simp only [X_pstep] at hs
    obtain ⟨x, y, v, t, rfl, h1, h2⟩ := X_i2_inv hs
    cases h1
    cases h2
    exact lv_ishl hx hb hd (k lsA hl)
  | ishr =>
    simp only [X_pstep] at hs
    obtain ⟨x, y, v, t, rfl, h1, h2⟩ := X_i2_inv hs
    cases h1
    cases h2
    exact lv_ishr hx hb hd (k lsA hl)
  | idiv =>
    simp only [X_pstep] at hs
    obtain ⟨x, y, v, t, rfl, h1, h2⟩ := X_i2_inv hs
    split at h1
    · cases h1
    · rename_i hne
      cases h1
      cases h2
      exact lv_idiv hx hb hd hne (k lsA hl)
  | irem =>
    simp only [X_pstep] at hs
    obtain ⟨x, y, v, t, rfl, h1, h2⟩ := X_i2_inv hs
    split at h1
    · cases h1
    · rename_i hne
      cases h1
      cases h2
      exact lv_irem hx hb hd hne (k lsA hl)
  | ladd =>
    simp only [X_pstep] at hs
    obtain ⟨x, y, v, t, rfl, h1, h2⟩ := X_l2_inv hs
    cases h1
    cases h2
    exact lv_ladd hx hb hd (k lsA hl)
  | lsub =>
    simp only [X_pstep] at hs
    obtain ⟨x, y, v, t, rfl, h1, h2⟩ := X_l2_inv hs
    cases h1
    cases h2
    exact lv_lsub hx hb hd (k lsA hl)
  | lmul =>
    simp only [X_pstep] at hs
    obtain ⟨x, y, v, t, rfl, h1, h2⟩ := X_l2_inv hs
    cases h1
    cases h2
    exact lv_lmul hx hb hd (k lsA hl)
  | land =>
    simp only [X_pstep] at hs
    obtain ⟨x, y, v, t, rfl, h1, h2⟩ := X_l2_inv hs
    cases h1
    cases h2
    exact lv_land hx hb hd (k lsA hl)
  | lor =>
    simp only [X_pstep] at hs
    obtain ⟨x, y, v, t, rfl, h1, h2⟩ := X_l2_inv hs
    cases h1
    cases h2
    exact lv_lor hx hb hd (k lsA hl)
  | lcmp =>
    simp only [X_pstep] at hs
    obtain ⟨x, y, v, t, rfl, h1, h2⟩ := X_l2_inv hs
    cases h1
    cases h2
    exact W.lcmp hx hb hd (k lsA hl)
  | ldiv =>
    simp only [X_pstep] at hs
    obtain ⟨x, y, v, t, rfl, h1, h2⟩ := X_l2_inv hs
    split at h1
    · cases h1
    · rename_i hne
      cases h1
      cases h2
      exact lv_ldiv hx hb hd hne (k lsA hl)
  | lrem =>
    simp only [X_pstep] at hs
    obtain ⟨x, y, v, t, rfl, h1, h2⟩ := X_l2_inv hs
    split at h1
    · cases h1
    · rename_i hne
      cases h1
      cases h2
      exact lv_lrem hx hb hd hne (k lsA hl)
  | lshl =>
    simp only [X_pstep] at hs
    obtain ⟨x, y, t, rfl, h2⟩ := X_li_inv hs
    cases h2
    exact lv_lshl hx hb hd rfl (k lsA hl)
  | lshr =>
    simp only [X_pstep] at hs
    obtain ⟨x, y, t, rfl, h2⟩ := X_li_inv hs
    cases h2
    exact lv_lshr hx hb hd rfl (k lsA hl)
  | ineg =>
    simp only [X_pstep] at hs
    obtain ⟨x, t, rfl, h2⟩ := X_i1_inv hs
    cases h2
    exact lv_ineg hx hb hd (k lsA hl)
  | i2l =>
    simp only [X_pstep] at hs
    obtain ⟨x, t, rfl, h2⟩ := X_i1_inv hs
    cases h2
    exact lv_i2l hx hb hd rfl (k lsA hl)
  | i2b =>
    simp only [X_pstep] at hs
    obtain ⟨x, t, rfl, h2⟩ := X_i1_inv hs
    cases h2
    exact lv_i2b hx hb hd rfl (k lsA hl)
  | l2i =>
    simp only [X_pstep] at hs
    obtain ⟨x, t, rfl, h2⟩ := X_l1_inv hs
    cases h2
    exact lv_l2i hx hb hd rfl (k lsA hl)
  | dup =>
    simp only [X_pstep] at hs
    split at hs
    · split at hs
      · rename_i hv
        cases hs
        exact lv_dup hx hb hd (by rw [X_cv_cat]; exact hv) (k lsA hl)
      · cases hs
    · cases hs
  | dup2 =>
    simp only [X_pstep] at hs
    split at hs
    · split at hs
      · rename_i hv
        cases hs
        exact lv_dup2_11 hx hb hd (by rw [X_cv_cat]; exact hv.1) (by rw [X_cv_cat]; exact hv.2) (k lsA hl)
      · cases hs
    · cases hs
  | pop =>
    simp only [X_pstep] at hs
    split at hs
    · split at hs
      · rename_i hv
        cases hs
        exact lv_pop hx hb hd (by rw [X_cv_cat]; exact hv) (k lsA hl)
      · cases hs
    · cases hs
  | pop2 =>
    simp only [X_pstep] at hs
    split at hs
    · split at hs
      · rename_i hv
        cases hs
        exact lv_pop2_2 hx hb hd (by rw [X_cv_cat]; exact hv) (k lsA hl)
      · cases hs
    · cases hs
  | goto off =>
    simp only [X_pstep] at hs
    split at hs
    · rename_i t ht
      cases hs
      exact lv_goto hx hb hd (X_tg_spec ht) (k lsA hl)
    · cases hs
  | tableswitch d lo hi offs =>
    simp only [X_pstep] at hs
    split at hs
    · rename_i x r
      split at hs
      · rename_i hout
        split at hs
        · rename_i t ht
          cases hs
          exact lv_tableOut hx hb hd hout (X_tg_spec ht) (k lsA hl)
        · cases hs
      · rename_i hin2
        split at hs
        · rename_i off ho
          split at hs
          · rename_i t ht
            cases hs
            exact lv_tableIn hx hb hd (fun q => hin2 (Or.inl q)) (fun q => hin2 (Or.inr q)) ho (X_tg_spec ht) (k lsA hl)
          · cases hs
        · cases hs
    · cases hs
  | lookupswitch d ps =>
    simp only [X_pstep] at hs
    split at hs
    · rename_i x r
      split at hs
      · rename_i t ht
        cases hs
        have hw : (ps.toList.zip (ps.toList.drop 1)).all (fun (a, next) => a.1 < next.1) = true := by
          unfold X_chk at hc
          simp only [Bool.and_eq_true] at hc
          exact hc.2
        exact lv_lookup hx hb hd hw rfl (X_tg_spec ht) (k lsA hl)
      · cases hs
    · cases hs
  | ifCond cd off =>
    simp only [X_pstep] at hs
    split at hs
    · rename_i x r
      obtain ⟨tg, ht, hq⟩ := X_br_inv hs
      have ht := X_tg_spec ht
      cases cd with
      | eq =>
        rcases hq with ⟨hb1, hq⟩ | ⟨hb1, hq⟩
        · cases hq
          exact lv_if_eq hx hb hd ht (fun _ => k lsA hl) (fun hn => absurd (of_decide_eq_true hb1) hn)
        · cases hq
          exact lv_if_eq hx hb hd ht (fun hp => absurd hp (of_decide_eq_false hb1)) (fun _ => k lsA hl)
      | ne =>
        rcases hq with ⟨hb1, hq⟩ | ⟨hb1, hq⟩
        · cases hq
          exact lv_if_ne hx hb hd ht (fun _ => k lsA hl) (fun hn => absurd hn (of_decide_eq_true hb1))
        · cases hq
          exact lv_if_ne hx hb hd ht (fun hp => absurd hp (of_decide_eq_false hb1)) (fun _ => k lsA hl)
      | lt =>
        rcases hq with ⟨hb1, hq⟩ | ⟨hb1, hq⟩
        · cases hq
          exact lv_if_lt hx hb hd ht (fun _ => k lsA hl) (fun hn => absurd (of_decide_eq_true hb1) hn)
        · cases hq
          exact lv_if_lt hx hb hd ht (fun hp => absurd hp (of_decide_eq_false hb1)) (fun _ => k lsA hl)
      | ge =>
        rcases hq with ⟨hb1, hq⟩ | ⟨hb1, hq⟩
        · cases hq
          exact lv_if_ge hx hb hd ht (fun _ => k lsA hl) (fun hn => absurd (of_decide_eq_true hb1) hn)
        · cases hq
          exact lv_if_ge hx hb hd ht (fun hp => absurd hp (of_decide_eq_false hb1)) (fun _ => k lsA hl)
      | gt =>
        rcases hq with ⟨hb1, hq⟩ | ⟨hb1, hq⟩
        · cases hq
          exact lv_if_gt hx hb hd ht (fun _ => k lsA hl) (fun hn => absurd (of_decide_eq_true hb1) hn)
        · cases hq
          exact lv_if_gt hx hb hd ht (fun hp => absurd hp (of_decide_eq_false hb1)) (fun _ => k lsA hl)
      | le =>
        rcases hq with ⟨hb1, hq⟩ | ⟨hb1, hq⟩
        · cases hq
          exact lv_if_le hx hb hd ht (fun _ => k lsA hl) (fun hn => absurd (of_decide_eq_true hb1) hn)
        · cases hq
          exact lv_if_le hx hb hd ht (fun hp => absurd hp (of_decide_eq_false hb1)) (fun _ => k lsA hl)
    · cases hs
  | if_icmp cd off =>
    simp only [X_pstep] at hs
    split at hs
    · rename_i y x r
      obtain ⟨tg, ht, hq⟩ := X_br_inv hs
      have ht := X_tg_spec ht
      cases cd with
      | eq =>
        rcases hq with ⟨hb1, hq⟩ | ⟨hb1, hq⟩
        · cases hq
          exact lv_icmp_eq hx hb hd ht (fun _ => k lsA hl) (fun hn => absurd (of_decide_eq_true hb1) hn)
        · cases hq
          exact lv_icmp_eq hx hb hd ht (fun hp => absurd hp (of_decide_eq_false hb1)) (fun _ => k lsA hl)
      | ne =>
        rcases hq with ⟨hb1, hq⟩ | ⟨hb1, hq⟩
        · cases hq
          exact lv_icmp_ne hx hb hd ht (fun _ => k lsA hl) (fun hn => absurd hn (of_decide_eq_true hb1))
        · cases hq
          exact lv_icmp_ne hx hb hd ht (fun hp => absurd hp (of_decide_eq_false hb1)) (fun _ => k lsA hl)
      | lt =>
        rcases hq with ⟨hb1, hq⟩ | ⟨hb1, hq⟩
        · cases hq
          exact lv_icmp_lt hx hb hd ht (fun _ => k lsA hl) (fun hn => absurd (of_decide_eq_true hb1) hn)
        · cases hq
          exact lv_icmp_lt hx hb hd ht (fun hp => absurd hp (of_decide_eq_false hb1)) (fun _ => k lsA hl)
      | ge =>
        rcases hq with ⟨hb1, hq⟩ | ⟨hb1, hq⟩
        · cases hq
          exact lv_icmp_ge hx hb hd ht (fun _ => k lsA hl) (fun hn => absurd (of_decide_eq_true hb1) hn)
        · cases hq
          exact lv_icmp_ge hx hb hd ht (fun hp => absurd hp (of_decide_eq_false hb1)) (fun _ => k lsA hl)
      | gt =>
        rcases hq with ⟨hb1, hq⟩ | ⟨hb1, hq⟩
        · cases hq
          exact lv_icmp_gt hx hb hd ht (fun _ => k lsA hl) (fun hn => absurd (of_decide_eq_true hb1) hn)
        · cases hq
          exact lv_icmp_gt hx hb hd ht (fun hp => absurd hp (of_decide_eq_false hb1)) (fun _ => k lsA hl)
      | le =>
        rcases hq with ⟨hb1, hq⟩ | ⟨hb1, hq⟩
        · cases hq
          exact lv_icmp_le hx hb hd ht (fun _ => k lsA hl) (fun hn => absurd (of_decide_eq_true hb1) hn)
        · cases hq
          exact lv_icmp_le hx hb hd ht (fun hp => absurd hp (of_decide_eq_false hb1)) (fun _ => k lsA hl)
    · cases hs
  | _ => cases hs
end X_PURE
end
section
/-! facts of the tables; objects and new cells -/
set_option maxRecDepth 100000 in
theorem X_lay0 : u_ws RX0 TX0 8 = X_lp0.filterMap (fun i => lw_tbl[i]?) := by decide +kernel
theorem X_dcl0 : ∀ k, k < 8 → (TX0 k).1 = RX0 := by decide +kernel
theorem X_layg0 : (u_ws RX0 TX0 8).all goodWord = true := by decide +kernel
set_option maxRecDepth 100000 in
theorem X_lay1 : u_ws RX1 TX1 8 = X_lp1.filterMap (fun i => lw_tbl[i]?) := by decide +kernel
theorem X_dcl1 : ∀ k, k < 8 → (TX1 k).1 = RX1 := by decide +kernel
theorem X_layg1 : (u_ws RX1 TX1 8).all goodWord = true := by decide +kernel
set_option maxRecDepth 100000 in
theorem X_lay2 : u_ws RX2 TX2 13 = X_lp2.filterMap (fun i => lw_tbl[i]?) := by decide +kernel
theorem X_dcl2 : ∀ k, k < 13 → (TX2 k).1 = RX2 := by decide +kernel
theorem X_layg2 : (u_ws RX2 TX2 13).all goodWord = true := by decide +kernel
set_option maxRecDepth 100000 in
theorem X_lay3 : u_ws RX3 TX3 7 = X_lp3.filterMap (fun i => lw_tbl[i]?) := by decide +kernel
theorem X_dcl3 : ∀ k, k < 7 → (TX3 k).1 = RX3 := by decide +kernel
theorem X_layg3 : (u_ws RX3 TX3 7).all goodWord = true := by decide +kernel
set_option maxRecDepth 100000 in
theorem X_lay4 : u_ws RX4 TX4 4 = X_lp4.filterMap (fun i => lw_tbl[i]?) := by decide +kernel
theorem X_dcl4 : ∀ k, k < 4 → (TX4 k).1 = RX4 := by decide +kernel
theorem X_layg4 : (u_ws RX4 TX4 4).all goodWord = true := by decide +kernel
set_option maxRecDepth 100000 in
theorem X_lay5 : u_ws RX5 TX5 7 = X_lp5.filterMap (fun i => lw_tbl[i]?) := by decide +kernel
theorem X_dcl5 : ∀ k, k < 7 → (TX5 k).1 = RX5 := by decide +kernel
theorem X_layg5 : (u_ws RX5 TX5 7).all goodWord = true := by decide +kernel
set_option maxRecDepth 100000 in
theorem X_lay6 : u_ws RX6 TX6 3 = X_lp6.filterMap (fun i => lw_tbl[i]?) := by decide +kernel
theorem X_dcl6 : ∀ k, k < 3 → (TX6 k).1 = RX6 := by decide +kernel
theorem X_layg6 : (u_ws RX6 TX6 3).all goodWord = true := by decide +kernel
set_option maxRecDepth 100000 in
theorem X_lay7 : u_ws RX7 TX7 2 = X_lp7.filterMap (fun i => lw_tbl[i]?) := by decide +kernel
theorem X_dcl7 : ∀ k, k < 2 → (TX7 k).1 = RX7 := by decide +kernel
theorem X_layg7 : (u_ws RX7 TX7 2).all goodWord = true := by decide +kernel
set_option maxRecDepth 100000 in
theorem X_lay8 : u_ws RX8 TX8 15 = X_lp8.filterMap (fun i => lw_tbl[i]?) := by decide +kernel
theorem X_dcl8 : ∀ k, k < 15 → (TX8 k).1 = RX8 := by decide +kernel
theorem X_layg8 : (u_ws RX8 TX8 15).all goodWord = true := by decide +kernel
set_option maxRecDepth 100000 in
theorem X_lay9 : u_ws RX9 TX9 7 = X_lp9.filterMap (fun i => lw_tbl[i]?) := by decide +kernel
theorem X_dcl9 : ∀ k, k < 7 → (TX9 k).1 = RX9 := by decide +kernel
theorem X_layg9 : (u_ws RX9 TX9 7).all goodWord = true := by decide +kernel
set_option maxRecDepth 100000 in
theorem X_lay10 : u_ws RX10 TX10 9 = X_lp10.filterMap (fun i => lw_tbl[i]?) := by decide +kernel
theorem X_dcl10 : ∀ k, k < 9 → (TX10 k).1 = RX10 := by decide +kernel
theorem X_layg10 : (u_ws RX10 TX10 9).all goodWord = true := by decide +kernel
set_option maxRecDepth 100000 in
theorem X_lay11 : u_ws RX11 TX11 72 = X_lp11.filterMap (fun i => lw_tbl[i]?) := by decide +kernel
theorem X_dcl11 : ∀ k, k < 72 → (TX11 k).1 = RX11 := by decide +kernel
theorem X_layg11 : (u_ws RX11 TX11 72).all goodWord = true := by decide +kernel
theorem X_lay_in {ws : List Cond} {ps : List Nat} (h : ws = ps.filterMap (fun i => lw_tbl[i]?)) (hg : ws.all goodWord = true) : ∀ w ∈ ws, w ∈ lw_g := by
  intro w hw
  have h1 := List.all_eq_true.mp hg w hw
  rw [h] at hw
  obtain ⟨i, -, hi⟩ := List.mem_filterMap.mp hw
  exact List.mem_filter.mpr ⟨List.mem_of_getElem? hi, h1⟩
/-- a class of the tables: its words, its types, its names -/
def X_clok (ci : Nat) (q : vw_C) : Prop := (∀ w ∈ u_ws q.1 q.2.1 q.2.2, w ∈ lw_g) ∧ (∀ k, k < q.2.2 → parseFieldDescriptor (q.2.1 k).2.2.1 = some (X_ty ci k)) ∧ (∀ a, a < q.2.2 → ∀ b, b < q.2.2 → a ≠ b → (q.2.1 a).2.1 ≠ (q.2.1 b).2.1) ∧ (∀ k, k < q.2.2 → (q.2.1 k).1 = q.1)
theorem X_clook : ∀ (ci : Nat) (q : vw_C), X_cl[ci]? = some q → X_clok ci q := by
  intro ci q h
  match ci, h with
  | 0, h => cases h; exact ⟨X_lay_in X_lay0 X_layg0, tyX0_ok, nmX0, X_dcl0⟩
  | 1, h => cases h; exact ⟨X_lay_in X_lay1 X_layg1, tyX1_ok, nmX1, X_dcl1⟩
  | 2, h => cases h; exact ⟨X_lay_in X_lay2 X_layg2, tyX2_ok, nmX2, X_dcl2⟩
  | 3, h => cases h; exact ⟨X_lay_in X_lay3 X_layg3, tyX3_ok, nmX3, X_dcl3⟩
  | 4, h => cases h; exact ⟨X_lay_in X_lay4 X_layg4, tyX4_ok, nmX4, X_dcl4⟩
  | 5, h => cases h; exact ⟨X_lay_in X_lay5 X_layg5, tyX5_ok, nmX5, X_dcl5⟩
  | 6, h => cases h; exact ⟨X_lay_in X_lay6 X_layg6, tyX6_ok, nmX6, X_dcl6⟩
  | 7, h => cases h; exact ⟨X_lay_in X_lay7 X_layg7, tyX7_ok, nmX7, X_dcl7⟩
  | 8, h => cases h; exact ⟨X_lay_in X_lay8 X_layg8, tyX8_ok, nmX8, X_dcl8⟩
  | 9, h => cases h; exact ⟨X_lay_in X_lay9 X_layg9, tyX9_ok, nmX9, X_dcl9⟩
  | 10, h => cases h; exact ⟨X_lay_in X_lay10 X_layg10, tyX10_ok, nmX10, X_dcl10⟩
  | 11, h => cases h; exact ⟨X_lay_in X_lay11 X_layg11, tyX11_ok, nmX11, X_dcl11⟩
  | ci + 12, h => simp [X_cl] at h
theorem X_nest_two : ∀ w ∈ X_nest, (∃ a i b n d h, w = .fieldLinkNest a i b n d h) ∨ ∃ a i x h, w = .methodLinkNest a i x h := by
  intro w hw
  have h1 := (List.mem_filter.mp hw).2
  unfold X_isNest at h1
  split at h1
  · exact Or.inl ⟨_, _, _, _, _, _, rfl⟩
  · exact Or.inr ⟨_, _, _, _, rfl⟩
  · cases h1
theorem X_K.warm {D : va_G} {cA : FieldType → ClassId} {s U : State} (hW : s.WarmedH U.vm) (h : X_K D cA s) : X_K D cA U := by
  obtain ⟨h1, h2, h3, h4⟩ := h
  refine ⟨fun c q hq => u_Kn_moved hW.alike (h1 c q hq), fun ty hty => ⟨arrOfT_moved hW.alike (h2 ty hty).1, (h2 ty hty).2.moved hW.alike⟩, fun w hw => ?_, h4.moved hW.alike⟩
  rcases X_nest_two w hw with ⟨a, i, b, n, d, hh, rfl⟩ | ⟨a, i, x, hh, rfl⟩
  · exact va_Nw.warmF hW (h3 _ hw)
  · exact va_Nw.warmM hW (h3 _ hw)
theorem X_K.same {D : va_G} {cA : FieldType → ClassId} {s U : State} (hv : s.vm = U.vm) (h : X_K D cA s) : X_K D cA U := by
  obtain ⟨h1, h2, h3, h4⟩ := h
  have hA : s.vm.Alike U.vm := by rw [hv]; exact Vm.Alike.refl _
  refine ⟨fun c q hq => u_Kn_moved hA (h1 c q hq), fun ty hty => ⟨arrOfT_moved hA (h2 ty hty).1, (h2 ty hty).2.moved hA⟩, fun w hw => ?_, h4.moved hA⟩
  rcases X_nest_two w hw with ⟨a, i, b, n, d, hh, rfl⟩ | ⟨a, i, x, hh, rfl⟩
  · exact va_Nw.same rfl hv (h3 _ hw)
  · exact va_Nw.same rfl hv (h3 _ hw)
theorem X_cvs_get {ad : Nat → Nat} {fs : List Value} {k : Nat} {v : Value} (h : fs[k]? = some v) : vp_V (X_cvs ad fs) k = X_cv ad v := by
  unfold X_cvs vp_V
  rw [List.getD_eq_getElem?_getD, List.getElem?_map, h]
  rfl
theorem X_in {i : Int32} {n : Nat} (h : ¬ (i < 0 ∨ n ≤ i.toNatClampNeg)) : i.toNatClampNeg < n := Nat.not_le.mp fun q => h (Or.inr q)
theorem X_ne99 {ci : Nat} {fs : List Value} (h : ci < 12) : (Sum.inr (ci, fs) : X_Cell) ≠ X_no := by
  intro e
  cases e
  omega
theorem X_clt {ci : Nat} {q : vw_C} (h : X_cl[ci]? = some q) : ci < 12 := (List.getElem?_eq_some_iff.mp h).1
/-- a field's word -/
theorem X_fw_spec {o idx : Nat} {ax : Nat × Nat × Nat} {q : vw_C} (h : X_fw o idx ax = true) (hq : X_cl[ax.1]? = some q) : ax.2.1 < q.2.2 ∧
    ((ax.2.2 % 2 = 0 ∧ Cond.fieldLink (X_R o) idx q.1 (q.2.1 ax.2.1).2.1 (q.2.1 ax.2.1).2.2.1 ∈ lw_g) ∨ (¬ ax.2.2 % 2 = 0 ∧ Cond.fieldLinkNest (X_R o) idx q.1 (q.2.1 ax.2.1).2.1 (q.2.1 ax.2.1).2.2.1 "MixfixBench" ∈ X_nest)) := by
  unfold X_fw at h
  rw [hq] at h
  simp only [Bool.and_eq_true, decide_eq_true_eq] at h
  refine ⟨h.1, ?_⟩
  obtain ⟨h1, h2, h3⟩ := X_PF_ok o _ (List.mem_of_getElem? h.2)
  by_cases e : ax.2.2 % 2 = 0
  · refine Or.inl ⟨e, ?_⟩
    have h4 := List.mem_filter.mpr ⟨h1, h2 e⟩
    simp only [X_pfw, hq, e, if_true] at h4
    exact h4
  · refine Or.inr ⟨e, ?_⟩
    have h4 := List.mem_filter.mpr ⟨h1, h3 e⟩
    simp only [X_pfw, hq, e, if_false] at h4
    exact h4
theorem X_fw_cl {o idx : Nat} {ax : Nat × Nat × Nat} (h : X_fw o idx ax = true) : ∃ q, X_cl[ax.1]? = some q := by
  unfold X_fw at h
  split at h
  · exact ⟨_, by assumption⟩
  · cases h
section X_HEAP
variable {p : Program} {l : Launch} {e : Env} {R : Room} {s : State} {m : MethodId} {args : Array Value} {below : List Frame} {meth : Method} {c : Code} {H : Heap} {locs : List Loc} {cells slots : Nat} {Q : State → Prop}
variable {scr : Cell} {D : va_G} {cA : FieldType → ClassId} {b B : Nat} {j : Nat} {lsA : Array Slot} {S : X_S}
theorem X_t_lc {a i : Nat} (h : ∀ q ∈ locs, B ≤ q.base) (ha : B ≤ a) : ∀ q ∈ locs ++ [(⟨a, i⟩ : Loc)], B ≤ q.base := by
  intro q hq
  rcases List.mem_append.mp hq with h1 | h1
  · exact h q h1
  · rw [List.mem_singleton] at h1
    subst h1
    exact ha
set_option maxHeartbeats 1000000 in
theorem X_getfield (C : X_Cx scr D cA p R s m args meth c j) {pc idx n ci : Nat} {ax : Nat × Nat × Nat} {q : Nat} {r fs : List Value} {v : Value} (hc : X_chk j (pc, (.getfield idx, n), ax) = true) (hR : X_Rl b B scr D cA S H)
    (h1 : S.1 q = .inr (ci, fs)) (h2 : ci = ax.1) (h3 : fs[ax.2.1]? = some v)
    (k : W p l e R s m args below meth c H locs cells slots Q (F0 m (pc + 3) lsA (X_cv (X_ad b B) v :: r))) : W p l e R s m args below meth c H locs cells slots Q (F0 m pc lsA (.ref (X_ad b B q) :: r)) := by
  obtain ⟨hx, hb, hr, hml, hown, hts, hlocks, hin, hK, hfr, hlo, hlaw⟩ := C
  have hd := X_chk_dec hc
  subst h2
  have hw : X_fw (X_o j) idx ax = true := by
    unfold X_chk at hc
    simp only [Bool.and_eq_true] at hc
    exact hc.2
  obtain ⟨qq, hqq⟩ := X_fw_cl hw
  obtain ⟨hk, hlink⟩ := X_fw_spec hw hqq
  obtain ⟨hlay, hty, hnm, hdc⟩ := X_clook _ _ hqq
  obtain ⟨rq, g1, cell, q1, q2, q3, q4⟩ := hR.at h1 (X_ne99 (X_clt hqq))
  have hrq : rq = qq := Option.some.inj (g1.symm.trans hqq)
  subst hrq
  obtain ⟨hS, hfc, kC, hkC, hkind⟩ := hK.1 _ _ hqq
  obtain ⟨cf, kf, fi, f, hi, hsl⟩ := hS _ hk
  have hst := (u_facts hfc hkC (u_lays hts hlay hk) hi).1
  have hi' : s.fieldFound? rq.1 (rq.2.1 ax.2.1).2.1 (rq.2.1 ax.2.1).2.2.1 = some (cf, kf, fi, f) := by rw [← hdc _ hk]; exact hi
  have hslot : cell.slots[f.slot]? = some (X_cv (X_ad b B) v) := by
    rw [hsl, q4 _ hk, X_cvs_get h3]
  rcases hlink with ⟨-, hlink⟩ | ⟨-, hlink⟩
  · exact W.getf hx hb hown (hts _ hlink) hi' hst q1 (by rw [q3]; exact fun h => by cases h) hslot rfl rfl hd k
  · exact va_Wgetf hx hb hown (va_Nw.use rfl (hK.2.2.1 _ hlink)) hi' hst q1 (by rw [q3]; exact fun h => by cases h) hslot rfl rfl hd k
set_option maxHeartbeats 1000000 in
theorem X_putfield (C : X_Cx scr D cA p R s m args meth c j) {pc idx n ci : Nat} {ax : Nat × Nat × Nat} {q : Nat} {r fs : List Value} {v : Value} (hc : X_chk j (pc, (.putfield idx, n), ax) = true) (hR : X_Rl b B scr D cA S H) (hq : ∀ q ∈ locs, B ≤ q.base)
    (h1 : S.1 q = .inr (ci, fs)) (h2 : ci = ax.1) (h3 : ax.2.1 < fs.length) (h4 : X_fit (X_ty ax.1 ax.2.1) v = true)
    (k : ∀ H' locs', X_Rl b B scr D cA (X_upd S.1 q (.inr (ci, fs.set ax.2.1 v)), S.2) H' → (∀ q ∈ locs', B ≤ q.base) → W p l e R s m args below meth c H' locs' cells slots Q (F0 m (pc + 3) lsA r)) : W p l e R s m args below meth c H locs cells slots Q (F0 m pc lsA (X_cv (X_ad b B) v :: .ref (X_ad b B q) :: r)) := by
  obtain ⟨hx, hb, hr, hml, hown, hts, hlocks, hin, hK, hfr, hlo, hlaw⟩ := C
  have hd := X_chk_dec hc
  subst h2
  have hw : X_fw (X_o j) idx ax = true ∧ X_fp j (X_o j) ax = true := by
    unfold X_chk at hc
    simp only [Bool.and_eq_true] at hc
    exact hc.2
  obtain ⟨hw, hfp⟩ := hw
  obtain ⟨qq, hqq⟩ := X_fw_cl hw
  obtain ⟨hk, hlink⟩ := X_fw_spec hw hqq
  obtain ⟨hlay, hty, hnm, hdc⟩ := X_clook _ _ hqq
  have hq0 := hR.pos h1 (X_ne99 (X_clt hqq))
  have hlt := hR.lt (q := q) (by rw [h1]; exact X_ne99 (X_clt hqq))
  have hap : ∀ x y, x < qq.2.2 → y < qq.2.2 → x ≠ y → (D.2 ax.1) x ≠ (D.2 ax.1) y := va_apart (own := X_R (X_o j)) (cl := X_cl) (tys := []) (C := qq.1) (T := qq.2.1) (N := qq.2.2) hts hlay (X_ty ax.1) hty hnm ⟨hK.1, fun k q h => by simp at h⟩ hqq
  obtain ⟨rq, g1, cell, q1, q2, q3, q4⟩ := hR.at h1 (X_ne99 (X_clt hqq))
  have hrq : rq = qq := Option.some.inj (g1.symm.trans hqq)
  subst hrq
  obtain ⟨hS, hfc, kC, hkC, hkind⟩ := hK.1 _ _ hqq
  obtain ⟨cf, kf, fi, f, hi, hsl⟩ := hS _ hk
  have hst := (u_facts hfc hkC (u_lays hts hlay hk) hi).1
  have hi' : s.fieldFound? rq.1 (rq.2.1 ax.2.1).2.1 (rq.2.1 ax.2.1).2.2.1 = some (cf, kf, fi, f) := by rw [← hdc _ hk]; exact hi
  obtain ⟨hn, hfit⟩ := X_fit_ok (X_ad b B) h4
  have fin : ∀ (H' : Heap) (i : Nat), H'[X_ad b B q]? = some (cell.setSlot f.slot (X_cv (X_ad b B) v)) → H'.size = H.size → (∀ r, r ≠ X_ad b B q → H'[r]? = H[r]?) → W p l e R s m args below meth c H' (locs ++ [⟨X_ad b B q, i⟩]) cells slots Q (F0 m (pc + 3) lsA r) := by
    intro H' i e1 e2 e3
    rw [hsl] at e1
    refine k H' _ (hR.upd hq0 hlt e2 e3 ?_) (X_t_lc hq (X_ad_ge (by omega)))
    refine ⟨rq, g1, t_OB.to (V := updV (vp_V (X_cvs (X_ad b B) fs)) ax.2.1 (X_cv (X_ad b B) v)) ⟨_, e1, q2, q3, t_set q4 hap hk _⟩ (fun i _ => ?_)⟩
    show _ = vp_V (X_cvs (X_ad b B) (fs.set ax.2.1 v)) i
    rw [vp_updV_set (by unfold X_cvs; rw [List.length_map]; exact h3)]
    unfold X_cvs
    rw [List.map_set]
  have hlay1 := hts _ (hlay _ (u_in_lay hk))
  unfold u_lay at hlay1
  by_cases hf : (rq.2.1 ax.2.1).2.2.2 = true
  · unfold X_fp at hfp
    rw [hqq] at hfp
    simp only [hf, if_true, Bool.and_eq_true, decide_eq_true_eq] at hfp
    obtain ⟨⟨hev, hini⟩, hdecl⟩ := hfp
    rcases hlink with ⟨-, hlink⟩ | ⟨hodd, -⟩
    · rw [if_pos hf] at hlay1
      have hcf : m.cls = cf := by
        obtain ⟨_, _, c', _, _, _, -, -, hf', -, -, -, hown2, -⟩ := Cond.laysFinal_spec hlay1
        have e1 : c' = cf := by have := hi.symm.trans hf'; simp at this; exact this.1.symm
        rw [hdecl] at hown2
        rw [← e1]; exact Option.some.inj (hown.symm.trans hown2)
      have h6 := u_fits hfc hkC hkind (Or.inr hlay1) hi (hty _ hk) hn hfit
      exact W.putFinK hx hb hown (hts _ hlink) hi' hst hcf (hin hini) (by rw [q2]; exact h6) q1 q3 (by rw [hsl]; exact k2_hasslot (q4 _ hk)) rfl rfl hd (fun H' e1 e2 e3 => fin H' _ e1 e2 e3)
    · exact absurd hev hodd
  · rw [if_neg hf] at hlay1
    have h6 := u_store hfc hkC hkind hlay1 hi (hty _ hk) hn hfit
    rcases hlink with ⟨-, hlink⟩ | ⟨-, hlink⟩
    · exact W.putK hx hb (f := f) ⟨hown, hts _ hlink, ⟨_, _, _, hi'⟩, hst⟩ (by rw [q2]; exact h6) q1 q3 (by rw [hsl]; exact k2_hasslot (q4 _ hk)) rfl rfl hd (fun H' e1 e2 e3 => fin H' _ e1 e2 e3)
    · exact va_WputK hx hb (f := f) hown (va_Nw.use rfl (hK.2.2.1 _ hlink)) hi' hst (by rw [q2]; exact h6) q1 q3 (by rw [hsl]; exact k2_hasslot (q4 _ hk)) rfl rfl hd (fun H' e1 e2 e3 => fin H' _ e1 e2 e3)
set_option maxHeartbeats 1000000 in
theorem X_new (C : X_Cx scr D cA p R s m args meth c j) {pc idx n : Nat} {ax : Nat × Nat × Nat} {r fs : List Value} (hc : X_chk j (pc, (.new idx, n), ax) = true) (hR : X_Rl b B scr D cA S H)
    (h1 : X_df[ax.1]? = some fs) (hcells : cells + 1 ≤ R.cells) (hslots : slots + fs.length ≤ R.slots)
    (k : ∀ H', X_Rl b B scr D cA (X_upd S.1 S.2.1 (.inr (ax.1, fs)), S.2.1 + 1, S.2.2 + fs.length) H' → W p l e R s m args below meth c H' locs (cells + 1) (slots + fs.length) Q (F0 m (pc + 3) lsA (.ref (X_ad b B S.2.1) :: r))) : W p l e R s m args below meth c H locs cells slots Q (F0 m pc lsA r) := by
  obtain ⟨hx, hb, hr, hml, hown, hts, hlocks, hin, hK, hfr, hlo, hlaw⟩ := C
  have hd := X_chk_dec hc
  have hw : ∃ q kk, X_cl[ax.1]? = some q ∧ X_wd ax.2.1 (.classLink (X_R (X_o j)) idx q.1) = true ∧ X_wd kk.1 (.instantiable q.1 q.2.2) = true ∧ X_wd kk.2 (.initialized q.1) = true ∧ fs = (List.range q.2.2).map (fun k => defaultValue (X_ty ax.1 k)) ∧ (kk : Nat × Nat) = kk := by
    unfold X_chk at hc
    simp only [Bool.and_eq_true] at hc
    have h := hc.2
    rw [h1] at h
    split at h
    · rename_i q kk fs' e1 e2 e3
      cases e3
      simp only [Bool.and_eq_true, decide_eq_true_eq] at h
      exact ⟨q, kk, e1, h.1.1.1, h.1.1.2, h.1.2, h.2, rfl⟩
    · cases h
  obtain ⟨qq, kk, hqq, w1, w2, w3, hfs, -⟩ := hw
  obtain ⟨hlay, hty, hnm, hdc⟩ := X_clook _ _ hqq
  have hlen : fs.length = qq.2.2 := by rw [hfs, List.length_map, List.length_range]
  have hKn := hK.1 _ _ hqq
  rw [hlen] at hslots
  refine W.newcK hx hb hown (hts _ (X_wd_in w1)) (hts _ (X_wd_in w2)) (hts _ (X_wd_in w3)) rfl hd hcells hslots hKn.2.1 rfl fun H1 kC hkC e1 z1 o1 => ?_
  have hk := k H1 (hR.push z1 o1 ⟨qq, hqq, (u_born (X_ty ax.1) hts hlay hKn hkC e1 hty).to (fun i hi => ?_)⟩)
  · rw [hlen, ← hR.2.1] at hk
    exact hk
  · rw [X_cvs_get (v := defaultValue (X_ty ax.1 i)) (by rw [hfs, List.getElem?_map, List.getElem?_range hi]; rfl)]
    cases X_ty ax.1 i <;> rfl
theorem X_kArr (hK : X_K D cA s) {ty : FieldType} (h : ty ∈ X_tys) : ArrOfT s (cA ty) (X_rty ty) := (hK.2.1 ty h).1
set_option maxHeartbeats 1000000 in
theorem X_newarr (C : X_Cx scr D cA p R s m args meth c j) {pc n : Nat} {at_ : Jvm.ClassFile.ArrayType} {ax : Nat × Nat × Nat} {z : Int32} {r : List Value} {cc : X_Cell} (hc : X_chk j (pc, (.newarray at_, n), ax) = true) (hR : X_Rl b B scr D cA S H)
    (h0 : ¬ (z < 0 ∨ 67108864 < z.toNatClampNeg)) (h1 : X_blank at_ z.toNatClampNeg = some cc) (hcells : cells + 1 ≤ R.cells) (hslots : slots + z.toNatClampNeg ≤ R.slots)
    (k : ∀ H', X_Rl b B scr D cA (X_upd S.1 S.2.1 cc, S.2.1 + 1, S.2.2 + z.toNatClampNeg) H' → W p l e R s m args below meth c H' locs (cells + 1) (slots + z.toNatClampNeg) Q (F0 m (pc + 2) lsA (.ref (X_ad b B S.2.1) :: r))) : W p l e R s m args below meth c H locs cells slots Q (F0 m pc lsA (.int z :: r)) := by
  obtain ⟨hx, hb, hr, hml, hown, hts, hlocks, hin, hK, hfr, hlo, hlaw⟩ := C
  have hd := X_chk_dec hc
  have hw : Cond.arrayClass (newarray.typeOf at_) ∈ lw_g := by
    obtain ⟨w1, w2, w3, w4⟩ := X_w_ap
    cases at_ <;> simp only [X_blank] at h1 <;> first
      | (cases h1; done)
      | exact X_wd_in w1
      | exact X_wd_in w2
      | exact X_wd_in w3
      | exact X_wd_in w4
  have hbytes : z.toNatClampNeg * componentBytes (newarray.typeOf at_) ≤ 536870912 := by
    have h8 : componentBytes (newarray.typeOf at_) ≤ 8 := by cases at_ <;> decide
    have h9 : z.toNatClampNeg ≤ 67108864 := Nat.le_of_not_lt fun q => h0 (Or.inr q)
    exact Nat.le_trans (Nat.mul_le_mul h9 h8) (by decide)
  refine va_newaK hx hb (hts _ hw) rfl hd rfl (fun q => h0 (Or.inl q)) rfl hbytes hcells hslots rfl fun H1 cA' e1 z1 o1 hAr hNm => ?_
  rw [show H.size = X_ad b B S.2.1 from hR.2.1]
  refine k H1 (hR.push z1 o1 ?_)
  cases at_ <;> simp only [X_blank] at h1 <;> cases h1
  · have e := (hK.2.1 .boolean (by decide)).2
    have : cA' = cA .boolean := Option.some.inj (hNm.symm.trans e)
    subst this
    exact e1
  · have e := (hK.2.1 .byte (by decide)).2
    have : cA' = cA .byte := Option.some.inj (hNm.symm.trans e)
    subst this
    exact e1
  · have e := (hK.2.1 .int (by decide)).2
    have : cA' = cA .int := Option.some.inj (hNm.symm.trans e)
    subst this
    exact e1
  · have e := (hK.2.1 .long (by decide)).2
    have : cA' = cA .long := Option.some.inj (hNm.symm.trans e)
    subst this
    exact e1
set_option maxHeartbeats 1000000 in
theorem X_anewarr (C : X_Cx scr D cA p R s m args meth c j) {pc n idx : Nat} {ax : Nat × Nat × Nat} {z : Int32} {r : List Value} (hc : X_chk j (pc, (.anewarray idx, n), ax) = true) (hR : X_Rl b B scr D cA S H)
    (h0 : ¬ (z < 0 ∨ 67108864 < z.toNatClampNeg)) (hcells : cells + 1 ≤ R.cells) (hslots : slots + z.toNatClampNeg ≤ R.slots)
    (k : ∀ H', X_Rl b B scr D cA (X_upd S.1 S.2.1 (.inl (.short, z.toNatClampNeg, .inr (.inr (.inr (.inr fun _ => none))))), S.2.1 + 1, S.2.2 + z.toNatClampNeg) H' → W p l e R s m args below meth c H' locs (cells + 1) (slots + z.toNatClampNeg) Q (F0 m (pc + 3) lsA (.ref (X_ad b B S.2.1) :: r))) : W p l e R s m args below meth c H locs cells slots Q (F0 m pc lsA (.int z :: r)) := by
  obtain ⟨hx, hb, hr, hml, hown, hts, hlocks, hin, hK, hfr, hlo, hlaw⟩ := C
  have hd := X_chk_dec hc
  have hw : X_wd ax.1 (.classLink (X_R (X_o j)) idx RX8) = true := by
    unfold X_chk at hc
    simp only [Bool.and_eq_true] at hc
    exact hc.2
  have hbytes : z.toNatClampNeg * 4 ≤ 536870912 := by
    have h9 : z.toNatClampNeg ≤ 67108864 := Nat.le_of_not_lt fun q => h0 (Or.inr q)
    omega
  refine W.anew hx hb hown (hts _ (X_wd_in hw)) (va_AO.use hK.2.2.2) rfl hd rfl (fun q => h0 (Or.inl q)) hbytes hcells hslots fun cA' kA comp f1 f2 f3 f4 => ?_
  generalize hH1 : H.push ({ cls := cA', slots := Array.replicate z.toNatClampNeg .null, vm := .none } : Cell) = H1
  have z1 : H1.size = H.size + 1 := by rw [← hH1, Array.size_push]
  have e1 : H1[H.size]? = some (arrV cA' z.toNatClampNeg (fun _ => .null)) := by rw [← hH1, Array.getElem?_push_size, ← arrV_new]
  have o1 : ∀ q : Nat, q < H.size → H1[q]? = H[q]? := fun q hq => by rw [← hH1, Array.getElem?_push, if_neg (Nat.ne_of_lt hq)]
  rw [show H.size = X_ad b B S.2.1 from hR.2.1]
  refine k H1 (hR.push z1 o1 ?_)
  obtain ⟨kA2, comp2, -, -, -, k4⟩ := (hK.2.1 .short (by decide)).2
  have : cA' = cA .short := Option.some.inj (f1.symm.trans k4)
  subst this
  exact e1
end X_HEAP
end
section
/-! rows of arrays -/
section X_ARR
variable {p : Program} {l : Launch} {e : Env} {R : Room} {s : State} {m : MethodId} {args : Array Value} {below : List Frame} {meth : Method} {c : Code} {H : Heap} {locs : List Loc} {cells slots : Nat} {Q : State → Prop}
variable {scr : Cell} {D : va_G} {cA : FieldType → ClassId} {b B : Nat} {j : Nat} {lsA : Array Slot} {S : X_S}
theorem X_iald (C : X_Cx scr D cA p R s m args meth c j) {pc n q k0 : Nat} {ax : Nat × Nat × Nat} {f : Nat → Int32} {i : Int32} {r : List Value} (hc : X_chk j (pc, (.iaload, n), ax) = true) (hR : X_Rl b B scr D cA S H)
    (h1 : S.1 q = .inl (.int, k0, .inl f)) (h0 : ¬ (i < 0 ∨ k0 ≤ i.toNatClampNeg))
    (k : W p l e R s m args below meth c H locs cells slots Q (F0 m (pc + 1) lsA (.int (f i.toNatClampNeg) :: r))) : W p l e R s m args below meth c H locs cells slots Q (F0 m pc lsA (.int i :: .ref (X_ad b B q) :: r)) := by
  obtain ⟨hx, hb, hr, hml, hown, hts, hlocks, hin, hK, hfr, hlo, hlaw⟩ := C
  have hd := X_chk_dec hc
  have hat : H[X_ad b B q]? = some (vp_cell (cA .int) (k0, .inl f)) := hR.at h1 X_inl_ne
  exact W.iald (v := .int (f i.toNatClampNeg)) hx hb hat ((hK.2.1 .int (by decide)).1 k0 (fun j => .int (f j))) (fun q => by cases q) (by show ¬ (i < 0 ∨ (arrV _ _ _).slots.size ≤ _); rw [arrV_size]; exact h0) (by show (arrV _ _ _).slots[_]? = _; rw [arrV_read _ _ (X_in h0)]) rfl rfl hd k
theorem X_lald (C : X_Cx scr D cA p R s m args meth c j) {pc n q k0 : Nat} {ax : Nat × Nat × Nat} {f : Nat → Int64} {i : Int32} {r : List Value} (hc : X_chk j (pc, (.laload, n), ax) = true) (hR : X_Rl b B scr D cA S H) 
    (h1 : S.1 q = .inl (.long, k0, .inr (.inl f))) (h0 : ¬ (i < 0 ∨ k0 ≤ i.toNatClampNeg))
    (k : W p l e R s m args below meth c H locs cells slots Q (F0 m (pc + 1) lsA (.long (f i.toNatClampNeg) :: r))) : W p l e R s m args below meth c H locs cells slots Q (F0 m pc lsA (.int i :: .ref (X_ad b B q) :: r)) := by
  obtain ⟨hx, hb, hr, hml, hown, hts, hlocks, hin, hK, hfr, hlo, hlaw⟩ := C
  have hd := X_chk_dec hc
  have hat : H[X_ad b B q]? = some (vp_cell (cA .long) (k0, .inr (.inl f))) := hR.at h1 X_inl_ne
  exact W.lald (v := .long (f i.toNatClampNeg)) hx hb hat ((hK.2.1 .long (by decide)).1 k0 (fun j => .long (f j))) (fun q => by cases q) (by show ¬ (i < 0 ∨ (arrV _ _ _).slots.size ≤ _); rw [arrV_size]; exact h0) (by show (arrV _ _ _).slots[_]? = _; rw [arrV_read _ _ (X_in h0)]) rfl rfl hd k
theorem X_bald (C : X_Cx scr D cA p R s m args meth c j) {pc n q k0 : Nat} {ax : Nat × Nat × Nat} {f : Nat → Int32} {i : Int32} {r : List Value} (hc : X_chk j (pc, (.baload, n), ax) = true) (hR : X_Rl b B scr D cA S H) 
    (h1 : S.1 q = .inl (.byte, k0, .inl f)) (h0 : ¬ (i < 0 ∨ k0 ≤ i.toNatClampNeg))
    (k : W p l e R s m args below meth c H locs cells slots Q (F0 m (pc + 1) lsA (.int (f i.toNatClampNeg) :: r))) : W p l e R s m args below meth c H locs cells slots Q (F0 m pc lsA (.int i :: .ref (X_ad b B q) :: r)) := by
  obtain ⟨hx, hb, hr, hml, hown, hts, hlocks, hin, hK, hfr, hlo, hlaw⟩ := C
  have hd := X_chk_dec hc
  have hat : H[X_ad b B q]? = some (vp_cell (cA .byte) (k0, .inl f)) := hR.at h1 X_inl_ne
  exact W.bald (v := .int (f i.toNatClampNeg)) hx hb hat ((hK.2.1 .byte (by decide)).1 k0 (fun j => .int (f j))) (fun q => by cases q) (by show ¬ (i < 0 ∨ (arrV _ _ _).slots.size ≤ _); rw [arrV_size]; exact h0) (by show (arrV _ _ _).slots[_]? = _; rw [arrV_read _ _ (X_in h0)]) rfl rfl hd k
theorem X_zald (C : X_Cx scr D cA p R s m args meth c j) {pc n q k0 : Nat} {ax : Nat × Nat × Nat} {f : Nat → Int32} {i : Int32} {r : List Value} (hc : X_chk j (pc, (.baload, n), ax) = true) (hR : X_Rl b B scr D cA S H) 
    (h1 : S.1 q = .inl (.boolean, k0, .inl f)) (h0 : ¬ (i < 0 ∨ k0 ≤ i.toNatClampNeg))
    (k : W p l e R s m args below meth c H locs cells slots Q (F0 m (pc + 1) lsA (.int (f i.toNatClampNeg) :: r))) : W p l e R s m args below meth c H locs cells slots Q (F0 m pc lsA (.int i :: .ref (X_ad b B q) :: r)) := by
  obtain ⟨hx, hb, hr, hml, hown, hts, hlocks, hin, hK, hfr, hlo, hlaw⟩ := C
  have hd := X_chk_dec hc
  have hat : H[X_ad b B q]? = some (vp_cell (cA .boolean) (k0, .inl f)) := hR.at h1 X_inl_ne
  exact W.zald (v := .int (f i.toNatClampNeg)) hx hb hat ((hK.2.1 .boolean (by decide)).1 k0 (fun j => .int (f j))) (fun q => by cases q) (by show ¬ (i < 0 ∨ (arrV _ _ _).slots.size ≤ _); rw [arrV_size]; exact h0) (by show (arrV _ _ _).slots[_]? = _; rw [arrV_read _ _ (X_in h0)]) rfl rfl hd k
theorem X_aald (C : X_Cx scr D cA p R s m args meth c j) {pc n q k0 : Nat} {ax : Nat × Nat × Nat} {f : Nat → Option Nat} {i : Int32} {r : List Value} (hc : X_chk j (pc, (.aaload, n), ax) = true) (hR : X_Rl b B scr D cA S H)
    (h1 : S.1 q = .inl (.short, k0, .inr (.inr (.inr (.inr f))))) (h0 : ¬ (i < 0 ∨ k0 ≤ i.toNatClampNeg))
    (k : W p l e R s m args below meth c H locs cells slots Q (F0 m (pc + 1) lsA (X_cv (X_ad b B) (va_rf (f i.toNatClampNeg)) :: r))) : W p l e R s m args below meth c H locs cells slots Q (F0 m pc lsA (.int i :: .ref (X_ad b B q) :: r)) := by
  obtain ⟨hx, hb, hr, hml, hown, hts, hlocks, hin, hK, hfr, hlo, hlaw⟩ := C
  have hd := X_chk_dec hc
  have hat : H[X_ad b B q]? = some (vp_cell (cA .short) (k0, .inr (.inr (.inr (.inr fun j => (f j).map (X_ad b B)))))) := hR.at h1 X_inl_ne
  have ev : X_cv (X_ad b B) (va_rf (f i.toNatClampNeg)) = va_rf ((f i.toNatClampNeg).map (X_ad b B)) := by cases f i.toNatClampNeg <;> rfl
  rw [ev] at k
  exact W.aald (v := va_rf ((f i.toNatClampNeg).map (X_ad b B))) (ty := .object RX8) hx hb hat ((hK.2.1 .short (by decide)).1 k0 (fun j => va_rf ((f j).map (X_ad b B)))) rfl (fun q => by cases q) (by show ¬ (i < 0 ∨ (arrV _ _ _).slots.size ≤ _); rw [arrV_size]; exact h0) (by show (arrV _ _ _).slots[_]? = _; rw [arrV_read _ _ (X_in h0)]) rfl rfl hd k
/-- the script -/
theorem X_sald (C : X_Cx scr D cA p R s m args meth c j) {pc n : Nat} {ax : Nat × Nat × Nat} {sc : X_Sc} {i : Int32} {r : List Value} (hsc : scr.slots.size = sc.1 ∧ ∀ j, j < sc.1 → scr.slots[j]? = some (.int (sc.2 j))) (hc : X_chk j (pc, (.iaload, n), ax) = true) (hax : ax.1 ≠ 0) (hR : X_Rl b B scr D cA S H)
    (h0 : ¬ (i < 0 ∨ sc.1 ≤ i.toNatClampNeg))
    (k : W p l e R s m args below meth c H locs cells slots Q (F0 m (pc + 1) lsA (.int (sc.2 i.toNatClampNeg) :: r))) : W p l e R s m args below meth c H locs cells slots Q (F0 m pc lsA (.int i :: .ref b :: r)) := by
  obtain ⟨hx, hb, hr, hml, hown, hts, hlocks, hin, hK, hfr, hlo, hlaw⟩ := C
  have hd := X_chk_dec hc
  have hj : j = X_lawj := by
    unfold X_chk at hc
    simp only [Bool.and_eq_true, Bool.or_eq_true, decide_eq_true_eq] at hc
    exact hc.2.resolve_left hax
  obtain ⟨ha1, ha2⟩ := hlaw hj
  exact W.iald (v := .int (sc.2 i.toNatClampNeg)) hx hb hR.2.2.2.1 ha1 ha2 (by rw [hsc.1]; exact h0) (hsc.2 _ (X_in h0)) rfl rfl hd k
theorem X_slen (C : X_Cx scr D cA p R s m args meth c j) {pc n : Nat} {ax : Nat × Nat × Nat} {sc : X_Sc} {r : List Value} (hsc : scr.slots.size = sc.1 ∧ ∀ j, j < sc.1 → scr.slots[j]? = some (.int (sc.2 j))) (hc : X_chk j (pc, (.arraylength, n), ax) = true) (hax : ax.1 ≠ 0) (hR : X_Rl b B scr D cA S H)
    (k : W p l e R s m args below meth c H locs cells slots Q (F0 m (pc + 1) lsA (.int (Int32.ofNat sc.1) :: r))) : W p l e R s m args below meth c H locs cells slots Q (F0 m pc lsA (.ref b :: r)) := by
  obtain ⟨hx, hb, hr, hml, hown, hts, hlocks, hin, hK, hfr, hlo, hlaw⟩ := C
  have hd := X_chk_dec hc
  have hj : j = X_lawj := by
    unfold X_chk at hc
    simp only [Bool.and_eq_true, Bool.or_eq_true, decide_eq_true_eq] at hc
    exact hc.2.resolve_left hax
  obtain ⟨ha1, ha2⟩ := hlaw hj
  exact W.alen hx hb hR.2.2.2.1 ha1 (by rw [hsc.1]) rfl rfl hd k
theorem X_iast (C : X_Cx scr D cA p R s m args meth c j) {pc n q k0 : Nat} {ax : Nat × Nat × Nat} {f : Nat → Int32} {i : Int32} {x : Int32} {r : List Value} (hc : X_chk j (pc, (.iastore, n), ax) = true) (hR : X_Rl b B scr D cA S H) (hq : ∀ q ∈ locs, B ≤ q.base)
    (h1 : S.1 q = .inl (.int, k0, .inl f)) (h2 : ¬ (i < 0 ∨ k0 ≤ i.toNatClampNeg))
    (k : ∀ H' locs', X_Rl b B scr D cA (X_upd S.1 q (.inl (.int, k0, .inl (upd f i.toNatClampNeg x))), S.2) H' → (∀ q ∈ locs', B ≤ q.base) → W p l e R s m args below meth c H' locs' cells slots Q (F0 m (pc + 1) lsA r)) : W p l e R s m args below meth c H locs cells slots Q (F0 m pc lsA (.int x :: .int i :: .ref (X_ad b B q) :: r)) := by
  obtain ⟨hx, hb, hr, hml, hown, hts, hlocks, hin, hK, hfr, hlo, hlaw⟩ := C
  have hd := X_chk_dec hc
  have hq0 : 0 < q := hR.pos h1 X_inl_ne
  have hat : H[X_ad b B q]? = some (vp_cell (cA .int) (k0, .inl f)) := hR.at h1 X_inl_ne
  refine W.iast hx hb hat ((hK.2.1 .int (by decide)).1 k0 (fun j => .int (f j))) (fun q => by cases q) (by show ¬ (i < 0 ∨ (arrV _ _ _).slots.size ≤ _); rw [arrV_size]; exact h2) rfl rfl hd fun H1 e z oq => ?_
  refine k H1 _ (hR.upd hq0 (hR.lt (by rw [h1]; exact X_inl_ne)) z oq ?_) (X_t_lc hq (X_ad_ge (by omega)))
  show H1[X_ad b B q]? = some (vp_cell _ _)
  rw [e]
  show some ((vp_cell _ _).setSlot _ _) = some (vp_cell (cA .int) (k0, .inl (upd f i.toNatClampNeg x)))
  rw [vp_cell_i, vp_cell_i, arrV_store]
  congr 2
  funext z
  by_cases hz : z = i.toNatClampNeg
  · subst hz
    simp [updV, upd]
    try rfl
  · simp [updV, upd, hz]
theorem X_last (C : X_Cx scr D cA p R s m args meth c j) {pc n q k0 : Nat} {ax : Nat × Nat × Nat} {f : Nat → Int64} {i : Int32} {x : Int64} {r : List Value} (hc : X_chk j (pc, (.lastore, n), ax) = true) (hR : X_Rl b B scr D cA S H) (hq : ∀ q ∈ locs, B ≤ q.base)
    (h1 : S.1 q = .inl (.long, k0, .inr (.inl f))) (h2 : ¬ (i < 0 ∨ k0 ≤ i.toNatClampNeg))
    (k : ∀ H' locs', X_Rl b B scr D cA (X_upd S.1 q (.inl (.long, k0, .inr (.inl (vp_updL f i.toNatClampNeg x)))), S.2) H' → (∀ q ∈ locs', B ≤ q.base) → W p l e R s m args below meth c H' locs' cells slots Q (F0 m (pc + 1) lsA r)) : W p l e R s m args below meth c H locs cells slots Q (F0 m pc lsA (.long x :: .int i :: .ref (X_ad b B q) :: r)) := by
  obtain ⟨hx, hb, hr, hml, hown, hts, hlocks, hin, hK, hfr, hlo, hlaw⟩ := C
  have hd := X_chk_dec hc
  have hq0 : 0 < q := hR.pos h1 X_inl_ne
  have hat : H[X_ad b B q]? = some (vp_cell (cA .long) (k0, .inr (.inl f))) := hR.at h1 X_inl_ne
  refine W.last hx hb hat ((hK.2.1 .long (by decide)).1 k0 (fun j => .long (f j))) (fun q => by cases q) (by show ¬ (i < 0 ∨ (arrV _ _ _).slots.size ≤ _); rw [arrV_size]; exact h2) rfl rfl hd fun H1 e z oq => ?_
  refine k H1 _ (hR.upd hq0 (hR.lt (by rw [h1]; exact X_inl_ne)) z oq ?_) (X_t_lc hq (X_ad_ge (by omega)))
  show H1[X_ad b B q]? = some (vp_cell _ _)
  rw [e]
  show some ((vp_cell _ _).setSlot _ _) = some (vp_cell (cA .long) (k0, .inr (.inl (vp_updL f i.toNatClampNeg x))))
  rw [vp_cell_l, vp_cell_l, arrV_store]
  congr 2
  funext z
  by_cases hz : z = i.toNatClampNeg
  · subst hz
    simp [updV, vp_updL]
    try rfl
  · simp [updV, vp_updL, hz]
theorem X_bast (C : X_Cx scr D cA p R s m args meth c j) {pc n q k0 : Nat} {ax : Nat × Nat × Nat} {f : Nat → Int32} {i : Int32} {x : Int32} {r : List Value} (hc : X_chk j (pc, (.bastore, n), ax) = true) (hR : X_Rl b B scr D cA S H) (hq : ∀ q ∈ locs, B ≤ q.base)
    (h1 : S.1 q = .inl (.byte, k0, .inl f)) (h2 : ¬ (i < 0 ∨ k0 ≤ i.toNatClampNeg))
    (k : ∀ H' locs', X_Rl b B scr D cA (X_upd S.1 q (.inl (.byte, k0, .inl (upd f i.toNatClampNeg (vp_nar .byte x)))), S.2) H' → (∀ q ∈ locs', B ≤ q.base) → W p l e R s m args below meth c H' locs' cells slots Q (F0 m (pc + 1) lsA r)) : W p l e R s m args below meth c H locs cells slots Q (F0 m pc lsA (.int x :: .int i :: .ref (X_ad b B q) :: r)) := by
  obtain ⟨hx, hb, hr, hml, hown, hts, hlocks, hin, hK, hfr, hlo, hlaw⟩ := C
  have hd := X_chk_dec hc
  have hq0 : 0 < q := hR.pos h1 X_inl_ne
  have hat : H[X_ad b B q]? = some (vp_cell (cA .byte) (k0, .inl f)) := hR.at h1 X_inl_ne
  refine W.bast hx hb hat ((hK.2.1 .byte (by decide)).1 k0 (fun j => .int (f j))) (fun q => by cases q) (by show ¬ (i < 0 ∨ (arrV _ _ _).slots.size ≤ _); rw [arrV_size]; exact h2) rfl rfl hd fun H1 e z oq => ?_
  refine k H1 _ (hR.upd hq0 (hR.lt (by rw [h1]; exact X_inl_ne)) z oq ?_) (X_t_lc hq (X_ad_ge (by omega)))
  show H1[X_ad b B q]? = some (vp_cell _ _)
  rw [e]
  show some ((vp_cell _ _).setSlot _ _) = some (vp_cell (cA .byte) (k0, .inl (upd f i.toNatClampNeg (vp_nar .byte x))))
  rw [vp_cell_i, vp_cell_i, arrV_store]
  congr 2
  funext z
  by_cases hz : z = i.toNatClampNeg
  · subst hz
    simp [updV, upd, vp_nar]
    try rfl
  · simp [updV, upd, vp_nar, hz]
theorem X_zast (C : X_Cx scr D cA p R s m args meth c j) {pc n q k0 : Nat} {ax : Nat × Nat × Nat} {f : Nat → Int32} {i : Int32} {x : Int32} {r : List Value} (hc : X_chk j (pc, (.bastore, n), ax) = true) (hR : X_Rl b B scr D cA S H) (hq : ∀ q ∈ locs, B ≤ q.base)
    (h1 : S.1 q = .inl (.boolean, k0, .inl f)) (h2 : ¬ (i < 0 ∨ k0 ≤ i.toNatClampNeg))
    (k : ∀ H' locs', X_Rl b B scr D cA (X_upd S.1 q (.inl (.boolean, k0, .inl (upd f i.toNatClampNeg (vp_nar .boolean x)))), S.2) H' → (∀ q ∈ locs', B ≤ q.base) → W p l e R s m args below meth c H' locs' cells slots Q (F0 m (pc + 1) lsA r)) : W p l e R s m args below meth c H locs cells slots Q (F0 m pc lsA (.int x :: .int i :: .ref (X_ad b B q) :: r)) := by
  obtain ⟨hx, hb, hr, hml, hown, hts, hlocks, hin, hK, hfr, hlo, hlaw⟩ := C
  have hd := X_chk_dec hc
  have hq0 : 0 < q := hR.pos h1 X_inl_ne
  have hat : H[X_ad b B q]? = some (vp_cell (cA .boolean) (k0, .inl f)) := hR.at h1 X_inl_ne
  refine W.zast hx hb hat ((hK.2.1 .boolean (by decide)).1 k0 (fun j => .int (f j))) (fun q => by cases q) (by show ¬ (i < 0 ∨ (arrV _ _ _).slots.size ≤ _); rw [arrV_size]; exact h2) rfl rfl hd fun H1 e z oq => ?_
  refine k H1 _ (hR.upd hq0 (hR.lt (by rw [h1]; exact X_inl_ne)) z oq ?_) (X_t_lc hq (X_ad_ge (by omega)))
  show H1[X_ad b B q]? = some (vp_cell _ _)
  rw [e]
  show some ((vp_cell _ _).setSlot _ _) = some (vp_cell (cA .boolean) (k0, .inl (upd f i.toNatClampNeg (vp_nar .boolean x))))
  rw [vp_cell_i, vp_cell_i, arrV_store]
  congr 2
  funext z
  by_cases hz : z = i.toNatClampNeg
  · subst hz
    simp [updV, upd, vp_nar]
    try rfl
  · simp [updV, upd, vp_nar, hz]
theorem X_aast (C : X_Cx scr D cA p R s m args meth c j) {pc n q k0 v ci : Nat} {ax : Nat × Nat × Nat} {f : Nat → Option Nat} {i : Int32} {r fs : List Value} (hc : X_chk j (pc, (.aastore, n), ax) = true) (hR : X_Rl b B scr D cA S H) (hq : ∀ q ∈ locs, B ≤ q.base)
    (h1 : S.1 q = .inl (.short, k0, .inr (.inr (.inr (.inr f))))) (h3 : S.1 v = .inr (ci, fs)) (h0 : ¬ (ci ≠ X_wci ∨ i < 0 ∨ k0 ≤ i.toNatClampNeg))
    (k : ∀ H' locs', X_Rl b B scr D cA (X_upd S.1 q (.inl (.short, k0, .inr (.inr (.inr (.inr (va_up f i.toNatClampNeg (some v))))))), S.2) H' → (∀ q ∈ locs', B ≤ q.base) → W p l e R s m args below meth c H' locs' cells slots Q (F0 m (pc + 1) lsA r)) : W p l e R s m args below meth c H locs cells slots Q (F0 m pc lsA (.ref (X_ad b B v) :: .int i :: .ref (X_ad b B q) :: r)) := by
  obtain ⟨hx, hb, hr, hml, hown, hts, hlocks, hin, hK, hfr, hlo, hlaw⟩ := C
  have hd := X_chk_dec hc
  have hq0 : 0 < q := hR.pos h1 X_inl_ne
  have h2 : ¬ (i < 0 ∨ k0 ≤ i.toNatClampNeg) := fun z => h0 (Or.inr z)
  have hci : ci = X_wci := Decidable.byContradiction fun z => h0 (Or.inl z)
  subst hci
  have hat : H[X_ad b B q]? = some (vp_cell (cA .short) (k0, .inr (.inr (.inr (.inr fun j => (f j).map (X_ad b B)))))) := hR.at h1 X_inl_ne
  obtain ⟨rq, g1, cellV, q1, q2, q3, -⟩ := hR.at h3 (X_ne99 (by decide))
  have hrq : rq = (RX8, TX8, 15) := Option.some.inj (g1.symm.trans rfl)
  subst hrq
  have hcls := (hK.1 _ _ g1).2
  obtain ⟨kA, comp, k1, k2, k3, -⟩ := (hK.2.1 .short (by decide)).2
  have hcomp : comp = D.1 X_wci := Option.some.inj (k3.symm.trans hcls.1)
  subst hcomp
  obtain ⟨kC, hkC, -⟩ := hcls.2
  refine W.aast hx hb hat (fun q h => by cases h) (fun h => by cases h) k1 k2 rfl hkC ⟨fun z => h2 (Or.inl z), by show _ < (arrV _ _ _).slots.size; rw [arrV_size]; exact X_in h2⟩ q1 (fun q h => by rw [q3] at h; cases h) (by rw [q2]; exact hkC) (by rw [q2]; exact va_assign hcls) rfl rfl hd fun H1 e z oq => ?_
  refine k H1 _ (hR.upd hq0 (hR.lt (by rw [h1]; exact X_inl_ne)) z oq ?_) (X_t_lc hq (X_ad_ge (by omega)))
  show H1[X_ad b B q]? = some (vp_cell _ _)
  rw [e]
  show some ((vp_cell _ _).setSlot _ _) = some (vp_cell (cA .short) (k0, .inr (.inr (.inr (.inr fun j => (va_up f i.toNatClampNeg (some v) j).map (X_ad b B))))))
  rw [vp_cell_q, vp_cell_q, arrV_store]
  congr 2
  funext z
  by_cases hz : z = i.toNatClampNeg
  · subst hz
    simp [updV, va_up, va_rf]
  · simp [updV, va_up, hz]
set_option maxHeartbeats 1000000 in
theorem X_acopy (C : X_Cx scr D cA p R s m args meth c j) {pc idx n a a0 n0 n1 : Nat} {ax : Nat × Nat × Nat} {f g : Nat → Int64} {sp dp z : Int32} {r : List Value} (hc : X_chk j (pc, (.invokestatic idx, n), ax) = true) (hax : ax.1 = 9998) (hR : X_Rl b B scr D cA S H) (hq : ∀ q ∈ locs, B ≤ q.base) (hsz : lsA.size = X_nL j)
    (h1 : S.1 a0 = .inl (.long, n0, .inr (.inl f))) (h2 : S.1 a = .inl (.long, n1, .inr (.inl g))) (hs1 : ¬ sp < 0) (hs2 : ¬ dp < 0) (hs3 : ¬ z < 0) (h4 : sp.toNatClampNeg + z.toNatClampNeg ≤ n0) (h5 : dp.toNatClampNeg + z.toNatClampNeg ≤ n1) (hrs : (r.map fun v => v.category).sum ≤ 8)
    (k : ∀ H' locs', X_Rl b B scr D cA (X_upd S.1 a (.inl (.long, n1, .inr (.inl (va_cpy f g sp.toNatClampNeg dp.toNatClampNeg z.toNatClampNeg)))), S.2) H' → (∀ q ∈ locs', B ≤ q.base) → W p l e R s m args below meth c H' locs' cells slots Q (F0 m (pc + 3) lsA r)) :
    W p l e R s m args below meth c H locs cells slots Q (F0 m pc lsA (.int z :: .int dp :: .ref (X_ad b B a) :: .int sp :: .ref (X_ad b B a0) :: r)) := by
  obtain ⟨hx, hb, hr, hml, hown, hts, hlocks, hin, hK, hfr, hlo, hlaw⟩ := C
  have hd := X_chk_dec hc
  have hw : X_wd ax.2.1 (.methodLink (X_R (X_o j)) idx arraycopyName) = true ∧ 1 ≤ X_fr j ∧ 8 + (nativeFrameWords "java/lang/System" "arraycopy" 5 + 11) ≤ X_lo j := by
    unfold X_chk at hc
    simp only [Bool.and_eq_true, hax, if_true, decide_eq_true_eq] at hc
    obtain ⟨-, ⟨w1, w5⟩, w6⟩ := hc
    exact ⟨w1, w5, w6⟩
  obtain ⟨w1, w5, w6⟩ := hw
  have w2 := X_w_an
  have w3 := X_w_as
  have w4 := X_w_ai
  have ha0 : 0 < a := hR.pos h2 X_inl_ne
  have hc0 : H[X_ad b B a0]? = some (vp_cell (cA .long) (n0, .inr (.inl f))) := hR.at h1 X_inl_ne
  have hc1 : H[X_ad b B a]? = some (vp_cell (cA .long) (n1, .inr (.inl g))) := hR.at h2 X_inl_ne
  have nn : ∀ z : Int32, ¬ z < 0 → z.toInt = (z.toNatClampNeg : Int) := by
    intro z hz
    have hz0 : (0 : Int) ≤ z.toInt := by
      have := Int32.not_lt.mp hz
      simpa using Int32.le_iff_toInt_le.mp this
    show z.toInt = ((z.toInt.toNat : Nat) : Int)
    omega
  intro T hT X
  obtain ⟨-, k0, hk0, cm0, hkk0⟩ := (hK.2.1 .long (by decide)).1 n0 (fun j => .long (f j))
  obtain ⟨-, k1, hk1, cm1, hkk1⟩ := (hK.2.1 .long (by decide)).1 n1 (fun j => .long (g j))
  obtain ⟨vm', X', step⟩ := X.arraycopy hx hown (hts _ (X_wd_in w1)) (hts _ (X_wd_in w2)) (hts _ (X_wd_in w3)) (hts _ (X_wd_in w4)) (src := X_ad b B a0) (dst := X_ad b B a) (cs := vp_cell (cA .long) (n0, .inr (.inl f))) (cd := vp_cell (cA .long) (n1, .inr (.inl g))) (srcPos := sp) (destPos := dp) (n := z) (by rw [hT]; exact hc0) (by rw [hT]; exact hc1)
    (fun _ h => by cases h) (fun _ h => by cases h) (fun h => by cases h) (fun h => by cases h) hk0 hk1 hkk0 hkk1 (by simp [X_rty, refKind]) hs1 hs2 hs3
    (by rw [nn sp hs1, nn z hs3]; show ¬ _ > ((arrV (cA .long) n0 (fun j => .long (f j))).slots.size : Int); rw [arrV_size]; omega)
    (by rw [nn dp hs2, nn z hs3]; show ¬ _ > ((arrV (cA .long) n1 (fun j => .long (g j))).slots.size : Int); rw [arrV_size]; omega)
    (fun vm₁ _ i hi => by
      have e : (vp_cell (cA .long) (n0, .inr (.inl f))).slots.getD (sp.toNatClampNeg + i) .null = .long (f (sp.toNatClampNeg + i)) := by
        show (arrV (cA .long) n0 (fun j => .long (f j))).slots.getD _ _ = _
        rw [Array.getD_eq_getD_getElem?, arrV_read _ _ (by omega)]
        rfl
      refine ⟨?_, ?_⟩
      · rw [e]
        rfl
      · rw [e]
        exact trivial)
    (g := F0 m pc lsA (.int z :: .int dp :: .ref (X_ad b B a) :: .int sp :: .ref (X_ad b B a0) :: r)) rfl (by rw [hml]; exact hsz) (rest := r) rfl (by rw [hb]; exact hd) (Nat.le_trans w5 hfr) (by show 2 * 0 + _ + _ ≤ _; omega)
  have e1 : copied (vp_cell (cA .long) (n0, .inr (.inl f))) (vp_cell (cA .long) (n1, .inr (.inl g))) sp dp z = vp_cell (cA .long) (n1, .inr (.inl (va_cpy f g sp.toNatClampNeg dp.toNatClampNeg z.toNatClampNeg))) := va_copied (fun z => .long z) (cA .long) (cA .long) f g h4
  rw [e1] at X' step
  have hlt : X_ad b B a < H.size := (Array.getElem?_eq_some_iff.mp hc1).1
  have hheap : ((T.setVm vm').setCell (X_ad b B a) (vp_cell (cA .long) (n1, .inr (.inl (va_cpy f g sp.toNatClampNeg dp.toNatClampNeg z.toNatClampNeg))))).heap = H.setIfInBounds (X_ad b B a) (vp_cell (cA .long) (n1, .inr (.inl (va_cpy f g sp.toNatClampNeg dp.toNatClampNeg z.toNatClampNeg)))) := by rw [← hT]; rfl
  obtain ⟨t, a1, b1⟩ := k _ _ (hR.upd ha0 (hR.lt (by rw [h2]; exact X_inl_ne)) (by simp) (fun q hq => by simp [Array.getElem?_setIfInBounds, Ne.symm hq]) (show (H.setIfInBounds (X_ad b B a) (vp_cell (cA .long) (n1, .inr (.inl (va_cpy f g sp.toNatClampNeg dp.toNatClampNeg z.toNatClampNeg)))))[X_ad b B a]? = some _ by simp [Array.getElem?_setIfInBounds, hlt]; rfl))
    (fun q hq2 => by
      rcases List.mem_append.mp hq2 with h | h
      · exact hq q h
      · obtain ⟨z, -, hz⟩ := List.mem_map.mp h
        rw [← hz]
        exact X_ad_ge (b := b) (B := B) (by omega)) _ hheap X'
  exact ⟨t, step t a1, b1⟩
end X_ARR
end
section
/-! one step of the heap's instructions; calls; the whole walk -/
theorem X_S_up {sc : X_Sc} {row : X_Row} {st st' : List Value} {S S' : X_S} {pc' : Nat} (h : X_hstep sc row st S = some (pc', st', S')) : S.2.1 ≤ S'.2.1 ∧ S.2.2 ≤ S'.2.2 := by
  obtain ⟨pc, ⟨i, n⟩, ax⟩ := row
  unfold X_hstep at h
  repeat' split at h
  all_goals first
    | (cases h; done)
    | (cases h; exact ⟨Nat.le_refl _, Nat.le_refl _⟩)
    | (cases h; exact ⟨Nat.le_add_right _ _, Nat.le_add_right _ _⟩)
section X_HS
variable {p : Program} {l : Launch} {e : Env} {R : Room} {s : State} {m : MethodId} {args : Array Value} {below : List Frame} {meth : Method} {c : Code} {H : Heap} {locs : List Loc} {cells slots : Nat} {Q : State → Prop}
variable {sc : X_Sc} {scr : Cell} {D : va_G} {cA : FieldType → ClassId} {b B : Nat} {j : Nat} {lsA : Array Slot} {S : X_S}
set_option maxHeartbeats 4000000 in
theorem X_heap (hsc : scr.slots.size = sc.1 ∧ ∀ j, j < sc.1 → scr.slots[j]? = some (.int (sc.2 j))) (C : X_Cx scr D cA p R s m args meth c j) {row : X_Row} {st st' : List Value} {S' : X_S} {pc' z0 l0 : Nat} (hc : X_chk j row = true) (hR : X_Rl b B scr D cA S H) (hq : ∀ q ∈ locs, B ≤ q.base) (hsz : lsA.size = X_nL j)
    (hs : X_hstep sc row st S = some (pc', st', S')) (hz : z0 ≤ S.2.1) (hl0 : l0 ≤ S.2.2) (hfit : S'.2.1 - z0 ≤ R.cells ∧ S'.2.2 - l0 ≤ R.slots)
    (k : ∀ H' locs', X_Rl b B scr D cA S' H' → (∀ q ∈ locs', B ≤ q.base) → W p l e R s m args below meth c H' locs' (S'.2.1 - z0) (S'.2.2 - l0) Q (F0 m pc' lsA (X_cvs (X_ad b B) st'))) :
    W p l e R s m args below meth c H locs (S.2.1 - z0) (S.2.2 - l0) Q (F0 m row.1 lsA (X_cvs (X_ad b B) st)) := by
  obtain ⟨pc, ⟨i, n⟩, ax⟩ := row
  cases i with
  | getfield idx =>
    simp only [X_hstep] at hs
    split at hs
    · rename_i q r
      split at hs
      · rename_i ci fs h1
        split at hs
        · rename_i h2
          split at hs
          · rename_i v h3
            cases hs
            exact X_getfield C hc hR h1 h2 h3 (k H locs hR hq)
          · cases hs
        · cases hs
      · cases hs
    · cases hs
  | putfield idx =>
    simp only [X_hstep] at hs
    split at hs
    · rename_i v q r
      split at hs
      · rename_i ci fs h1
        split at hs
        · rename_i h2
          cases hs
          exact X_putfield C hc hR hq h1 h2.1 h2.2.1 h2.2.2 k
        · cases hs
      · cases hs
    · cases hs
  | new idx =>
    simp only [X_hstep] at hs
    split at hs
    · rename_i fs h1
      cases hs
      have f1 : S.2.1 + 1 - z0 ≤ R.cells := hfit.1
      have f2 : S.2.2 + fs.length - l0 ≤ R.slots := hfit.2
      refine X_new C hc hR h1 (by omega) (by omega) (fun H' hR' => ?_)
      have hk := k H' locs hR' hq
      rw [show S.2.1 - z0 + 1 = S.2.1 + 1 - z0 by omega, show S.2.2 - l0 + fs.length = S.2.2 + fs.length - l0 by omega]
      exact hk
    · cases hs
  | newarray at_ =>
    simp only [X_hstep] at hs
    split at hs
    · rename_i z r
      split at hs
      · cases hs
      · rename_i h0
        split at hs
        · rename_i cc h1
          cases hs
          have f1 : S.2.1 + 1 - z0 ≤ R.cells := hfit.1
          have f2 : S.2.2 + z.toNatClampNeg - l0 ≤ R.slots := hfit.2
          refine X_newarr C hc hR h0 h1 (by omega) (by omega) (fun H' hR' => ?_)
          have hk := k H' locs hR' hq
          rw [show S.2.1 - z0 + 1 = S.2.1 + 1 - z0 by omega, show S.2.2 - l0 + z.toNatClampNeg = S.2.2 + z.toNatClampNeg - l0 by omega]
          exact hk
        · cases hs
    · cases hs
  | anewarray idx =>
    simp only [X_hstep] at hs
    split at hs
    · rename_i z r
      split at hs
      · cases hs
      · rename_i h0
        cases hs
        have f1 : S.2.1 + 1 - z0 ≤ R.cells := hfit.1
        have f2 : S.2.2 + z.toNatClampNeg - l0 ≤ R.slots := hfit.2
        refine X_anewarr C hc hR h0 (by omega) (by omega) (fun H' hR' => ?_)
        have hk := k H' locs hR' hq
        rw [show S.2.1 - z0 + 1 = S.2.1 + 1 - z0 by omega, show S.2.2 - l0 + z.toNatClampNeg = S.2.2 + z.toNatClampNeg - l0 by omega]
        exact hk
    · cases hs
  | iaload =>
    simp only [X_hstep] at hs
    split at hs
    · rename_i i q r
      split at hs
      · split at hs
        · rename_i k0 f h1
          split at hs
          · cases hs
          · rename_i h0
            cases hs
            exact X_iald C hc hR h1 h0 (k H locs hR hq)
        · cases hs
      · rename_i hax
        split at hs
        · rename_i hq0
          split at hs
          · cases hs
          · rename_i h0
            cases hs
            subst hq0
            exact X_sald C hsc hc hax hR h0 (k H locs hR hq)
        · cases hs
    · cases hs
  | laload =>
    simp only [X_hstep] at hs
    split at hs
    · rename_i i q r
      split at hs
      · rename_i k0 f h1
        split at hs
        · cases hs
        · rename_i h0
          cases hs
          exact X_lald C hc hR h1 h0 (k H locs hR hq)
      · cases hs
    · cases hs
  | baload =>
    simp only [X_hstep] at hs
    split at hs
    · rename_i i q r
      split at hs
      · rename_i k0 f h1
        split at hs
        · cases hs
        · rename_i h0
          cases hs
          exact X_bald C hc hR h1 h0 (k H locs hR hq)
      · rename_i k0 f h1
        split at hs
        · cases hs
        · rename_i h0
          cases hs
          exact X_zald C hc hR h1 h0 (k H locs hR hq)
      · cases hs
    · cases hs
  | aaload =>
    simp only [X_hstep] at hs
    split at hs
    · rename_i i q r
      split at hs
      · rename_i k0 f h1
        split at hs
        · cases hs
        · rename_i h0
          cases hs
          exact X_aald C hc hR h1 h0 (k H locs hR hq)
      · cases hs
    · cases hs
  | iastore =>
    simp only [X_hstep] at hs
    split at hs
    · rename_i x i q r
      split at hs
      · rename_i k0 f h1
        split at hs
        · cases hs
        · rename_i h0
          cases hs
          exact X_iast C hc hR hq h1 h0 k
      · cases hs
    · cases hs
  | lastore =>
    simp only [X_hstep] at hs
    split at hs
    · rename_i x i q r
      split at hs
      · rename_i k0 f h1
        split at hs
        · cases hs
        · rename_i h0
          cases hs
          exact X_last C hc hR hq h1 h0 k
      · cases hs
    · cases hs
  | bastore =>
    simp only [X_hstep] at hs
    split at hs
    · rename_i x i q r
      split at hs
      · rename_i k0 f h1
        split at hs
        · cases hs
        · rename_i h0
          cases hs
          exact X_bast C hc hR hq h1 h0 k
      · rename_i k0 f h1
        split at hs
        · cases hs
        · rename_i h0
          cases hs
          exact X_zast C hc hR hq h1 h0 k
      · cases hs
    · cases hs
  | aastore =>
    simp only [X_hstep] at hs
    split at hs
    · rename_i v i q r
      split at hs
      · rename_i k0 f h1
        split at hs
        · rename_i ci fs h3
          split at hs
          · cases hs
          · rename_i h0
            cases hs
            exact X_aast C hc hR hq h1 h3 h0 k
        · cases hs
      · cases hs
    · cases hs
  | arraylength =>
    simp only [X_hstep] at hs
    split at hs
    · rename_i q r
      split at hs
      · rename_i h0
        cases hs
        obtain ⟨rfl, hax⟩ := h0
        exact X_slen C hsc hc hax hR (k H locs hR hq)
      · cases hs
    · cases hs
  | invokespecial idx =>
    simp only [X_hstep] at hs
    split at hs
    · rename_i q r
      split at hs
      · rename_i h0
        have h8 := h0.2
        rw [← X_cvs_cat (X_ad b B)] at h8
        cases hs
        have hd := X_chk_dec hc
        obtain ⟨hx, hb, hr, hml, hown, hts, hlocks, hin, hK, hfr, hlo, hlaw⟩ := C
        have hw : X_wd ax.2.1 (.methodLink (X_R (X_o j)) idx objectInit) = true ∧ 1 ≤ X_fr j ∧ 20 ≤ X_lo j := by
          unfold X_chk at hc
          simp only [Bool.and_eq_true, h0.1, if_true, decide_eq_true_eq] at hc
          obtain ⟨-, ⟨w1, w4⟩, w5⟩ := hc
          exact ⟨w1, w4, w5⟩
        obtain ⟨w1, w4, w5⟩ := hw
        have w2 := X_w_oi
        have w3 := X_w_oc
        exact W.objInit hx hb hown (hts _ (X_wd_in w1)) (hts _ (X_wd_in w2)) (hts _ (X_wd_in w3)) rfl (by rw [hml]; exact hsz) rfl hd (Nat.le_trans w4 hfr) (by show 2 * 0 + _ + 12 ≤ _; unfold X_cvs at h8; omega) (k H locs hR hq)
      · cases hs
    · cases hs
  | invokestatic idx =>
    simp only [X_hstep] at hs
    split at hs
    · rename_i hax
      split at hs
      · rename_i z dp a sp a0 r
        split at hs
        · rename_i n0 f n1 g h1 h2
          split at hs
          · cases hs
          · rename_i h0
            cases hs
            simp only [not_or, Decidable.not_not] at h0
            obtain ⟨g3, g4, g5, g6, g7, g8⟩ := h0
            exact X_acopy C hc hax hR hq hsz h1 h2 g3 g4 g5 g6 g7 (by rw [← X_cvs_cat (X_ad b B)] at g8; exact g8) k
        · cases hs
      · cases hs
    · cases hs
  | _ => cases hs
end X_HS
theorem X_pop_spec : ∀ (n : Nat) (st as r : List Value), X_pop n st = some (as, r) → st = as.reverse ++ r ∧ as.length = n := by
  intro n
  induction n with
  | zero =>
    intro st as r h
    cases h
    exact ⟨rfl, rfl⟩
  | succ n ih =>
    intro st as r h
    cases st with
    | nil => cases h
    | cons v t =>
      simp only [X_pop] at h
      split at h
      · rename_i as' r' h1
        cases h
        obtain ⟨rfl, hl⟩ := ih _ _ _ h1
        exact ⟨by simp, by simp [hl]⟩
      · cases h
theorem X_run_up {sc : X_Sc} : ∀ (n j : Nat) (F : X_F) (v : Option Value) (S' : X_S), X_run sc n j F = some (v, S') → F.2.2.2.2.1 ≤ S'.2.1 ∧ F.2.2.2.2.2 ≤ S'.2.2 := by
  intro n
  induction n with
  | zero => intro j F v S' h; cases h
  | succ n ih =>
    intro j F v S' h
    unfold X_run at h
    split at h
    · rename_i F' hF
      have h1 := ih j F' v S' h
      have h2 : F.2.2.2.2.1 ≤ F'.2.2.2.2.1 ∧ F.2.2.2.2.2 ≤ F'.2.2.2.2.2 := by
        unfold X_step at hF
        split at hF
        · split at hF
          · cases hF
            exact ⟨Nat.le_refl _, Nat.le_refl _⟩
          · split at hF
            · rename_i hh
              cases hF
              exact X_S_up hh
            · unfold X_cstep at hF
              repeat' split at hF
              all_goals cases hF
        · cases hF
      exact ⟨Nat.le_trans h2.1 h1.1, Nat.le_trans h2.2 h1.2⟩
    · rename_i k as pc ls st S hF
      have h2 : S = F.2.2.2 := by
        unfold X_step at hF
        split at hF
        · split at hF
          · cases hF
          · split at hF
            · cases hF
            · unfold X_cstep at hF
              repeat' split at hF
              all_goals first
                | (cases hF; done)
                | (cases hF; rfl)
        · cases hF
      subst h2
      split at h
      · rename_i v1 S1 h3
        have e1 := ih _ _ _ _ h3
        have e2 := ih _ _ _ _ h
        exact ⟨Nat.le_trans e1.1 e2.1, Nat.le_trans e1.2 e2.2⟩
      · cases h
    · rename_i r hF
      cases h
      have h2 : S' = F.2.2.2 := by
        unfold X_step at hF
        split at hF
        · split at hF
          · cases hF
          · split at hF
            · cases hF
            · unfold X_cstep at hF
              repeat' split at hF
              all_goals first
                | (cases hF; done)
                | (cases hF; rfl)
        · cases hF
      subst h2
      exact ⟨Nat.le_refl _, Nat.le_refl _⟩
    · cases h
def X_ws (k : Nat) : List Cond := .code (X_y k) (X_b k) (X_nL k) (X_rt k) :: lw_g
/-- a method's start and end -/
def X_Pc (b B : Nat) (scr : Cell) (D : va_G) (cA : FieldType → ClassId) (as : List Value) (S : X_S) : Array Value → State → Prop := fun a U => a = (X_cvs (X_ad b B) as).toArray ∧ X_Rl b B scr D cA S U.heap ∧ X_K D cA U
def X_Qc (b B : Nat) (scr : Cell) (D : va_G) (cA : FieldType → ClassId) (v : Option Value) (S' : X_S) : Array Value → State → Outcome → State → Prop := fun _ _ o t => o = .returned (v.map (X_cv (X_ad b B))) ∧ X_Rl b B scr D cA S' t.heap
theorem X_blind {b B : Nat} {scr : Cell} {D : va_G} {cA : FieldType → ClassId} {as : List Value} {S : X_S} : FrameBlind (X_Pc b B scr D cA as S) := fun a U g mk h => ⟨h.1, h.2.1, X_K.same (s := U) (U := U.calling g mk a) rfl h.2.2⟩
section X_CALL
variable {p : Program} {l : Launch} {e : Env} {R : Room} {s : State} {m : MethodId} {args : Array Value} {below : List Frame} {meth : Method} {c : Code} {H : Heap} {locs : List Loc} {cells slots mc ms : Nat} {Q : State → Prop}
variable {sc : X_Sc} {scr : Cell} {D : va_G} {cA : FieldType → ClassId} {b B : Nat} {j : Nat} {lsA : Array Slot} {S' : X_S}
theorem X_callW {a : Array Value} {v : Option Value} {pc : Nat} {st0 rest : List Value} (hr : va_Run p l e R s m args below meth c H locs cells slots mc ms (F0 m pc lsA st0) rest (X_Qc b B scr D cA v S' a) (fun q => B ≤ q)) (hq : ∀ q ∈ locs, B ≤ q.base)
    (k : ∀ H' locs', X_Rl b B scr D cA S' H' → (∀ q ∈ locs', B ≤ q.base) → W p l e R s m args below meth c H' locs' (cells + mc) (slots + ms) Q (F0 m (pc + 3) lsA ((v.map (X_cv (X_ad b B))).toList ++ rest))) : W p l e R s m args below meth c H locs cells slots Q (F0 m pc lsA st0) := by
  intro T hT X
  obtain ⟨v', st₀, t, T', L, h0, X', hL, e1, e2, ⟨hv, hR'⟩, st⟩ := hr T hT X
  have hv' : v' = v.map (X_cv (X_ad b B)) := Outcome.returned.inj hv
  subst hv'
  obtain ⟨t2, a1, b1⟩ := k T'.heap (locs ++ L) (by rw [e1]; exact hR') (fun q hq2 => by
    rcases List.mem_append.mp hq2 with h | h
    · exact hq q h
    · exact hL q h) T' rfl X'
  exact ⟨t2, st t2 a1, b1⟩
end X_CALL
theorem X_goodin {k : Nat} (h : Cond.code (X_y k) (X_b k) (X_nL k) (X_rt k) ∈ lw_g) : GoodIn lw_g (X_ws k) := by
  have hg : ∀ w ∈ lw_g, w ∈ lw_g ∧ ((w.onTables && w.keeps) = true ∨ ∃ ty, w = .arrayClass ty) := fun w hw => ⟨hw, good_of_word (List.mem_filter.mp hw).2⟩
  intro w hw
  rcases List.mem_cons.mp hw with h1 | h1
  · subst h1
    exact hg _ h
  · exact hg _ h1
theorem X_slen_cat (as : List Value) : (lg_sl as).length = (as.map fun v => v.category).sum := by
  unfold lg_sl
  induction as with
  | nil => rfl
  | cons v r ih =>
    rw [List.flatMap_cons, List.length_append, ih, List.map_cons, List.sum_cons]
    congr 1
    rcases lv_cat v with h | h
    · rw [if_neg (by omega), h]; rfl
    · rw [if_pos h, h]; rfl
theorem X_init_eq {k : Nat} (h : X_init k = true) : (X_y k).name = "<init>" := of_decide_eq_true h
/-- what is told ahead of a call -/
theorem X_mok_spec {k : Nat} (h : X_mok k = true) :
    Cond.code (X_y k) (X_b k) (X_nL k) (X_rt k) ∈ lw_g ∧ Cond.initialized (X_y k).cls ∈ lw_g ∧ (X_y k).cls ≠ "java/lang/invoke/MethodHandle" ∧ (X_y k).cls ≠ "java/lang/invoke/VarHandle"
    ∧ (parseMethodDescriptor (X_y k).desc).map (fun d => d.parameters.length) = some (X_na k) ∧ plainName (X_y k).cls = true ∧ X_R (X_o k) = (X_y k).cls
    ∧ (X_kd k = 0 → X_wd (X_pl k).2.1 (.instanceMethod (X_y k)) = true ∧ X_wd (X_pl k).2.2 (.selects (X_y k).cls (X_y k) (X_y k)) = true ∧ ∃ q, X_cl[X_ci k]? = some q ∧ (X_y k).cls = q.1)
    ∧ (X_kd k = 1 → X_wd (X_pl k).2.1 (.static (X_y k)) = true)
    ∧ (X_kd k = 2 → X_wd (X_pl k).2.1 (.instanceMethod (X_y k)) = true ∧ X_init k = true ∧ X_rt k = none) := by
  unfold X_mok at h
  simp only [Bool.and_eq_true, decide_eq_true_eq] at h
  obtain ⟨⟨⟨⟨⟨⟨⟨h1, h2⟩, h3⟩, h4⟩, h5⟩, h9⟩, h10⟩, h11⟩ := h
  have hcode : Cond.code (X_y k) (X_b k) (X_nL k) (X_rt k) ∈ lw_g := by
    split at h1
    · rename_i y bb n r hw
      simp only [Bool.and_eq_true, decide_eq_true_eq] at h1
      obtain ⟨⟨⟨e1, e2⟩, e3⟩, e4⟩ := h1
      have hbb : X_b k = bb := by
        unfold X_b
        rw [if_neg e4, hw]
      rw [hbb, ← e1, ← e2, ← e3]
      exact List.mem_filter.mpr ⟨List.mem_of_getElem? hw, rfl⟩
    · cases h1
  refine ⟨hcode, X_wd_in h2, h3, h4, h5, h9, h10, fun z => ?_, fun z => ?_, fun z => ?_⟩
  · rw [z] at h11
    simp only [Bool.and_eq_true] at h11
    refine ⟨h11.1.1, h11.1.2, ?_⟩
    have w4 := h11.2
    split at w4
    · rename_i q hq
      exact ⟨q, hq, of_decide_eq_true w4⟩
    · cases w4
  · rw [z] at h11
    exact h11
  · rw [z] at h11
    simp only [Bool.and_eq_true, decide_eq_true_eq] at h11
    exact ⟨h11.1.1, h11.1.2, h11.2⟩
theorem X_cw_spec {j o idx : Nat} {ax : Nat × Nat × Nat} (h : X_cw j o idx ax = true) :
    X_mok ax.1 = true ∧ X_fr ax.1 + 1 ≤ X_fr j ∧ 8 + (X_nL ax.1 + 11) + X_lo ax.1 ≤ X_lo j ∧ ax.1 < X_lawj
    ∧ (Cond.methodLink (X_R o) idx (X_y ax.1) ∈ lw_g ∨ Cond.methodLinkNest (X_R o) idx (X_y ax.1) "MixfixBench" ∈ X_nest) := by
  unfold X_cw at h
  simp only [Bool.and_eq_true, decide_eq_true_eq] at h
  obtain ⟨⟨⟨h6, h7⟩, h8⟩, h11⟩ := h
  refine ⟨X_mokA _ h8, h6, h7, h8, ?_⟩
  obtain ⟨g1, g2, g3⟩ := X_PM_ok o _ (List.mem_of_getElem? h11)
  by_cases e : ax.2.1 % 2 = 0
  · refine Or.inl ?_
    have h4 := List.mem_filter.mpr ⟨g1, g2 e⟩
    simp only [X_pmw, e, if_true] at h4
    exact h4
  · refine Or.inr ?_
    have h4 := List.mem_filter.mpr ⟨g1, g3 e⟩
    simp only [X_pmw, e, if_false] at h4
    exact h4
/-- the whole walk, for runs of at most n steps -/
def X_Walk (sc : X_Sc) (l : Launch) (b B : Nat) (scr : Cell) (D : va_G) (cA : FieldType → ClassId) (n : Nat) : Prop :=
  ∀ (j : Nat) (F : X_F) (v : Option Value) (S' : X_S), X_run sc n j F = some (v, S') →
  ∀ (p : Program) (e : Env) (R : Room) (s : State) (m : MethodId) (args : Array Value) (below : List Frame) (meth : Method) (c : Code) (H : Heap) (locs : List Loc) (lsA : Array Slot) (z0 l0 : Nat) (Q : State → Prop),
    X_Cx scr D cA p R s m args meth c j → lv_has lsA (X_nL j) (X_cvl (X_ad b B) F.2.1) → X_Rl b B scr D cA F.2.2.2 H → (∀ q ∈ locs, B ≤ q.base) → z0 ≤ F.2.2.2.2.1 → l0 ≤ F.2.2.2.2.2 → S'.2.1 - z0 ≤ R.cells → S'.2.2 - l0 ≤ R.slots →
    (∀ (row : X_Row) (ls : X_L) (st : List Value) (lsA' : Array Slot) (H' : Heap) (locs' : List Loc), X_chk j row = true → X_cstep j row ls st S' = some (.inr (.inr (v, S'))) → X_Rl b B scr D cA S' H' → (∀ q ∈ locs', B ≤ q.base) →
      W p l e R s m args below meth c H' locs' (S'.2.1 - z0) (S'.2.2 - l0) Q (F0 m row.1 lsA' (X_cvs (X_ad b B) st))) →
    W p l e R s m args below meth c H locs (F.2.2.2.2.1 - z0) (F.2.2.2.2.2 - l0) Q (F0 m F.1 lsA (X_cvs (X_ad b B) F.2.2.1))
set_option maxHeartbeats 2000000 in
theorem X_met {sc : X_Sc} {l : Launch} {b B : Nat} {scr : Cell} {D : va_G} {cA : FieldType → ClassId} {n : Nat} (hW : X_Walk sc l b B scr D cA n) {k : Nat} {as : List Value} {S : X_S} {v : Option Value} {S' : X_S} (h : X_run sc n k (0, lv_args 0 as, [], S) = some (v, S'))
    (hpl : plainName (X_y k).cls = true) (hR : X_R (X_o k) = (X_y k).cls) (hlaw : k < X_lawj) (hn : (as.map fun v => v.category).sum ≤ X_nL k) :
    Met l (X_y k) (X_ws k) ({ frames := X_fr k, cells := S'.2.1 - S.2.1, slots := S'.2.2 - S.2.2, locals := X_lo k }) (X_Pc b B scr D cA as S) (X_Qc b B scr D cA v S') (S'.2.1 - S.2.1) (S'.2.2 - S.2.2) (fun q => B ≤ q) := by
  refine Met.ofW (cc := X_b k) (maxL := X_nL k) (ret := X_rt k) hpl rfl ?_
  intro p e s m args below meth c s₁ BB hml hv
  obtain ⟨rfl, hRl, hK⟩ := hv
  have hts := atoms_spec (ws := X_ws k) BB.pre
  have hown : s.vm.findClass (X_R (X_o k)) = some m.cls := by rw [hR]; exact findClass_of_methodNamed BB.named
  have hlocks := BB.notSynchronized
  have hin : X_init k = true → meth.name = "<init>" := fun q => (name_of_methodNamed BB.named BB.method).1.trans (X_init_eq q)
  have hl := lv_entry (X_cvs (X_ad b B) as) (n := X_nL k) (by rw [X_slen_cat, X_cvs_cat]; exact hn)
  rw [lg_entry_eq]
  generalize (lg_sl (X_cvs (X_ad b B) as) ++ List.replicate (X_nL k - (lg_sl (X_cvs (X_ad b B) as)).length) Slot.unset).toArray = ls at hl ⊢
  rw [X_args] at hl
  have C : X_Cx scr D cA p ((headSpec (X_ws k) { frames := X_fr k, cells := S'.2.1 - S.2.1, slots := S'.2.2 - S.2.2, locals := X_lo k }).room) s m (X_cvs (X_ad b B) as).toArray meth c k :=
    ⟨BB.exec, BB.bytes, BB.returns, hml, hown, fun w hw => hts w (List.mem_cons_of_mem _ hw), hlocks, hin, hK, Nat.le_refl _, Nat.le_refl _, fun q => absurd q (by omega)⟩
  have key := hW k (0, lv_args 0 as, [], S) v S' h p e _ s m _ below meth c s.heap [] ls S.2.1 S.2.2 (MQ below (X_Qc b B scr D cA v S') (X_cvs (X_ad b B) as).toArray s (S'.2.1 - S.2.1) (S'.2.2 - S.2.2) (fun q => B ≤ q)) C hl hRl (fun q hq => by cases hq) (Nat.le_refl _) (Nat.le_refl _) (Nat.le_refl _) (Nat.le_refl _) ?_
  · simp only [Nat.sub_self] at key
    exact key
  · intro row ls2 st lsA' H' locs' hc hs hR' hq'
    have hx := BB.exec
    have hb := BB.bytes
    have hr := BB.returns
    obtain ⟨pc, ⟨i, nn⟩, ax⟩ := row
    have hd := X_chk_dec hc
    cases i with
    | ireturn =>
      simp only [X_cstep] at hs
      split at hs
      · rename_i x
        split at hs
        · rename_i ty hty
          split at hs
          · rename_i hfit
            cases hs
            exact W.zret (ty := ty) hx hb (hr.trans hty) (X_fit_ok id hfit).1 (fun t ht _ => ⟨rfl, by rw [ht]; exact hR'⟩) hq' hd
          · cases hs
        · cases hs
      · cases hs
    | lreturn =>
      simp only [X_cstep] at hs
      split at hs
      · rename_i x
        split at hs
        · rename_i ty hty
          split at hs
          · rename_i hfit
            cases hs
            have hty2 : ty = .long := by
              unfold X_fit at hfit
              split at hfit <;> first | rfl | (rename_i q; cases q) | cases hfit
            subst hty2
            exact W.lret hx hb (hr.trans hty) (fun t ht _ => ⟨rfl, by rw [ht]; exact hR'⟩) hq' hd
          · cases hs
        · cases hs
      · cases hs
    | return_ =>
      simp only [X_cstep] at hs
      split at hs
      · split at hs
        · rename_i hty
          cases hs
          exact W.vret hx hb (hr.trans hty) (fun t ht _ => ⟨rfl, by rw [ht]; exact hR'⟩) hq' hd
        · cases hs
      · cases hs
    | invokevirtual idx =>
      simp only [X_cstep] at hs
      repeat' split at hs
      all_goals cases hs
    | invokespecial idx =>
      simp only [X_cstep] at hs
      repeat' split at hs
      all_goals cases hs
    | invokestatic idx =>
      simp only [X_cstep] at hs
      repeat' split at hs
      all_goals cases hs
    | _ => cases hs
set_option maxHeartbeats 4000000 in
theorem X_walk (sc : X_Sc) (l : Launch) (b B : Nat) (scr : Cell) (D : va_G) (cA : FieldType → ClassId) (hsc : scr.slots.size = sc.1 ∧ ∀ j, j < sc.1 → scr.slots[j]? = some (.int (sc.2 j))) : ∀ n, X_Walk sc l b B scr D cA n := by
  intro n
  induction n with
  | zero => intro j F v S' h; cases h
  | succ n ih =>
    intro j F v S' h p e R s m args below meth c H locs lsA z0 l0 Q C hl hR hq hz0 hl0 hfc hfs hend
    obtain ⟨pc, ls, st, S⟩ := F
    unfold X_run at h
    cases hst : X_step sc j (pc, ls, st, S) with
    | none => rw [hst] at h; cases h
    | some O =>
      rw [hst] at h
      unfold X_step at hst
      cases hrow : X_row j pc with
      | none => rw [hrow] at hst; cases hst
      | some row =>
        rw [hrow] at hst
        obtain ⟨hpc, hc⟩ := X_row_chk hrow
        subst hpc
        cases hp : X_pstep (X_nL j) row ls st with
        | some P =>
          obtain ⟨pc', ls', st'⟩ := P
          simp only [hp] at hst
          cases hst
          exact X_pure C hc hl hp (fun lsA' hl' => ih j (pc', ls', st', S) v S' h p e R s m args below meth c H locs lsA' z0 l0 Q C hl' hR hq hz0 hl0 hfc hfs hend)
        | none =>
          simp only [hp] at hst
          cases hh : X_hstep sc row st S with
          | some P =>
            obtain ⟨pc', st', S1⟩ := P
            simp only [hh] at hst
            cases hst
            have hup := X_S_up hh
            have hup2 := X_run_up _ _ _ _ _ h
            refine X_heap hsc C hc hR hq hl.1 hh hz0 hl0 ⟨Nat.le_trans (Nat.sub_le_sub_right hup2.1 _) hfc, Nat.le_trans (Nat.sub_le_sub_right hup2.2 _) hfs⟩ (fun H' locs' hR' hq' => ?_)
            exact ih j (pc', ls, st', S1) v S' h p e R s m args below meth c H' locs' lsA z0 l0 Q C hl hR' hq' (Nat.le_trans hz0 hup.1) (Nat.le_trans hl0 hup.2) hfc hfs hend
          | none =>
            simp only [hh] at hst
            have hrt : ∀ r, O = .inr (.inr r) → W p l e R s m args below meth c H locs (S.2.1 - z0) (S.2.2 - l0) Q (F0 m row.1 lsA (X_cvs (X_ad b B) st)) := by
              intro r hr
              subst hr
              simp only [Option.some.injEq] at h
              subst h
              have hS : S' = S := by
                unfold X_cstep at hst
                repeat' split at hst
                all_goals first
                  | (cases hst; done)
                  | (cases hst; rfl)
              subst hS
              exact hend row ls st lsA H locs hc hst hR hq
            have hx := C.1
            have hb := C.2.1
            have hml := C.2.2.2.1
            have hown := C.2.2.2.2.1
            have hts := C.2.2.2.2.2.1
            have hK := C.2.2.2.2.2.2.2.2.1
            have hfr := C.2.2.2.2.2.2.2.2.2.1
            have hlo := C.2.2.2.2.2.2.2.2.2.2.1
            have go : ∀ (k : Nat) (as : List Value) (rest : List Value) (v1 : Option Value) (S1 : X_S), X_run sc n k (0, lv_args 0 as, [], S) = some (v1, S1) → X_run sc n j (row.1 + 3, ls, v1.toList ++ rest, S1) = some (v, S') →
                (Met l (X_y k) (X_ws k) ({ frames := X_fr k, cells := S1.2.1 - S.2.1, slots := S1.2.2 - S.2.2, locals := X_lo k }) (X_Pc b B scr D cA as S) (X_Qc b B scr D cA v1 S1) (S1.2.1 - S.2.1) (S1.2.2 - S.2.2) (fun q => B ≤ q) →
                  (S.2.1 - z0 + (S1.2.1 - S.2.1) ≤ R.cells ∧ S.2.2 - l0 + (S1.2.2 - S.2.2) ≤ R.slots) →
                  va_Run p l e R s m args below meth c H locs (S.2.1 - z0) (S.2.2 - l0) (S1.2.1 - S.2.1) (S1.2.2 - S.2.2) (F0 m row.1 lsA (X_cvs (X_ad b B) st)) (X_cvs (X_ad b B) rest) (X_Qc b B scr D cA v1 S1 (X_cvs (X_ad b B) as).toArray) (fun q => B ≤ q)) →
                plainName (X_y k).cls = true → X_R (X_o k) = (X_y k).cls → k < X_lawj → (as.map fun v => v.category).sum ≤ X_nL k →
                W p l e R s m args below meth c H locs (S.2.1 - z0) (S.2.2 - l0) Q (F0 m row.1 lsA (X_cvs (X_ad b B) st)) := by
              intro k as rest v1 S1 h1 h2 hrun hpl hRn hlw hnn
              have u1 := X_run_up _ _ _ _ _ h1
              have u2 := X_run_up _ _ _ _ _ h2
              have u1a : S.2.1 ≤ S1.2.1 := u1.1
              have u1b : S.2.2 ≤ S1.2.2 := u1.2
              have u2a : S1.2.1 ≤ S'.2.1 := u2.1
              have u2b : S1.2.2 ≤ S'.2.2 := u2.2
              have hz0' : z0 ≤ S.2.1 := hz0
              have hl0' : l0 ≤ S.2.2 := hl0
              refine X_callW (hrun (X_met ih h1 hpl hRn hlw hnn) ⟨by omega, by omega⟩) hq (fun H' locs' hR' hq' => ?_)
              have hk := ih j (row.1 + 3, ls, v1.toList ++ rest, S1) v S' h2 p e R s m args below meth c H' locs' lsA z0 l0 Q C hl hR' hq' (Nat.le_trans hz0 u1.1) (Nat.le_trans hl0 u1.2) hfc hfs hend
              rw [show S.2.1 - z0 + (S1.2.1 - S.2.1) = S1.2.1 - z0 by omega, show S.2.2 - l0 + (S1.2.2 - S.2.2) = S1.2.2 - l0 by omega]
              have hstk : (v1.map (X_cv (X_ad b B))).toList ++ X_cvs (X_ad b B) rest = X_cvs (X_ad b B) (v1.toList ++ rest) := by cases v1 <;> rfl
              rw [hstk]
              exact hk
            obtain ⟨pc, ⟨i, nn⟩, ax⟩ := row
            have hd := X_chk_dec hc
            cases i with
            | ireturn =>
              simp only [X_cstep] at hst
              repeat' split at hst
              all_goals first
                | (cases hst; done)
                | (cases hst; exact hrt _ rfl)
            | lreturn =>
              simp only [X_cstep] at hst
              repeat' split at hst
              all_goals first
                | (cases hst; done)
                | (cases hst; exact hrt _ rfl)
            | return_ =>
              simp only [X_cstep] at hst
              repeat' split at hst
              all_goals first
                | (cases hst; done)
                | (cases hst; exact hrt _ rfl)
            | invokevirtual idx =>
              have hw : X_cw j (X_o j) idx ax = true ∧ X_kd ax.1 = 0 := by
                unfold X_chk at hc
                simp only [Bool.and_eq_true, decide_eq_true_eq] at hc
                exact hc.2
              obtain ⟨hcw, hkd⟩ := hw
              obtain ⟨cm, c6, c7, c8, c11⟩ := X_cw_spec hcw
              obtain ⟨c1, c2, c3, c4, c5, c9, c10, cv, -, -⟩ := X_mok_spec cm
              obtain ⟨w2, w3, qq, hqq, hcls⟩ := cv hkd
              simp only [X_cstep] at hst
              split at hst
              · rename_i as q r hpop
                split at hst
                · rename_i ci fs hobj
                  split at hst
                  · rename_i hcond
                    cases hst
                    obtain ⟨hci, h8, hnn⟩ := hcond
                    obtain ⟨hstk, hlen⟩ := X_pop_spec _ _ _ _ hpop
                    simp only at h
                    split at h
                    · rename_i v1 S1 h1
                      refine go ax.1 (.ref q :: as) r v1 S1 h1 h (fun hM hf => ?_) c9 c10 c8 (by simpa [Value.category] using hnn)
                      subst hci
                      obtain ⟨cellB, k1, k2, k3⟩ := va_recv (s := s) (cl := X_cl) (tys := []) (D := D) (ws := [(X_ad b B q, X_ce (X_ad b B) cA (.inr (X_ci ax.1, fs)))]) (H := H) (q := qq) ⟨hK.1, fun k q h => by simp at h⟩ (fun k' q' hq' => by
                        cases k' with
                        | zero => cases hq'; exact hR.at hobj (X_ne99 (X_clt hqq))
                        | succ k' => simp at hq') hqq (q0 := 0) rfl
                      have hpre : PreV s H (X_y ax.1).cls (X_ad b B q) (X_Pc b B scr D cA (.ref q :: as) S) (X_cvs (X_ad b B) as) := ⟨X_blind, ⟨cellB, k1, k2, by rw [hcls]; exact k3⟩, fun U hU hWU => ⟨rfl, by rw [hU]; exact hR, hK.warm hWU⟩⟩
                      have hstack : X_cvs (X_ad b B) st = (X_cvs (X_ad b B) as).reverse ++ .ref (X_ad b B q) :: X_cvs (X_ad b B) r := by
                        rw [hstk]
                        simp [X_cvs, X_cv]
                      have hW8 : 2 * (F0 m pc lsA (X_cvs (X_ad b B) st)).monitorRoom + ((X_cvs (X_ad b B) r).map fun v => v.category).sum ≤ 8 := by rw [X_cvs_cat]; show 2 * 0 + _ ≤ 8; omega
                      rcases c11 with hlk | hlk
                      · exact va_runV (C := (X_y ax.1).cls) (bytes := X_b ax.1) (maxL := X_nL ax.1) (ret := X_rt ax.1) (n := X_na ax.1) ⟨hx, hb, hml, hown, hts⟩ hM ⟨callB_of (ws' := lw_g) (X_na ax.1) hts (X_goodin c1) rfl rfl rfl (hts _ c2) (hts _ hlk) ⟨c3, c4, c5⟩ ⟨Nat.le_trans c6 hfr, Nat.le_trans c7 hlo⟩, hts _ (X_wd_in w2), hts _ (X_wd_in w3)⟩ hpre rfl (by first | (rw [List.length_map]; exact hlen) | (unfold X_cvs; rw [List.length_map]; exact hlen)) hl.1 hstack hW8 hd hf
                      · exact va_runVN (C := (X_y ax.1).cls) (host := "MixfixBench") (bytes := X_b ax.1) (maxL := X_nL ax.1) (ret := X_rt ax.1) (n := X_na ax.1) ⟨hx, hb, hml, hown, hts⟩ hM ⟨va_cnB (ws' := lw_g) (X_na ax.1) hts (X_goodin c1) rfl rfl rfl (hK.2.2.1 _ hlk) (hts _ c2) ⟨c3, c4, c5⟩ ⟨Nat.le_trans c6 hfr, Nat.le_trans c7 hlo⟩, hts _ (X_wd_in w2), hts _ (X_wd_in w3)⟩ hpre rfl (by first | (rw [List.length_map]; exact hlen) | (unfold X_cvs; rw [List.length_map]; exact hlen)) hl.1 hstack hW8 hd hf
                    · cases h
                  · cases hst
                · cases hst
              · cases hst
            | invokespecial idx =>
              simp only [X_cstep] at hst
              split at hst
              · rename_i as q r hpop
                split at hst
                · rename_i hcond
                  cases hst
                  obtain ⟨h99, h8, hnn⟩ := hcond
                  have hw : X_cw j (X_o j) idx ax = true ∧ X_kd ax.1 = 2 := by
                    unfold X_chk at hc
                    simp only [Bool.and_eq_true, h99, if_false, decide_eq_true_eq] at hc
                    exact hc.2
                  obtain ⟨hcw, hkd⟩ := hw
                  obtain ⟨cm, c6, c7, c8, c11⟩ := X_cw_spec hcw
                  obtain ⟨c1, c2, c3, c4, c5, c9, c10, -, -, cv⟩ := X_mok_spec cm
                  obtain ⟨w2, w3, w4⟩ := cv hkd
                  obtain ⟨hstk, hlen⟩ := X_pop_spec _ _ _ _ hpop
                  simp only at h
                  split at h
                  · rename_i v1 S1 h1
                    refine go ax.1 (.ref q :: as) r v1 S1 h1 h (fun hM hf => ?_) c9 c10 c8 (by simpa [Value.category] using hnn)
                    have hpre : PreS s H (X_Pc b B scr D cA (.ref q :: as) S) (.ref (X_ad b B q) :: X_cvs (X_ad b B) as) := ⟨X_blind, fun U hU hWU => ⟨rfl, by rw [hU]; exact hR, hK.warm hWU⟩⟩
                    have hstack : X_cvs (X_ad b B) st = (X_cvs (X_ad b B) as).reverse ++ .ref (X_ad b B q) :: X_cvs (X_ad b B) r := by
                      rw [hstk]
                      simp [X_cvs, X_cv]
                    have hW8 : 2 * (F0 m pc lsA (X_cvs (X_ad b B) st)).monitorRoom + ((X_cvs (X_ad b B) r).map fun v => v.category).sum ≤ 8 := by rw [X_cvs_cat]; show 2 * 0 + _ ≤ 8; omega
                    have hgi := X_goodin c1
                    unfold X_ws at hM hgi
                    rw [w4] at hM hgi
                    rcases c11 with hlk | hlk
                    · exact va_runI (bytes := X_b ax.1) (maxL := X_nL ax.1) (n := X_na ax.1) ⟨hx, hb, hml, hown, hts⟩ hM ⟨callB_of (ws' := lw_g) (X_na ax.1) hts hgi rfl rfl rfl (hts _ c2) (hts _ hlk) ⟨c3, c4, c5⟩ ⟨Nat.le_trans c6 hfr, Nat.le_trans c7 hlo⟩, X_init_eq w3, hts _ (X_wd_in w2)⟩ hpre rfl (by first | (rw [List.length_map]; exact hlen) | (unfold X_cvs; rw [List.length_map]; exact hlen)) hl.1 hstack hW8 hd hf
                    · exact va_runIN (host := "MixfixBench") (bytes := X_b ax.1) (maxL := X_nL ax.1) (n := X_na ax.1) ⟨hx, hb, hml, hown, hts⟩ hM ⟨va_cnB (ws' := lw_g) (X_na ax.1) hts hgi rfl rfl rfl (hK.2.2.1 _ hlk) (hts _ c2) ⟨c3, c4, c5⟩ ⟨Nat.le_trans c6 hfr, Nat.le_trans c7 hlo⟩, X_init_eq w3, hts _ (X_wd_in w2)⟩ hpre rfl (by first | (rw [List.length_map]; exact hlen) | (unfold X_cvs; rw [List.length_map]; exact hlen)) hl.1 hstack hW8 hd hf
                  · cases h
                · cases hst
              · cases hst
            | invokestatic idx =>
              simp only [X_cstep] at hst
              split at hst
              · rename_i as r hpop
                split at hst
                · rename_i hcond
                  cases hst
                  obtain ⟨h99, h8, hnn⟩ := hcond
                  have hw : X_cw j (X_o j) idx ax = true ∧ X_kd ax.1 = 1 := by
                    unfold X_chk at hc
                    simp only [Bool.and_eq_true, h99, if_false, decide_eq_true_eq] at hc
                    exact hc.2
                  obtain ⟨hcw, hkd⟩ := hw
                  obtain ⟨cm, c6, c7, c8, c11⟩ := X_cw_spec hcw
                  obtain ⟨c1, c2, c3, c4, c5, c9, c10, -, cv, -⟩ := X_mok_spec cm
                  have w2 := cv hkd
                  obtain ⟨hstk, hlen⟩ := X_pop_spec _ _ _ _ hpop
                  simp only at h
                  split at h
                  · rename_i v1 S1 h1
                    refine go ax.1 as r v1 S1 h1 h (fun hM hf => ?_) c9 c10 c8 hnn
                    have hpre : PreS s H (X_Pc b B scr D cA as S) (X_cvs (X_ad b B) as) := ⟨X_blind, fun U hU hWU => ⟨rfl, by rw [hU]; exact hR, hK.warm hWU⟩⟩
                    have hstack : X_cvs (X_ad b B) st = (X_cvs (X_ad b B) as).reverse ++ X_cvs (X_ad b B) r := by
                      rw [hstk]
                      simp [X_cvs]
                    have hW8 : 2 * (F0 m pc lsA (X_cvs (X_ad b B) st)).monitorRoom + ((X_cvs (X_ad b B) r).map fun v => v.category).sum ≤ 8 := by rw [X_cvs_cat]; show 2 * 0 + _ ≤ 8; omega
                    rcases c11 with hlk | hlk
                    · exact va_runS (bytes := X_b ax.1) (maxL := X_nL ax.1) (ret := X_rt ax.1) (n := X_na ax.1) ⟨hx, hb, hml, hown, hts⟩ hM ⟨callB_of (ws' := lw_g) (X_na ax.1) hts (X_goodin c1) rfl rfl rfl (hts _ c2) (hts _ hlk) ⟨c3, c4, c5⟩ ⟨Nat.le_trans c6 hfr, Nat.le_trans c7 hlo⟩, hts _ (X_wd_in w2)⟩ hpre rfl (by first | (rw [List.length_map]; exact hlen) | (unfold X_cvs; rw [List.length_map]; exact hlen)) hl.1 hstack hW8 hd hf
                    · exact va_runSN (host := "MixfixBench") (bytes := X_b ax.1) (maxL := X_nL ax.1) (ret := X_rt ax.1) (n := X_na ax.1) ⟨hx, hb, hml, hown, hts⟩ hM ⟨va_cnB (ws' := lw_g) (X_na ax.1) hts (X_goodin c1) rfl rfl rfl (hK.2.2.1 _ hlk) (hts _ c2) ⟨c3, c4, c5⟩ ⟨Nat.le_trans c6 hfr, Nat.le_trans c7 hlo⟩, hts _ (X_wd_in w2), trivial⟩ hpre rfl (by first | (rw [List.length_map]; exact hlen) | (unfold X_cvs; rw [List.length_map]; exact hlen)) hl.1 hstack hW8 hd hf
                  · cases h
                · cases hst
              · cases hst
            | _ => cases hst
end
