/-! walks in whole numbers: an int is iI z -/
abbrev iI (z : Int) : Int32 := Int32.ofInt z
abbrev iL (z : Int) : Int64 := Int64.ofInt z
theorem iI_t {a : Int} (h1 : -2147483648 ≤ a) (h2 : a ≤ 2147483647) : (iI a).toInt = a := Int32.toInt_ofInt_of_le (by omega) (by omega)
theorem iL_t {a : Int} (h1 : -9223372036854775808 ≤ a) (h2 : a ≤ 9223372036854775807) : (iL a).toInt = a := Int64.toInt_ofInt_of_le (by omega) (by omega)
theorem iI_lt {a b : Int} (h1 : -2147483648 ≤ a) (h2 : a ≤ 2147483647) (h3 : -2147483648 ≤ b) (h4 : b ≤ 2147483647) : iI a < iI b ↔ a < b := by
  rw [Int32.lt_iff_toInt_lt, iI_t h1 h2, iI_t h3 h4]
theorem iI_le {a b : Int} (h1 : -2147483648 ≤ a) (h2 : a ≤ 2147483647) (h3 : -2147483648 ≤ b) (h4 : b ≤ 2147483647) : iI a ≤ iI b ↔ a ≤ b := by
  rw [Int32.le_iff_toInt_le, iI_t h1 h2, iI_t h3 h4]
theorem iI_eq {a b : Int} (h1 : -2147483648 ≤ a) (h2 : a ≤ 2147483647) (h3 : -2147483648 ≤ b) (h4 : b ≤ 2147483647) : iI a = iI b ↔ a = b := by
  rw [← Int32.toInt_inj, iI_t h1 h2, iI_t h3 h4]
theorem iI_of (x : Int32) : x = iI x.toInt := (Int32.ofInt_toInt x).symm
theorem iI_rng (x : Int32) : -2147483648 ≤ x.toInt ∧ x.toInt ≤ 2147483647 := by
  have h1 := Int32.le_toInt x
  have h2 := Int32.toInt_lt x
  omega
theorem iI_nat {z : Int} (h1 : 0 ≤ z) (h2 : z ≤ 2147483647) : (iI z).toNatClampNeg = z.toNat := by
  show (iI z).toInt.toNat = z.toNat
  rw [iI_t (by omega) h2]
theorem iI_in {z : Int} {n : Nat} (h1 : 0 ≤ z) (h2 : z < (n : Int)) (h3 : n ≤ 2147483647) : ¬ (iI z < 0 ∨ n ≤ (iI z).toNatClampNeg) := by
  rw [iI_nat h1 (by omega)]
  have e : (0 : Int32) = iI 0 := rfl
  rw [e, iI_lt (by omega) (by omega) (by omega) (by omega)]
  omega
/-- a row's contents, told by whole numbers -/
def X_ug {α : Type} (g : Int → α) (z : Int) (x : α) : Int → α := fun k => if k = z then x else g k
theorem X_ug_s {α : Type} (g : Int → α) (z : Int) (x : α) : X_ug g z x z = x := by simp [X_ug]
theorem X_ug_n {α : Type} (g : Int → α) {z k : Int} (x : α) (h : k ≠ z) : X_ug g z x k = g k := by simp [X_ug, h]
theorem X_ug_i {g : Int → Int} {z x : Int} (h1 : 0 ≤ z) (h2 : z ≤ 2147483647) : upd (fun k : Nat => iI (g (k : Int))) (iI z).toNatClampNeg (iI x) = fun k : Nat => iI (X_ug g z x (k : Int)) := by
  rw [iI_nat h1 h2]
  funext k
  unfold upd X_ug
  by_cases h : k = z.toNat
  · rw [if_pos h, if_pos (by omega)]
  · rw [if_neg h, if_neg (by omega)]
theorem X_ug_l {g : Int → Int64} {z : Int} {x : Int64} (h1 : 0 ≤ z) (h2 : z ≤ 2147483647) : vp_updL (fun k : Nat => g (k : Int)) (iI z).toNatClampNeg x = fun k : Nat => X_ug g z x (k : Int) := by
  rw [iI_nat h1 h2]
  funext k
  unfold vp_updL X_ug
  by_cases h : k = z.toNat
  · rw [if_pos h, if_pos (by omega)]
  · rw [if_neg h, if_neg (by omega)]
/-- any row's contents are so told -/
theorem X_ri (f : Nat → Int32) : f = fun k : Nat => iI ((fun z : Int => (f z.toNat).toInt) (k : Int)) := by
  funext k
  show f k = iI (f (k : Int).toNat).toInt
  rw [Int.toNat_natCast]
  exact iI_of _
theorem X_rl (f : Nat → Int64) : f = fun k : Nat => (fun z : Int => f z.toNat) (k : Int) := by
  funext k
  show f k = f (k : Int).toNat
  rw [Int.toNat_natCast]
section X_T2
variable {sc : X_Sc} {j : Nat} {Q : Option Value → X_S → Prop} {pc pc' t : Nat} {ls ls' : X_L} {r st : List Value} {S : X_S}
theorem T_ie {x y : Int32} (h : x = y) (k : X_T sc j (pc, ls, .int y :: r, S) Q) : X_T sc j (pc, ls, .int x :: r, S) Q := by subst h; exact k
theorem T_le {x y : Int64} (h : x = y) (k : X_T sc j (pc, ls, .long y :: r, S) Q) : X_T sc j (pc, ls, .long x :: r, S) Q := by subst h; exact k
theorem T_zc {row : X_Row} {z : Int} (hr : X_row j pc = some row) (h : X_pstep 0 row ls st = some (pc', ls, .int (iI z) :: st)) (k : X_T sc j (pc', ls, .int (iI z) :: st, S) Q) : X_T sc j (pc, ls, st, S) Q := by
  obtain ⟨pp, ⟨i, n⟩, ax⟩ := row
  refine T_p hr rfl (ls' := ls) (st' := .int (iI z) :: st) ?_ k
  cases i <;> first
    | exact h
    | (simp only [X_pstep, X_si_, X_sl_, X_sa_, Nat.not_lt_zero, if_false] at h; repeat' split at h; all_goals (first | cases h | skip))

theorem T_ziadd {n : Nat} {ax : Nat × Nat × Nat} {a b z : Int} (hr : X_row j pc = some (pc, (.iadd, n), ax)) (hz : a + b = z) (hp : pc + 1 = pc') (k : X_T sc j (pc', ls, .int (iI z) :: r, S) Q) : X_T sc j (pc, ls, .int (iI b) :: .int (iI a) :: r, S) Q := by
  subst hz; subst hp
  refine T_p hr rfl rfl ?_
  rw [← Int32.ofInt_add]
  exact k
theorem T_zisub {n : Nat} {ax : Nat × Nat × Nat} {a b z : Int} (hr : X_row j pc = some (pc, (.isub, n), ax)) (hz : a - b = z) (hp : pc + 1 = pc') (k : X_T sc j (pc', ls, .int (iI z) :: r, S) Q) : X_T sc j (pc, ls, .int (iI b) :: .int (iI a) :: r, S) Q := by
  subst hz; subst hp
  refine T_p hr rfl rfl ?_
  rw [← Int32.ofInt_sub]
  exact k
theorem T_zimul {n : Nat} {ax : Nat × Nat × Nat} {a b z : Int} (hr : X_row j pc = some (pc, (.imul, n), ax)) (hz : a * b = z) (hp : pc + 1 = pc') (k : X_T sc j (pc', ls, .int (iI z) :: r, S) Q) : X_T sc j (pc, ls, .int (iI b) :: .int (iI a) :: r, S) Q := by
  subst hz; subst hp
  refine T_p hr rfl rfl ?_
  rw [← Int32.ofInt_mul]
  exact k
theorem T_ziinc {n i : Nat} {c : Int} {ax : Nat × Nat × Nat} {a z : Int} {nL : Nat} (hr : X_row j pc = some (pc, (.iinc i c, n), ax)) (hn : X_nL j = nL) (hl : X_ld ls i = some (.int (iI a))) (hi : i < nL) (hz : a + c = z) (hs : X_s1 ls i (.int (iI z)) = ls') (hp : pc + 3 = pc') (k : X_T sc j (pc', ls', st, S) Q) : X_T sc j (pc, ls, st, S) Q := by
  subst hz; subst hp; subst hs; subst hn
  refine T_p hr rfl ?_ k
  have e : iI (a + c) = iI a + Int32.ofInt c := Int32.ofInt_add a c
  simp only [X_pstep, hl]
  rw [if_pos hi, e]
theorem T_zineg {n : Nat} {ax : Nat × Nat × Nat} {a z : Int} (hr : X_row j pc = some (pc, (.ineg, n), ax)) (hz : -a = z) (hp : pc + 1 = pc') (k : X_T sc j (pc', ls, .int (iI z) :: r, S) Q) : X_T sc j (pc, ls, .int (iI a) :: r, S) Q := by
  subst hz; subst hp
  have e : iI (-a) = -(iI a) := Int32.ofInt_neg a
  rw [e] at k
  exact T_p hr rfl rfl k
theorem X_cz_eq {a b : Int} (h1 : -2147483648 ≤ a) (h2 : a ≤ 2147483647) (h3 : -2147483648 ≤ b) (h4 : b ≤ 2147483647) : X_cd .eq (iI a) (iI b) = decide (a = b) := by simp only [X_cd, iI_eq h1 h2 h3 h4]
theorem T_zif_eq {off : Int} {n : Nat} {ax : Nat × Nat × Nat} {a : Int} (hr : X_row j pc = some (pc, (.ifCond .eq off, n), ax)) (ht : X_tg pc off = some t) (hp : pc + 3 = pc') (kt : a = 0 → X_T sc j (t, ls, r, S) Q) (kf : ¬ (a = 0) → X_T sc j (pc', ls, r, S) Q) (h1 : -2147483648 ≤ a := by omega) (h2 : a ≤ 2147483647 := by omega) : X_T sc j (pc, ls, .int (iI a) :: r, S) Q := by
  have e := (show X_cd .eq (iI a) 0 = _ from X_cz_eq (b := 0) h1 h2 (by omega) (by omega))
  exact T_b1 hr ht hp (fun h => kt (by rw [e] at h; exact of_decide_eq_true h)) (fun h => kf (by rw [e] at h; exact of_decide_eq_false h))
theorem T_zif_eqt {off : Int} {n : Nat} {ax : Nat × Nat × Nat} {a : Int} (hr : X_row j pc = some (pc, (.ifCond .eq off, n), ax)) (ht : X_tg pc off = some t) (hc : a = 0) (k : X_T sc j (t, ls, r, S) Q) (h1 : -2147483648 ≤ a := by omega) (h2 : a ≤ 2147483647 := by omega) : X_T sc j (pc, ls, .int (iI a) :: r, S) Q :=
  T_zif_eq hr ht rfl (fun _ => k) (fun h => absurd hc h) h1 h2
theorem T_zif_eqf {off : Int} {n : Nat} {ax : Nat × Nat × Nat} {a : Int} (hr : X_row j pc = some (pc, (.ifCond .eq off, n), ax)) (ht : X_tg pc off = some t) (hp : pc + 3 = pc') (hc : ¬ (a = 0)) (k : X_T sc j (pc', ls, r, S) Q) (h1 : -2147483648 ≤ a := by omega) (h2 : a ≤ 2147483647 := by omega) : X_T sc j (pc, ls, .int (iI a) :: r, S) Q :=
  T_zif_eq hr ht hp (fun h => absurd h hc) (fun _ => k) h1 h2
theorem T_zicmp_eq {off : Int} {n : Nat} {ax : Nat × Nat × Nat} {a b : Int} (hr : X_row j pc = some (pc, (.if_icmp .eq off, n), ax)) (ht : X_tg pc off = some t) (hp : pc + 3 = pc') (kt : a = b → X_T sc j (t, ls, r, S) Q) (kf : ¬ (a = b) → X_T sc j (pc', ls, r, S) Q) (h1 : -2147483648 ≤ a := by omega) (h2 : a ≤ 2147483647 := by omega) (h3 : -2147483648 ≤ b := by omega) (h4 : b ≤ 2147483647 := by omega) : X_T sc j (pc, ls, .int (iI b) :: .int (iI a) :: r, S) Q := by
  have e := X_cz_eq h1 h2 h3 h4
  exact T_b2 hr ht hp (fun h => kt (by rw [e] at h; exact of_decide_eq_true h)) (fun h => kf (by rw [e] at h; exact of_decide_eq_false h))
theorem T_zicmp_eqt {off : Int} {n : Nat} {ax : Nat × Nat × Nat} {a b : Int} (hr : X_row j pc = some (pc, (.if_icmp .eq off, n), ax)) (ht : X_tg pc off = some t) (hc : a = b) (k : X_T sc j (t, ls, r, S) Q) (h1 : -2147483648 ≤ a := by omega) (h2 : a ≤ 2147483647 := by omega) (h3 : -2147483648 ≤ b := by omega) (h4 : b ≤ 2147483647 := by omega) : X_T sc j (pc, ls, .int (iI b) :: .int (iI a) :: r, S) Q :=
  T_zicmp_eq hr ht rfl (fun _ => k) (fun h => absurd hc h) h1 h2 h3 h4
theorem T_zicmp_eqf {off : Int} {n : Nat} {ax : Nat × Nat × Nat} {a b : Int} (hr : X_row j pc = some (pc, (.if_icmp .eq off, n), ax)) (ht : X_tg pc off = some t) (hp : pc + 3 = pc') (hc : ¬ (a = b)) (k : X_T sc j (pc', ls, r, S) Q) (h1 : -2147483648 ≤ a := by omega) (h2 : a ≤ 2147483647 := by omega) (h3 : -2147483648 ≤ b := by omega) (h4 : b ≤ 2147483647 := by omega) : X_T sc j (pc, ls, .int (iI b) :: .int (iI a) :: r, S) Q :=
  T_zicmp_eq hr ht hp (fun h => absurd h hc) (fun _ => k) h1 h2 h3 h4
theorem X_cz_ne {a b : Int} (h1 : -2147483648 ≤ a) (h2 : a ≤ 2147483647) (h3 : -2147483648 ≤ b) (h4 : b ≤ 2147483647) : X_cd .ne (iI a) (iI b) = decide (¬ a = b) := by simp only [X_cd, iI_eq h1 h2 h3 h4]
theorem T_zif_ne {off : Int} {n : Nat} {ax : Nat × Nat × Nat} {a : Int} (hr : X_row j pc = some (pc, (.ifCond .ne off, n), ax)) (ht : X_tg pc off = some t) (hp : pc + 3 = pc') (kt : ¬ a = 0 → X_T sc j (t, ls, r, S) Q) (kf : ¬ (¬ a = 0) → X_T sc j (pc', ls, r, S) Q) (h1 : -2147483648 ≤ a := by omega) (h2 : a ≤ 2147483647 := by omega) : X_T sc j (pc, ls, .int (iI a) :: r, S) Q := by
  have e := (show X_cd .ne (iI a) 0 = _ from X_cz_ne (b := 0) h1 h2 (by omega) (by omega))
  exact T_b1 hr ht hp (fun h => kt (by rw [e] at h; exact of_decide_eq_true h)) (fun h => kf (by rw [e] at h; exact of_decide_eq_false h))
theorem T_zif_net {off : Int} {n : Nat} {ax : Nat × Nat × Nat} {a : Int} (hr : X_row j pc = some (pc, (.ifCond .ne off, n), ax)) (ht : X_tg pc off = some t) (hc : ¬ a = 0) (k : X_T sc j (t, ls, r, S) Q) (h1 : -2147483648 ≤ a := by omega) (h2 : a ≤ 2147483647 := by omega) : X_T sc j (pc, ls, .int (iI a) :: r, S) Q :=
  T_zif_ne hr ht rfl (fun _ => k) (fun h => absurd hc h) h1 h2
theorem T_zif_nef {off : Int} {n : Nat} {ax : Nat × Nat × Nat} {a : Int} (hr : X_row j pc = some (pc, (.ifCond .ne off, n), ax)) (ht : X_tg pc off = some t) (hp : pc + 3 = pc') (hc : ¬ (¬ a = 0)) (k : X_T sc j (pc', ls, r, S) Q) (h1 : -2147483648 ≤ a := by omega) (h2 : a ≤ 2147483647 := by omega) : X_T sc j (pc, ls, .int (iI a) :: r, S) Q :=
  T_zif_ne hr ht hp (fun h => absurd h hc) (fun _ => k) h1 h2
theorem T_zicmp_ne {off : Int} {n : Nat} {ax : Nat × Nat × Nat} {a b : Int} (hr : X_row j pc = some (pc, (.if_icmp .ne off, n), ax)) (ht : X_tg pc off = some t) (hp : pc + 3 = pc') (kt : ¬ a = b → X_T sc j (t, ls, r, S) Q) (kf : ¬ (¬ a = b) → X_T sc j (pc', ls, r, S) Q) (h1 : -2147483648 ≤ a := by omega) (h2 : a ≤ 2147483647 := by omega) (h3 : -2147483648 ≤ b := by omega) (h4 : b ≤ 2147483647 := by omega) : X_T sc j (pc, ls, .int (iI b) :: .int (iI a) :: r, S) Q := by
  have e := X_cz_ne h1 h2 h3 h4
  exact T_b2 hr ht hp (fun h => kt (by rw [e] at h; exact of_decide_eq_true h)) (fun h => kf (by rw [e] at h; exact of_decide_eq_false h))
theorem T_zicmp_net {off : Int} {n : Nat} {ax : Nat × Nat × Nat} {a b : Int} (hr : X_row j pc = some (pc, (.if_icmp .ne off, n), ax)) (ht : X_tg pc off = some t) (hc : ¬ a = b) (k : X_T sc j (t, ls, r, S) Q) (h1 : -2147483648 ≤ a := by omega) (h2 : a ≤ 2147483647 := by omega) (h3 : -2147483648 ≤ b := by omega) (h4 : b ≤ 2147483647 := by omega) : X_T sc j (pc, ls, .int (iI b) :: .int (iI a) :: r, S) Q :=
  T_zicmp_ne hr ht rfl (fun _ => k) (fun h => absurd hc h) h1 h2 h3 h4
theorem T_zicmp_nef {off : Int} {n : Nat} {ax : Nat × Nat × Nat} {a b : Int} (hr : X_row j pc = some (pc, (.if_icmp .ne off, n), ax)) (ht : X_tg pc off = some t) (hp : pc + 3 = pc') (hc : ¬ (¬ a = b)) (k : X_T sc j (pc', ls, r, S) Q) (h1 : -2147483648 ≤ a := by omega) (h2 : a ≤ 2147483647 := by omega) (h3 : -2147483648 ≤ b := by omega) (h4 : b ≤ 2147483647 := by omega) : X_T sc j (pc, ls, .int (iI b) :: .int (iI a) :: r, S) Q :=
  T_zicmp_ne hr ht hp (fun h => absurd h hc) (fun _ => k) h1 h2 h3 h4
theorem X_cz_lt {a b : Int} (h1 : -2147483648 ≤ a) (h2 : a ≤ 2147483647) (h3 : -2147483648 ≤ b) (h4 : b ≤ 2147483647) : X_cd .lt (iI a) (iI b) = decide (a < b) := by simp only [X_cd, iI_lt h1 h2 h3 h4]
theorem T_zif_lt {off : Int} {n : Nat} {ax : Nat × Nat × Nat} {a : Int} (hr : X_row j pc = some (pc, (.ifCond .lt off, n), ax)) (ht : X_tg pc off = some t) (hp : pc + 3 = pc') (kt : a < 0 → X_T sc j (t, ls, r, S) Q) (kf : ¬ (a < 0) → X_T sc j (pc', ls, r, S) Q) (h1 : -2147483648 ≤ a := by omega) (h2 : a ≤ 2147483647 := by omega) : X_T sc j (pc, ls, .int (iI a) :: r, S) Q := by
  have e := (show X_cd .lt (iI a) 0 = _ from X_cz_lt (b := 0) h1 h2 (by omega) (by omega))
  exact T_b1 hr ht hp (fun h => kt (by rw [e] at h; exact of_decide_eq_true h)) (fun h => kf (by rw [e] at h; exact of_decide_eq_false h))
theorem T_zif_ltt {off : Int} {n : Nat} {ax : Nat × Nat × Nat} {a : Int} (hr : X_row j pc = some (pc, (.ifCond .lt off, n), ax)) (ht : X_tg pc off = some t) (hc : a < 0) (k : X_T sc j (t, ls, r, S) Q) (h1 : -2147483648 ≤ a := by omega) (h2 : a ≤ 2147483647 := by omega) : X_T sc j (pc, ls, .int (iI a) :: r, S) Q :=
  T_zif_lt hr ht rfl (fun _ => k) (fun h => absurd hc h) h1 h2
theorem T_zif_ltf {off : Int} {n : Nat} {ax : Nat × Nat × Nat} {a : Int} (hr : X_row j pc = some (pc, (.ifCond .lt off, n), ax)) (ht : X_tg pc off = some t) (hp : pc + 3 = pc') (hc : ¬ (a < 0)) (k : X_T sc j (pc', ls, r, S) Q) (h1 : -2147483648 ≤ a := by omega) (h2 : a ≤ 2147483647 := by omega) : X_T sc j (pc, ls, .int (iI a) :: r, S) Q :=
  T_zif_lt hr ht hp (fun h => absurd h hc) (fun _ => k) h1 h2
theorem T_zicmp_lt {off : Int} {n : Nat} {ax : Nat × Nat × Nat} {a b : Int} (hr : X_row j pc = some (pc, (.if_icmp .lt off, n), ax)) (ht : X_tg pc off = some t) (hp : pc + 3 = pc') (kt : a < b → X_T sc j (t, ls, r, S) Q) (kf : ¬ (a < b) → X_T sc j (pc', ls, r, S) Q) (h1 : -2147483648 ≤ a := by omega) (h2 : a ≤ 2147483647 := by omega) (h3 : -2147483648 ≤ b := by omega) (h4 : b ≤ 2147483647 := by omega) : X_T sc j (pc, ls, .int (iI b) :: .int (iI a) :: r, S) Q := by
  have e := X_cz_lt h1 h2 h3 h4
  exact T_b2 hr ht hp (fun h => kt (by rw [e] at h; exact of_decide_eq_true h)) (fun h => kf (by rw [e] at h; exact of_decide_eq_false h))
theorem T_zicmp_ltt {off : Int} {n : Nat} {ax : Nat × Nat × Nat} {a b : Int} (hr : X_row j pc = some (pc, (.if_icmp .lt off, n), ax)) (ht : X_tg pc off = some t) (hc : a < b) (k : X_T sc j (t, ls, r, S) Q) (h1 : -2147483648 ≤ a := by omega) (h2 : a ≤ 2147483647 := by omega) (h3 : -2147483648 ≤ b := by omega) (h4 : b ≤ 2147483647 := by omega) : X_T sc j (pc, ls, .int (iI b) :: .int (iI a) :: r, S) Q :=
  T_zicmp_lt hr ht rfl (fun _ => k) (fun h => absurd hc h) h1 h2 h3 h4
theorem T_zicmp_ltf {off : Int} {n : Nat} {ax : Nat × Nat × Nat} {a b : Int} (hr : X_row j pc = some (pc, (.if_icmp .lt off, n), ax)) (ht : X_tg pc off = some t) (hp : pc + 3 = pc') (hc : ¬ (a < b)) (k : X_T sc j (pc', ls, r, S) Q) (h1 : -2147483648 ≤ a := by omega) (h2 : a ≤ 2147483647 := by omega) (h3 : -2147483648 ≤ b := by omega) (h4 : b ≤ 2147483647 := by omega) : X_T sc j (pc, ls, .int (iI b) :: .int (iI a) :: r, S) Q :=
  T_zicmp_lt hr ht hp (fun h => absurd h hc) (fun _ => k) h1 h2 h3 h4
theorem X_cz_ge {a b : Int} (h1 : -2147483648 ≤ a) (h2 : a ≤ 2147483647) (h3 : -2147483648 ≤ b) (h4 : b ≤ 2147483647) : X_cd .ge (iI a) (iI b) = decide (b ≤ a) := by simp only [X_cd, iI_le h3 h4 h1 h2]
theorem T_zif_ge {off : Int} {n : Nat} {ax : Nat × Nat × Nat} {a : Int} (hr : X_row j pc = some (pc, (.ifCond .ge off, n), ax)) (ht : X_tg pc off = some t) (hp : pc + 3 = pc') (kt : 0 ≤ a → X_T sc j (t, ls, r, S) Q) (kf : ¬ (0 ≤ a) → X_T sc j (pc', ls, r, S) Q) (h1 : -2147483648 ≤ a := by omega) (h2 : a ≤ 2147483647 := by omega) : X_T sc j (pc, ls, .int (iI a) :: r, S) Q := by
  have e := (show X_cd .ge (iI a) 0 = _ from X_cz_ge (b := 0) h1 h2 (by omega) (by omega))
  exact T_b1 hr ht hp (fun h => kt (by rw [e] at h; exact of_decide_eq_true h)) (fun h => kf (by rw [e] at h; exact of_decide_eq_false h))
theorem T_zif_get {off : Int} {n : Nat} {ax : Nat × Nat × Nat} {a : Int} (hr : X_row j pc = some (pc, (.ifCond .ge off, n), ax)) (ht : X_tg pc off = some t) (hc : 0 ≤ a) (k : X_T sc j (t, ls, r, S) Q) (h1 : -2147483648 ≤ a := by omega) (h2 : a ≤ 2147483647 := by omega) : X_T sc j (pc, ls, .int (iI a) :: r, S) Q :=
  T_zif_ge hr ht rfl (fun _ => k) (fun h => absurd hc h) h1 h2
theorem T_zif_gef {off : Int} {n : Nat} {ax : Nat × Nat × Nat} {a : Int} (hr : X_row j pc = some (pc, (.ifCond .ge off, n), ax)) (ht : X_tg pc off = some t) (hp : pc + 3 = pc') (hc : ¬ (0 ≤ a)) (k : X_T sc j (pc', ls, r, S) Q) (h1 : -2147483648 ≤ a := by omega) (h2 : a ≤ 2147483647 := by omega) : X_T sc j (pc, ls, .int (iI a) :: r, S) Q :=
  T_zif_ge hr ht hp (fun h => absurd h hc) (fun _ => k) h1 h2
theorem T_zicmp_ge {off : Int} {n : Nat} {ax : Nat × Nat × Nat} {a b : Int} (hr : X_row j pc = some (pc, (.if_icmp .ge off, n), ax)) (ht : X_tg pc off = some t) (hp : pc + 3 = pc') (kt : b ≤ a → X_T sc j (t, ls, r, S) Q) (kf : ¬ (b ≤ a) → X_T sc j (pc', ls, r, S) Q) (h1 : -2147483648 ≤ a := by omega) (h2 : a ≤ 2147483647 := by omega) (h3 : -2147483648 ≤ b := by omega) (h4 : b ≤ 2147483647 := by omega) : X_T sc j (pc, ls, .int (iI b) :: .int (iI a) :: r, S) Q := by
  have e := X_cz_ge h1 h2 h3 h4
  exact T_b2 hr ht hp (fun h => kt (by rw [e] at h; exact of_decide_eq_true h)) (fun h => kf (by rw [e] at h; exact of_decide_eq_false h))
theorem T_zicmp_get {off : Int} {n : Nat} {ax : Nat × Nat × Nat} {a b : Int} (hr : X_row j pc = some (pc, (.if_icmp .ge off, n), ax)) (ht : X_tg pc off = some t) (hc : b ≤ a) (k : X_T sc j (t, ls, r, S) Q) (h1 : -2147483648 ≤ a := by omega) (h2 : a ≤ 2147483647 := by omega) (h3 : -2147483648 ≤ b := by omega) (h4 : b ≤ 2147483647 := by omega) : X_T sc j (pc, ls, .int (iI b) :: .int (iI a) :: r, S) Q :=
  T_zicmp_ge hr ht rfl (fun _ => k) (fun h => absurd hc h) h1 h2 h3 h4
theorem T_zicmp_gef {off : Int} {n : Nat} {ax : Nat × Nat × Nat} {a b : Int} (hr : X_row j pc = some (pc, (.if_icmp .ge off, n), ax)) (ht : X_tg pc off = some t) (hp : pc + 3 = pc') (hc : ¬ (b ≤ a)) (k : X_T sc j (pc', ls, r, S) Q) (h1 : -2147483648 ≤ a := by omega) (h2 : a ≤ 2147483647 := by omega) (h3 : -2147483648 ≤ b := by omega) (h4 : b ≤ 2147483647 := by omega) : X_T sc j (pc, ls, .int (iI b) :: .int (iI a) :: r, S) Q :=
  T_zicmp_ge hr ht hp (fun h => absurd h hc) (fun _ => k) h1 h2 h3 h4
theorem X_cz_gt {a b : Int} (h1 : -2147483648 ≤ a) (h2 : a ≤ 2147483647) (h3 : -2147483648 ≤ b) (h4 : b ≤ 2147483647) : X_cd .gt (iI a) (iI b) = decide (b < a) := by simp only [X_cd, iI_lt h3 h4 h1 h2]
theorem T_zif_gt {off : Int} {n : Nat} {ax : Nat × Nat × Nat} {a : Int} (hr : X_row j pc = some (pc, (.ifCond .gt off, n), ax)) (ht : X_tg pc off = some t) (hp : pc + 3 = pc') (kt : 0 < a → X_T sc j (t, ls, r, S) Q) (kf : ¬ (0 < a) → X_T sc j (pc', ls, r, S) Q) (h1 : -2147483648 ≤ a := by omega) (h2 : a ≤ 2147483647 := by omega) : X_T sc j (pc, ls, .int (iI a) :: r, S) Q := by
  have e := (show X_cd .gt (iI a) 0 = _ from X_cz_gt (b := 0) h1 h2 (by omega) (by omega))
  exact T_b1 hr ht hp (fun h => kt (by rw [e] at h; exact of_decide_eq_true h)) (fun h => kf (by rw [e] at h; exact of_decide_eq_false h))
theorem T_zif_gtt {off : Int} {n : Nat} {ax : Nat × Nat × Nat} {a : Int} (hr : X_row j pc = some (pc, (.ifCond .gt off, n), ax)) (ht : X_tg pc off = some t) (hc : 0 < a) (k : X_T sc j (t, ls, r, S) Q) (h1 : -2147483648 ≤ a := by omega) (h2 : a ≤ 2147483647 := by omega) : X_T sc j (pc, ls, .int (iI a) :: r, S) Q :=
  T_zif_gt hr ht rfl (fun _ => k) (fun h => absurd hc h) h1 h2
theorem T_zif_gtf {off : Int} {n : Nat} {ax : Nat × Nat × Nat} {a : Int} (hr : X_row j pc = some (pc, (.ifCond .gt off, n), ax)) (ht : X_tg pc off = some t) (hp : pc + 3 = pc') (hc : ¬ (0 < a)) (k : X_T sc j (pc', ls, r, S) Q) (h1 : -2147483648 ≤ a := by omega) (h2 : a ≤ 2147483647 := by omega) : X_T sc j (pc, ls, .int (iI a) :: r, S) Q :=
  T_zif_gt hr ht hp (fun h => absurd h hc) (fun _ => k) h1 h2
theorem T_zicmp_gt {off : Int} {n : Nat} {ax : Nat × Nat × Nat} {a b : Int} (hr : X_row j pc = some (pc, (.if_icmp .gt off, n), ax)) (ht : X_tg pc off = some t) (hp : pc + 3 = pc') (kt : b < a → X_T sc j (t, ls, r, S) Q) (kf : ¬ (b < a) → X_T sc j (pc', ls, r, S) Q) (h1 : -2147483648 ≤ a := by omega) (h2 : a ≤ 2147483647 := by omega) (h3 : -2147483648 ≤ b := by omega) (h4 : b ≤ 2147483647 := by omega) : X_T sc j (pc, ls, .int (iI b) :: .int (iI a) :: r, S) Q := by
  have e := X_cz_gt h1 h2 h3 h4
  exact T_b2 hr ht hp (fun h => kt (by rw [e] at h; exact of_decide_eq_true h)) (fun h => kf (by rw [e] at h; exact of_decide_eq_false h))
theorem T_zicmp_gtt {off : Int} {n : Nat} {ax : Nat × Nat × Nat} {a b : Int} (hr : X_row j pc = some (pc, (.if_icmp .gt off, n), ax)) (ht : X_tg pc off = some t) (hc : b < a) (k : X_T sc j (t, ls, r, S) Q) (h1 : -2147483648 ≤ a := by omega) (h2 : a ≤ 2147483647 := by omega) (h3 : -2147483648 ≤ b := by omega) (h4 : b ≤ 2147483647 := by omega) : X_T sc j (pc, ls, .int (iI b) :: .int (iI a) :: r, S) Q :=
  T_zicmp_gt hr ht rfl (fun _ => k) (fun h => absurd hc h) h1 h2 h3 h4
theorem T_zicmp_gtf {off : Int} {n : Nat} {ax : Nat × Nat × Nat} {a b : Int} (hr : X_row j pc = some (pc, (.if_icmp .gt off, n), ax)) (ht : X_tg pc off = some t) (hp : pc + 3 = pc') (hc : ¬ (b < a)) (k : X_T sc j (pc', ls, r, S) Q) (h1 : -2147483648 ≤ a := by omega) (h2 : a ≤ 2147483647 := by omega) (h3 : -2147483648 ≤ b := by omega) (h4 : b ≤ 2147483647 := by omega) : X_T sc j (pc, ls, .int (iI b) :: .int (iI a) :: r, S) Q :=
  T_zicmp_gt hr ht hp (fun h => absurd h hc) (fun _ => k) h1 h2 h3 h4
theorem X_cz_le {a b : Int} (h1 : -2147483648 ≤ a) (h2 : a ≤ 2147483647) (h3 : -2147483648 ≤ b) (h4 : b ≤ 2147483647) : X_cd .le (iI a) (iI b) = decide (a ≤ b) := by simp only [X_cd, iI_le h1 h2 h3 h4]
theorem T_zif_le {off : Int} {n : Nat} {ax : Nat × Nat × Nat} {a : Int} (hr : X_row j pc = some (pc, (.ifCond .le off, n), ax)) (ht : X_tg pc off = some t) (hp : pc + 3 = pc') (kt : a ≤ 0 → X_T sc j (t, ls, r, S) Q) (kf : ¬ (a ≤ 0) → X_T sc j (pc', ls, r, S) Q) (h1 : -2147483648 ≤ a := by omega) (h2 : a ≤ 2147483647 := by omega) : X_T sc j (pc, ls, .int (iI a) :: r, S) Q := by
  have e := (show X_cd .le (iI a) 0 = _ from X_cz_le (b := 0) h1 h2 (by omega) (by omega))
  exact T_b1 hr ht hp (fun h => kt (by rw [e] at h; exact of_decide_eq_true h)) (fun h => kf (by rw [e] at h; exact of_decide_eq_false h))
theorem T_zif_let {off : Int} {n : Nat} {ax : Nat × Nat × Nat} {a : Int} (hr : X_row j pc = some (pc, (.ifCond .le off, n), ax)) (ht : X_tg pc off = some t) (hc : a ≤ 0) (k : X_T sc j (t, ls, r, S) Q) (h1 : -2147483648 ≤ a := by omega) (h2 : a ≤ 2147483647 := by omega) : X_T sc j (pc, ls, .int (iI a) :: r, S) Q :=
  T_zif_le hr ht rfl (fun _ => k) (fun h => absurd hc h) h1 h2
theorem T_zif_lef {off : Int} {n : Nat} {ax : Nat × Nat × Nat} {a : Int} (hr : X_row j pc = some (pc, (.ifCond .le off, n), ax)) (ht : X_tg pc off = some t) (hp : pc + 3 = pc') (hc : ¬ (a ≤ 0)) (k : X_T sc j (pc', ls, r, S) Q) (h1 : -2147483648 ≤ a := by omega) (h2 : a ≤ 2147483647 := by omega) : X_T sc j (pc, ls, .int (iI a) :: r, S) Q :=
  T_zif_le hr ht hp (fun h => absurd h hc) (fun _ => k) h1 h2
theorem T_zicmp_le {off : Int} {n : Nat} {ax : Nat × Nat × Nat} {a b : Int} (hr : X_row j pc = some (pc, (.if_icmp .le off, n), ax)) (ht : X_tg pc off = some t) (hp : pc + 3 = pc') (kt : a ≤ b → X_T sc j (t, ls, r, S) Q) (kf : ¬ (a ≤ b) → X_T sc j (pc', ls, r, S) Q) (h1 : -2147483648 ≤ a := by omega) (h2 : a ≤ 2147483647 := by omega) (h3 : -2147483648 ≤ b := by omega) (h4 : b ≤ 2147483647 := by omega) : X_T sc j (pc, ls, .int (iI b) :: .int (iI a) :: r, S) Q := by
  have e := X_cz_le h1 h2 h3 h4
  exact T_b2 hr ht hp (fun h => kt (by rw [e] at h; exact of_decide_eq_true h)) (fun h => kf (by rw [e] at h; exact of_decide_eq_false h))
theorem T_zicmp_let {off : Int} {n : Nat} {ax : Nat × Nat × Nat} {a b : Int} (hr : X_row j pc = some (pc, (.if_icmp .le off, n), ax)) (ht : X_tg pc off = some t) (hc : a ≤ b) (k : X_T sc j (t, ls, r, S) Q) (h1 : -2147483648 ≤ a := by omega) (h2 : a ≤ 2147483647 := by omega) (h3 : -2147483648 ≤ b := by omega) (h4 : b ≤ 2147483647 := by omega) : X_T sc j (pc, ls, .int (iI b) :: .int (iI a) :: r, S) Q :=
  T_zicmp_le hr ht rfl (fun _ => k) (fun h => absurd hc h) h1 h2 h3 h4
theorem T_zicmp_lef {off : Int} {n : Nat} {ax : Nat × Nat × Nat} {a b : Int} (hr : X_row j pc = some (pc, (.if_icmp .le off, n), ax)) (ht : X_tg pc off = some t) (hp : pc + 3 = pc') (hc : ¬ (a ≤ b)) (k : X_T sc j (pc', ls, r, S) Q) (h1 : -2147483648 ≤ a := by omega) (h2 : a ≤ 2147483647 := by omega) (h3 : -2147483648 ≤ b := by omega) (h4 : b ≤ 2147483647 := by omega) : X_T sc j (pc, ls, .int (iI b) :: .int (iI a) :: r, S) Q :=
  T_zicmp_le hr ht hp (fun h => absurd h hc) (fun _ => k) h1 h2 h3 h4
theorem X_lg (x y : Int64) : (lg_cmp x y = iI (-1) ∧ x < y) ∨ (lg_cmp x y = iI 0 ∧ x = y) ∨ (lg_cmp x y = iI 1 ∧ y < x) := by
  have key : x < y ∨ x = y ∨ y < x := by
    by_cases h2 : x = y
    · exact Or.inr (Or.inl h2)
    · have h3 : ¬ x.toInt = y.toInt := fun e => h2 (Int64.toInt_inj.mp e)
      rw [Int64.lt_iff_toInt_lt, Int64.lt_iff_toInt_lt]
      omega
  rcases key with h | h | h
  · left
    have h1 : ¬ x > y := by
      show ¬ y < x
      rw [Int64.lt_iff_toInt_lt] at *
      omega
    have h2 : ¬ x = y := by
      intro e
      subst e
      exact h1 h
    refine ⟨?_, h⟩
    unfold lg_cmp
    rw [if_neg h1, if_neg h2]
    rfl
  · right; left
    have h1 : ¬ x > y := by
      subst h
      show ¬ x < x
      rw [Int64.lt_iff_toInt_lt]
      omega
    refine ⟨?_, h⟩
    unfold lg_cmp
    rw [if_neg h1, if_pos h]
    rfl
  · right; right
    refine ⟨?_, h⟩
    unfold lg_cmp
    rw [if_pos h]
    rfl
theorem X_lg_lt {x y : Int64} (h : x < y) : ¬ y ≤ x ∧ ¬ x = y ∧ ¬ y < x ∧ x ≤ y := by
  rw [Int64.lt_iff_toInt_lt] at *
  refine ⟨?_, ?_, ?_, ?_⟩
  · rw [Int64.le_iff_toInt_le]; omega
  · intro e; subst e; omega
  · omega
  · rw [Int64.le_iff_toInt_le]; omega
theorem X_lg_eq {x y : Int64} (h : x = y) : ¬ x < y ∧ ¬ y < x ∧ x ≤ y ∧ y ≤ x := by
  subst h
  refine ⟨?_, ?_, ?_, ?_⟩ <;> first | (rw [Int64.lt_iff_toInt_lt]; omega) | (rw [Int64.le_iff_toInt_le]; omega)
theorem T_lc_eq {off : Int} {n n2 : Nat} {ax ax2 : Nat × Nat × Nat} {x y : Int64} (hr : X_row j pc = some (pc, (.lcmp, n), ax)) (hr2 : X_row j (pc + 1) = some (pc + 1, (.ifCond .eq off, n2), ax2)) (ht : X_tg (pc + 1) off = some t) (hp : pc + 4 = pc') (kt : x = y → X_T sc j (t, ls, r, S) Q) (kf : ¬ (x = y) → X_T sc j (pc', ls, r, S) Q) : X_T sc j (pc, ls, .long y :: .long x :: r, S) Q := by
  refine T_p hr rfl (pc' := pc + 1) (ls' := ls) (st' := .int (lg_cmp x y) :: r) rfl ?_
  rcases X_lg x y with ⟨e, h⟩ | ⟨e, h⟩ | ⟨e, h⟩
  · rw [e]
    have g := X_lg_lt h
    refine T_zif_eq hr2 ht (by omega) (fun c => ?_) (fun c => ?_)
    · first | exact kt h | exact kt g.2.1 | exact kt g.2.2.2 | exact absurd c (by omega)
    · first | exact absurd c (by omega) | exact kf g.1 | exact kf g.2.1 | exact kf g.2.2.1
  · rw [e]
    have g := X_lg_eq h
    refine T_zif_eq hr2 ht (by omega) (fun c => ?_) (fun c => ?_)
    · first | exact kt h | exact kt g.2.2.1 | exact kt g.2.2.2 | exact absurd c (by omega)
    · first | exact absurd c (by omega) | exact kf (fun q => q h) | exact kf g.1 | exact kf g.2.1
  · rw [e]
    have g := X_lg_lt h
    refine T_zif_eq hr2 ht (by omega) (fun c => ?_) (fun c => ?_)
    · first | exact kt h | exact kt (fun q => g.2.1 q.symm) | exact kt g.2.2.2 | exact absurd c (by omega)
    · first | exact absurd c (by omega) | exact kf g.1 | exact kf (fun q => g.2.1 q.symm) | exact kf g.2.2.1
theorem T_lc_ne {off : Int} {n n2 : Nat} {ax ax2 : Nat × Nat × Nat} {x y : Int64} (hr : X_row j pc = some (pc, (.lcmp, n), ax)) (hr2 : X_row j (pc + 1) = some (pc + 1, (.ifCond .ne off, n2), ax2)) (ht : X_tg (pc + 1) off = some t) (hp : pc + 4 = pc') (kt : ¬ x = y → X_T sc j (t, ls, r, S) Q) (kf : ¬ (¬ x = y) → X_T sc j (pc', ls, r, S) Q) : X_T sc j (pc, ls, .long y :: .long x :: r, S) Q := by
  refine T_p hr rfl (pc' := pc + 1) (ls' := ls) (st' := .int (lg_cmp x y) :: r) rfl ?_
  rcases X_lg x y with ⟨e, h⟩ | ⟨e, h⟩ | ⟨e, h⟩
  · rw [e]
    have g := X_lg_lt h
    refine T_zif_ne hr2 ht (by omega) (fun c => ?_) (fun c => ?_)
    · first | exact kt h | exact kt g.2.1 | exact kt g.2.2.2 | exact absurd c (by omega)
    · first | exact absurd c (by omega) | exact kf g.1 | exact kf g.2.1 | exact kf g.2.2.1
  · rw [e]
    have g := X_lg_eq h
    refine T_zif_ne hr2 ht (by omega) (fun c => ?_) (fun c => ?_)
    · first | exact kt h | exact kt g.2.2.1 | exact kt g.2.2.2 | exact absurd c (by omega)
    · first | exact absurd c (by omega) | exact kf (fun q => q h) | exact kf g.1 | exact kf g.2.1
  · rw [e]
    have g := X_lg_lt h
    refine T_zif_ne hr2 ht (by omega) (fun c => ?_) (fun c => ?_)
    · first | exact kt h | exact kt (fun q => g.2.1 q.symm) | exact kt g.2.2.2 | exact absurd c (by omega)
    · first | exact absurd c (by omega) | exact kf g.1 | exact kf (fun q => g.2.1 q.symm) | exact kf g.2.2.1
theorem T_lc_lt {off : Int} {n n2 : Nat} {ax ax2 : Nat × Nat × Nat} {x y : Int64} (hr : X_row j pc = some (pc, (.lcmp, n), ax)) (hr2 : X_row j (pc + 1) = some (pc + 1, (.ifCond .lt off, n2), ax2)) (ht : X_tg (pc + 1) off = some t) (hp : pc + 4 = pc') (kt : x < y → X_T sc j (t, ls, r, S) Q) (kf : ¬ (x < y) → X_T sc j (pc', ls, r, S) Q) : X_T sc j (pc, ls, .long y :: .long x :: r, S) Q := by
  refine T_p hr rfl (pc' := pc + 1) (ls' := ls) (st' := .int (lg_cmp x y) :: r) rfl ?_
  rcases X_lg x y with ⟨e, h⟩ | ⟨e, h⟩ | ⟨e, h⟩
  · rw [e]
    have g := X_lg_lt h
    refine T_zif_lt hr2 ht (by omega) (fun c => ?_) (fun c => ?_)
    · first | exact kt h | exact kt g.2.1 | exact kt g.2.2.2 | exact absurd c (by omega)
    · first | exact absurd c (by omega) | exact kf g.1 | exact kf g.2.1 | exact kf g.2.2.1
  · rw [e]
    have g := X_lg_eq h
    refine T_zif_lt hr2 ht (by omega) (fun c => ?_) (fun c => ?_)
    · first | exact kt h | exact kt g.2.2.1 | exact kt g.2.2.2 | exact absurd c (by omega)
    · first | exact absurd c (by omega) | exact kf (fun q => q h) | exact kf g.1 | exact kf g.2.1
  · rw [e]
    have g := X_lg_lt h
    refine T_zif_lt hr2 ht (by omega) (fun c => ?_) (fun c => ?_)
    · first | exact kt h | exact kt (fun q => g.2.1 q.symm) | exact kt g.2.2.2 | exact absurd c (by omega)
    · first | exact absurd c (by omega) | exact kf g.1 | exact kf (fun q => g.2.1 q.symm) | exact kf g.2.2.1
theorem T_lc_ge {off : Int} {n n2 : Nat} {ax ax2 : Nat × Nat × Nat} {x y : Int64} (hr : X_row j pc = some (pc, (.lcmp, n), ax)) (hr2 : X_row j (pc + 1) = some (pc + 1, (.ifCond .ge off, n2), ax2)) (ht : X_tg (pc + 1) off = some t) (hp : pc + 4 = pc') (kt : y ≤ x → X_T sc j (t, ls, r, S) Q) (kf : ¬ (y ≤ x) → X_T sc j (pc', ls, r, S) Q) : X_T sc j (pc, ls, .long y :: .long x :: r, S) Q := by
  refine T_p hr rfl (pc' := pc + 1) (ls' := ls) (st' := .int (lg_cmp x y) :: r) rfl ?_
  rcases X_lg x y with ⟨e, h⟩ | ⟨e, h⟩ | ⟨e, h⟩
  · rw [e]
    have g := X_lg_lt h
    refine T_zif_ge hr2 ht (by omega) (fun c => ?_) (fun c => ?_)
    · first | exact kt h | exact kt g.2.1 | exact kt g.2.2.2 | exact absurd c (by omega)
    · first | exact absurd c (by omega) | exact kf g.1 | exact kf g.2.1 | exact kf g.2.2.1
  · rw [e]
    have g := X_lg_eq h
    refine T_zif_ge hr2 ht (by omega) (fun c => ?_) (fun c => ?_)
    · first | exact kt h | exact kt g.2.2.1 | exact kt g.2.2.2 | exact absurd c (by omega)
    · first | exact absurd c (by omega) | exact kf (fun q => q h) | exact kf g.1 | exact kf g.2.1
  · rw [e]
    have g := X_lg_lt h
    refine T_zif_ge hr2 ht (by omega) (fun c => ?_) (fun c => ?_)
    · first | exact kt h | exact kt (fun q => g.2.1 q.symm) | exact kt g.2.2.2 | exact absurd c (by omega)
    · first | exact absurd c (by omega) | exact kf g.1 | exact kf (fun q => g.2.1 q.symm) | exact kf g.2.2.1
theorem T_lc_gt {off : Int} {n n2 : Nat} {ax ax2 : Nat × Nat × Nat} {x y : Int64} (hr : X_row j pc = some (pc, (.lcmp, n), ax)) (hr2 : X_row j (pc + 1) = some (pc + 1, (.ifCond .gt off, n2), ax2)) (ht : X_tg (pc + 1) off = some t) (hp : pc + 4 = pc') (kt : y < x → X_T sc j (t, ls, r, S) Q) (kf : ¬ (y < x) → X_T sc j (pc', ls, r, S) Q) : X_T sc j (pc, ls, .long y :: .long x :: r, S) Q := by
  refine T_p hr rfl (pc' := pc + 1) (ls' := ls) (st' := .int (lg_cmp x y) :: r) rfl ?_
  rcases X_lg x y with ⟨e, h⟩ | ⟨e, h⟩ | ⟨e, h⟩
  · rw [e]
    have g := X_lg_lt h
    refine T_zif_gt hr2 ht (by omega) (fun c => ?_) (fun c => ?_)
    · first | exact kt h | exact kt g.2.1 | exact kt g.2.2.2 | exact absurd c (by omega)
    · first | exact absurd c (by omega) | exact kf g.1 | exact kf g.2.1 | exact kf g.2.2.1
  · rw [e]
    have g := X_lg_eq h
    refine T_zif_gt hr2 ht (by omega) (fun c => ?_) (fun c => ?_)
    · first | exact kt h | exact kt g.2.2.1 | exact kt g.2.2.2 | exact absurd c (by omega)
    · first | exact absurd c (by omega) | exact kf (fun q => q h) | exact kf g.1 | exact kf g.2.1
  · rw [e]
    have g := X_lg_lt h
    refine T_zif_gt hr2 ht (by omega) (fun c => ?_) (fun c => ?_)
    · first | exact kt h | exact kt (fun q => g.2.1 q.symm) | exact kt g.2.2.2 | exact absurd c (by omega)
    · first | exact absurd c (by omega) | exact kf g.1 | exact kf (fun q => g.2.1 q.symm) | exact kf g.2.2.1
theorem T_lc_le {off : Int} {n n2 : Nat} {ax ax2 : Nat × Nat × Nat} {x y : Int64} (hr : X_row j pc = some (pc, (.lcmp, n), ax)) (hr2 : X_row j (pc + 1) = some (pc + 1, (.ifCond .le off, n2), ax2)) (ht : X_tg (pc + 1) off = some t) (hp : pc + 4 = pc') (kt : x ≤ y → X_T sc j (t, ls, r, S) Q) (kf : ¬ (x ≤ y) → X_T sc j (pc', ls, r, S) Q) : X_T sc j (pc, ls, .long y :: .long x :: r, S) Q := by
  refine T_p hr rfl (pc' := pc + 1) (ls' := ls) (st' := .int (lg_cmp x y) :: r) rfl ?_
  rcases X_lg x y with ⟨e, h⟩ | ⟨e, h⟩ | ⟨e, h⟩
  · rw [e]
    have g := X_lg_lt h
    refine T_zif_le hr2 ht (by omega) (fun c => ?_) (fun c => ?_)
    · first | exact kt h | exact kt g.2.1 | exact kt g.2.2.2 | exact absurd c (by omega)
    · first | exact absurd c (by omega) | exact kf g.1 | exact kf g.2.1 | exact kf g.2.2.1
  · rw [e]
    have g := X_lg_eq h
    refine T_zif_le hr2 ht (by omega) (fun c => ?_) (fun c => ?_)
    · first | exact kt h | exact kt g.2.2.1 | exact kt g.2.2.2 | exact absurd c (by omega)
    · first | exact absurd c (by omega) | exact kf (fun q => q h) | exact kf g.1 | exact kf g.2.1
  · rw [e]
    have g := X_lg_lt h
    refine T_zif_le hr2 ht (by omega) (fun c => ?_) (fun c => ?_)
    · first | exact kt h | exact kt (fun q => g.2.1 q.symm) | exact kt g.2.2.2 | exact absurd c (by omega)
    · first | exact absurd c (by omega) | exact kf g.1 | exact kf (fun q => g.2.1 q.symm) | exact kf g.2.2.1
theorem T_ziald {n q k0 : Nat} {ax : Nat × Nat} {z : Int} {g : Int → Int} (hr : X_row j pc = some (pc, (.iaload, n), (0, ax))) (h : S.1 q = .inl (.int, k0, .inl fun k : Nat => iI (g (k : Int)))) (hp : pc + 1 = pc') (k : X_T sc j (pc', ls, .int (iI (g z)) :: r, S) Q) (i1 : 0 ≤ z := by omega) (i2 : z < (k0 : Int) := by omega) (i3 : k0 ≤ 2147483647 := by omega) : X_T sc j (pc, ls, .int (iI z) :: .ref q :: r, S) Q :=
  T_iald hr h (iI_in i1 i2 i3) (by rw [iI_nat i1 (by omega), Int.toNat_of_nonneg i1]) hp k
theorem T_zbald {n q k0 : Nat} {ax : Nat × Nat × Nat} {z : Int} {g : Int → Int} (hr : X_row j pc = some (pc, (.baload, n), ax)) (h : S.1 q = .inl (.byte, k0, .inl fun k : Nat => iI (g (k : Int)))) (hp : pc + 1 = pc') (k : X_T sc j (pc', ls, .int (iI (g z)) :: r, S) Q) (i1 : 0 ≤ z := by omega) (i2 : z < (k0 : Int) := by omega) (i3 : k0 ≤ 2147483647 := by omega) : X_T sc j (pc, ls, .int (iI z) :: .ref q :: r, S) Q :=
  T_bald hr h (iI_in i1 i2 i3) (by rw [iI_nat i1 (by omega), Int.toNat_of_nonneg i1]) hp k
theorem T_zlald {n q k0 : Nat} {ax : Nat × Nat × Nat} {z : Int} {g : Int → Int64} (hr : X_row j pc = some (pc, (.laload, n), ax)) (h : S.1 q = .inl (.long, k0, .inr (.inl fun k : Nat => g (k : Int)))) (hp : pc + 1 = pc') (k : X_T sc j (pc', ls, .long (g z) :: r, S) Q) (i1 : 0 ≤ z := by omega) (i2 : z < (k0 : Int) := by omega) (i3 : k0 ≤ 2147483647 := by omega) : X_T sc j (pc, ls, .int (iI z) :: .ref q :: r, S) Q :=
  T_lald hr h (iI_in i1 i2 i3) (by rw [iI_nat i1 (by omega), Int.toNat_of_nonneg i1]) hp k
theorem T_zaald {n q k0 w : Nat} {ax : Nat × Nat × Nat} {z : Int} {f : Nat → Option Nat} (hr : X_row j pc = some (pc, (.aaload, n), ax)) (h : S.1 q = .inl (.short, k0, .inr (.inr (.inr (.inr f))))) (hw : f z.toNat = some w) (hp : pc + 1 = pc') (k : X_T sc j (pc', ls, .ref w :: r, S) Q) (i1 : 0 ≤ z := by omega) (i2 : z < (k0 : Int) := by omega) (i3 : k0 ≤ 2147483647 := by omega) : X_T sc j (pc, ls, .int (iI z) :: .ref q :: r, S) Q :=
  T_aald hr h (iI_in i1 i2 i3) (by rw [iI_nat i1 (by omega)]; exact hw) hp k
theorem T_ziast {n q k0 : Nat} {ax : Nat × Nat × Nat} {z x : Int} {g : Int → Int} (hr : X_row j pc = some (pc, (.iastore, n), ax)) (h : S.1 q = .inl (.int, k0, .inl fun k : Nat => iI (g (k : Int)))) (hp : pc + 1 = pc')
    (k : ∀ S' : X_S, S'.1 q = .inl (.int, k0, .inl fun k : Nat => iI (X_ug g z x (k : Int))) → (∀ r, r ≠ q → S'.1 r = S.1 r) → S'.2 = S.2 → X_T sc j (pc', ls, r, S') Q) (i1 : 0 ≤ z := by omega) (i2 : z < (k0 : Int) := by omega) (i3 : k0 ≤ 2147483647 := by omega) : X_T sc j (pc, ls, .int (iI x) :: .int (iI z) :: .ref q :: r, S) Q :=
  T_iast hr h (iI_in i1 i2 i3) hp (fun S' e1 e2 e3 => k S' (by rw [e1, X_ug_i i1 (by omega)]) e2 e3)
theorem T_zlast {n q k0 : Nat} {ax : Nat × Nat × Nat} {z : Int} {x : Int64} {g : Int → Int64} (hr : X_row j pc = some (pc, (.lastore, n), ax)) (h : S.1 q = .inl (.long, k0, .inr (.inl fun k : Nat => g (k : Int)))) (hp : pc + 1 = pc')
    (k : ∀ S' : X_S, S'.1 q = .inl (.long, k0, .inr (.inl fun k : Nat => X_ug g z x (k : Int))) → (∀ r, r ≠ q → S'.1 r = S.1 r) → S'.2 = S.2 → X_T sc j (pc', ls, r, S') Q) (i1 : 0 ≤ z := by omega) (i2 : z < (k0 : Int) := by omega) (i3 : k0 ≤ 2147483647 := by omega) : X_T sc j (pc, ls, .long x :: .int (iI z) :: .ref q :: r, S) Q :=
  T_last hr h (iI_in i1 i2 i3) hp (fun S' e1 e2 e3 => k S' (by rw [e1, X_ug_l i1 (by omega)]) e2 e3)
/-- what a byte keeps of an int -/
def X_by (x : Int) : Int := (vp_nar .byte (iI x)).toInt
def X_bo (x : Int) : Int := (vp_nar .boolean (iI x)).toInt
theorem T_zbast {n q k0 : Nat} {ax : Nat × Nat × Nat} {z x : Int} {g : Int → Int} (hr : X_row j pc = some (pc, (.bastore, n), ax)) (h : S.1 q = .inl (.byte, k0, .inl fun k : Nat => iI (g (k : Int)))) (hp : pc + 1 = pc')
    (k : ∀ S' : X_S, S'.1 q = .inl (.byte, k0, .inl fun k : Nat => iI (X_ug g z (X_by x) (k : Int))) → (∀ r, r ≠ q → S'.1 r = S.1 r) → S'.2 = S.2 → X_T sc j (pc', ls, r, S') Q) (i1 : 0 ≤ z := by omega) (i2 : z < (k0 : Int) := by omega) (i3 : k0 ≤ 2147483647 := by omega) : X_T sc j (pc, ls, .int (iI x) :: .int (iI z) :: .ref q :: r, S) Q :=
  T_bast hr h (iI_in i1 i2 i3) hp (fun S' e1 e2 e3 => k S' (by rw [e1, iI_of (vp_nar .byte (iI x)), X_ug_i i1 (by omega)]; rfl) e2 e3)
end X_T2
/-- what a walk leaves alone: all cells but these -/
def X_Fr (P : Nat → Prop) (S S' : X_S) : Prop := (∀ r, ¬ P r → S'.1 r = S.1 r) ∧ S'.2 = S.2
theorem X_Fr.rf {P : Nat → Prop} {S : X_S} : X_Fr P S S := ⟨fun _ _ => rfl, rfl⟩
theorem X_Fr.tr {P : Nat → Prop} {S S1 S2 : X_S} (h1 : X_Fr P S S1) (h2 : X_Fr P S1 S2) : X_Fr P S S2 := ⟨fun r hr => (h2.1 r hr).trans (h1.1 r hr), h2.2.trans h1.2⟩
theorem X_Fr.mono {P P' : Nat → Prop} {S S1 : X_S} (h1 : X_Fr P S S1) (h : ∀ q, P q → P' q) : X_Fr P' S S1 := ⟨fun r hr => h1.1 r (fun z => hr (h r z)), h1.2⟩
theorem X_Fr.of {q : Nat} {P : Nat → Prop} {S S1 : X_S} (h1 : ∀ r, r ≠ q → S1.1 r = S.1 r) (h2 : S1.2 = S.2) (hq : P q) : X_Fr P S S1 := ⟨fun r hr => h1 r (fun e => hr (e ▸ hq)), h2⟩
/-- a truth as a number -/
noncomputable def bI (p : Prop) : Int := @ite Int p (Classical.propDecidable p) 1 0
theorem bI_t {p : Prop} (h : p) : bI p = 1 := by unfold bI; rw [if_pos h]
theorem bI_f {p : Prop} (h : ¬ p) : bI p = 0 := by unfold bI; rw [if_neg h]
theorem bI_r (p : Prop) : 0 ≤ bI p ∧ bI p ≤ 1 := by
  by_cases h : p
  · rw [bI_t h]; omega
  · rw [bI_f h]; omega
theorem iI_bv (a : Int) : (iI a).toBitVec.toNat = (a % 4294967296).toNat := by
  show (BitVec.ofInt 32 a).toNat = _
  rw [BitVec.toNat_ofInt]
  rfl
theorem iI_m255 (a : Int) : iI a &&& iI 255 = iI (a % 256) := by
  rw [pk_and (iI a) (m := iI 255) 8 (by decide), iI_bv]
  show Int32.ofNat _ = _
  rw [← Int32.ofInt_eq_ofNat]
  congr 1
  omega
theorem iI_m1 (a : Int) : iI a &&& iI 1 = iI (a % 2) := by
  rw [pk_and (iI a) (m := iI 1) 1 (by decide), iI_bv]
  show Int32.ofNat _ = _
  rw [← Int32.ofInt_eq_ofNat]
  congr 1
  omega
theorem X_fit_b (p : Prop) : X_fit .boolean (.int (iI (bI p))) = true := by
  by_cases h : p
  · rw [bI_t h]; decide
  · rw [bI_f h]; decide
section X_T3
variable {sc : X_Sc} {j : Nat} {Q : Option Value → X_S → Prop} {pc pc' t : Nat} {ls : X_L} {r : List Value} {S : X_S}
theorem T_zop {row : X_Row} {st st2 : List Value} {w : Int32} {z : Int} (hr : X_row j pc = some row) (h : X_pstep (X_nL j) row ls st = some (pc', ls, .int w :: st2)) (hz : w = iI z) (k : X_T sc j (pc', ls, .int (iI z) :: st2, S) Q) : X_T sc j (pc, ls, st, S) Q := by
  subst hz
  exact T_p hr rfl h k
theorem T_bif_eq {off : Int} {n : Nat} {ax : Nat × Nat × Nat} {b : Prop} (hr : X_row j pc = some (pc, (.ifCond .eq off, n), ax)) (ht : X_tg pc off = some t) (hp : pc + 3 = pc') (kt : ¬ b → X_T sc j (t, ls, r, S) Q) (kf : b → X_T sc j (pc', ls, r, S) Q) : X_T sc j (pc, ls, .int (iI (bI b)) :: r, S) Q := by
  have hb := bI_r b
  refine T_zif_eq hr ht hp (fun c => kt (fun h => ?_)) (fun c => kf (Classical.byContradiction fun h => c (bI_f h)))
  rw [bI_t h] at c
  omega
theorem T_bif_ne {off : Int} {n : Nat} {ax : Nat × Nat × Nat} {b : Prop} (hr : X_row j pc = some (pc, (.ifCond .ne off, n), ax)) (ht : X_tg pc off = some t) (hp : pc + 3 = pc') (kt : b → X_T sc j (t, ls, r, S) Q) (kf : ¬ b → X_T sc j (pc', ls, r, S) Q) : X_T sc j (pc, ls, .int (iI (bI b)) :: r, S) Q := by
  have hb := bI_r b
  refine T_zif_ne hr ht hp (fun c => kt (Classical.byContradiction fun h => c (bI_f h))) (fun c => kf (fun h => ?_))
  rw [bI_t h] at c
  omega
end X_T3
